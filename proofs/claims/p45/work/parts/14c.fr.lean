/-! the small machine in a larger heap: its places moved by an injection, what else there is untouched -/
def fr_p (σ : Nat → Nat) (τ : Nat → Option Nat) (n0 n1 z0 : Nat) : Prop := (∀ a, τ (σ a) = some a) ∧ (∀ p a, τ p = some a → σ a = p) ∧ (∀ a, n0 ≤ a → a + 1 ≤ n1 → σ a = a + z0) ∧ ∀ n a, n0 ≤ n → n ≤ n1 → (σ a < n + z0 ↔ a < n)
def fg1 {α : Type} (τ : Nat → Option Nat) (N : Nat) (f g : Nat → α) : Nat → α := fun p => if p < N then (match τ p with | some q => f q | none => g p) else g p
def fh (σ : Nat → Nat) (τ : Nat → Option Nat) (z0 s0 : Nat) (E h : bw_H) : bw_H := ((bw_n h + z0, bw_s h + s0), fg1 τ (bw_n h + z0) (bw_k h) (bw_k E), fg1 τ (bw_n h + z0) (bw_i h) (bw_i E), fg1 τ (bw_n h + z0) (bw_l h) (bw_l E), fg1 τ (bw_n h + z0) (fun q j => (bw_r h q j).map σ) (bw_r E))
def fr_c (σ : Nat → Nat) (τ : Nat → Option Nat) (z0 s0 : Nat) (E : bw_H) (k : bw_C) : bw_C := (k.1, sg_l σ k.2.1, k.2.2.1.map (sg_v σ), fh σ τ z0 s0 E k.2.2.2)
section FR
variable {σ : Nat → Nat} {τ : Nat → Option Nat} {n0 n1 z0 s0 : Nat} {E : bw_H}
theorem fr_lt (p : fr_p σ τ n0 n1 z0) {a n : Nat} (hn : n0 ≤ n) (hb : n ≤ n1) (ha : a < n) : σ a < n + z0 := (p.2.2.2 n a hn hb).mpr ha
theorem fr_lt2 (p : fr_p σ τ n0 n1 z0) {a n : Nat} (hn : n0 ≤ n) (hb : n ≤ n1) (ha : σ a < n + z0) : a < n := (p.2.2.2 n a hn hb).mp ha
theorem fr_at {α : Type} (p : fr_p σ τ n0 n1 z0) (f g : Nat → α) {a n : Nat} (hn : n0 ≤ n) (hb : n ≤ n1) (ha : a < n) : fg1 τ (n + z0) f g (σ a) = f a := by
  unfold fg1
  rw [if_pos (fr_lt p hn hb ha), p.1]
theorem fr_up {α : Type} (p : fr_p σ τ n0 n1 z0) (f g : Nat → α) {a n : Nat} (v : α) (hn : n0 ≤ n) (hb : n ≤ n1) (ha : a < n) : fg1 τ (n + z0) (bw_up f a v) g = bw_up (fg1 τ (n + z0) f g) (σ a) v := by
  funext q
  by_cases h : q = σ a
  · subst h
    rw [bw_up_s, fr_at p _ _ hn hb ha]
    exact bw_up_s _ _ _
  · rw [bw_up_o h]
    unfold fg1
    by_cases hq : q < n + z0
    · rw [if_pos hq, if_pos hq]
      cases e : τ q with
      | none => rfl
      | some x =>
        show bw_up f a v x = f x
        exact bw_up_o (fun z => h (by rw [← z]; exact (p.2.1 _ _ e).symm))
    · rw [if_neg hq, if_neg hq]
theorem fr_upn {α : Type} (p : fr_p σ τ n0 n1 z0) (f g : Nat → α) {n : Nat} (v : α) (hn : n0 ≤ n) (hb : n + 1 ≤ n1) : fg1 τ (n + 1 + z0) (bw_up f n v) g = bw_up (fg1 τ (n + z0) f g) (n + z0) v := by
  have e : σ n = n + z0 := p.2.2.1 _ hn hb
  funext q
  by_cases h : q = n + z0
  · subst h
    rw [bw_up_s]
    unfold fg1
    rw [if_pos (by omega), ← e, p.1]
    exact bw_up_s _ _ _
  · rw [bw_up_o h]
    unfold fg1
    by_cases hq : q < n + z0
    · rw [if_pos hq, if_pos (by omega)]
      cases e2 : τ q with
      | none => rfl
      | some x =>
        show bw_up f n v x = f x
        exact bw_up_o (fun z => h (by rw [← e, ← z]; exact (p.2.1 _ _ e2).symm))
    · rw [if_neg hq, if_neg (by omega)]
theorem fr_up2 {α : Type} (p : fr_p σ τ n0 n1 z0) (f g : Nat → Nat → α) {a n : Nat} (k : Nat) (v : α) (hn : n0 ≤ n) (hb : n ≤ n1) (ha : a < n) : fg1 τ (n + z0) (bw_up2 f a k v) g = bw_up2 (fg1 τ (n + z0) f g) (σ a) k v := by
  unfold bw_up2
  rw [fr_up p _ _ _ hn hb ha, fr_at p _ _ hn hb ha]
theorem fr_mu {f : Nat → Option Nat} {k : Nat} {v : Option Nat} : (fun j => (bw_up f k v j).map σ) = bw_up (fun j => (f j).map σ) k (v.map σ) := by
  funext j
  unfold bw_up
  split <;> rfl
theorem fr_up2m {f : Nat → Nat → Option Nat} {a k : Nat} {v : Option Nat} : (fun q j => (bw_up2 f a k v q j).map σ) = bw_up2 (fun q j => (f q j).map σ) a k (v.map σ) := by
  funext x
  unfold bw_up2
  by_cases h : x = a
  · subst h
    rw [bw_up_s, bw_up_s]
    exact fr_mu
  · rw [bw_up_o h, bw_up_o h]
theorem fr_upm {f : Nat → Nat → Option Nat} {a : Nat} : (fun q j => (bw_up f a (fun _ : Nat => (none : Option Nat)) q j).map σ) = bw_up (fun q j => (f q j).map σ) a (fun _ : Nat => (none : Option Nat)) := by
  funext x
  by_cases h : x = a
  · subst h
    rw [bw_up_s, bw_up_s]
    rfl
  · rw [bw_up_o h, bw_up_o h]
theorem fr_si (p : fr_p σ τ n0 n1 z0) {h : bw_H} {a : Nat} (k : Nat) (x : Int32) (hn : n0 ≤ bw_n h) (hb : bw_n h ≤ n1) (ha : a < bw_n h) : fh σ τ z0 s0 E (bw_si h a k x) = bw_si (fh σ τ z0 s0 E h) (σ a) k x := by
  show (_, _, fg1 τ (bw_n h + z0) (bw_up2 (bw_i h) a k x) (bw_i E), _, _) = (_, _, bw_up2 (fg1 τ (bw_n h + z0) (bw_i h) (bw_i E)) (σ a) k x, _, _)
  rw [fr_up2 p _ _ _ _ hn hb ha]
  rfl
theorem fr_sl (p : fr_p σ τ n0 n1 z0) {h : bw_H} {a : Nat} (k : Nat) (x : Int64) (hn : n0 ≤ bw_n h) (hb : bw_n h ≤ n1) (ha : a < bw_n h) : fh σ τ z0 s0 E (bw_sl h a k x) = bw_sl (fh σ τ z0 s0 E h) (σ a) k x := by
  show (_, _, _, fg1 τ (bw_n h + z0) (bw_up2 (bw_l h) a k x) (bw_l E), _) = (_, _, _, bw_up2 (fg1 τ (bw_n h + z0) (bw_l h) (bw_l E)) (σ a) k x, _)
  rw [fr_up2 p _ _ _ _ hn hb ha]
  rfl
theorem fr_sr (p : fr_p σ τ n0 n1 z0) {h : bw_H} {a : Nat} (k : Nat) (x : Option Nat) (hn : n0 ≤ bw_n h) (hb : bw_n h ≤ n1) (ha : a < bw_n h) : fh σ τ z0 s0 E (bw_sr h a k x) = bw_sr (fh σ τ z0 s0 E h) (σ a) k (x.map σ) := by
  show (_, _, _, _, fg1 τ (bw_n h + z0) (fun q j => (bw_up2 (bw_r h) a k x q j).map σ) (bw_r E)) = (_, _, _, _, bw_up2 (fg1 τ (bw_n h + z0) (fun q j => (bw_r h q j).map σ) (bw_r E)) (σ a) k (x.map σ))
  rw [fr_up2m, fr_up2 p _ _ _ _ hn hb ha]
  rfl
theorem fr_sa (p : fr_p σ τ n0 n1 z0) {h : bw_H} {a : Nat} (f : Nat → Int32) (hn : n0 ≤ bw_n h) (hb : bw_n h ≤ n1) (ha : a < bw_n h) : fh σ τ z0 s0 E (bw_sa h a f) = bw_sa (fh σ τ z0 s0 E h) (σ a) f := by
  show (_, _, fg1 τ (bw_n h + z0) (bw_up (bw_i h) a f) (bw_i E), _, _) = (_, _, bw_up (fg1 τ (bw_n h + z0) (bw_i h) (bw_i E)) (σ a) f, _, _)
  rw [fr_up p _ _ _ hn hb ha]
  rfl
theorem fr_nw (p : fr_p σ τ n0 n1 z0) (h : bw_H) (hn : n0 ≤ bw_n h) (hkb : bw_n h + 1 ≤ n1) (kd : bw_K) (N : Nat) : fh σ τ z0 s0 E (bw_nw h kd N) = bw_nw (fh σ τ z0 s0 E h) kd N := by
  show ((bw_n h + 1 + z0, bw_s h + N + s0), fg1 τ (bw_n h + 1 + z0) (bw_up (bw_k h) (bw_n h) kd) (bw_k E), fg1 τ (bw_n h + 1 + z0) (bw_up (bw_i h) (bw_n h) (fun _ : Nat => (0 : Int32))) (bw_i E), fg1 τ (bw_n h + 1 + z0) (bw_up (bw_l h) (bw_n h) (fun _ : Nat => (0 : Int64))) (bw_l E), fg1 τ (bw_n h + 1 + z0) (fun q j => (bw_up (bw_r h) (bw_n h) (fun _ : Nat => (none : Option Nat)) q j).map σ) (bw_r E)) = ((bw_n h + z0 + 1, bw_s h + s0 + N), bw_up (fg1 τ (bw_n h + z0) (bw_k h) (bw_k E)) (bw_n h + z0) kd, bw_up (fg1 τ (bw_n h + z0) (bw_i h) (bw_i E)) (bw_n h + z0) (fun _ : Nat => (0 : Int32)), bw_up (fg1 τ (bw_n h + z0) (bw_l h) (bw_l E)) (bw_n h + z0) (fun _ : Nat => (0 : Int64)), bw_up (fg1 τ (bw_n h + z0) (fun q j => (bw_r h q j).map σ) (bw_r E)) (bw_n h + z0) (fun _ : Nat => (none : Option Nat)))
  rw [fr_upm, fr_upn p _ _ _ hn hkb, fr_upn p _ _ _ hn hkb, fr_upn p _ _ _ hn hkb, fr_upn p _ _ _ hn hkb, Nat.add_right_comm (bw_n h), Nat.add_right_comm (bw_s h)]
theorem fr_k (p : fr_p σ τ n0 n1 z0) {h : bw_H} {a : Nat} (hn : n0 ≤ bw_n h) (hb : bw_n h ≤ n1) (ha : a < bw_n h) : bw_k (fh σ τ z0 s0 E h) (σ a) = bw_k h a := fr_at p (bw_k h) (bw_k E) hn hb ha
theorem fr_i (p : fr_p σ τ n0 n1 z0) {h : bw_H} {a : Nat} (hn : n0 ≤ bw_n h) (hb : bw_n h ≤ n1) (ha : a < bw_n h) : bw_i (fh σ τ z0 s0 E h) (σ a) = bw_i h a := fr_at p (bw_i h) (bw_i E) hn hb ha
theorem fr_lo (p : fr_p σ τ n0 n1 z0) {h : bw_H} {a : Nat} (hn : n0 ≤ bw_n h) (hb : bw_n h ≤ n1) (ha : a < bw_n h) : bw_l (fh σ τ z0 s0 E h) (σ a) = bw_l h a := fr_at p (bw_l h) (bw_l E) hn hb ha
theorem fr_r (p : fr_p σ τ n0 n1 z0) {h : bw_H} {a : Nat} (j : Nat) (hn : n0 ≤ bw_n h) (hb : bw_n h ≤ n1) (ha : a < bw_n h) : bw_r (fh σ τ z0 s0 E h) (σ a) j = (bw_r h a j).map σ := congrFun (fr_at p (fun x j => (bw_r h x j).map σ) (bw_r E) hn hb ha) j
theorem fr_fv (p : fr_p σ τ n0 n1 z0) {h : bw_H} {a : Nat} (c k : Nat) (hn : n0 ≤ bw_n h) (hb : bw_n h ≤ n1) (ha : a < bw_n h) : bw_fv (fh σ τ z0 s0 E h) (σ a) c k = sg_v σ (bw_fv h a c k) := by
  unfold bw_fv
  rw [fr_i p hn hb ha, fr_lo p hn hb ha, fr_r p _ hn hb ha, sg_rf]
  split <;> rfl
/-- an instruction does the same with its places renamed -/
def fr_q (σ : Nat → Nat) (τ : Nat → Option Nat) (n0 n1 z0 s0 : Nat) (E : bw_H) (f : Nat → bw_L → List Value → bw_H → Option bw_C) : Prop := ∀ (pc : Nat) (ls : bw_L) (st : List Value) (h : bw_H) (k : bw_C), n0 ≤ bw_n h → bw_n h ≤ n1 → bw_n k.2.2.2 ≤ n1 → f pc ls st h = some k → f pc (sg_l σ ls) (st.map (sg_v σ)) (fh σ τ z0 s0 E h) = some (fr_c σ τ z0 s0 E k)
theorem fq_il {w k : Nat} : fr_q σ τ n0 n1 z0 s0 E (bq_il w k) := by
  intro pc ls st h r hn hb hkb hq
  unfold bq_il at hq ⊢
  rw [sg_lg]
  split at hq
  · rename_i x hx
    cases hq
    rw [hx]
    rfl
  · cases hq
theorem fq_ll {w k : Nat} : fr_q σ τ n0 n1 z0 s0 E (bq_ll w k) := by
  intro pc ls st h r hn hb hkb hq
  unfold bq_ll at hq ⊢
  rw [sg_lg]
  split at hq
  · rename_i x hx
    cases hq
    rw [hx]
    rfl
  · cases hq
theorem fq_al {w k : Nat} : fr_q σ τ n0 n1 z0 s0 E (bq_al w k) := by
  intro pc ls st h r hn hb hkb hq
  unfold bq_al at hq ⊢
  rw [sg_lg]
  split at hq
  · rename_i x hx
    cases hq
    rw [hx]
    rfl
  · rename_i x hx
    cases hq
    rw [hx]
    rfl
  · rename_i hx
    cases hq
    rw [hx]
    rfl
  · cases hq
theorem fq_is {nL w k : Nat} : fr_q σ τ n0 n1 z0 s0 E (bq_is nL w k) := by
  intro pc ls st h r hn hb hkb hq
  unfold bq_is at hq
  split at hq
  · rename_i x r
    split at hq
    · rename_i hk
      cases hq
      show (if k < nL then some (pc + w, bw_s1 (sg_l σ ls) k (.int x), r.map (sg_v σ), fh σ τ z0 s0 E h) else none) = some (pc + w, sg_l σ (bw_s1 ls k (.int x)), r.map (sg_v σ), fh σ τ z0 s0 E h)
      rw [if_pos hk, sg_s1]
      rfl
    · cases hq
  · cases hq
theorem fq_ls {nL w k : Nat} : fr_q σ τ n0 n1 z0 s0 E (bq_ls nL w k) := by
  intro pc ls st h r hn hb hkb hq
  unfold bq_ls at hq
  split at hq
  · rename_i x r
    split at hq
    · rename_i hk
      cases hq
      show (if k + 1 < nL then some (pc + w, bw_s2 (sg_l σ ls) k (.long x), r.map (sg_v σ), fh σ τ z0 s0 E h) else none) = some (pc + w, sg_l σ (bw_s2 ls k (.long x)), r.map (sg_v σ), fh σ τ z0 s0 E h)
      rw [if_pos hk, sg_s2]
      rfl
    · cases hq
  · cases hq
theorem fq_as {nL w k : Nat} : fr_q σ τ n0 n1 z0 s0 E (bq_as nL w k) := by
  intro pc ls st h r hn hb hkb hq
  unfold bq_as at hq
  split at hq
  · rename_i x r
    split at hq
    · rename_i hk
      cases hq
      show (if k < nL then some (pc + w, bw_s1 (sg_l σ ls) k (.ref (σ x)), r.map (sg_v σ), fh σ τ z0 s0 E h) else none) = some (pc + w, sg_l σ (bw_s1 ls k (.ref x)), r.map (sg_v σ), fh σ τ z0 s0 E h)
      rw [if_pos hk, sg_s1]
      rfl
    · cases hq
  · rename_i r
    split at hq
    · rename_i hk
      cases hq
      show (if k < nL then some (pc + w, bw_s1 (sg_l σ ls) k .null, r.map (sg_v σ), fh σ τ z0 s0 E h) else none) = some (pc + w, sg_l σ (bw_s1 ls k .null), r.map (sg_v σ), fh σ τ z0 s0 E h)
      rw [if_pos hk, sg_s1]
      rfl
    · cases hq
  · cases hq
theorem fq_ic {nL k : Nat} {n : Int} : fr_q σ τ n0 n1 z0 s0 E (bq_ic nL k n) := by
  intro pc ls st h r hn hb hkb hq
  unfold bq_ic at hq ⊢
  rw [sg_lg]
  split at hq
  · rename_i x hx
    split at hq
    · rename_i hk
      cases hq
      rw [hx]
      show (if k < nL then some (pc + 3, bw_s1 (sg_l σ ls) k (.int (x + Int32.ofInt n)), st.map (sg_v σ), fh σ τ z0 s0 E h) else none) = some (pc + 3, sg_l σ (bw_s1 ls k (.int (x + Int32.ofInt n))), st.map (sg_v σ), fh σ τ z0 s0 E h)
      rw [if_pos hk, sg_s1]
      rfl
    · cases hq
  · cases hq
theorem fq_ii {f : Int32 → Int32 → Int32} : fr_q σ τ n0 n1 z0 s0 E (bq_ii f) := by
  intro pc ls st h r hn hb hkb hq
  unfold bq_ii at hq
  repeat' split at hq
  all_goals first | (cases hq; rfl) | cases hq
theorem fq_jj {f : Int64 → Int64 → Int64} : fr_q σ τ n0 n1 z0 s0 E (bq_jj f) := by
  intro pc ls st h r hn hb hkb hq
  unfold bq_jj at hq
  repeat' split at hq
  all_goals first | (cases hq; rfl) | cases hq
theorem fq_i1 {f : Int32 → Value} (hf : ∀ x, sg_v σ (f x) = f x) : fr_q σ τ n0 n1 z0 s0 E (bq_i1 f) := by
  intro pc ls st h r hn hb hkb hq
  unfold bq_i1 at hq
  split at hq
  · rename_i x r
    cases hq
    show some (pc + 1, sg_l σ ls, f x :: r.map (sg_v σ), fh σ τ z0 s0 E h) = some (pc + 1, sg_l σ ls, sg_v σ (f x) :: r.map (sg_v σ), fh σ τ z0 s0 E h)
    rw [hf]
  · cases hq
theorem fq_j1 {f : Int64 → Value} (hf : ∀ x, sg_v σ (f x) = f x) : fr_q σ τ n0 n1 z0 s0 E (bq_j1 f) := by
  intro pc ls st h r hn hb hkb hq
  unfold bq_j1 at hq
  split at hq
  · rename_i x r
    cases hq
    show some (pc + 1, sg_l σ ls, f x :: r.map (sg_v σ), fh σ τ z0 s0 E h) = some (pc + 1, sg_l σ ls, sg_v σ (f x) :: r.map (sg_v σ), fh σ τ z0 s0 E h)
    rw [hf]
  · cases hq
theorem fq_ju : fr_q σ τ n0 n1 z0 s0 E (bq_ju) := by
  intro pc ls st h r hn hb hkb hq
  unfold bq_ju at hq
  repeat' split at hq
  all_goals first | (cases hq; rfl) | cases hq
theorem fq_cm : fr_q σ τ n0 n1 z0 s0 E (bq_cm) := by
  intro pc ls st h r hn hb hkb hq
  unfold bq_cm at hq
  repeat' split at hq
  all_goals first | (cases hq; rfl) | cases hq
theorem fq_cn {w : Nat} {v : Value} (hv : sg_v σ v = v) : fr_q σ τ n0 n1 z0 s0 E (bq_cn w v) := by
  intro pc ls st h r hn hb hkb hq
  unfold bq_cn at hq
  cases hq
  show some (pc + w, sg_l σ ls, v :: st.map (sg_v σ), fh σ τ z0 s0 E h) = some (pc + w, sg_l σ ls, sg_v σ v :: st.map (sg_v σ), fh σ τ z0 s0 E h)
  rw [hv]
theorem fq_id {f : Int32 → Int32 → Int32} : fr_q σ τ n0 n1 z0 s0 E (bq_id f) := by
  intro pc ls st h r hn hb hkb hq
  unfold bq_id at hq
  split at hq
  · rename_i y x r
    split at hq
    · cases hq
    · rename_i hk
      cases hq
      show (if y = 0 then none else some (pc + 1, sg_l σ ls, Value.int (f x y) :: r.map (sg_v σ), fh σ τ z0 s0 E h)) = some (pc + 1, sg_l σ ls, .int (f x y) :: r.map (sg_v σ), fh σ τ z0 s0 E h)
      rw [if_neg hk]
  · cases hq
theorem fq_jd {f : Int64 → Int64 → Int64} : fr_q σ τ n0 n1 z0 s0 E (bq_jd f) := by
  intro pc ls st h r hn hb hkb hq
  unfold bq_jd at hq
  split at hq
  · rename_i y x r
    split at hq
    · cases hq
    · rename_i hk
      cases hq
      show (if y = 0 then none else some (pc + 1, sg_l σ ls, Value.long (f x y) :: r.map (sg_v σ), fh σ τ z0 s0 E h)) = some (pc + 1, sg_l σ ls, .long (f x y) :: r.map (sg_v σ), fh σ τ z0 s0 E h)
      rw [if_neg hk]
  · cases hq
theorem fq_du : fr_q σ τ n0 n1 z0 s0 E (bq_du) := by
  intro pc ls st h r hn hb hkb hq
  unfold bq_du at hq
  split at hq
  · rename_i v r
    split at hq
    · rename_i hk
      cases hq
      show (if (sg_v σ v).category = 1 then some (pc + 1, sg_l σ ls, sg_v σ v :: sg_v σ v :: r.map (sg_v σ), fh σ τ z0 s0 E h) else none) = _
      rw [if_pos (by rw [sg_cat]; exact hk)]
      rfl
    · cases hq
  · cases hq
theorem fq_d2 : fr_q σ τ n0 n1 z0 s0 E (bq_d2) := by
  intro pc ls st h r hn hb hkb hq
  unfold bq_d2 at hq
  split at hq
  · rename_i v w r
    split at hq
    · rename_i hk
      cases hq
      show (if (sg_v σ v).category = 1 ∧ (sg_v σ w).category = 1 then some (pc + 1, sg_l σ ls, sg_v σ v :: sg_v σ w :: sg_v σ v :: sg_v σ w :: r.map (sg_v σ), fh σ τ z0 s0 E h) else none) = _
      rw [if_pos (by rw [sg_cat, sg_cat]; exact hk)]
      rfl
    · cases hq
  · cases hq
theorem fq_go {off : Int} : fr_q σ τ n0 n1 z0 s0 E (bq_go off) := by
  intro pc ls st h r hn hb hkb hq
  unfold bq_go at hq
  split at hq
  · rename_i q hj
    cases hq
    unfold bq_go
    rw [hj]
    rfl
  · cases hq
theorem fq_if {d : Int32 → Bool} {off : Int} : fr_q σ τ n0 n1 z0 s0 E (bq_if d off) := by
  intro pc ls st h r hn hb hkb hq
  unfold bq_if at hq
  split at hq
  · rename_i x r
    split at hq
    · rename_i q hj
      cases hq
      show (match bw_jp pc off with | some q => some (if d x = true then q else pc + 3, sg_l σ ls, r.map (sg_v σ), fh σ τ z0 s0 E h) | none => none) = _
      rw [hj]
      rfl
    · cases hq
  · cases hq
theorem fq_cp {d : Int32 → Int32 → Bool} {off : Int} : fr_q σ τ n0 n1 z0 s0 E (bq_cp d off) := by
  intro pc ls st h r hn hb hkb hq
  unfold bq_cp at hq
  split at hq
  · rename_i y x r
    split at hq
    · rename_i q hj
      cases hq
      show (match bw_jp pc off with | some q => some (if d x y = true then q else pc + 3, sg_l σ ls, r.map (sg_v σ), fh σ τ z0 s0 E h) | none => none) = _
      rw [hj]
      rfl
    · cases hq
  · cases hq
theorem fq_nu {off : Int} : fr_q σ τ n0 n1 z0 s0 E (bq_nu off) := by
  intro pc ls st h r hn hb hkb hq
  unfold bq_nu at hq
  split at hq
  · rename_i r
    split at hq
    · rename_i q hj
      cases hq
      show (match bw_jp pc off with | some q => some (q, sg_l σ ls, r.map (sg_v σ), fh σ τ z0 s0 E h) | none => none) = _
      rw [hj]
      rfl
    · cases hq
  · cases hq; rfl
  · cases hq
theorem fq_nn {off : Int} : fr_q σ τ n0 n1 z0 s0 E (bq_nn off) := by
  intro pc ls st h r hn hb hkb hq
  unfold bq_nn at hq
  split at hq
  · rename_i a r
    split at hq
    · rename_i q hj
      cases hq
      show (match bw_jp pc off with | some q => some (q, sg_l σ ls, r.map (sg_v σ), fh σ τ z0 s0 E h) | none => none) = _
      rw [hj]
      rfl
    · cases hq
  · cases hq; rfl
  · cases hq
theorem fq_ts {df lo hi : Int} {offs : Array Int} : fr_q σ τ n0 n1 z0 s0 E (bq_ts df lo hi offs) := by
  intro pc ls st h r hn hb hkb hq
  unfold bq_ts at hq
  split at hq
  · rename_i x r
    split at hq
    · rename_i hc
      split at hq
      · rename_i q hj
        cases hq
        show (if x.toInt < lo ∨ hi < x.toInt then (match bw_jp pc df with | some q => some (q, sg_l σ ls, r.map (sg_v σ), fh σ τ z0 s0 E h) | none => none) else _) = _
        rw [if_pos hc, hj]
        rfl
      · cases hq
    · rename_i hc
      split at hq
      · rename_i off ho
        split at hq
        · rename_i q hj
          cases hq
          show (if x.toInt < lo ∨ hi < x.toInt then _ else (match offs[(x.toInt - lo).toNat]? with | some off => (match bw_jp pc off with | some q => some (q, sg_l σ ls, r.map (sg_v σ), fh σ τ z0 s0 E h) | none => none) | none => none)) = _
          rw [if_neg hc, ho]
          show (match bw_jp pc off with | some q => some (q, sg_l σ ls, r.map (sg_v σ), fh σ τ z0 s0 E h) | none => none) = _
          rw [hj]
          rfl
        · cases hq
      · cases hq
  · cases hq
theorem fq_gf (p : fr_p σ τ n0 n1 z0) {f : Option (Nat × Nat)} : fr_q σ τ n0 n1 z0 s0 E (bq_gf f) := by
  intro pc ls st h r hn hb hkb hq
  unfold bq_gf at hq
  split at hq
  · rename_i c k a r
    split at hq
    · rename_i hh
      cases hq
      show (if σ a < bw_n h + z0 ∧ bw_k (fh σ τ z0 s0 E h) (σ a) = .inl c then some (pc + 3, sg_l σ ls, bw_fv (fh σ τ z0 s0 E h) (σ a) c k :: r.map (sg_v σ), fh σ τ z0 s0 E h) else none) = _
      rw [if_pos ⟨fr_lt p hn hb hh.1, by rw [fr_k p hn hb hh.1]; exact hh.2⟩, fr_fv p _ _ hn hb hh.1]
      rfl
    · cases hq
  · cases hq
theorem fq_pf (p : fr_p σ τ n0 n1 z0) {o : Nat} {ini : Bool} {f : Option (Nat × Nat)} : fr_q σ τ n0 n1 z0 s0 E (bq_pf o ini f) := by
  intro pc ls st h r hn hb hkb hq
  unfold bq_pf at hq ⊢
  split at hq
  · rename_i c k v a r
    have pl : a < bw_n h → σ a < bw_n (fh σ τ z0 s0 E h) := fun z => fr_lt p hn hb z
    simp only [List.map_cons]
    show (if σ a < bw_n (fh σ τ z0 s0 E h) ∧ bw_k (fh σ τ z0 s0 E h) (σ a) = .inl c ∧ k < bw_N c ∧ (bw_T c k).2.2.2 = false then _ else if σ a < bw_n (fh σ τ z0 s0 E h) ∧ bw_k (fh σ τ z0 s0 E h) (σ a) = .inl c ∧ k < bw_N c ∧ (bw_T c k).2.2.2 = true ∧ ini = true ∧ c = o then _ else none) = _
    by_cases hal : a < bw_n h
    case neg =>
      rw [if_neg (fun z => hal z.1), if_neg (fun z => hal z.1)] at hq
      cases hq
    rw [fr_k p hn hb hal]
    split at hq
    · rename_i hh
      rw [if_pos ⟨pl hh.1, hh.2⟩]
      split at hq
      · rename_i x e1
        cases hq
        rw [e1]
        show some (pc + 3, sg_l σ ls, r.map (sg_v σ), bw_si (fh σ τ z0 s0 E h) (σ a) k x) = some (pc + 3, sg_l σ ls, r.map (sg_v σ), fh σ τ z0 s0 E (bw_si h a k x))
        rw [fr_si p _ _ hn hb hal]
      · rename_i x e1
        cases hq
        rw [e1]
        show some (pc + 3, sg_l σ ls, r.map (sg_v σ), bw_sl (fh σ τ z0 s0 E h) (σ a) k x) = some (pc + 3, sg_l σ ls, r.map (sg_v σ), fh σ τ z0 s0 E (bw_sl h a k x))
        rw [fr_sl p _ _ hn hb hal]
      · cases hq
    · rename_i hh0
      have hh1 : ¬ (σ a < bw_n (fh σ τ z0 s0 E h) ∧ bw_k h a = .inl c ∧ k < bw_N c ∧ (bw_T c k).2.2.2 = false) := fun z => hh0 ⟨fr_lt2 p hn hb z.1, z.2⟩
      rw [if_neg hh1]
      split at hq
      · rename_i hh
        rw [if_pos ⟨pl hh.1, hh.2⟩]
        split at hq
        · rename_i x e1
          cases hq
          rw [e1]
          show some (pc + 3, sg_l σ ls, r.map (sg_v σ), bw_si (fh σ τ z0 s0 E h) (σ a) k x) = some (pc + 3, sg_l σ ls, r.map (sg_v σ), fh σ τ z0 s0 E (bw_si h a k x))
          rw [fr_si p _ _ hn hb hal]
        · rename_i n x e1
          cases hq
          rw [e1]
          show some (pc + 3, sg_l σ ls, r.map (sg_v σ), bw_sr (fh σ τ z0 s0 E h) (σ a) k (some (σ x))) = some (pc + 3, sg_l σ ls, r.map (sg_v σ), fh σ τ z0 s0 E (bw_sr h a k (some x)))
          rw [fr_sr p _ _ hn hb hal]
          rfl
        · rename_i n x e1
          cases hq
          rw [e1]
          show some (pc + 3, sg_l σ ls, r.map (sg_v σ), bw_sr (fh σ τ z0 s0 E h) (σ a) k (some (σ x))) = some (pc + 3, sg_l σ ls, r.map (sg_v σ), fh σ τ z0 s0 E (bw_sr h a k (some x)))
          rw [fr_sr p _ _ hn hb hal]
          rfl
        · cases hq
      · cases hq
  · cases hq
theorem fq_gs {b : Bool} : fr_q σ τ n0 n1 z0 s0 E (bq_gs b) := by
  intro pc ls st h r hn hb hkb hq
  unfold bq_gs at hq
  split at hq
  · rename_i hb
    cases hq
    unfold bq_gs
    rw [if_pos hb]
    rfl
  · cases hq
theorem fq_la : fr_q σ τ n0 n1 z0 s0 E (bq_la) := by
  intro pc ls st h r hn hb hkb hq
  unfold bq_la at hq
  split at hq
  · rename_i i r
    split at hq
    · rename_i hc
      cases hq
      show (if 0 ≤ i.toInt ∧ i.toInt < 6 then some (pc + 1, sg_l σ ls, .long (bw_set6 i.toNatClampNeg) :: r.map (sg_v σ), fh σ τ z0 s0 E h) else none) = _
      rw [if_pos hc]
      rfl
    · cases hq
  · cases hq
theorem fq_ia (p : fr_p σ τ n0 n1 z0) {X : Nat × (Nat → Int32)} : fr_q σ τ n0 n1 z0 s0 E (bq_ia X) := by
  intro pc ls st h r hn hb hkb hq
  unfold bq_ia at hq
  split at hq
  · rename_i i r
    split at hq
    · rename_i hc
      cases hq
      show (if 0 ≤ i.toInt ∧ i.toInt < X.1 then some (pc + 1, sg_l σ ls, .int (X.2 i.toNatClampNeg) :: r.map (sg_v σ), fh σ τ z0 s0 E h) else none) = _
      rw [if_pos hc]
      rfl
    · cases hq
  · rename_i i a r
    split at hq
    · rename_i ty N hk
      split at hq
      · rename_i hh
        cases hq
        show (match bw_k (fh σ τ z0 s0 E h) (σ a) with | .inr (ty, N) => if σ a < bw_n h + z0 ∧ ty = FieldType.int ∧ 0 ≤ i.toInt ∧ i.toInt < N then some (pc + 1, sg_l σ ls, Value.int (bw_i (fh σ τ z0 s0 E h) (σ a) i.toNatClampNeg) :: r.map (sg_v σ), fh σ τ z0 s0 E h) else none | _ => none) = _
        rw [fr_k p hn hb hh.1, hk]
        show (if σ a < bw_n h + z0 ∧ ty = .int ∧ 0 ≤ i.toInt ∧ i.toInt < N then _ else none) = _
        rw [if_pos ⟨fr_lt p hn hb hh.1, hh.2⟩, fr_i p hn hb hh.1]
        rfl
      · cases hq
    · cases hq
  · cases hq
theorem fq_ba (p : fr_p σ τ n0 n1 z0) : fr_q σ τ n0 n1 z0 s0 E (bq_ba) := by
  intro pc ls st h r hn hb hkb hq
  unfold bq_ba at hq
  cases hq
theorem fq_aa (p : fr_p σ τ n0 n1 z0) : fr_q σ τ n0 n1 z0 s0 E (bq_aa) := by
  intro pc ls st h r hn hb hkb hq
  unfold bq_aa at hq
  split at hq
  · rename_i i a r
    split at hq
    · rename_i ty N hk
      split at hq
      · rename_i hh
        cases hq
        show (match bw_k (fh σ τ z0 s0 E h) (σ a) with | .inr (ty, N) => if σ a < bw_n h + z0 ∧ ty = FieldType.object RX1 ∧ 0 ≤ i.toInt ∧ i.toInt < N then some (pc + 1, sg_l σ ls, bw_rf (bw_r (fh σ τ z0 s0 E h) (σ a) i.toNatClampNeg) :: r.map (sg_v σ), fh σ τ z0 s0 E h) else none | _ => none) = _
        rw [fr_k p hn hb hh.1, hk]
        show (if σ a < bw_n h + z0 ∧ ty = .object RX1 ∧ 0 ≤ i.toInt ∧ i.toInt < N then _ else none) = _
        rw [if_pos ⟨fr_lt p hn hb hh.1, hh.2⟩, fr_r p _ hn hb hh.1, sg_rf]
        rfl
      · cases hq
    · cases hq
  · cases hq
theorem fq_ist (p : fr_p σ τ n0 n1 z0) : fr_q σ τ n0 n1 z0 s0 E (bq_ist) := by
  intro pc ls st h r hn hb hkb hq
  unfold bq_ist at hq
  split at hq
  · rename_i x i a r
    split at hq
    · rename_i ty N hk
      split at hq
      · rename_i hh
        cases hq
        show (match bw_k (fh σ τ z0 s0 E h) (σ a) with | .inr (ty, N) => if σ a < bw_n h + z0 ∧ ty = FieldType.int ∧ 0 ≤ i.toInt ∧ i.toInt < N then some (pc + 1, sg_l σ ls, r.map (sg_v σ), bw_si (fh σ τ z0 s0 E h) (σ a) i.toNatClampNeg (x)) else none | _ => none) = some (pc + 1, sg_l σ ls, r.map (sg_v σ), fh σ τ z0 s0 E (bw_si h a i.toNatClampNeg (x)))
        rw [fr_k p hn hb hh.1, hk]
        show (if σ a < bw_n h + z0 ∧ ty = .int ∧ 0 ≤ i.toInt ∧ i.toInt < N then _ else none) = _
        rw [if_pos ⟨fr_lt p hn hb hh.1, hh.2⟩, fr_si p _ _ hn hb hh.1]
      · cases hq
    · cases hq
  · cases hq
theorem fq_bst (p : fr_p σ τ n0 n1 z0) : fr_q σ τ n0 n1 z0 s0 E (bq_bst) := by
  intro pc ls st h r hn hb hkb hq
  unfold bq_bst at hq
  cases hq
theorem fq_ast (p : fr_p σ τ n0 n1 z0) : fr_q σ τ n0 n1 z0 s0 E (bq_ast) := by
  intro pc ls st h r hn hb hkb hq
  unfold bq_ast at hq
  split at hq
  · rename_i x i a r
    split at hq
    · rename_i ty N hk
      split at hq
      · rename_i hh
        cases hq
        show (match bw_k (fh σ τ z0 s0 E h) (σ a) with | .inr (ty, N) => if σ a < bw_n h + z0 ∧ ty = FieldType.object RX1 ∧ σ x < bw_n h + z0 ∧ bw_k (fh σ τ z0 s0 E h) (σ x) = .inl 1 ∧ 0 ≤ i.toInt ∧ i.toInt < N then some (pc + 1, sg_l σ ls, r.map (sg_v σ), bw_sr (fh σ τ z0 s0 E h) (σ a) i.toNatClampNeg (some (σ x))) else none | _ => none) = some (pc + 1, sg_l σ ls, r.map (sg_v σ), fh σ τ z0 s0 E (bw_sr h a i.toNatClampNeg (some x)))
        rw [fr_k p hn hb hh.1, fr_k p hn hb hh.2.2.1, hk]
        show (if σ a < bw_n h + z0 ∧ ty = .object RX1 ∧ σ x < bw_n h + z0 ∧ bw_k h x = .inl 1 ∧ 0 ≤ i.toInt ∧ i.toInt < N then _ else none) = _
        rw [if_pos ⟨fr_lt p hn hb hh.1, hh.2.1, fr_lt p hn hb hh.2.2.1, hh.2.2.2⟩, fr_sr p _ _ hn hb hh.1]
        rfl
      · cases hq
    · cases hq
  · cases hq
theorem fq_len (p : fr_p σ τ n0 n1 z0) {X : Nat × (Nat → Int32)} : fr_q σ τ n0 n1 z0 s0 E (bq_len X) := by
  intro pc ls st h r hn hb hkb hq
  unfold bq_len at hq
  split at hq
  · cases hq; rfl
  · cases hq; rfl
  · rename_i a r
    split at hq
    · rename_i ty N hk
      split at hq
      · rename_i hh
        cases hq
        show (match bw_k (fh σ τ z0 s0 E h) (σ a) with | .inr (ty, N) => if σ a < bw_n h + z0 ∧ (ty = FieldType.int ∨ ty = FieldType.long ∨ ty = FieldType.object RX1) then some (pc + 1, sg_l σ ls, Value.int (Int32.ofNat N) :: r.map (sg_v σ), fh σ τ z0 s0 E h) else none | _ => none) = _
        rw [fr_k p hn hb hh.1, hk]
        show (if σ a < bw_n h + z0 ∧ (ty = FieldType.int ∨ ty = FieldType.long ∨ ty = FieldType.object RX1) then _ else none) = _
        rw [if_pos ⟨fr_lt p hn hb hh.1, hh.2⟩]
        rfl
      · cases hq
    · cases hq
  · cases hq
theorem fq_new (p : fr_p σ τ n0 n1 z0) {c : Option Nat} : fr_q σ τ n0 n1 z0 s0 E (bq_new c) := by
  intro pc ls st h r hn hb hkb hq
  unfold bq_new at hq
  split at hq
  · rename_i c
    split at hq
    · rename_i hc
      cases hq
      show (if c < 9 then some (pc + 3, sg_l σ ls, .ref (bw_n h + z0) :: st.map (sg_v σ), bw_nw (fh σ τ z0 s0 E h) (.inl c) (bw_N c)) else none) = some (pc + 3, sg_l σ ls, .ref (σ (bw_n h)) :: st.map (sg_v σ), fh σ τ z0 s0 E (bw_nw h (.inl c) (bw_N c)))
      rw [if_pos hc, p.2.2.1 _ hn hkb, fr_nw p h hn hkb]
    · cases hq
  · cases hq
theorem fq_na (p : fr_p σ τ n0 n1 z0) {t : ArrayType} : fr_q σ τ n0 n1 z0 s0 E (bq_na t) := by
  intro pc ls st h r hn hb hkb hq
  unfold bq_na at hq
  split at hq
  · rename_i n r
    split at hq
    · rename_i hc
      cases hq
      show (if 0 ≤ n.toInt ∧ n.toInt < 60000 then some (pc + 2, sg_l σ ls, .ref (bw_n h + z0) :: r.map (sg_v σ), bw_nw (fh σ τ z0 s0 E h) (.inr (.int, n.toNatClampNeg)) n.toNatClampNeg) else none) = some (pc + 2, sg_l σ ls, .ref (σ (bw_n h)) :: r.map (sg_v σ), fh σ τ z0 s0 E (bw_nw h (.inr (.int, n.toNatClampNeg)) n.toNatClampNeg))
      rw [if_pos hc, p.2.2.1 _ hn hkb, fr_nw p h hn hkb]
    · cases hq
  · cases hq
theorem fq_an (p : fr_p σ τ n0 n1 z0) {b : Bool} : fr_q σ τ n0 n1 z0 s0 E (bq_an b) := by
  intro pc ls st h r hn hb hkb hq
  unfold bq_an at hq
  split at hq
  · rename_i n r
    split at hq
    · rename_i hc
      cases hq
      show (if b = true ∧ 0 ≤ n.toInt ∧ n.toInt < 60000 then some (pc + 3, sg_l σ ls, .ref (bw_n h + z0) :: r.map (sg_v σ), bw_nw (fh σ τ z0 s0 E h) (.inr (.object RX1, n.toNatClampNeg)) n.toNatClampNeg) else none) = some (pc + 3, sg_l σ ls, .ref (σ (bw_n h)) :: r.map (sg_v σ), fh σ τ z0 s0 E (bw_nw h (.inr (.object RX1, n.toNatClampNeg)) n.toNatClampNeg))
      rw [if_pos hc, p.2.2.1 _ hn hkb, fr_nw p h hn hkb]
    · cases hq
  · cases hq
theorem fq_oi {b : Bool} : fr_q σ τ n0 n1 z0 s0 E (bq_oi b) := by
  intro pc ls st h r hn hb hkb hq
  unfold bq_oi at hq
  split at hq
  · rename_i a r
    split at hq
    · rename_i hh
      cases hq
      show (if b = true ∧ ((r.map (sg_v σ)).map fun v => v.category).sum ≤ 8 then some (pc + 3, sg_l σ ls, r.map (sg_v σ), fh σ τ z0 s0 E h) else none) = _
      rw [if_pos ⟨hh.1, by rw [sg_sum]; exact hh.2⟩]
      rfl
    · cases hq
  · cases hq
theorem fq_ac (p : fr_p σ τ n0 n1 z0) {b : Bool} : fr_q σ τ n0 n1 z0 s0 E (bq_ac b) := by
  intro pc ls st h r hn hb hkb hq
  unfold bq_ac at hq
  split at hq
  · rename_i n dp a sp a0 r
    split at hq
    · rename_i t0 m0 t1 m1 hk0 hk1
      split at hq
      · rename_i hh
        cases hq
        show (match bw_k (fh σ τ z0 s0 E h) (σ a0), bw_k (fh σ τ z0 s0 E h) (σ a) with
          | .inr (t0, n0), .inr (t1, n1) => if b = true ∧ ((r.map (sg_v σ)).map fun v => v.category).sum ≤ 8 ∧ σ a0 < bw_n h + z0 ∧ σ a < bw_n h + z0 ∧ t0 = .int ∧ t1 = .int ∧ 0 ≤ sp.toInt ∧ 0 ≤ dp.toInt ∧ 0 ≤ n.toInt ∧ sp.toInt + n.toInt ≤ n0 ∧ dp.toInt + n.toInt ≤ n1
            then some (pc + 3, sg_l σ ls, r.map (sg_v σ), bw_sa (fh σ τ z0 s0 E h) (σ a) (va_cpy (bw_i (fh σ τ z0 s0 E h) (σ a0)) (bw_i (fh σ τ z0 s0 E h) (σ a)) sp.toNatClampNeg dp.toNatClampNeg n.toNatClampNeg)) else none
          | _, _ => none) = some (pc + 3, sg_l σ ls, r.map (sg_v σ), fh σ τ z0 s0 E (bw_sa h a (va_cpy (bw_i h a0) (bw_i h a) sp.toNatClampNeg dp.toNatClampNeg n.toNatClampNeg)))
        rw [fr_k p hn hb hh.2.2.1, fr_k p hn hb hh.2.2.2.1, hk0, hk1]
        show (if b = true ∧ ((r.map (sg_v σ)).map fun v => v.category).sum ≤ 8 ∧ σ a0 < bw_n h + z0 ∧ σ a < bw_n h + z0 ∧ t0 = .int ∧ t1 = .int ∧ 0 ≤ sp.toInt ∧ 0 ≤ dp.toInt ∧ 0 ≤ n.toInt ∧ sp.toInt + n.toInt ≤ m0 ∧ dp.toInt + n.toInt ≤ m1 then _ else none) = _
        rw [if_pos ⟨hh.1, by rw [sg_sum]; exact hh.2.1, fr_lt p hn hb hh.2.2.1, fr_lt p hn hb hh.2.2.2.1, hh.2.2.2.2⟩, fr_sa p _ hn hb hh.2.2.2.1, fr_i p hn hb hh.2.2.1, fr_i p hn hb hh.2.2.2.1]
      · cases hq
    · cases hq
  · cases hq
theorem fq_mx {b : Bool} : fr_q σ τ n0 n1 z0 s0 E (bq_mx b) := by
  intro pc ls st h r hn hb hkb hq
  unfold bq_mx at hq
  split at hq
  · rename_i y x r
    split at hq
    · rename_i hh
      cases hq
      show (if ((r.map (sg_v σ)).map fun v => v.category).sum ≤ 8 then some (pc + 3, sg_l σ ls, Value.int (if b = true then (if x < y then y else x) else (if y < x then y else x)) :: r.map (sg_v σ), fh σ τ z0 s0 E h) else none) = _
      rw [if_pos (by rw [sg_sum]; exact hh)]
      rfl
    · cases hq
  · cases hq
theorem fr_x (p : fr_p σ τ n0 n1 z0) {X : Nat × (Nat → Int32)} {o nL : Nat} {ini : Bool} {i : Instr} {pc : Nat} {ls : bw_L} {st : List Value} {h : bw_H} {k : bw_C} (hn : n0 ≤ bw_n h) (hb : bw_n h ≤ n1) (hkb : bw_n k.2.2.2 ≤ n1) (hq : bw_x X o nL ini i pc ls st h = some k) : bw_x X o nL ini i pc (sg_l σ ls) (st.map (sg_v σ)) (fh σ τ z0 s0 E h) = some (fr_c σ τ z0 s0 E k) := by
  cases i with
  | iload a => exact fq_il _ _ _ _ _ hn hb hkb hq
  | iload_n a => exact fq_il _ _ _ _ _ hn hb hkb hq
  | lload a => exact fq_ll _ _ _ _ _ hn hb hkb hq
  | lload_n a => exact fq_ll _ _ _ _ _ hn hb hkb hq
  | aload a => exact fq_al _ _ _ _ _ hn hb hkb hq
  | aload_n a => exact fq_al _ _ _ _ _ hn hb hkb hq
  | istore a => exact fq_is _ _ _ _ _ hn hb hkb hq
  | istore_n a => exact fq_is _ _ _ _ _ hn hb hkb hq
  | lstore a => exact fq_ls _ _ _ _ _ hn hb hkb hq
  | lstore_n a => exact fq_ls _ _ _ _ _ hn hb hkb hq
  | astore a => exact fq_as _ _ _ _ _ hn hb hkb hq
  | astore_n a => exact fq_as _ _ _ _ _ hn hb hkb hq
  | iinc a n => exact fq_ic _ _ _ _ _ hn hb hkb hq
  | iconst a => exact fq_cn (by first | rfl | exact fun _ => rfl) _ _ _ _ _ hn hb hkb hq
  | bipush a => exact fq_cn (by first | rfl | exact fun _ => rfl) _ _ _ _ _ hn hb hkb hq
  | sipush a => exact fq_cn (by first | rfl | exact fun _ => rfl) _ _ _ _ _ hn hb hkb hq
  | lconst a => exact fq_cn (by first | rfl | exact fun _ => rfl) _ _ _ _ _ hn hb hkb hq
  | aconst_null => exact fq_cn (by first | rfl | exact fun _ => rfl) _ _ _ _ _ hn hb hkb hq
  | iadd => exact fq_ii _ _ _ _ _ hn hb hkb hq
  | isub => exact fq_ii _ _ _ _ _ hn hb hkb hq
  | imul => exact fq_ii _ _ _ _ _ hn hb hkb hq
  | iand => exact fq_ii _ _ _ _ _ hn hb hkb hq
  | ior => exact fq_ii _ _ _ _ _ hn hb hkb hq
  | ixor => exact fq_ii _ _ _ _ _ hn hb hkb hq
  | ishl => exact fq_ii _ _ _ _ _ hn hb hkb hq
  | ishr => exact fq_ii _ _ _ _ _ hn hb hkb hq
  | iushr => exact fq_ii _ _ _ _ _ hn hb hkb hq
  | idiv => exact fq_id _ _ _ _ _ hn hb hkb hq
  | irem => exact fq_id _ _ _ _ _ hn hb hkb hq
  | ladd => exact fq_jj _ _ _ _ _ hn hb hkb hq
  | lsub => exact fq_jj _ _ _ _ _ hn hb hkb hq
  | lmul => exact fq_jj _ _ _ _ _ hn hb hkb hq
  | land => exact fq_jj _ _ _ _ _ hn hb hkb hq
  | lor => exact fq_jj _ _ _ _ _ hn hb hkb hq
  | lxor => exact fq_jj _ _ _ _ _ hn hb hkb hq
  | ldiv => exact fq_jd _ _ _ _ _ hn hb hkb hq
  | lrem => exact fq_jd _ _ _ _ _ hn hb hkb hq
  | lushr => exact fq_ju _ _ _ _ _ hn hb hkb hq
  | ineg => exact fq_i1 (by first | rfl | exact fun _ => rfl) _ _ _ _ _ hn hb hkb hq
  | lneg => exact fq_j1 (by first | rfl | exact fun _ => rfl) _ _ _ _ _ hn hb hkb hq
  | i2l => exact fq_i1 (by first | rfl | exact fun _ => rfl) _ _ _ _ _ hn hb hkb hq
  | i2b => exact fq_i1 (by first | rfl | exact fun _ => rfl) _ _ _ _ _ hn hb hkb hq
  | l2i => exact fq_j1 (by first | rfl | exact fun _ => rfl) _ _ _ _ _ hn hb hkb hq
  | lcmp => exact fq_cm _ _ _ _ _ hn hb hkb hq
  | dup => exact fq_du _ _ _ _ _ hn hb hkb hq
  | dup2 => exact fq_d2 _ _ _ _ _ hn hb hkb hq
  | goto a => exact fq_go _ _ _ _ _ hn hb hkb hq
  | ifnull a => exact fq_nu _ _ _ _ _ hn hb hkb hq
  | ifnonnull a => exact fq_nn _ _ _ _ _ hn hb hkb hq
  | tableswitch a b d f => exact fq_ts _ _ _ _ _ hn hb hkb hq
  | getfield a => exact fq_gf p _ _ _ _ _ hn hb hkb hq
  | putfield a => exact fq_pf p _ _ _ _ _ hn hb hkb hq
  | getstatic a => exact fq_gs _ _ _ _ _ hn hb hkb hq
  | laload => exact fq_la _ _ _ _ _ hn hb hkb hq
  | iaload => exact fq_ia p _ _ _ _ _ hn hb hkb hq
  | baload => exact absurd (show (none : Option bw_C) = some k from hq) (fun z => by cases z)
  | aaload => exact fq_aa p _ _ _ _ _ hn hb hkb hq
  | iastore => exact fq_ist p _ _ _ _ _ hn hb hkb hq
  | bastore => exact absurd (show (none : Option bw_C) = some k from hq) (fun z => by cases z)
  | aastore => exact fq_ast p _ _ _ _ _ hn hb hkb hq
  | arraylength => exact fq_len p _ _ _ _ _ hn hb hkb hq
  | new a => exact fq_new p _ _ _ _ _ hn hb hkb hq
  | newarray a => exact fq_na p _ _ _ _ _ hn hb hkb hq
  | anewarray a => exact fq_an p _ _ _ _ _ hn hb hkb hq
  | invokespecial a => exact fq_oi _ _ _ _ _ hn hb hkb hq
  | ldc a =>
    have hq' : (match bw_kc o a with | some (.int v) => bq_cn 2 (.int v) | _ => fun _ _ _ _ => none) pc ls st h = some k := hq
    show (match bw_kc o a with | some (.int v) => bq_cn 2 (.int v) | _ => fun _ _ _ _ => none) pc _ _ _ = _
    cases hkc : bw_kc o a with
    | none => rw [hkc] at hq'; cases hq'
    | some v =>
      rw [hkc] at hq'
      cases v with
      | int v => exact fq_cn (by first | rfl | exact fun _ => rfl) _ _ _ _ _ hn hb hkb hq'
      | _ => cases hq'
  | ldc_w a =>
    have hq' : (match bw_kc o a with | some (.int v) => bq_cn 3 (.int v) | _ => fun _ _ _ _ => none) pc ls st h = some k := hq
    show (match bw_kc o a with | some (.int v) => bq_cn 3 (.int v) | _ => fun _ _ _ _ => none) pc _ _ _ = _
    cases hkc : bw_kc o a with
    | none => rw [hkc] at hq'; cases hq'
    | some v =>
      rw [hkc] at hq'
      cases v with
      | int v => exact fq_cn (by first | rfl | exact fun _ => rfl) _ _ _ _ _ hn hb hkb hq'
      | _ => cases hq'
  | ldc2_w a =>
    have hq' : (match bw_kc o a with | some (.long v) => bq_cn 3 (.long v) | _ => fun _ _ _ _ => none) pc ls st h = some k := hq
    show (match bw_kc o a with | some (.long v) => bq_cn 3 (.long v) | _ => fun _ _ _ _ => none) pc _ _ _ = _
    cases hkc : bw_kc o a with
    | none => rw [hkc] at hq'; cases hq'
    | some v =>
      rw [hkc] at hq'
      cases v with
      | long v => exact fq_cn (by first | rfl | exact fun _ => rfl) _ _ _ _ _ hn hb hkb hq'
      | _ => cases hq'
  | ifCond cd off => cases cd <;> exact fq_if _ _ _ _ _ hn hb hkb hq
  | if_icmp cd off => cases cd <;> exact fq_cp _ _ _ _ _ hn hb hkb hq
  | invokestatic a =>
    have hq' : (match bw_mx o a with | some b => bq_mx b | none => bq_ac (bw_ac o a)) pc ls st h = some k := hq
    show (match bw_mx o a with | some b => bq_mx b | none => bq_ac (bw_ac o a)) pc _ _ _ = _
    cases hmx : bw_mx o a with
    | some b => rw [hmx] at hq'; exact fq_mx _ _ _ _ _ hn hb hkb hq'
    | none => rw [hmx] at hq'; exact fq_ac p _ _ _ _ _ hn hb hkb hq'
  | _ => exact absurd (show (none : Option bw_C) = some k from hq) (fun z => by cases z)
theorem fr_xe {X : Nat × (Nat → Int32)} {o nL : Nat} {ini : Bool} {i : Instr} {pc : Nat} {ls : bw_L} {st st0 : List Value} {h : bw_H} {rt : Option FieldType} {v : Option Value} (he : bw_e rt i st0 = some v) : bw_x X o nL ini i pc ls st h = none := by
  cases i with
  | ireturn => rfl
  | lreturn => rfl
  | areturn => rfl
  | return_ => rfl
  | _ => exact absurd (show (none : Option (Option Value)) = some v from he) (fun z => by cases z)
theorem fr_mt_ok : bw_MT.all (fun e => (bw_mx e.1 e.2.1).isNone && !bw_ac e.1 e.2.1 && !bw_oi e.1 e.2.1) = true := by decide +kernel
theorem fr_mt {o ix : Nat} {q : Nat × bw_M} (h : bw_mt o ix = some q) : bw_mx o ix = none ∧ bw_ac o ix = false ∧ bw_oi o ix = false := by
  unfold bw_mt at h
  cases hf : bw_MT.find? (fun e => e.1 == o && e.2.1 == ix) with
  | none => rw [hf] at h; cases h
  | some x =>
    have h1 := List.all_eq_true.mp fr_mt_ok x (List.mem_of_find?_eq_some hf)
    have h2 := List.find?_some hf
    simp only [Bool.and_eq_true, beq_iff_eq, Bool.not_eq_true', Option.isNone_iff_eq_none] at h1 h2
    rw [← h2.1, ← h2.2]
    exact ⟨h1.1.1, h1.1.2, h1.2⟩
theorem fr_xc {X : Nat × (Nat → Int32)} {o nL : Nat} {ini : Bool} {i : Instr} {pc : Nat} {ls : bw_L} {st st0 : List Value} {h h0 : bw_H} {c : bw_M × Bool × List Value × List Value} (hc : bw_c o i st0 h0 = some c) : bw_x X o nL ini i pc ls st h = none := by
  cases i with
  | invokevirtual ix => rfl
  | invokestatic ix =>
    cases e : bw_mt o ix with
    | none =>
      simp [bw_c, e] at hc
    | some q =>
      obtain ⟨h1, h2, h3⟩ := fr_mt e
      show (match bw_mx o ix with | some b => bq_mx b | none => bq_ac (bw_ac o ix)) pc ls st h = none
      rw [h1, h2]
      show bq_ac false pc ls st h = none
      unfold bq_ac
      repeat' split
      all_goals first | rfl | (rename_i hh; exact absurd hh.1 (by decide))
  | invokespecial ix =>
    cases e : bw_mt o ix with
    | none =>
      simp [bw_c, e] at hc
    | some q =>
      obtain ⟨h1, h2, h3⟩ := fr_mt e
      show bq_oi (bw_oi o ix) pc ls st h = none
      rw [h3]
      unfold bq_oi
      repeat' split
      all_goals first | rfl | (rename_i hh; exact absurd hh.1 (by decide))
  | _ => exact absurd (show (none : Option (bw_M × Bool × List Value × List Value)) = some c from hc) (fun z => by cases z)
theorem fr_ec {o : Nat} {i : Instr} {rt : Option FieldType} {st st0 : List Value} {h0 : bw_H} {c : bw_M × Bool × List Value × List Value} (hc : bw_c o i st0 h0 = some c) : bw_e rt i st = none := by
  cases i with
  | invokevirtual ix => rfl
  | invokestatic ix => rfl
  | invokespecial ix => rfl
  | _ => exact absurd (show (none : Option (bw_M × Bool × List Value × List Value)) = some c from hc) (fun z => by cases z)
theorem fr_cc (p : fr_p σ τ n0 n1 z0) {o : Nat} {i : Instr} {st : List Value} {h : bw_H} {M : bw_M} {im : Bool} {as r : List Value} (hn : n0 ≤ bw_n h) (hb : bw_n h ≤ n1) (hc : bw_c o i st h = some (M, im, as, r)) : bw_c o i (st.map (sg_v σ)) (fh σ τ z0 s0 E h) = some (M, im, as.map (sg_v σ), r.map (sg_v σ)) := by
  have tk : ∀ k, (List.take k (st.map (sg_v σ))).reverse = (List.take k st).reverse.map (sg_v σ) := fun k => by rw [← List.map_take, List.map_reverse]
  have dk : ∀ k, List.drop k (st.map (sg_v σ)) = (List.drop k st).map (sg_v σ) := fun k => by rw [← List.map_drop]
  unfold bw_c at hc ⊢
  split at hc
  · rename_i ix
    split at hc
    · rename_i kd M0 hmt
      split at hc
      · rename_i hh
        cases hc
        try simp only
        show (if kd ≤ 1 ∧ M.2.2.2.2.2 ≤ (st.map (sg_v σ)).length ∧ (((st.map (sg_v σ)).drop M.2.2.2.2.2).map fun v => v.category).sum ≤ 8 ∧ (lg_sl ((st.map (sg_v σ)).take M.2.2.2.2.2).reverse).length ≤ M.2.2.2.1 ∧ M.2.2.2.1 ≤ 30 then some (M, false, ((st.map (sg_v σ)).take M.2.2.2.2.2).reverse, (st.map (sg_v σ)).drop M.2.2.2.2.2) else none) = _
        rw [tk, dk, sg_sum, sg_lgsl, List.length_map, if_pos hh]
      · cases hc
    · cases hc
  · rename_i ix
    split at hc
    · rename_i kd M0 hmt
      split at hc
      · rename_i a r0 hdr
        split at hc
        · rename_i hh
          cases hc
          try simp only
          show (match (st.map (sg_v σ)).drop M.2.2.2.2.2 with
            | Value.ref a :: r => if (kd = 2 ∨ kd = 3) ∧ M.2.2.2.2.2 ≤ (st.map (sg_v σ)).length ∧ a < bw_n h + z0 ∧ bw_k (fh σ τ z0 s0 E h) a = Sum.inl M.1 ∧ M.1 < 9 ∧ (r.map fun v : Value => v.category).sum ≤ 8 ∧ (lg_sl (Value.ref a :: ((st.map (sg_v σ)).take M.2.2.2.2.2).reverse)).length ≤ M.2.2.2.1 ∧ M.2.2.2.1 ≤ 30
              then some (M, false, Value.ref a :: ((st.map (sg_v σ)).take M.2.2.2.2.2).reverse, r) else none
            | _ => none) = _
          rw [tk, dk, hdr, List.map_cons]
          show (if (kd = 2 ∨ kd = 3) ∧ M.2.2.2.2.2 ≤ (st.map (sg_v σ)).length ∧ σ a < bw_n h + z0 ∧ bw_k (fh σ τ z0 s0 E h) (σ a) = .inl M.1 ∧ M.1 < 9 ∧ ((r.map (sg_v σ)).map fun v => v.category).sum ≤ 8 ∧ (lg_sl ((Value.ref a :: (st.take M.2.2.2.2.2).reverse).map (sg_v σ))).length ≤ M.2.2.2.1 ∧ M.2.2.2.1 ≤ 30 then _ else none) = _
          rw [fr_k p hn hb hh.2.2.1, sg_sum, sg_lgsl, List.length_map, if_pos ⟨hh.1, hh.2.1, fr_lt p hn hb hh.2.2.1, hh.2.2.2⟩]
          rfl
        · cases hc
      · cases hc
    · cases hc
  · rename_i ix
    split at hc
    · rename_i kd M0 hmt
      split at hc
      · rename_i a r0 hdr
        split at hc
        · rename_i hh
          cases hc
          try simp only
          show (match (st.map (sg_v σ)).drop M.2.2.2.2.2 with
            | Value.ref a :: r => if (kd = 4 ∨ kd = 5) ∧ M.2.2.2.2.2 ≤ (st.map (sg_v σ)).length ∧ M.2.1.name = "<init>" ∧ M.2.2.2.2.1 = none ∧ (r.map fun v : Value => v.category).sum ≤ 8 ∧ (lg_sl (Value.ref a :: ((st.map (sg_v σ)).take M.2.2.2.2.2).reverse)).length ≤ M.2.2.2.1 ∧ M.2.2.2.1 ≤ 30
              then some (M, true, Value.ref a :: ((st.map (sg_v σ)).take M.2.2.2.2.2).reverse, r) else none
            | _ => none) = _
          rw [tk, dk, hdr, List.map_cons]
          show (if (kd = 4 ∨ kd = 5) ∧ M.2.2.2.2.2 ≤ (st.map (sg_v σ)).length ∧ M.2.1.name = "<init>" ∧ M.2.2.2.2.1 = none ∧ ((r.map (sg_v σ)).map fun v => v.category).sum ≤ 8 ∧ (lg_sl ((Value.ref a :: (st.take M.2.2.2.2.2).reverse).map (sg_v σ))).length ≤ M.2.2.2.1 ∧ M.2.2.2.1 ≤ 30 then _ else none) = _
          rw [sg_sum, sg_lgsl, List.length_map, if_pos hh]
          rfl
        · cases hc
      · cases hc
    · cases hc
  · cases hc
theorem fr_run (p : fr_p σ τ n0 n1 z0) (X : Nat × (Nat → Int32)) : ∀ (n d o nL : Nat) (ini : Bool) (rt : Option FieldType) (cc : ByteArray) (pc : Nat) (ls : bw_L) (st : List Value) (h : bw_H) (v : Option Value) (h' : bw_H), n0 ≤ bw_n h → bw_n h' ≤ n1 → bw_run X n d o nL ini rt cc pc ls st h = some (v, h') → n0 ≤ bw_n h' ∧ bw_run X n d o nL ini rt cc pc (sg_l σ ls) (st.map (sg_v σ)) (fh σ τ z0 s0 E h) = some (v.map (sg_v σ), fh σ τ z0 s0 E h') := by
  intro n
  induction n with
  | zero =>
    intro d o nL ini rt cc pc ls st h v h' hn hb hr
    unfold bw_run at hr
    cases hr
  | succ n ih =>
    intro d o nL ini rt cc pc ls st h v h' hn hb hr
    unfold bw_run at hr ⊢
    split at hr
    · cases hr
    · rename_i i len hdg
      try simp only
      split at hr
      · cases hr
      · rename_i hw0
        rw [if_neg hw0]
        split at hr
        · rename_i pc' ls' st' h1 hx1
          have m1 := (bw_x_mono hx1).1
          have m2 := (bw_snd X n d o nL ini rt cc pc' ls' st' h1 v h' hr).1.1
          have e1 := fr_x (E := E) (s0 := s0) p hn (Nat.le_trans m1 (Nat.le_trans m2 hb)) (Nat.le_trans m2 hb) hx1
          rw [e1]
          exact ih d o nL ini rt cc pc' ls' st' h1 v h' (Nat.le_trans hn m1) hb hr
        · rename_i hx1
          split at hr
          · rename_i v1 he
            cases hr
            rw [fr_xe he]
            try simp only
            rw [sg_e (σ := σ) he]
            exact ⟨hn, rfl⟩
          · rename_i he
            split at hr
            · cases hr
            · rename_i d'
              split at hr
              · rename_i M im as r hcc
                rw [fr_xc hcc]
                try simp only
                rw [fr_ec hcc]
                try simp only
                split at hr
                · rename_i v1 h1 hrun
                  have q1 := (bw_snd _ _ _ _ _ _ _ _ _ _ _ _ _ _ hrun).1.1
                  have q2 := (bw_snd _ _ _ _ _ _ _ _ _ _ _ _ _ _ hr).1.1
                  rw [fr_cc p hn (Nat.le_trans q1 (Nat.le_trans q2 hb)) hcc]
                  try simp only
                  obtain ⟨m0, e0⟩ := ih _ _ _ _ _ _ _ _ _ _ _ _ hn (Nat.le_trans q2 hb) hrun
                  rw [sg_args, show ([] : List Value) = ([] : List Value).map (sg_v σ) from rfl, e0]
                  obtain ⟨m1, e1⟩ := ih _ _ _ _ _ _ _ _ _ _ _ _ m0 hb hr
                  refine ⟨m1, ?_⟩
                  rw [List.map_append] at e1
                  rw [← e1]
                  cases v1 <;> rfl
                · cases hr
              · cases hr
/-- the frame rule: what a method does in a heap, it does in a larger one -/
theorem me_fr {X : Nat × (Nat → Int32)} {d : Nat} {M : bw_M} {im : Bool} {as : List Value} {h : bw_H} {Q : Option Value → bw_H → Prop} (p : fr_p σ τ n0 n1 z0) (hn : n0 ≤ bw_n h) (K : bw_me X d M im as h (fun v g => bw_n g ≤ n1 ∧ Q (v.map (sg_v σ)) (fh σ τ z0 s0 E g))) : bw_me X d M im (as.map (sg_v σ)) (fh σ τ z0 s0 E h) Q := by
  obtain ⟨n, v, g, hr, hQ⟩ := K
  have h1 := fr_run (E := E) (s0 := s0) p X _ _ _ _ _ _ _ _ _ _ _ _ _ hn hQ.1 hr
  rw [← sg_args] at h1
  exact ⟨n, _, _, h1.2, hQ.2⟩
end FR
