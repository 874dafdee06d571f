/-! the small machine with its places renamed: it runs the same -/
def sg_v (σ : Nat → Nat) (v : Value) : Value := match v with
  | .ref a => .ref (σ a)
  | .retAddr a => .retAddr a
  | .int x => .int x
  | .long x => .long x
  | .float x => .float x
  | .double x => .double x
  | .null => .null
def sg_l (σ : Nat → Nat) (ls : bw_L) : bw_L := ls.map (fun q => (q.1, sg_v σ q.2))
def sg_h (σ τ : Nat → Nat) (h : bw_H) : bw_H := (h.1, (fun q => bw_k h (τ q)), (fun q => bw_i h (τ q)), (fun q => bw_l h (τ q)), fun q j => (bw_r h (τ q) j).map σ)
def sg_c (σ τ : Nat → Nat) (k : bw_C) : bw_C := (k.1, sg_l σ k.2.1, k.2.2.1.map (sg_v σ), sg_h σ τ k.2.2.2)
def sg_p (σ τ : Nat → Nat) (n : Nat) : Prop := (∀ a, τ (σ a) = a) ∧ (∀ a, σ (τ a) = a) ∧ (∀ a, n ≤ a → σ a = a) ∧ ∀ a, n ≤ a → τ a = a
theorem sg_ps {σ τ : Nat → Nat} {n : Nat} (p : sg_p σ τ n) : sg_p τ σ n := ⟨p.2.1, p.1, p.2.2.2, p.2.2.1⟩
theorem sg_lt {σ τ : Nat → Nat} {n m a : Nat} (p : sg_p σ τ n) (hm : n ≤ m) (ha : a < m) : σ a < m := by
  refine Nat.lt_of_not_le (fun z => ?_)
  have h1 := p.2.2.2 (σ a) (by omega)
  rw [p.1] at h1
  omega
theorem sg_cat (σ : Nat → Nat) (v : Value) : (sg_v σ v).category = v.category := by cases v <;> rfl
theorem sg_sum (σ : Nat → Nat) (r : List Value) : ((r.map (sg_v σ)).map fun v => v.category).sum = (r.map fun v => v.category).sum := by
  rw [List.map_map]
  congr 1
  exact List.map_congr_left fun v _ => sg_cat σ v
theorem sg_lg (σ : Nat → Nat) (i : Nat) : ∀ ls : bw_L, bw_lg (sg_l σ ls) i = (bw_lg ls i).map (sg_v σ)
  | [] => rfl
  | a :: l => by
    have ih := sg_lg σ i l
    unfold bw_lg sg_l at ih ⊢
    rw [List.map_cons, List.find?_cons, List.find?_cons]
    show Option.map _ (match a.1 == i with | true => _ | false => _) = _
    cases a.1 == i with
    | false => exact ih
    | true => rfl
theorem sg_s1 (σ : Nat → Nat) (ls : bw_L) (i : Nat) (v : Value) : sg_l σ (bw_s1 ls i v) = bw_s1 (sg_l σ ls) i (sg_v σ v) := by
  unfold sg_l bw_s1
  rw [List.map_cons, List.filter_map]
  congr 2
  refine List.filter_congr fun q _ => ?_
  simp only [Function.comp, sg_cat]
theorem sg_s2 (σ : Nat → Nat) (ls : bw_L) (i : Nat) (v : Value) : sg_l σ (bw_s2 ls i v) = bw_s2 (sg_l σ ls) i (sg_v σ v) := by
  unfold sg_l bw_s2
  rw [List.map_cons, List.filter_map]
  congr 2
  refine List.filter_congr fun q _ => ?_
  simp only [Function.comp, sg_cat]
theorem sg_lgsl (σ : Nat → Nat) : ∀ as : List Value, (lg_sl (as.map (sg_v σ))).length = (lg_sl as).length
  | [] => rfl
  | v :: as => by
    have ih := sg_lgsl σ as
    unfold lg_sl at ih ⊢
    rw [List.map_cons, List.flatMap_cons, List.flatMap_cons, List.length_append, List.length_append, ih, sg_cat]
    split <;> rfl
theorem sg_args (σ : Nat → Nat) : ∀ (as : List Value) (i : Nat), lv_args i (as.map (sg_v σ)) = sg_l σ (lv_args i as)
  | [], _ => rfl
  | v :: as, i => by
    show (i, sg_v σ v) :: lv_args (if (sg_v σ v).category = 2 then i + 2 else i + 1) (as.map (sg_v σ)) = (i, sg_v σ v) :: sg_l σ (lv_args (if v.category = 2 then i + 2 else i + 1) as)
    rw [sg_cat, sg_args σ as]
theorem sg_vv {σ τ : Nat → Nat} (e : ∀ a, τ (σ a) = a) (v : Value) : sg_v τ (sg_v σ v) = v := by
  cases v with
  | ref a => show Value.ref (τ (σ a)) = _; rw [e]
  | _ => rfl
theorem sg_ss {σ τ : Nat → Nat} (e : ∀ a, τ (σ a) = a) : ∀ st : List Value, (st.map (sg_v σ)).map (sg_v τ) = st
  | [] => rfl
  | v :: st => by rw [List.map_cons, List.map_cons, sg_vv e, sg_ss e st]
theorem sg_ll {σ τ : Nat → Nat} (e : ∀ a, τ (σ a) = a) : ∀ ls : bw_L, sg_l τ (sg_l σ ls) = ls
  | [] => rfl
  | q :: ls => by
    have ih := sg_ll e ls
    show (q.1, sg_v τ (sg_v σ q.2)) :: sg_l τ (sg_l σ ls) = _
    rw [sg_vv e, ih]
theorem sg_hh {σ τ : Nat → Nat} (e : ∀ a, τ (σ a) = a) (h : bw_H) : sg_h τ σ (sg_h σ τ h) = h := by
  obtain ⟨h1, h2, h3, h4, h5⟩ := h
  have e5 : (fun q j => ((h5 (τ (σ q)) j).map σ).map τ) = h5 := by
    funext q j
    rw [e q]
    cases h5 q j with
    | none => rfl
    | some x => show some (τ (σ x)) = some x; rw [e x]
  have e2 : (fun q => h2 (τ (σ q))) = h2 := by funext q; rw [e q]
  have e3 : (fun q => h3 (τ (σ q))) = h3 := by funext q; rw [e q]
  have e4 : (fun q => h4 (τ (σ q))) = h4 := by funext q; rw [e q]
  show (h1, (fun q => h2 (τ (σ q))), (fun q => h3 (τ (σ q))), (fun q => h4 (τ (σ q))), (fun q j => ((h5 (τ (σ q)) j).map σ).map τ)) = _
  rw [e2, e3, e4, e5]
section SG
variable {σ τ : Nat → Nat} {n0 : Nat}
theorem sg_up {α : Type} (p : sg_p σ τ n0) (f : Nat → α) (a : Nat) (v : α) : (fun q => bw_up f a v (τ q)) = bw_up (fun q => f (τ q)) (σ a) v := by
  funext q
  unfold bw_up
  by_cases h : q = σ a
  · rw [if_pos h, if_pos (by rw [h, p.1])]
  · rw [if_neg h, if_neg (fun z => h (by rw [← z, p.2.1]))]
theorem sg_up2 {α : Type} (p : sg_p σ τ n0) (f : Nat → Nat → α) (a k : Nat) (v : α) : (fun q => bw_up2 f a k v (τ q)) = bw_up2 (fun q => f (τ q)) (σ a) k v := by
  unfold bw_up2
  rw [sg_up p]
  show _ = bw_up _ _ (bw_up (f (τ (σ a))) k v)
  rw [p.1]
theorem sg_up2r (p : sg_p σ τ n0) (f : Nat → Nat → Option Nat) (a k : Nat) (v : Option Nat) : (fun q j => (bw_up2 f a k v (τ q) j).map σ) = bw_up2 (fun q j => (f (τ q) j).map σ) (σ a) k (v.map σ) := by
  funext q j
  unfold bw_up2 bw_up
  by_cases h : q = σ a
  · rw [if_pos h, if_pos (by rw [h, p.1])]
    show Option.map σ (if j = k then v else f a j) = if j = k then Option.map σ v else (f (τ (σ a)) j).map σ
    rw [p.1]
    split <;> rfl
  · rw [if_neg h, if_neg (fun z => h (by rw [← z, p.2.1]))]
theorem sg_upn (p : sg_p σ τ n0) (f : Nat → Nat → Option Nat) (a : Nat) : (fun q j => (bw_up f a (fun _ => none) (τ q) j).map σ) = bw_up (fun q j => (f (τ q) j).map σ) (σ a) (fun _ => none) := by
  funext q j
  unfold bw_up
  by_cases h : q = σ a
  · rw [if_pos h, if_pos (by rw [h, p.1])]
    rfl
  · rw [if_neg h, if_neg (fun z => h (by rw [← z, p.2.1]))]
theorem sg_si (p : sg_p σ τ n0) (h : bw_H) (a k : Nat) (x : Int32) : sg_h σ τ (bw_si h a k x) = bw_si (sg_h σ τ h) (σ a) k x := by
  show (h.1, _, (fun q => bw_up2 h.2.2.1 a k x (τ q)), _, _) = (h.1, _, bw_up2 (fun q => h.2.2.1 (τ q)) (σ a) k x, _, _)
  rw [sg_up2 p]
  rfl
theorem sg_sl (p : sg_p σ τ n0) (h : bw_H) (a k : Nat) (x : Int64) : sg_h σ τ (bw_sl h a k x) = bw_sl (sg_h σ τ h) (σ a) k x := by
  show (h.1, _, _, (fun q => bw_up2 h.2.2.2.1 a k x (τ q)), _) = (h.1, _, _, bw_up2 (fun q => h.2.2.2.1 (τ q)) (σ a) k x, _)
  rw [sg_up2 p]
  rfl
theorem sg_sr (p : sg_p σ τ n0) (h : bw_H) (a k : Nat) (x : Option Nat) : sg_h σ τ (bw_sr h a k x) = bw_sr (sg_h σ τ h) (σ a) k (x.map σ) := by
  show (h.1, _, _, _, fun q j => (bw_up2 h.2.2.2.2 a k x (τ q) j).map σ) = (h.1, _, _, _, bw_up2 (fun q j => (h.2.2.2.2 (τ q) j).map σ) (σ a) k (x.map σ))
  rw [sg_up2r p]
  rfl
theorem sg_sa (p : sg_p σ τ n0) (h : bw_H) (a : Nat) (f : Nat → Int32) : sg_h σ τ (bw_sa h a f) = bw_sa (sg_h σ τ h) (σ a) f := by
  show (h.1, _, (fun q => bw_up h.2.2.1 a f (τ q)), _, _) = (h.1, _, bw_up (fun q => h.2.2.1 (τ q)) (σ a) f, _, _)
  rw [sg_up p]
  rfl
theorem sg_nw (p : sg_p σ τ n0) (h : bw_H) (hn : n0 ≤ bw_n h) (kd : bw_K) (N : Nat) : sg_h σ τ (bw_nw h kd N) = bw_nw (sg_h σ τ h) kd N := by
  have e : σ h.1.1 = h.1.1 := p.2.2.1 _ hn
  show ((h.1.1 + 1, h.1.2 + N), (fun q => bw_up h.2.1 h.1.1 kd (τ q)), (fun q => bw_up h.2.2.1 h.1.1 (fun _ => 0) (τ q)), (fun q => bw_up h.2.2.2.1 h.1.1 (fun _ => 0) (τ q)), fun q j => (bw_up h.2.2.2.2 h.1.1 (fun _ => none) (τ q) j).map σ) = ((h.1.1 + 1, h.1.2 + N), bw_up (fun q => h.2.1 (τ q)) h.1.1 kd, bw_up (fun q => h.2.2.1 (τ q)) h.1.1 (fun _ => 0), bw_up (fun q => h.2.2.2.1 (τ q)) h.1.1 (fun _ => 0), bw_up (fun q j => (h.2.2.2.2 (τ q) j).map σ) h.1.1 (fun _ => none))
  rw [sg_up p, sg_up p, sg_up p, sg_upn p, e]
theorem sg_k (p : sg_p σ τ n0) (h : bw_H) (a : Nat) : bw_k (sg_h σ τ h) (σ a) = bw_k h a := by
  show bw_k h (τ (σ a)) = _
  rw [p.1]
theorem sg_i (p : sg_p σ τ n0) (h : bw_H) (a : Nat) : bw_i (sg_h σ τ h) (σ a) = bw_i h a := by
  show bw_i h (τ (σ a)) = _
  rw [p.1]
theorem sg_lo (p : sg_p σ τ n0) (h : bw_H) (a : Nat) : bw_l (sg_h σ τ h) (σ a) = bw_l h a := by
  show bw_l h (τ (σ a)) = _
  rw [p.1]
theorem sg_r (p : sg_p σ τ n0) (h : bw_H) (a j : Nat) : bw_r (sg_h σ τ h) (σ a) j = (bw_r h a j).map σ := by
  show (bw_r h (τ (σ a)) j).map σ = _
  rw [p.1]
theorem sg_rf (r : Option Nat) : bw_rf (r.map σ) = sg_v σ (bw_rf r) := by cases r <;> rfl
theorem sg_fv (p : sg_p σ τ n0) (h : bw_H) (a c k : Nat) : bw_fv (sg_h σ τ h) (σ a) c k = sg_v σ (bw_fv h a c k) := by
  unfold bw_fv
  rw [sg_i p, sg_lo p, sg_r p, sg_rf]
  split <;> rfl
/-- an instruction does the same with its places renamed -/
def sg_q (σ τ : Nat → Nat) (n0 : Nat) (f : Nat → bw_L → List Value → bw_H → Option bw_C) : Prop := ∀ (pc : Nat) (ls : bw_L) (st : List Value) (h : bw_H) (k : bw_C), n0 ≤ bw_n h → f pc ls st h = some k → f pc (sg_l σ ls) (st.map (sg_v σ)) (sg_h σ τ h) = some (sg_c σ τ k)
theorem sq_il {w k : Nat} : sg_q σ τ n0 (bq_il w k) := by
  intro pc ls st h r hn hq
  unfold bq_il at hq ⊢
  rw [sg_lg]
  split at hq
  · rename_i x hx
    cases hq
    rw [hx]
    rfl
  · cases hq
theorem sq_ll {w k : Nat} : sg_q σ τ n0 (bq_ll w k) := by
  intro pc ls st h r hn hq
  unfold bq_ll at hq ⊢
  rw [sg_lg]
  split at hq
  · rename_i x hx
    cases hq
    rw [hx]
    rfl
  · cases hq
theorem sq_al {w k : Nat} : sg_q σ τ n0 (bq_al w k) := by
  intro pc ls st h r hn hq
  unfold bq_al at hq ⊢
  rw [sg_lg]
  split at hq
  · rename_i x hx
    cases hq
    rw [hx]
    rfl
  · rename_i x hx
    cases hq
    rw [hx]
    rfl
  · rename_i hx
    cases hq
    rw [hx]
    rfl
  · cases hq
theorem sq_is {nL w k : Nat} : sg_q σ τ n0 (bq_is nL w k) := by
  intro pc ls st h r hn hq
  unfold bq_is at hq
  split at hq
  · rename_i x r
    split at hq
    · rename_i hk
      cases hq
      show (if k < nL then some (pc + w, bw_s1 (sg_l σ ls) k (.int x), r.map (sg_v σ), sg_h σ τ h) else none) = some (pc + w, sg_l σ (bw_s1 ls k (.int x)), r.map (sg_v σ), sg_h σ τ h)
      rw [if_pos hk, sg_s1]
      rfl
    · cases hq
  · cases hq
theorem sq_ls {nL w k : Nat} : sg_q σ τ n0 (bq_ls nL w k) := by
  intro pc ls st h r hn hq
  unfold bq_ls at hq
  split at hq
  · rename_i x r
    split at hq
    · rename_i hk
      cases hq
      show (if k + 1 < nL then some (pc + w, bw_s2 (sg_l σ ls) k (.long x), r.map (sg_v σ), sg_h σ τ h) else none) = some (pc + w, sg_l σ (bw_s2 ls k (.long x)), r.map (sg_v σ), sg_h σ τ h)
      rw [if_pos hk, sg_s2]
      rfl
    · cases hq
  · cases hq
theorem sq_as {nL w k : Nat} : sg_q σ τ n0 (bq_as nL w k) := by
  intro pc ls st h r hn hq
  unfold bq_as at hq
  split at hq
  · rename_i x r
    split at hq
    · rename_i hk
      cases hq
      show (if k < nL then some (pc + w, bw_s1 (sg_l σ ls) k (.ref (σ x)), r.map (sg_v σ), sg_h σ τ h) else none) = some (pc + w, sg_l σ (bw_s1 ls k (.ref x)), r.map (sg_v σ), sg_h σ τ h)
      rw [if_pos hk, sg_s1]
      rfl
    · cases hq
  · rename_i r
    split at hq
    · rename_i hk
      cases hq
      show (if k < nL then some (pc + w, bw_s1 (sg_l σ ls) k .null, r.map (sg_v σ), sg_h σ τ h) else none) = some (pc + w, sg_l σ (bw_s1 ls k .null), r.map (sg_v σ), sg_h σ τ h)
      rw [if_pos hk, sg_s1]
      rfl
    · cases hq
  · cases hq
theorem sq_ic {nL k : Nat} {n : Int} : sg_q σ τ n0 (bq_ic nL k n) := by
  intro pc ls st h r hn hq
  unfold bq_ic at hq ⊢
  rw [sg_lg]
  split at hq
  · rename_i x hx
    split at hq
    · rename_i hk
      cases hq
      rw [hx]
      show (if k < nL then some (pc + 3, bw_s1 (sg_l σ ls) k (.int (x + Int32.ofInt n)), st.map (sg_v σ), sg_h σ τ h) else none) = some (pc + 3, sg_l σ (bw_s1 ls k (.int (x + Int32.ofInt n))), st.map (sg_v σ), sg_h σ τ h)
      rw [if_pos hk, sg_s1]
      rfl
    · cases hq
  · cases hq
theorem sq_ii {f : Int32 → Int32 → Int32} : sg_q σ τ n0 (bq_ii f) := by
  intro pc ls st h r hn hq
  unfold bq_ii at hq
  repeat' split at hq
  all_goals first | (cases hq; rfl) | cases hq
theorem sq_jj {f : Int64 → Int64 → Int64} : sg_q σ τ n0 (bq_jj f) := by
  intro pc ls st h r hn hq
  unfold bq_jj at hq
  repeat' split at hq
  all_goals first | (cases hq; rfl) | cases hq
theorem sq_i1 {f : Int32 → Value} (hf : ∀ x, sg_v σ (f x) = f x) : sg_q σ τ n0 (bq_i1 f) := by
  intro pc ls st h r hn hq
  unfold bq_i1 at hq
  split at hq
  · rename_i x r
    cases hq
    show some (pc + 1, sg_l σ ls, f x :: r.map (sg_v σ), sg_h σ τ h) = some (pc + 1, sg_l σ ls, sg_v σ (f x) :: r.map (sg_v σ), sg_h σ τ h)
    rw [hf]
  · cases hq
theorem sq_j1 {f : Int64 → Value} (hf : ∀ x, sg_v σ (f x) = f x) : sg_q σ τ n0 (bq_j1 f) := by
  intro pc ls st h r hn hq
  unfold bq_j1 at hq
  split at hq
  · rename_i x r
    cases hq
    show some (pc + 1, sg_l σ ls, f x :: r.map (sg_v σ), sg_h σ τ h) = some (pc + 1, sg_l σ ls, sg_v σ (f x) :: r.map (sg_v σ), sg_h σ τ h)
    rw [hf]
  · cases hq
theorem sq_ju : sg_q σ τ n0 (bq_ju) := by
  intro pc ls st h r hn hq
  unfold bq_ju at hq
  repeat' split at hq
  all_goals first | (cases hq; rfl) | cases hq
theorem sq_cm : sg_q σ τ n0 (bq_cm) := by
  intro pc ls st h r hn hq
  unfold bq_cm at hq
  repeat' split at hq
  all_goals first | (cases hq; rfl) | cases hq
theorem sq_cn {w : Nat} {v : Value} (hv : sg_v σ v = v) : sg_q σ τ n0 (bq_cn w v) := by
  intro pc ls st h r hn hq
  unfold bq_cn at hq
  cases hq
  show some (pc + w, sg_l σ ls, v :: st.map (sg_v σ), sg_h σ τ h) = some (pc + w, sg_l σ ls, sg_v σ v :: st.map (sg_v σ), sg_h σ τ h)
  rw [hv]
theorem sq_id {f : Int32 → Int32 → Int32} : sg_q σ τ n0 (bq_id f) := by
  intro pc ls st h r hn hq
  unfold bq_id at hq
  split at hq
  · rename_i y x r
    split at hq
    · cases hq
    · rename_i hk
      cases hq
      show (if y = 0 then none else some (pc + 1, sg_l σ ls, Value.int (f x y) :: r.map (sg_v σ), sg_h σ τ h)) = some (pc + 1, sg_l σ ls, .int (f x y) :: r.map (sg_v σ), sg_h σ τ h)
      rw [if_neg hk]
  · cases hq
theorem sq_jd {f : Int64 → Int64 → Int64} : sg_q σ τ n0 (bq_jd f) := by
  intro pc ls st h r hn hq
  unfold bq_jd at hq
  split at hq
  · rename_i y x r
    split at hq
    · cases hq
    · rename_i hk
      cases hq
      show (if y = 0 then none else some (pc + 1, sg_l σ ls, Value.long (f x y) :: r.map (sg_v σ), sg_h σ τ h)) = some (pc + 1, sg_l σ ls, .long (f x y) :: r.map (sg_v σ), sg_h σ τ h)
      rw [if_neg hk]
  · cases hq
theorem sq_du : sg_q σ τ n0 (bq_du) := by
  intro pc ls st h r hn hq
  unfold bq_du at hq
  split at hq
  · rename_i v r
    split at hq
    · rename_i hk
      cases hq
      show (if (sg_v σ v).category = 1 then some (pc + 1, sg_l σ ls, sg_v σ v :: sg_v σ v :: r.map (sg_v σ), sg_h σ τ h) else none) = _
      rw [if_pos (by rw [sg_cat]; exact hk)]
      rfl
    · cases hq
  · cases hq
theorem sq_d2 : sg_q σ τ n0 (bq_d2) := by
  intro pc ls st h r hn hq
  unfold bq_d2 at hq
  split at hq
  · rename_i v w r
    split at hq
    · rename_i hk
      cases hq
      show (if (sg_v σ v).category = 1 ∧ (sg_v σ w).category = 1 then some (pc + 1, sg_l σ ls, sg_v σ v :: sg_v σ w :: sg_v σ v :: sg_v σ w :: r.map (sg_v σ), sg_h σ τ h) else none) = _
      rw [if_pos (by rw [sg_cat, sg_cat]; exact hk)]
      rfl
    · cases hq
  · cases hq
theorem sq_go {off : Int} : sg_q σ τ n0 (bq_go off) := by
  intro pc ls st h r hn hq
  unfold bq_go at hq
  split at hq
  · rename_i q hj
    cases hq
    unfold bq_go
    rw [hj]
    rfl
  · cases hq
theorem sq_if {d : Int32 → Bool} {off : Int} : sg_q σ τ n0 (bq_if d off) := by
  intro pc ls st h r hn hq
  unfold bq_if at hq
  split at hq
  · rename_i x r
    split at hq
    · rename_i q hj
      cases hq
      show (match bw_jp pc off with | some q => some (if d x = true then q else pc + 3, sg_l σ ls, r.map (sg_v σ), sg_h σ τ h) | none => none) = _
      rw [hj]
      rfl
    · cases hq
  · cases hq
theorem sq_cp {d : Int32 → Int32 → Bool} {off : Int} : sg_q σ τ n0 (bq_cp d off) := by
  intro pc ls st h r hn hq
  unfold bq_cp at hq
  split at hq
  · rename_i y x r
    split at hq
    · rename_i q hj
      cases hq
      show (match bw_jp pc off with | some q => some (if d x y = true then q else pc + 3, sg_l σ ls, r.map (sg_v σ), sg_h σ τ h) | none => none) = _
      rw [hj]
      rfl
    · cases hq
  · cases hq
theorem sq_nu {off : Int} : sg_q σ τ n0 (bq_nu off) := by
  intro pc ls st h r hn hq
  unfold bq_nu at hq
  split at hq
  · rename_i r
    split at hq
    · rename_i q hj
      cases hq
      show (match bw_jp pc off with | some q => some (q, sg_l σ ls, r.map (sg_v σ), sg_h σ τ h) | none => none) = _
      rw [hj]
      rfl
    · cases hq
  · cases hq; rfl
  · cases hq
theorem sq_nn {off : Int} : sg_q σ τ n0 (bq_nn off) := by
  intro pc ls st h r hn hq
  unfold bq_nn at hq
  split at hq
  · rename_i a r
    split at hq
    · rename_i q hj
      cases hq
      show (match bw_jp pc off with | some q => some (q, sg_l σ ls, r.map (sg_v σ), sg_h σ τ h) | none => none) = _
      rw [hj]
      rfl
    · cases hq
  · cases hq; rfl
  · cases hq
theorem sq_ts {df lo hi : Int} {offs : Array Int} : sg_q σ τ n0 (bq_ts df lo hi offs) := by
  intro pc ls st h r hn hq
  unfold bq_ts at hq
  split at hq
  · rename_i x r
    split at hq
    · rename_i hc
      split at hq
      · rename_i q hj
        cases hq
        show (if x.toInt < lo ∨ hi < x.toInt then (match bw_jp pc df with | some q => some (q, sg_l σ ls, r.map (sg_v σ), sg_h σ τ h) | none => none) else _) = _
        rw [if_pos hc, hj]
        rfl
      · cases hq
    · rename_i hc
      split at hq
      · rename_i off ho
        split at hq
        · rename_i q hj
          cases hq
          show (if x.toInt < lo ∨ hi < x.toInt then _ else (match offs[(x.toInt - lo).toNat]? with | some off => (match bw_jp pc off with | some q => some (q, sg_l σ ls, r.map (sg_v σ), sg_h σ τ h) | none => none) | none => none)) = _
          rw [if_neg hc, ho]
          show (match bw_jp pc off with | some q => some (q, sg_l σ ls, r.map (sg_v σ), sg_h σ τ h) | none => none) = _
          rw [hj]
          rfl
        · cases hq
      · cases hq
  · cases hq
theorem sq_gf (p : sg_p σ τ n0) {f : Option (Nat × Nat)} : sg_q σ τ n0 (bq_gf f) := by
  intro pc ls st h r hn hq
  unfold bq_gf at hq
  split at hq
  · rename_i c k a r
    split at hq
    · rename_i hh
      cases hq
      show (if σ a < bw_n h ∧ bw_k (sg_h σ τ h) (σ a) = .inl c then some (pc + 3, sg_l σ ls, bw_fv (sg_h σ τ h) (σ a) c k :: r.map (sg_v σ), sg_h σ τ h) else none) = _
      rw [if_pos ⟨sg_lt p hn hh.1, by rw [sg_k p]; exact hh.2⟩, sg_fv p]
      rfl
    · cases hq
  · cases hq
theorem sq_pf (p : sg_p σ τ n0) {o : Nat} {ini : Bool} {f : Option (Nat × Nat)} : sg_q σ τ n0 (bq_pf o ini f) := by
  intro pc ls st h r hn hq
  unfold bq_pf at hq ⊢
  split at hq
  · rename_i c k v a r
    have pl : a < bw_n h → σ a < bw_n (sg_h σ τ h) := fun z => sg_lt p hn z
    simp only [List.map_cons]
    show (if σ a < bw_n (sg_h σ τ h) ∧ bw_k (sg_h σ τ h) (σ a) = .inl c ∧ k < bw_N c ∧ (bw_T c k).2.2.2 = false then _ else if σ a < bw_n (sg_h σ τ h) ∧ bw_k (sg_h σ τ h) (σ a) = .inl c ∧ k < bw_N c ∧ (bw_T c k).2.2.2 = true ∧ ini = true ∧ c = o then _ else none) = _
    rw [sg_k p]
    split at hq
    · rename_i hh
      rw [if_pos ⟨pl hh.1, hh.2⟩]
      split at hq
      · rename_i x e1
        cases hq
        rw [e1]
        show some (pc + 3, sg_l σ ls, r.map (sg_v σ), bw_si (sg_h σ τ h) (σ a) k x) = some (pc + 3, sg_l σ ls, r.map (sg_v σ), sg_h σ τ (bw_si h a k x))
        rw [sg_si p]
      · rename_i x e1
        cases hq
        rw [e1]
        show some (pc + 3, sg_l σ ls, r.map (sg_v σ), bw_sl (sg_h σ τ h) (σ a) k x) = some (pc + 3, sg_l σ ls, r.map (sg_v σ), sg_h σ τ (bw_sl h a k x))
        rw [sg_sl p]
      · cases hq
    · rename_i hh0
      have hh1 : ¬ (σ a < bw_n (sg_h σ τ h) ∧ bw_k h a = .inl c ∧ k < bw_N c ∧ (bw_T c k).2.2.2 = false) := fun z => hh0 ⟨by
        have z1 := sg_lt (sg_ps p) (a := σ a) (m := bw_n h) hn z.1
        rw [p.1] at z1; exact z1, z.2⟩
      rw [if_neg hh1]
      split at hq
      · rename_i hh
        rw [if_pos ⟨pl hh.1, hh.2⟩]
        split at hq
        · rename_i x e1
          cases hq
          rw [e1]
          show some (pc + 3, sg_l σ ls, r.map (sg_v σ), bw_si (sg_h σ τ h) (σ a) k x) = some (pc + 3, sg_l σ ls, r.map (sg_v σ), sg_h σ τ (bw_si h a k x))
          rw [sg_si p]
        · rename_i n x e1
          cases hq
          rw [e1]
          show some (pc + 3, sg_l σ ls, r.map (sg_v σ), bw_sr (sg_h σ τ h) (σ a) k (some (σ x))) = some (pc + 3, sg_l σ ls, r.map (sg_v σ), sg_h σ τ (bw_sr h a k (some x)))
          rw [sg_sr p]
          rfl
        · rename_i n x e1
          cases hq
          rw [e1]
          show some (pc + 3, sg_l σ ls, r.map (sg_v σ), bw_sr (sg_h σ τ h) (σ a) k (some (σ x))) = some (pc + 3, sg_l σ ls, r.map (sg_v σ), sg_h σ τ (bw_sr h a k (some x)))
          rw [sg_sr p]
          rfl
        · cases hq
      · cases hq
  · cases hq
theorem sq_gs {b : Bool} : sg_q σ τ n0 (bq_gs b) := by
  intro pc ls st h r hn hq
  unfold bq_gs at hq
  split at hq
  · rename_i hb
    cases hq
    unfold bq_gs
    rw [if_pos hb]
    rfl
  · cases hq
theorem sq_la : sg_q σ τ n0 (bq_la) := by
  intro pc ls st h r hn hq
  unfold bq_la at hq
  split at hq
  · rename_i i r
    split at hq
    · rename_i hc
      cases hq
      show (if 0 ≤ i.toInt ∧ i.toInt < 6 then some (pc + 1, sg_l σ ls, .long (bw_set6 i.toNatClampNeg) :: r.map (sg_v σ), sg_h σ τ h) else none) = _
      rw [if_pos hc]
      rfl
    · cases hq
  · cases hq
theorem sq_ia (p : sg_p σ τ n0) {X : Nat × (Nat → Int32)} : sg_q σ τ n0 (bq_ia X) := by
  intro pc ls st h r hn hq
  unfold bq_ia at hq
  split at hq
  · rename_i i r
    split at hq
    · rename_i hc
      cases hq
      show (if 0 ≤ i.toInt ∧ i.toInt < X.1 then some (pc + 1, sg_l σ ls, .int (X.2 i.toNatClampNeg) :: r.map (sg_v σ), sg_h σ τ h) else none) = _
      rw [if_pos hc]
      rfl
    · cases hq
  · rename_i i a r
    split at hq
    · rename_i ty N hk
      split at hq
      · rename_i hh
        cases hq
        show (match bw_k (sg_h σ τ h) (σ a) with | .inr (ty, N) => if σ a < bw_n h ∧ ty = FieldType.int ∧ 0 ≤ i.toInt ∧ i.toInt < N then some (pc + 1, sg_l σ ls, Value.int (bw_i (sg_h σ τ h) (σ a) i.toNatClampNeg) :: r.map (sg_v σ), sg_h σ τ h) else none | _ => none) = _
        rw [sg_k p, hk]
        show (if σ a < bw_n h ∧ ty = .int ∧ 0 ≤ i.toInt ∧ i.toInt < N then _ else none) = _
        rw [if_pos ⟨sg_lt p hn hh.1, hh.2⟩, sg_i p]
        rfl
      · cases hq
    · cases hq
  · cases hq
theorem sq_ba (p : sg_p σ τ n0) : sg_q σ τ n0 (bq_ba) := by
  intro pc ls st h r hn hq
  unfold bq_ba at hq
  cases hq
theorem sq_aa (p : sg_p σ τ n0) : sg_q σ τ n0 (bq_aa) := by
  intro pc ls st h r hn hq
  unfold bq_aa at hq
  split at hq
  · rename_i i a r
    split at hq
    · rename_i ty N hk
      split at hq
      · rename_i hh
        cases hq
        show (match bw_k (sg_h σ τ h) (σ a) with | .inr (ty, N) => if σ a < bw_n h ∧ ty = FieldType.object RX1 ∧ 0 ≤ i.toInt ∧ i.toInt < N then some (pc + 1, sg_l σ ls, bw_rf (bw_r (sg_h σ τ h) (σ a) i.toNatClampNeg) :: r.map (sg_v σ), sg_h σ τ h) else none | _ => none) = _
        rw [sg_k p, hk]
        show (if σ a < bw_n h ∧ ty = .object RX1 ∧ 0 ≤ i.toInt ∧ i.toInt < N then _ else none) = _
        rw [if_pos ⟨sg_lt p hn hh.1, hh.2⟩, sg_r p, sg_rf]
        rfl
      · cases hq
    · cases hq
  · cases hq
theorem sq_ist (p : sg_p σ τ n0) : sg_q σ τ n0 (bq_ist) := by
  intro pc ls st h r hn hq
  unfold bq_ist at hq
  split at hq
  · rename_i x i a r
    split at hq
    · rename_i ty N hk
      split at hq
      · rename_i hh
        cases hq
        show (match bw_k (sg_h σ τ h) (σ a) with | .inr (ty, N) => if σ a < bw_n h ∧ ty = FieldType.int ∧ 0 ≤ i.toInt ∧ i.toInt < N then some (pc + 1, sg_l σ ls, r.map (sg_v σ), bw_si (sg_h σ τ h) (σ a) i.toNatClampNeg (x)) else none | _ => none) = some (pc + 1, sg_l σ ls, r.map (sg_v σ), sg_h σ τ (bw_si h a i.toNatClampNeg (x)))
        rw [sg_k p, hk]
        show (if σ a < bw_n h ∧ ty = .int ∧ 0 ≤ i.toInt ∧ i.toInt < N then _ else none) = _
        rw [if_pos ⟨sg_lt p hn hh.1, hh.2⟩, sg_si p]
      · cases hq
    · cases hq
  · cases hq
theorem sq_bst (p : sg_p σ τ n0) : sg_q σ τ n0 (bq_bst) := by
  intro pc ls st h r hn hq
  unfold bq_bst at hq
  cases hq
theorem sq_ast (p : sg_p σ τ n0) : sg_q σ τ n0 (bq_ast) := by
  intro pc ls st h r hn hq
  unfold bq_ast at hq
  split at hq
  · rename_i x i a r
    split at hq
    · rename_i ty N hk
      split at hq
      · rename_i hh
        cases hq
        show (match bw_k (sg_h σ τ h) (σ a) with | .inr (ty, N) => if σ a < bw_n h ∧ ty = FieldType.object RX1 ∧ σ x < bw_n h ∧ bw_k (sg_h σ τ h) (σ x) = .inl 1 ∧ 0 ≤ i.toInt ∧ i.toInt < N then some (pc + 1, sg_l σ ls, r.map (sg_v σ), bw_sr (sg_h σ τ h) (σ a) i.toNatClampNeg (some (σ x))) else none | _ => none) = some (pc + 1, sg_l σ ls, r.map (sg_v σ), sg_h σ τ (bw_sr h a i.toNatClampNeg (some x)))
        rw [sg_k p, sg_k p, hk]
        show (if σ a < bw_n h ∧ ty = .object RX1 ∧ σ x < bw_n h ∧ bw_k h x = .inl 1 ∧ 0 ≤ i.toInt ∧ i.toInt < N then _ else none) = _
        rw [if_pos ⟨sg_lt p hn hh.1, hh.2.1, sg_lt p hn hh.2.2.1, hh.2.2.2⟩, sg_sr p]
        rfl
      · cases hq
    · cases hq
  · cases hq
theorem sq_len (p : sg_p σ τ n0) {X : Nat × (Nat → Int32)} : sg_q σ τ n0 (bq_len X) := by
  intro pc ls st h r hn hq
  unfold bq_len at hq
  split at hq
  · cases hq; rfl
  · cases hq; rfl
  · rename_i a r
    split at hq
    · rename_i ty N hk
      split at hq
      · rename_i hh
        cases hq
        show (match bw_k (sg_h σ τ h) (σ a) with | .inr (ty, N) => if σ a < bw_n h ∧ (ty = FieldType.int ∨ ty = FieldType.long ∨ ty = FieldType.object RX1) then some (pc + 1, sg_l σ ls, Value.int (Int32.ofNat N) :: r.map (sg_v σ), sg_h σ τ h) else none | _ => none) = _
        rw [sg_k p, hk]
        show (if σ a < bw_n h ∧ (ty = FieldType.int ∨ ty = FieldType.long ∨ ty = FieldType.object RX1) then _ else none) = _
        rw [if_pos ⟨sg_lt p hn hh.1, hh.2⟩]
        rfl
      · cases hq
    · cases hq
  · cases hq
theorem sq_new (p : sg_p σ τ n0) {c : Option Nat} : sg_q σ τ n0 (bq_new c) := by
  intro pc ls st h r hn hq
  unfold bq_new at hq
  split at hq
  · rename_i c
    split at hq
    · rename_i hc
      cases hq
      show (if c < 9 then some (pc + 3, sg_l σ ls, .ref (bw_n h) :: st.map (sg_v σ), bw_nw (sg_h σ τ h) (.inl c) (bw_N c)) else none) = some (pc + 3, sg_l σ ls, .ref (σ (bw_n h)) :: st.map (sg_v σ), sg_h σ τ (bw_nw h (.inl c) (bw_N c)))
      rw [if_pos hc, p.2.2.1 _ hn, sg_nw p h hn]
    · cases hq
  · cases hq
theorem sq_na (p : sg_p σ τ n0) {t : ArrayType} : sg_q σ τ n0 (bq_na t) := by
  intro pc ls st h r hn hq
  unfold bq_na at hq
  split at hq
  · rename_i n r
    split at hq
    · rename_i hc
      cases hq
      show (if 0 ≤ n.toInt ∧ n.toInt < 60000 then some (pc + 2, sg_l σ ls, .ref (bw_n h) :: r.map (sg_v σ), bw_nw (sg_h σ τ h) (.inr (.int, n.toNatClampNeg)) n.toNatClampNeg) else none) = some (pc + 2, sg_l σ ls, .ref (σ (bw_n h)) :: r.map (sg_v σ), sg_h σ τ (bw_nw h (.inr (.int, n.toNatClampNeg)) n.toNatClampNeg))
      rw [if_pos hc, p.2.2.1 _ hn, sg_nw p h hn]
    · cases hq
  · cases hq
theorem sq_an (p : sg_p σ τ n0) {b : Bool} : sg_q σ τ n0 (bq_an b) := by
  intro pc ls st h r hn hq
  unfold bq_an at hq
  split at hq
  · rename_i n r
    split at hq
    · rename_i hc
      cases hq
      show (if b = true ∧ 0 ≤ n.toInt ∧ n.toInt < 60000 then some (pc + 3, sg_l σ ls, .ref (bw_n h) :: r.map (sg_v σ), bw_nw (sg_h σ τ h) (.inr (.object RX1, n.toNatClampNeg)) n.toNatClampNeg) else none) = some (pc + 3, sg_l σ ls, .ref (σ (bw_n h)) :: r.map (sg_v σ), sg_h σ τ (bw_nw h (.inr (.object RX1, n.toNatClampNeg)) n.toNatClampNeg))
      rw [if_pos hc, p.2.2.1 _ hn, sg_nw p h hn]
    · cases hq
  · cases hq
theorem sq_oi {b : Bool} : sg_q σ τ n0 (bq_oi b) := by
  intro pc ls st h r hn hq
  unfold bq_oi at hq
  split at hq
  · rename_i a r
    split at hq
    · rename_i hh
      cases hq
      show (if b = true ∧ ((r.map (sg_v σ)).map fun v => v.category).sum ≤ 8 then some (pc + 3, sg_l σ ls, r.map (sg_v σ), sg_h σ τ h) else none) = _
      rw [if_pos ⟨hh.1, by rw [sg_sum]; exact hh.2⟩]
      rfl
    · cases hq
  · cases hq
theorem sq_ac (p : sg_p σ τ n0) {b : Bool} : sg_q σ τ n0 (bq_ac b) := by
  intro pc ls st h r hn hq
  unfold bq_ac at hq
  split at hq
  · rename_i n dp a sp a0 r
    split at hq
    · rename_i t0 m0 t1 m1 hk0 hk1
      split at hq
      · rename_i hh
        cases hq
        show (match bw_k (sg_h σ τ h) (σ a0), bw_k (sg_h σ τ h) (σ a) with
          | .inr (t0, n0), .inr (t1, n1) => if b = true ∧ ((r.map (sg_v σ)).map fun v => v.category).sum ≤ 8 ∧ σ a0 < bw_n h ∧ σ a < bw_n h ∧ t0 = .int ∧ t1 = .int ∧ 0 ≤ sp.toInt ∧ 0 ≤ dp.toInt ∧ 0 ≤ n.toInt ∧ sp.toInt + n.toInt ≤ n0 ∧ dp.toInt + n.toInt ≤ n1
            then some (pc + 3, sg_l σ ls, r.map (sg_v σ), bw_sa (sg_h σ τ h) (σ a) (va_cpy (bw_i (sg_h σ τ h) (σ a0)) (bw_i (sg_h σ τ h) (σ a)) sp.toNatClampNeg dp.toNatClampNeg n.toNatClampNeg)) else none
          | _, _ => none) = some (pc + 3, sg_l σ ls, r.map (sg_v σ), sg_h σ τ (bw_sa h a (va_cpy (bw_i h a0) (bw_i h a) sp.toNatClampNeg dp.toNatClampNeg n.toNatClampNeg)))
        rw [sg_k p, sg_k p, hk0, hk1]
        show (if b = true ∧ ((r.map (sg_v σ)).map fun v => v.category).sum ≤ 8 ∧ σ a0 < bw_n h ∧ σ a < bw_n h ∧ t0 = .int ∧ t1 = .int ∧ 0 ≤ sp.toInt ∧ 0 ≤ dp.toInt ∧ 0 ≤ n.toInt ∧ sp.toInt + n.toInt ≤ m0 ∧ dp.toInt + n.toInt ≤ m1 then _ else none) = _
        rw [if_pos ⟨hh.1, by rw [sg_sum]; exact hh.2.1, sg_lt p hn hh.2.2.1, sg_lt p hn hh.2.2.2.1, hh.2.2.2.2⟩, sg_sa p, sg_i p, sg_i p]
      · cases hq
    · cases hq
  · cases hq
theorem sq_mx {b : Bool} : sg_q σ τ n0 (bq_mx b) := by
  intro pc ls st h r hn hq
  unfold bq_mx at hq
  split at hq
  · rename_i y x r
    split at hq
    · rename_i hh
      cases hq
      show (if ((r.map (sg_v σ)).map fun v => v.category).sum ≤ 8 then some (pc + 3, sg_l σ ls, Value.int (if b = true then (if x < y then y else x) else (if y < x then y else x)) :: r.map (sg_v σ), sg_h σ τ h) else none) = _
      rw [if_pos (by rw [sg_sum]; exact hh)]
      rfl
    · cases hq
  · cases hq
theorem sg_x (p : sg_p σ τ n0) {X : Nat × (Nat → Int32)} {o nL : Nat} {ini : Bool} {i : Instr} {pc : Nat} {ls : bw_L} {st : List Value} {h : bw_H} {k : bw_C} (hn : n0 ≤ bw_n h) (hq : bw_x X o nL ini i pc ls st h = some k) : bw_x X o nL ini i pc (sg_l σ ls) (st.map (sg_v σ)) (sg_h σ τ h) = some (sg_c σ τ k) := by
  cases i with
  | iload a => exact sq_il _ _ _ _ _ hn hq
  | iload_n a => exact sq_il _ _ _ _ _ hn hq
  | lload a => exact sq_ll _ _ _ _ _ hn hq
  | lload_n a => exact sq_ll _ _ _ _ _ hn hq
  | aload a => exact sq_al _ _ _ _ _ hn hq
  | aload_n a => exact sq_al _ _ _ _ _ hn hq
  | istore a => exact sq_is _ _ _ _ _ hn hq
  | istore_n a => exact sq_is _ _ _ _ _ hn hq
  | lstore a => exact sq_ls _ _ _ _ _ hn hq
  | lstore_n a => exact sq_ls _ _ _ _ _ hn hq
  | astore a => exact sq_as _ _ _ _ _ hn hq
  | astore_n a => exact sq_as _ _ _ _ _ hn hq
  | iinc a n => exact sq_ic _ _ _ _ _ hn hq
  | iconst a => exact sq_cn (by first | rfl | exact fun _ => rfl) _ _ _ _ _ hn hq
  | bipush a => exact sq_cn (by first | rfl | exact fun _ => rfl) _ _ _ _ _ hn hq
  | sipush a => exact sq_cn (by first | rfl | exact fun _ => rfl) _ _ _ _ _ hn hq
  | lconst a => exact sq_cn (by first | rfl | exact fun _ => rfl) _ _ _ _ _ hn hq
  | aconst_null => exact sq_cn (by first | rfl | exact fun _ => rfl) _ _ _ _ _ hn hq
  | iadd => exact sq_ii _ _ _ _ _ hn hq
  | isub => exact sq_ii _ _ _ _ _ hn hq
  | imul => exact sq_ii _ _ _ _ _ hn hq
  | iand => exact sq_ii _ _ _ _ _ hn hq
  | ior => exact sq_ii _ _ _ _ _ hn hq
  | ixor => exact sq_ii _ _ _ _ _ hn hq
  | ishl => exact sq_ii _ _ _ _ _ hn hq
  | ishr => exact sq_ii _ _ _ _ _ hn hq
  | iushr => exact sq_ii _ _ _ _ _ hn hq
  | idiv => exact sq_id _ _ _ _ _ hn hq
  | irem => exact sq_id _ _ _ _ _ hn hq
  | ladd => exact sq_jj _ _ _ _ _ hn hq
  | lsub => exact sq_jj _ _ _ _ _ hn hq
  | lmul => exact sq_jj _ _ _ _ _ hn hq
  | land => exact sq_jj _ _ _ _ _ hn hq
  | lor => exact sq_jj _ _ _ _ _ hn hq
  | lxor => exact sq_jj _ _ _ _ _ hn hq
  | ldiv => exact sq_jd _ _ _ _ _ hn hq
  | lrem => exact sq_jd _ _ _ _ _ hn hq
  | lushr => exact sq_ju _ _ _ _ _ hn hq
  | ineg => exact sq_i1 (by first | rfl | exact fun _ => rfl) _ _ _ _ _ hn hq
  | lneg => exact sq_j1 (by first | rfl | exact fun _ => rfl) _ _ _ _ _ hn hq
  | i2l => exact sq_i1 (by first | rfl | exact fun _ => rfl) _ _ _ _ _ hn hq
  | i2b => exact sq_i1 (by first | rfl | exact fun _ => rfl) _ _ _ _ _ hn hq
  | l2i => exact sq_j1 (by first | rfl | exact fun _ => rfl) _ _ _ _ _ hn hq
  | lcmp => exact sq_cm _ _ _ _ _ hn hq
  | dup => exact sq_du _ _ _ _ _ hn hq
  | dup2 => exact sq_d2 _ _ _ _ _ hn hq
  | goto a => exact sq_go _ _ _ _ _ hn hq
  | ifnull a => exact sq_nu _ _ _ _ _ hn hq
  | ifnonnull a => exact sq_nn _ _ _ _ _ hn hq
  | tableswitch a b d f => exact sq_ts _ _ _ _ _ hn hq
  | getfield a => exact sq_gf p _ _ _ _ _ hn hq
  | putfield a => exact sq_pf p _ _ _ _ _ hn hq
  | getstatic a => exact sq_gs _ _ _ _ _ hn hq
  | laload => exact sq_la _ _ _ _ _ hn hq
  | iaload => exact sq_ia p _ _ _ _ _ hn hq
  | baload => exact absurd (show (none : Option bw_C) = some k from hq) (fun z => by cases z)
  | aaload => exact sq_aa p _ _ _ _ _ hn hq
  | iastore => exact sq_ist p _ _ _ _ _ hn hq
  | bastore => exact absurd (show (none : Option bw_C) = some k from hq) (fun z => by cases z)
  | aastore => exact sq_ast p _ _ _ _ _ hn hq
  | arraylength => exact sq_len p _ _ _ _ _ hn hq
  | new a => exact sq_new p _ _ _ _ _ hn hq
  | newarray a => exact sq_na p _ _ _ _ _ hn hq
  | anewarray a => exact sq_an p _ _ _ _ _ hn hq
  | invokespecial a => exact sq_oi _ _ _ _ _ hn hq
  | ldc a =>
    have hq' : (match bw_kc o a with | some (.int v) => bq_cn 2 (.int v) | _ => fun _ _ _ _ => none) pc ls st h = some k := hq
    show (match bw_kc o a with | some (.int v) => bq_cn 2 (.int v) | _ => fun _ _ _ _ => none) pc _ _ _ = _
    cases hkc : bw_kc o a with
    | none => rw [hkc] at hq'; cases hq'
    | some v =>
      rw [hkc] at hq'
      cases v with
      | int v => exact sq_cn (by first | rfl | exact fun _ => rfl) _ _ _ _ _ hn hq'
      | _ => cases hq'
  | ldc_w a =>
    have hq' : (match bw_kc o a with | some (.int v) => bq_cn 3 (.int v) | _ => fun _ _ _ _ => none) pc ls st h = some k := hq
    show (match bw_kc o a with | some (.int v) => bq_cn 3 (.int v) | _ => fun _ _ _ _ => none) pc _ _ _ = _
    cases hkc : bw_kc o a with
    | none => rw [hkc] at hq'; cases hq'
    | some v =>
      rw [hkc] at hq'
      cases v with
      | int v => exact sq_cn (by first | rfl | exact fun _ => rfl) _ _ _ _ _ hn hq'
      | _ => cases hq'
  | ldc2_w a =>
    have hq' : (match bw_kc o a with | some (.long v) => bq_cn 3 (.long v) | _ => fun _ _ _ _ => none) pc ls st h = some k := hq
    show (match bw_kc o a with | some (.long v) => bq_cn 3 (.long v) | _ => fun _ _ _ _ => none) pc _ _ _ = _
    cases hkc : bw_kc o a with
    | none => rw [hkc] at hq'; cases hq'
    | some v =>
      rw [hkc] at hq'
      cases v with
      | long v => exact sq_cn (by first | rfl | exact fun _ => rfl) _ _ _ _ _ hn hq'
      | _ => cases hq'
  | ifCond cd off => cases cd <;> exact sq_if _ _ _ _ _ hn hq
  | if_icmp cd off => cases cd <;> exact sq_cp _ _ _ _ _ hn hq
  | invokestatic a =>
    have hq' : (match bw_mx o a with | some b => bq_mx b | none => bq_ac (bw_ac o a)) pc ls st h = some k := hq
    show (match bw_mx o a with | some b => bq_mx b | none => bq_ac (bw_ac o a)) pc _ _ _ = _
    cases hmx : bw_mx o a with
    | some b => rw [hmx] at hq'; exact sq_mx _ _ _ _ _ hn hq'
    | none => rw [hmx] at hq'; exact sq_ac p _ _ _ _ _ hn hq'
  | _ => exact absurd (show (none : Option bw_C) = some k from hq) (fun z => by cases z)
theorem sg_xn (p : sg_p σ τ n0) {X : Nat × (Nat → Int32)} {o nL : Nat} {ini : Bool} {i : Instr} {pc : Nat} {ls : bw_L} {st : List Value} {h : bw_H} (hn : n0 ≤ bw_n h) (hq : bw_x X o nL ini i pc ls st h = none) : bw_x X o nL ini i pc (sg_l σ ls) (st.map (sg_v σ)) (sg_h σ τ h) = none := by
  cases e : bw_x X o nL ini i pc (sg_l σ ls) (st.map (sg_v σ)) (sg_h σ τ h) with
  | none => rfl
  | some k =>
    have h1 := sg_x (sg_ps p) (h := sg_h σ τ h) hn e
    rw [sg_ll p.1, sg_ss p.1, sg_hh p.1, hq] at h1
    cases h1
theorem sg_e {rt : Option FieldType} {i : Instr} {st : List Value} {v : Option Value} (he : bw_e rt i st = some v) : bw_e rt i (st.map (sg_v σ)) = some (v.map (sg_v σ)) := by
  unfold bw_e at he
  split at he
  · rename_i v
    split at he
    · rename_i ty
      split at he
      · rename_i hc
        cases he
        show (if narrow ty (.int v) = .int v then some (some (Value.int v)) else none) = _
        rw [if_pos hc]
        rfl
      · cases he
    · cases he
  · rename_i v
    split at he
    · rename_i hc
      cases he
      show (if rt = some .long then some (some (Value.long v)) else none) = _
      rw [if_pos hc]
      rfl
    · cases he
  · rename_i a
    split at he
    · cases he; rfl
    · cases he
  · split at he
    · cases he; rfl
    · cases he
  · split at he
    · rename_i hc
      cases he
      show (if rt = none then some none else none) = _
      rw [if_pos hc]
      rfl
    · cases he
  · cases he
theorem sg_en (p : sg_p σ τ n0) {rt : Option FieldType} {i : Instr} {st : List Value} (he : bw_e rt i st = none) : bw_e rt i (st.map (sg_v σ)) = none := by
  cases e : bw_e rt i (st.map (sg_v σ)) with
  | none => rfl
  | some k =>
    have h1 := sg_e (σ := τ) e
    rw [sg_ss p.1, he] at h1
    cases h1
theorem sg_cc (p : sg_p σ τ n0) {o : Nat} {i : Instr} {st : List Value} {h : bw_H} {M : bw_M} {im : Bool} {as r : List Value} (hn : n0 ≤ bw_n h) (hc : bw_c o i st h = some (M, im, as, r)) : bw_c o i (st.map (sg_v σ)) (sg_h σ τ h) = some (M, im, as.map (sg_v σ), r.map (sg_v σ)) := by
  have tk : ∀ k, (List.take k (st.map (sg_v σ))).reverse = (List.take k st).reverse.map (sg_v σ) := fun k => by rw [← List.map_take, List.map_reverse]
  have dk : ∀ k, List.drop k (st.map (sg_v σ)) = (List.drop k st).map (sg_v σ) := fun k => by rw [← List.map_drop]
  unfold bw_c at hc ⊢
  split at hc
  · rename_i ix
    split at hc
    · rename_i kd M0 hmt
      split at hc
      · rename_i hh
        cases hc
        try simp only
        show (if kd ≤ 1 ∧ M.2.2.2.2.2 ≤ (st.map (sg_v σ)).length ∧ (((st.map (sg_v σ)).drop M.2.2.2.2.2).map fun v => v.category).sum ≤ 8 ∧ (lg_sl ((st.map (sg_v σ)).take M.2.2.2.2.2).reverse).length ≤ M.2.2.2.1 ∧ M.2.2.2.1 ≤ 30 then some (M, false, ((st.map (sg_v σ)).take M.2.2.2.2.2).reverse, (st.map (sg_v σ)).drop M.2.2.2.2.2) else none) = _
        rw [tk, dk, sg_sum, sg_lgsl, List.length_map, if_pos hh]
      · cases hc
    · cases hc
  · rename_i ix
    split at hc
    · rename_i kd M0 hmt
      split at hc
      · rename_i a r0 hdr
        split at hc
        · rename_i hh
          cases hc
          try simp only
          show (match (st.map (sg_v σ)).drop M.2.2.2.2.2 with
            | Value.ref a :: r => if (kd = 2 ∨ kd = 3) ∧ M.2.2.2.2.2 ≤ (st.map (sg_v σ)).length ∧ a < bw_n h ∧ bw_k (sg_h σ τ h) a = Sum.inl M.1 ∧ M.1 < 9 ∧ (r.map fun v : Value => v.category).sum ≤ 8 ∧ (lg_sl (Value.ref a :: ((st.map (sg_v σ)).take M.2.2.2.2.2).reverse)).length ≤ M.2.2.2.1 ∧ M.2.2.2.1 ≤ 30
              then some (M, false, Value.ref a :: ((st.map (sg_v σ)).take M.2.2.2.2.2).reverse, r) else none
            | _ => none) = _
          rw [tk, dk, hdr, List.map_cons]
          show (if (kd = 2 ∨ kd = 3) ∧ M.2.2.2.2.2 ≤ (st.map (sg_v σ)).length ∧ σ a < bw_n h ∧ bw_k (sg_h σ τ h) (σ a) = .inl M.1 ∧ M.1 < 9 ∧ ((r.map (sg_v σ)).map fun v => v.category).sum ≤ 8 ∧ (lg_sl ((Value.ref a :: (st.take M.2.2.2.2.2).reverse).map (sg_v σ))).length ≤ M.2.2.2.1 ∧ M.2.2.2.1 ≤ 30 then _ else none) = _
          rw [sg_k p, sg_sum, sg_lgsl, List.length_map, if_pos ⟨hh.1, hh.2.1, sg_lt p hn hh.2.2.1, hh.2.2.2⟩]
          rfl
        · cases hc
      · cases hc
    · cases hc
  · rename_i ix
    split at hc
    · rename_i kd M0 hmt
      split at hc
      · rename_i a r0 hdr
        split at hc
        · rename_i hh
          cases hc
          try simp only
          show (match (st.map (sg_v σ)).drop M.2.2.2.2.2 with
            | Value.ref a :: r => if (kd = 4 ∨ kd = 5) ∧ M.2.2.2.2.2 ≤ (st.map (sg_v σ)).length ∧ M.2.1.name = "<init>" ∧ M.2.2.2.2.1 = none ∧ (r.map fun v : Value => v.category).sum ≤ 8 ∧ (lg_sl (Value.ref a :: ((st.map (sg_v σ)).take M.2.2.2.2.2).reverse)).length ≤ M.2.2.2.1 ∧ M.2.2.2.1 ≤ 30
              then some (M, true, Value.ref a :: ((st.map (sg_v σ)).take M.2.2.2.2.2).reverse, r) else none
            | _ => none) = _
          rw [tk, dk, hdr, List.map_cons]
          show (if (kd = 4 ∨ kd = 5) ∧ M.2.2.2.2.2 ≤ (st.map (sg_v σ)).length ∧ M.2.1.name = "<init>" ∧ M.2.2.2.2.1 = none ∧ ((r.map (sg_v σ)).map fun v => v.category).sum ≤ 8 ∧ (lg_sl ((Value.ref a :: (st.take M.2.2.2.2.2).reverse).map (sg_v σ))).length ≤ M.2.2.2.1 ∧ M.2.2.2.1 ≤ 30 then _ else none) = _
          rw [sg_sum, sg_lgsl, List.length_map, if_pos hh]
          rfl
        · cases hc
      · cases hc
    · cases hc
  · cases hc
theorem sg_run (p : sg_p σ τ n0) (X : Nat × (Nat → Int32)) : ∀ (n d o nL : Nat) (ini : Bool) (rt : Option FieldType) (cc : ByteArray) (pc : Nat) (ls : bw_L) (st : List Value) (h : bw_H) (v : Option Value) (h' : bw_H), n0 ≤ bw_n h → bw_run X n d o nL ini rt cc pc ls st h = some (v, h') → n0 ≤ bw_n h' ∧ bw_run X n d o nL ini rt cc pc (sg_l σ ls) (st.map (sg_v σ)) (sg_h σ τ h) = some (v.map (sg_v σ), sg_h σ τ h') := by
  intro n
  induction n with
  | zero =>
    intro d o nL ini rt cc pc ls st h v h' hn hr
    unfold bw_run at hr
    cases hr
  | succ n ih =>
    intro d o nL ini rt cc pc ls st h v h' hn hr
    unfold bw_run at hr ⊢
    split at hr
    · cases hr
    · rename_i i len hdg
      try simp only
      split at hr
      · cases hr
      · rename_i hw0
        rw [if_neg hw0]
        split at hr
        · rename_i pc' ls' st' h1 hx1
          have m1 := (bw_x_mono hx1).1
          have e1 := sg_x p hn hx1
          rw [e1]
          exact ih d o nL ini rt cc pc' ls' st' h1 v h' (Nat.le_trans hn m1) hr
        · rename_i hx1
          rw [sg_xn p hn hx1]
          try simp only
          split at hr
          · rename_i v1 he
            cases hr
            rw [sg_e (σ := σ) he]
            exact ⟨hn, rfl⟩
          · rename_i he
            rw [sg_en p he]
            try simp only
            split at hr
            · cases hr
            · rename_i d'
              try simp only
              split at hr
              · rename_i M im as r hcc
                split at hr
                · rename_i v1 h1 hrun
                  rw [sg_cc p hn hcc]
                  try simp only
                  obtain ⟨m0, e0⟩ := ih _ _ _ _ _ _ _ _ _ _ _ _ hn hrun
                  rw [sg_args, show ([] : List Value) = ([] : List Value).map (sg_v σ) from rfl, e0]
                  obtain ⟨m1, e1⟩ := ih _ _ _ _ _ _ _ _ _ _ _ _ m0 hr
                  refine ⟨m1, ?_⟩
                  rw [List.map_append] at e1
                  rw [← e1]
                  cases v1 <;> rfl
                · cases hr
              · cases hr
theorem go_ren {X : Nat × (Nat → Int32)} {d o nL : Nat} {ini : Bool} {rt : Option FieldType} {cc : ByteArray} {pc : Nat} {ls : bw_L} {st : List Value} {h : bw_H} {Q : Option Value → bw_H → Prop} (p : sg_p σ τ n0) (hn : n0 ≤ bw_n h) (K : bw_go X d o nL ini rt cc pc (sg_l σ ls) (st.map (sg_v σ)) (sg_h σ τ h) (fun v g => Q (v.map (sg_v τ)) (sg_h τ σ g))) : bw_go X d o nL ini rt cc pc ls st h Q := by
  obtain ⟨n, v, g, hr, hQ⟩ := K
  have h1 := (sg_run (sg_ps p) X _ _ _ _ _ _ _ _ _ _ (sg_h σ τ h) _ _ hn hr).2
  rw [sg_ll p.1, sg_ss p.1, sg_hh p.1] at h1
  exact ⟨n, _, _, h1, hQ⟩
end SG
