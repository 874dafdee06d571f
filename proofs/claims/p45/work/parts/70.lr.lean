/-! the law's heap: X's places moved by pS, the law's arrays (62, 76, 77, 78) beside them -/
def pS (q : Nat) : Nat := if q < 39 then q else if q < 60 then q + 2 else if q < 62 then q - 21 else if q < 75 then q + 1 else q + 4
def pT (p : Nat) : Option Nat := if p < 39 then some p else if p < 41 then some (p + 21) else if p < 62 then some (p - 2) else if p = 62 then none else if p < 76 then some (p - 1) else if p < 79 then none else some (p - 4)
theorem pT_S (a : Nat) : pT (pS a) = some a := by
  unfold pS pT
  repeat' split
  all_goals first | (exfalso; omega) | (exact congrArg some (by omega))
theorem pS_T (p a : Nat) (h : pT p = some a) : pS a = p := by
  unfold pT at h
  repeat' split at h
  all_goals first | (have h2 := Option.some.inj h; subst h2; unfold pS; (repeat' split) <;> omega) | cases h
def okw (z c : Nat) : Prop := (c = 62 ∧ z = 1) ∨ (c = 75 ∧ 1 ≤ z ∧ z ≤ 4)
theorem fp_ok {z c : Nat} (h : okw z c) : fr_p pS pT c c z := by
  refine ⟨pT_S, pS_T, fun a h1 h2 => by omega, fun n a h1 h2 => ?_⟩
  unfold okw at h
  unfold pS
  repeat' split
  all_goals omega
theorem fp_keep : fr_p pS pT 62 75 1 := by
  refine ⟨pT_S, pS_T, fun a h1 h2 => ?_, fun n a h1 h2 => ?_⟩
  · unfold pS; repeat' split
    all_goals omega
  · unfold pS; repeat' split
    all_goals omega
def LR (z c : Nat) (H : bw_H) (S : ST) : Prop := ∃ (h E : bw_H) (s0 : Nat), H = fh pS pT z s0 E h ∧ XR h S ∧ bw_n h = c
abbrev LY : Type := Nat → Option (Nat × (Nat → Int32))
def LB (z c : Nat) (H : bw_H) (S : ST) (A : LY) : Prop := okw z c ∧ LR z c H S ∧ ∀ q N F, A q = some (N, F) → pT q = none ∧ q < bw_n H ∧ bw_k H q = .inr (.int, N) ∧ bw_i H q = F
theorem fh_o {z s0 q : Nat} {E h : bw_H} (e : pT q = none) : bw_k (fh pS pT z s0 E h) q = bw_k E q ∧ bw_i (fh pS pT z s0 E h) q = bw_i E q := by
  constructor
  · show fg1 pT (bw_n h + z) (bw_k h) (bw_k E) q = _
    unfold fg1
    rw [e]
    split <;> rfl
  · show fg1 pT (bw_n h + z) (bw_i h) (bw_i E) q = _
    unfold fg1
    rw [e]
    split <;> rfl
theorem fg_eq {α : Type} {N : Nat} {f g : Nat → α} (e : ∀ p q, p < N → pT p = some q → g p = f q) : fg1 pT N f g = g := by
  funext p
  unfold fg1
  by_cases hp : p < N
  · rw [if_pos hp]
    cases h : pT p with
    | none => rfl
    | some q => exact (e p q hp h).symm
  · rw [if_neg hp]
theorem fh_eq {H h : bw_H} {z s0 : Nat} (hn : bw_n H = bw_n h + z) (hs : bw_s H = bw_s h + s0) (e : ∀ p q, p < bw_n H → pT p = some q → bw_k H p = bw_k h q ∧ bw_i H p = bw_i h q ∧ bw_l H p = bw_l h q ∧ bw_r H p = fun j => (bw_r h q j).map pS) : H = fh pS pT z s0 H h := by
  rw [hn] at e
  obtain ⟨⟨H1, H2⟩, H3, H4, H5, H6⟩ := H
  have hn : H1 = bw_n h + z := hn
  have hs : H2 = bw_s h + s0 := hs
  unfold fh
  rw [fg_eq (fun p q hp hq => (e p q hp hq).1), fg_eq (fun p q hp hq => (e p q hp hq).2.1), fg_eq (fun p q hp hq => (e p q hp hq).2.2.1), fg_eq (fun p q hp hq => (e p q hp hq).2.2.2), ← hn, ← hs]
  rfl
theorem fh_at {z s0 : Nat} {E h : bw_H} {p q : Nat} (hp : p < bw_n h + z) (e : pT p = some q) : bw_k (fh pS pT z s0 E h) p = bw_k h q ∧ bw_i (fh pS pT z s0 E h) p = bw_i h q ∧ bw_l (fh pS pT z s0 E h) p = bw_l h q ∧ bw_r (fh pS pT z s0 E h) p = fun j => (bw_r h q j).map pS := by
  refine ⟨?_, ?_, ?_, ?_⟩
  · show fg1 pT (bw_n h + z) (bw_k h) (bw_k E) p = _
    unfold fg1; rw [if_pos hp, e]
  · show fg1 pT (bw_n h + z) (bw_i h) (bw_i E) p = _
    unfold fg1; rw [if_pos hp, e]
  · show fg1 pT (bw_n h + z) (bw_l h) (bw_l E) p = _
    unfold fg1; rw [if_pos hp, e]
  · show fg1 pT (bw_n h + z) (fun q j => (bw_r h q j).map pS) (bw_r E) p = _
    unfold fg1; rw [if_pos hp, e]
section LB1
variable {z c : Nat} {H : bw_H} {S S' : ST} {A : LY} {X : Nat × (Nat → Int32)} {Q : Option Value → bw_H → Prop}
theorem lb_n (hl : LB z c H S A) : bw_n H = c + z := by
  obtain ⟨_, ⟨h, E, s0, rfl, _, hc⟩, _⟩ := hl
  show bw_n h + z = _
  rw [hc]
theorem lb_lt (hl : LB z c H S A) : 0 < bw_n H := by
  have h1 := lb_n hl
  have h2 := hl.1
  unfold okw at h2
  omega
theorem lb_k (hl : LB z c H S A) : bw_k H 0 = .inl 7 := by
  have h1 := lb_lt hl
  obtain ⟨_, ⟨h, E, s0, rfl, hx, _⟩, _⟩ := hl
  exact (fh_at (q := 0) h1 rfl).1.trans hx.1.1.2.1
theorem lb_ac (hl : LB z c H S A) : ac_k (sA S) := by
  obtain ⟨_, ⟨h, E, s0, _, hx, _⟩, _⟩ := hl
  exact hx.2.2.2.1.2
theorem lb_rk (hl : LB z c H S A) {r m : Nat} (hr : r < 6) (e : sR S r = some m) : m ≤ 40 := by
  obtain ⟨_, ⟨h, E, s0, _, hx, _⟩, _⟩ := hl
  exact (hx.2.1.2 r hr).2.1 m e
theorem lb_a (hl : LB z c H S A) {q N : Nat} {F : Nat → Int32} (e : A q = some (N, F)) : q < bw_n H ∧ bw_k H q = .inr (.int, N) ∧ bw_i H q = F := (hl.2.2 q N F e).2
/-- a call of X -/
theorem lb_me {d : Nat} {M : bw_M} {as : List Value} {res : Value} (hl : LB z c H S A) (hm : ∀ (h : bw_H) (Q' : Option Value → bw_H → Prop), XR h S → (∀ g, XR g S' → frM h g → Q' (some res) g) → bw_me X d M false (.ref 0 :: as) h Q') (has : ∀ σ : Nat → Nat, as.map (sg_v σ) = as) (hre : ∀ σ : Nat → Nat, sg_v σ res = res) (K : ∀ G, LB z c G S' A → Q (some res) G) : bw_me X d M false (.ref 0 :: as) H Q := by
  obtain ⟨ho, ⟨h, E, s0, rfl, hx, hc⟩, ha⟩ := hl
  have e : (.ref 0 :: as : List Value) = (.ref 0 :: as : List Value).map (sg_v pS) := by
    rw [List.map_cons, has]; rfl
  rw [e]
  refine me_fr (fp_ok ho) (Nat.le_of_eq hc.symm) (hm h _ hx (fun g hg hf => ?_))
  have hf : bw_n g = bw_n h := hf
  refine ⟨Nat.le_of_eq (hf.trans hc), ?_⟩
  rw [Option.map_some, hre]
  refine K _ ⟨ho, ⟨g, E, s0, rfl, hg, hf.trans hc⟩, fun q N F hq => ?_⟩
  obtain ⟨a1, a2, a3, a4⟩ := ha q N F hq
  refine ⟨a1, ?_, (fh_o a1).1.trans ((fh_o a1).1.symm.trans a3), (fh_o a1).2.trans ((fh_o a1).2.symm.trans a4)⟩
  show q < bw_n g + z
  rw [hf]; exact a2
/-- the law writes into an array of its own -/
theorem lb_si (hl : LB z c H S A) {q N k : Nat} {F : Nat → Int32} {v : Int32} (e : A q = some (N, F)) : LB z c (bw_si H q k v) S (bw_up A q (some (N, bw_up F k v))) := by
  obtain ⟨ho, ⟨h, E, s0, he, hx, hc⟩, ha⟩ := hl
  obtain ⟨b1, b2, b3, b4⟩ := ha q N F e
  refine ⟨ho, ⟨h, bw_si H q k v, s0, ?_, hx, hc⟩, fun q2 N2 F2 hq2 => ?_⟩
  · refine fh_eq (by rw [he]; rfl) (by rw [he]; rfl) (fun p x hp hpx => ?_)
    have hne : p ≠ q := fun w => by rw [w, b1] at hpx; cases hpx
    have hp2 : p < bw_n h + z := by
      have h3 : bw_n H = bw_n h + z := by rw [he]; rfl
      rw [← h3]; exact hp
    have h4 := fh_at (s0 := s0) (E := E) hp2 hpx
    rw [← he] at h4
    exact ⟨h4.1, (i_si_o hne).trans h4.2.1, h4.2.2⟩
  · by_cases h1 : q2 = q
    · subst h1
      rw [bw_up_s] at hq2
      cases hq2
      exact ⟨b1, b2, b3, by rw [i_si_s, b4]⟩
    · rw [bw_up_o h1] at hq2
      obtain ⟨d1, d2, d3, d4⟩ := ha q2 N2 F2 hq2
      exact ⟨d1, d2, d3, (i_si_o h1).trans d4⟩
/-- the law makes an array -/
theorem lb_nw (hl : LB z c H S A) (ho : okw (z + 1) c) {N : Nat} (e : pT (c + z) = none) : LB (z + 1) c (bw_nw H (.inr (.int, N)) N) S (bw_up A (c + z) (some (N, fun _ => 0))) := by
  have hn := lb_n hl
  obtain ⟨_, ⟨h, E, s0, he, hx, hc⟩, ha⟩ := hl
  refine ⟨ho, ⟨h, bw_nw H (.inr (.int, N)) N, s0 + N, ?_, hx, hc⟩, fun q2 N2 F2 hq2 => ?_⟩
  · refine fh_eq (by show bw_n H + 1 = bw_n h + (z + 1); omega) (by show bw_s H + N = bw_s h + (s0 + N); rw [he]; show bw_s h + s0 + N = _; omega) (fun p x hp hpx => ?_)
    have hne : p ≠ bw_n H := fun w => by rw [w, hn, e] at hpx; cases hpx
    have hp2 : p < bw_n h + z := by
      have h3 : p < bw_n H + 1 := hp
      omega
    have h4 := fh_at (s0 := s0) (E := E) hp2 hpx
    rw [← he] at h4
    have h5 := nw_o (h := H) (kd := .inr (.int, N)) (N := N) hne
    exact ⟨h5.1.trans h4.1, h5.2.1.trans h4.2.1, h5.2.2.1.trans h4.2.2.1, h5.2.2.2.trans h4.2.2.2⟩
  · by_cases h1 : q2 = c + z
    · subst h1
      rw [bw_up_s] at hq2
      cases hq2
      refine ⟨e, by show _ < bw_n H + 1; omega, ?_, ?_⟩
      · rw [← hn]; exact nwk_ _ _ _
      · rw [← hn]; exact nwi_ _ _ _
    · rw [bw_up_o h1] at hq2
      obtain ⟨d1, d2, d3, d4⟩ := ha q2 N2 F2 hq2
      have h5 := nw_o (h := H) (kd := .inr (.int, N)) (N := N) (q := q2) (by omega)
      exact ⟨d1, by show _ < bw_n H + 1; omega, h5.1.trans d3, h5.2.1.trans d4⟩
end LB1
/-- the beginning: behind the constructor, and the first array -/
theorem lb_0 {g : bw_H} (hn : bw_n g = 62) (hcl : cl g) (hx : XR (nm g) S00) : LB 1 62 (bw_nw g (.inr (.int, 28)) 28) S00 (bw_up (fun _ => none) 62 (some (28, fun _ => 0))) := by
  refine ⟨Or.inl ⟨rfl, rfl⟩, ⟨nm g, bw_nw g (.inr (.int, 28)) 28, 28, ?_, hx, hn⟩, fun q N F hq => ?_⟩
  · refine fh_eq (by show bw_n g + 1 = bw_n g + 1; rfl) rfl (fun p x hp hpx => ?_)
    have hp : p < bw_n g + 1 := hp
    have hne : p ≠ bw_n g := fun w => by
      rw [w, hn] at hpx; cases hpx
    have h5 := nw_o (h := g) (kd := .inr (.int, 28)) (N := 28) hne
    have h6 := pS_T p x hpx
    have hx62 : x < 62 := by
      unfold pS at h6
      repeat' split at h6
      all_goals omega
    have h7 : tT x = p := by
      rw [← h6]; unfold tT pS
      repeat' split
      all_goals omega
    refine ⟨h5.1.trans ?_, h5.2.1.trans ?_, h5.2.2.1.trans ?_, h5.2.2.2.trans ?_⟩
    · show bw_k g p = bw_k g (tT x); rw [h7]
    · show bw_i g p = bw_i g (tT x); rw [h7]
    · show bw_l g p = bw_l g (tT x); rw [h7]
    · funext j
      show bw_r g p j = ((bw_r g (tT x) j).map tS).map pS
      rw [h7]
      cases e : bw_r g p j with
      | none => rfl
      | some y =>
        have hy := hcl p j y e
        rw [hn] at hy
        show some y = some (pS (tS y))
        refine congrArg some ?_
        unfold pS tS
        repeat' split
        all_goals omega
  · by_cases h1 : q = 62
    · subst h1
      rw [bw_up_s] at hq
      cases hq
      refine ⟨rfl, by show 62 < bw_n g + 1; omega, ?_, ?_⟩
      · rw [← hn]; exact nwk_ _ _ _
      · rw [← hn]; exact nwi_ _ _ _
    · rw [bw_up_o h1] at hq; cases hq
