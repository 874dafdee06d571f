/-! the state that a BearWitness keeps, and where it lies -/
abbrev ST : Type := ((Nat → Option Nat) × (Nat → Nat → Int32)) × ((Nat → Option Nat) × (Nat → Nat → Int32)) × AC × (Nat → Option AC) × (Nat → Int32) × Int32 × Int32 × Int64 × Int64
def sR (S : ST) : Nat → Option Nat := S.1.1
def sRc (S : ST) : Nat → Nat → Int32 := S.1.2
def sT (S : ST) : Nat → Option Nat := S.2.1.1
def sTc (S : ST) : Nat → Nat → Int32 := S.2.1.2
def sA (S : ST) : AC := S.2.2.1
def sK (S : ST) : Nat → Option AC := S.2.2.2.1
def sF (S : ST) : Nat → Int32 := S.2.2.2.2.1
def sL (S : ST) : Int32 := S.2.2.2.2.2.1
def sQ (S : ST) : Int32 := S.2.2.2.2.2.2.1
def sU (S : ST) : Int64 := S.2.2.2.2.2.2.2.1
def sO (S : ST) : Int64 := S.2.2.2.2.2.2.2.2
def wR (S : ST) (s : Nat → Option Nat) (c : Nat → Nat → Int32) : ST := ((s, c), S.2)
def wT (S : ST) (s : Nat → Option Nat) (c : Nat → Nat → Int32) : ST := (S.1, (s, c), S.2.2)
def wA (S : ST) (A : AC) : ST := (S.1, S.2.1, A, S.2.2.2)
def wK (S : ST) (k : Nat → Option AC) : ST := (S.1, S.2.1, S.2.2.1, k, S.2.2.2.2)
def wQ (S : ST) (v : Int32) : ST := (S.1, S.2.1, S.2.2.1, S.2.2.2.1, S.2.2.2.2.1, S.2.2.2.2.2.1, v, S.2.2.2.2.2.2.2)
def wU (S : ST) (u o : Int64) : ST := (S.1, S.2.1, S.2.2.1, S.2.2.2.1, S.2.2.2.2.1, S.2.2.2.2.2.1, S.2.2.2.2.2.2.1, u, o)
def fnd (S : ST) (f : Nat) : ST := (S.1, S.2.1, S.2.2.1, S.2.2.2.1, bw_up (sF S) f (sF S f + 1), nI f, S.2.2.2.2.2.2)
def shR (h : bw_H) (p num wid : Nat) (s : Nat → Option Nat) (c : Nat → Nat → Int32) : Prop := bw_sf h p num wid ∧ ∀ r, r < num → bw_i h (p + 2) r = oz (s r) ∧ sok (s r) wid ∧ ∀ m, s r = some m → ∀ i, i < m → bw_i h (p + 4) (r * wid + i) = c r i
def XS (h : bw_H) : Prop := (0 < bw_n h ∧ bw_k h 0 = .inl 7 ∧ bw_r h 0 0 = some 1 ∧ bw_r h 0 1 = some 6 ∧ bw_r h 0 2 = some 11 ∧ bw_r h 0 3 = some 24 ∧ bw_r h 0 4 = some 37 ∧ bw_r h 0 5 = some 38 ∧ bw_r h 0 6 = some 39 ∧ bw_r h 0 7 = some 46 ∧ bw_r h 0 8 = some 51 ∧ bw_r h 0 9 = some 58) ∧ (37 < bw_n h ∧ bw_k h 37 = .inr (.object RX1, 3)) ∧ (38 < bw_n h ∧ bw_k h 38 = .inl 3 ∧ bw_r h 38 0 = some 60 ∧ bw_ce h 60 61 60) ∧ co_s h 24 ∧ lk_s h 39 ∧ ta_s h 46 ∧ tt_s h 51 ∧ bw_ce h 58 59 6 ∧ 62 ≤ bw_n h
def xkp (h : bw_H) (kp : Nat → Option AC) : Prop := (∀ k, k < 3 → (bw_r h 37 k = none ∧ kp k = none) ∨ ∃ q, bw_r h 37 k = some q ∧ 62 ≤ q ∧ q + 13 ≤ bw_n h ∧ co_s h q ∧ (kp k = none → bw_i h q 0 = 0) ∧ ∀ A, kp k = some A → xco h q A (cT A.1) ∧ ac_k A ∧ 0 < cN A.1) ∧
  ∀ k l, k < 3 → l < 3 → k ≠ l → ∀ q q2, bw_r h 37 k = some q → bw_r h 37 l = some q2 → bw_apart q q2
def xfl (h : bw_H) (S : ST) : Prop := bw_i h 0 10 = sL S ∧ bw_i h 0 11 = sQ S ∧ bw_l h 0 12 = sU S ∧ bw_l h 0 13 = sO S
def XR (h : bw_H) (S : ST) : Prop := XS h ∧ shR h 1 6 40 (sR S) (sRc S) ∧ shR h 6 4 60 (sT S) (sTc S) ∧ (xco h 11 (sA S) (cT (sA S).1) ∧ ac_k (sA S)) ∧ xkp h (sK S) ∧ (∀ f, f < 6 → bw_i h 59 f = sF S f) ∧ xfl h S
theorem sf_wi {h : bw_H} {p num wid : Nat} {I : Nat → Nat → Int32} (hc : bw_sf h p num wid) (e : I p = bw_i h p) : bw_sf (bw_wi h I) p num wid := by
  obtain ⟨b1, b2, b3, b4, b5, b6⟩ := hc
  exact ⟨b1, b2, b3, by rw [i_wi, e]; exact b4, by rw [i_wi, e]; exact b5, b6⟩
theorem shR_wi {h : bw_H} {p num wid : Nat} {s : Nat → Option Nat} {c : Nat → Nat → Int32} {I : Nat → Nat → Int32} (hx : shR h p num wid s c) (e0 : I p = bw_i h p) (e2 : I (p + 2) = bw_i h (p + 2)) (e4 : I (p + 4) = bw_i h (p + 4)) : shR (bw_wi h I) p num wid s c :=
  ⟨sf_wi hx.1 e0, fun r hr => by rw [i_wi, e2, e4]; exact hx.2 r hr⟩
theorem xco_wi {h : bw_H} {p k : Nat} {A : AC} {I : Nat → Nat → Int32} (hx : xco h p A k) (e : ∀ q, co_pl p q → I q = bw_i h q) : xco (bw_wi h I) p A k := by
  unfold co_pl at e
  refine ⟨ct_i hx.1 hx.1.1 (e _ (by omega)) (e _ (by omega)) (e _ (by omega)) (e _ (by omega)) (e _ (by omega)), fun j hj => ?_⟩
  rw [i_wi, e _ (by omega), e _ (by omega)]
  exact hx.2 j hj
theorem xkp_wi {h : bw_H} {kp : Nat → Option AC} {I : Nat → Nat → Int32} (hx : xkp h kp) (e : ∀ q, 62 ≤ q → I q = bw_i h q) : xkp (bw_wi h I) kp := by
  refine ⟨fun k hk => ?_, hx.2⟩
  rcases hx.1 k hk with h1 | ⟨q, h1, h2, h3, h4, h5, h6⟩
  · exact Or.inl h1
  · refine Or.inr ⟨q, h1, h2, h3, h4, fun z => ?_, fun A hA => ?_⟩
    · rw [i_wi, e q h2]; exact h5 z
    · obtain ⟨g1, g2, g3⟩ := h6 A hA
      exact ⟨xco_wi g1 (fun x hx1 => e x (by unfold co_pl at hx1; omega)), g2, g3⟩
/-- what lies at scratch places tells nothing of the state -/
theorem xr_sc {h : bw_H} {S : ST} {I : Nat → Nat → Int32} (hx : XR h S) (e : ∀ q, ¬ ((24 ≤ q ∧ q < 58) ∨ q = 61) → I q = bw_i h q) : XR (bw_wi h I) S := by
  obtain ⟨h1, h2, h3, ⟨h4, h5⟩, h6, h7, h8⟩ := hx
  refine ⟨h1, shR_wi h2 (e _ (by omega)) (e _ (by omega)) (e _ (by omega)), shR_wi h3 (e _ (by omega)) (e _ (by omega)) (e _ (by omega)), ⟨xco_wi h4 (fun q hq => e q (by unfold co_pl at hq; omega)), h5⟩, xkp_wi h6 (fun q hq => e q (by omega)), ?_, ?_⟩
  · rw [i_wi, e _ (by omega)]; exact h7
  · unfold xfl; rw [i_wi, e _ (by omega)]; exact h8
theorem xr_la {h : bw_H} {S : ST} (hx : XR h S) (v : Int32) : XR (bw_si h 0 11 v) (wQ S v) := by
  obtain ⟨h1, h2, h3, ⟨h4, h5⟩, h6, h7, h8⟩ := hx
  have e : ∀ q, q ≠ 0 → bw_i (bw_si h 0 11 v) q = bw_i h q := fun q hq => i_si_o hq
  refine ⟨h1, shR_wi (I := bw_i (bw_si h 0 11 v)) h2 (e _ (by omega)) (e _ (by omega)) (e _ (by omega)), shR_wi (I := bw_i (bw_si h 0 11 v)) h3 (e _ (by omega)) (e _ (by omega)) (e _ (by omega)), ⟨xco_wi (I := bw_i (bw_si h 0 11 v)) h4 (fun q hq => e q (by unfold co_pl at hq; omega)), h5⟩, xkp_wi (I := bw_i (bw_si h 0 11 v)) h6 (fun q hq => e q (by omega)), ?_, ?_⟩
  · rw [e _ (by omega)]; exact h7
  · refine ⟨?_, ?_, h8.2.2.1, h8.2.2.2⟩
    · rw [i_si_s, bw_up_o (by decide)]; exact h8.1
    · rw [i_si_s, bw_up_s]; rfl
theorem xr_fnd {h : bw_H} {S : ST} (hx : XR h S) {f : Nat} (hf : f < 6) : XR (bw_sa (bw_si h 0 10 (nI f)) 59 (bw_up (bw_i h 59) f (bw_i h 59 f + 1))) (fnd S f) := by
  obtain ⟨h1, h2, h3, ⟨h4, h5⟩, h6, h7, h8⟩ := hx
  generalize hg : bw_sa (bw_si h 0 10 (nI f)) 59 (bw_up (bw_i h 59) f (bw_i h 59 f + 1)) = g
  have eg : g = bw_wi h (bw_i g) := by rw [← hg]; rfl
  have e : ∀ q, q ≠ 0 → q ≠ 59 → bw_i g q = bw_i h q := fun q hq h9 => by rw [← hg, i_sa_o h9, i_si_o hq]
  have e59 : bw_i g 59 = bw_up (bw_i h 59) f (bw_i h 59 f + 1) := by rw [← hg, i_sa_s]
  have e0 : bw_i g 0 = bw_up (bw_i h 0) 10 (nI f) := by rw [← hg, i_sa_o (by decide), i_si_s]
  rw [eg]
  refine ⟨h1, shR_wi h2 (e _ (by omega) (by omega)) (e _ (by omega) (by omega)) (e _ (by omega) (by omega)), shR_wi h3 (e _ (by omega) (by omega)) (e _ (by omega) (by omega)) (e _ (by omega) (by omega)), ⟨xco_wi h4 (fun q hq => e q (by unfold co_pl at hq; omega) (by unfold co_pl at hq; omega)), h5⟩, xkp_wi h6 (fun q hq => e q (by omega) (by omega)), ?_, ?_⟩
  · intro x hx1
    rw [i_wi, e59]
    show _ = bw_up (sF S) f (sF S f + 1) x
    by_cases hxf : x = f
    · subst hxf; rw [bw_up_s, bw_up_s, h7 x hx1]
    · rw [bw_up_o hxf, bw_up_o hxf]; exact h7 x hx1
  · refine ⟨?_, ?_, h8.2.2.1, h8.2.2.2⟩
    · rw [i_wi, e0, bw_up_s]; rfl
    · rw [i_wi, e0, bw_up_o (by decide)]; exact h8.2.1
/-- rows, or texts, changed -/
theorem xr_rows {h : bw_H} {S : ST} {I : Nat → Nat → Int32} {s : Nat → Option Nat} {c : Nat → Nat → Int32} (hx : XR h S) (e : ∀ q, q ≠ 3 → q ≠ 5 → I q = bw_i h q) (hn : shR (bw_wi h I) 1 6 40 s c) : XR (bw_wi h I) (wR S s c) := by
  obtain ⟨h1, h2, h3, ⟨h4, h5⟩, h6, h7, h8⟩ := hx
  refine ⟨h1, hn, shR_wi h3 (e _ (by omega) (by omega)) (e _ (by omega) (by omega)) (e _ (by omega) (by omega)), ⟨xco_wi h4 (fun q hq => e q (by unfold co_pl at hq; omega) (by unfold co_pl at hq; omega)), h5⟩, xkp_wi h6 (fun q hq => e q (by omega) (by omega)), ?_, ?_⟩
  · rw [i_wi, e _ (by omega) (by omega)]; exact h7
  · unfold xfl; rw [i_wi, e _ (by omega) (by omega)]; exact h8
theorem xr_txts {h : bw_H} {S : ST} {I : Nat → Nat → Int32} {s : Nat → Option Nat} {c : Nat → Nat → Int32} (hx : XR h S) (e : ∀ q, q ≠ 8 → q ≠ 10 → I q = bw_i h q) (hn : shR (bw_wi h I) 6 4 60 s c) : XR (bw_wi h I) (wT S s c) := by
  obtain ⟨h1, h2, h3, ⟨h4, h5⟩, h6, h7, h8⟩ := hx
  refine ⟨h1, shR_wi h2 (e _ (by omega) (by omega)) (e _ (by omega) (by omega)) (e _ (by omega) (by omega)), hn, ⟨xco_wi h4 (fun q hq => e q (by unfold co_pl at hq; omega) (by unfold co_pl at hq; omega)), h5⟩, xkp_wi h6 (fun q hq => e q (by omega) (by omega)), ?_, ?_⟩
  · rw [i_wi, e _ (by omega) (by omega)]; exact h7
  · unfold xfl; rw [i_wi, e _ (by omega) (by omega)]; exact h8
