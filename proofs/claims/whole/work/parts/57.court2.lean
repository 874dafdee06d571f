/-! BearWitness: a court from a text -/
def nwA (C : CT) : AC := (C, fun _ => 0, fun _ => 0)
def yCourt (r : Int32) (S : ST) : Int32 × ST := if isn r 4 = true then (match sT S (rn r) with
    | none => (-3, fnd S 1)
    | some m => if (rdt (m, sTc S (rn r))).2.2 = none then (nI (cN (rdt (m, sTc S (rn r))).1), wK (wA S (nwA (rdt (m, sTc S (rn r))).1)) (fun _ => none)) else (-4, S)) else (-1, S)
theorem rbe_z (T : TX) (z : CT × RS) : cW (rbe T z).1 = cW z.1 ∧ cT (rbe T z).1 = cT z.1 := by
  unfold rbe
  split
  · exact ⟨rfl, rfl⟩
  · show cW (if _ then _ else _) = _ ∧ cT (if _ then _ else _) = _
    split
    · exact ⟨rfl, rfl⟩
    · exact ⟨rfl, rfl⟩
theorem lpf_z (T : TX) : ∀ (k i : Nat) (z : CT × RS), cW (lpf T k i z).1 = cW z.1 ∧ cT (lpf T k i z).1 = cT z.1
  | 0, _, _ => ⟨rfl, rfl⟩
  | k + 1, i, z => by
    show cW (if z.2.2 = none ∧ (i = 0 ∨ z.2.1 < T.1) then lpf T k (i + 1) ((rbe T z).1, skp T (rbe T z).2.1, (rbe T z).2.2) else z).1 = _ ∧ cT (if z.2.2 = none ∧ (i = 0 ∨ z.2.1 < T.1) then lpf T k (i + 1) ((rbe T z).1, skp T (rbe T z).2.1, (rbe T z).2.2) else z).1 = _
    split
    · have h1 := lpf_z T k (i + 1) ((rbe T z).1, skp T (rbe T z).2.1, (rbe T z).2.2)
      have h2 := rbe_z T z
      exact ⟨h1.1.trans h2.1, h1.2.trans h2.2⟩
    · exact ⟨rfl, rfl⟩
theorem rdt_z (T : TX) : cW (rdt T).1 = 0 ∧ cT (rdt T).1 = 0 := by
  unfold rdt
  split
  · exact lpf_z T 7 0 _
  · exact ⟨rfl, rfl⟩
theorem nw_e {C : CT} (h1 : cW C = 0) (h2 : cT C = 0) : hsT (nwA C) (cT C) = C := by
  obtain ⟨n, d, w, x, k, e, r, v⟩ := C
  have h3 : w = 0 := h1
  have h4 : x = 0 := h2
  subst h3; subst h4
  rfl
theorem nw_k {C : CT} (h1 : cW C = 0) (h2 : cT C = 0) (hk : co_k C) : ac_k (nwA C) := by
  obtain ⟨n, d, w, x, k, e, r, v⟩ := C
  have h3 : w = 0 := h1
  have h4 : x = 0 := h2
  subst h3; subst h4
  exact ⟨hk, Nat.zero_le _, fun j hj => absurd hj (Nat.not_lt_zero j)⟩
theorem xr_k3 {h : bw_H} {S : ST} {kp : Nat → Option AC} (hx : XR h S) (e : ∀ k, k < 3 → sK S k = kp k) : XR h (wK S kp) := by
  obtain ⟨h1, h2, h3, h4, h6, h7, h8⟩ := hx
  refine ⟨h1, h2, h3, h4, ⟨fun k hk => ?_, h6.2⟩, h7, h8⟩
  have h9 := h6.1 k hk
  rw [e k hk] at h9
  exact h9
