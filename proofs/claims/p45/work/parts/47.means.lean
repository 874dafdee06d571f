/-! BearWitness: means, faults, what is asked -/
def yMean (r : Int32) (S : ST) : Int32 × ST := if isn r 6 = true then (match sR S (rn r) with
    | none => (-3, fnd S 1)
    | some m => if m = 0 then (-3, fnd S 4) else (1, wQ S (sml (sRc S (rn r)) 0 m / (nI m).toInt64).toInt32)) else (-1, S)
def yFault (r : Int32) (S : ST) : Int32 × ST := if isn r 4 = true then (match sT S (rn r) with
    | none => (-3, fnd S 1)
    | some m => (mtI (rdt (m, sTc S (rn r))).2.2, S)) else (-1, S)
theorem sml_c {F G : Nat → Int32} {b m : Nat} (h : ∀ i, i < m → F (b + i) = G i) : sml F b m = sml G 0 m := by
  induction m with
  | zero => rfl
  | succ m ih =>
    show sml F b m + (F (b + m)).toInt64 = sml G 0 m + (G (0 + m)).toInt64
    rw [ih (fun i hi => h i (by omega)), h m (by omega), Nat.zero_add]
theorem nI_l0 {m : Nat} (h0 : m ≠ 0) (h : m < 1000) : ¬ (nI m).toInt64 = 0 := fun z => by
  have h1 : (nI m).toInt64.toInt = (0 : Int64).toInt := congrArg _ z
  rw [Int32.toInt_toInt64, nI_toInt (by omega)] at h1
  have l_0 : (0 : Int64).toInt = 0 := rfl
  omega
/-- what the reader reads -/
theorem xr_rx {h : bw_H} {S : ST} {j m : Nat} (hx : XR h S) (hj : j < 4) (e : sT S j = some m) : sx h 38 60 6 4 60 j (m, sTc S j) := by
  obtain ⟨h1, h2, h3⟩ := hx.2.2.1.2 j hj
  rw [e] at h1 h2
  exact ⟨⟨hx.1.2.2.1.1, hx.1.2.2.1.2.1, hx.1.2.2.1.2.2.1⟩, hx.1.2.2.1.2.2.2, hx.2.2.1.1, hj, h1, h2, h2 m rfl, fun i hi => h3 m e i hi, by decide, by decide, by decide⟩
set_option maxRecDepth 100000 in
set_option maxHeartbeats 4000000 in
theorem me_X7_asked {X : Nat × (Nat → Int32)} {Q : Option Value → bw_H → Prop} {h : bw_H} {S : ST} (hx : XR h S) (hQ : PX h Q (sQ S, S)) : bw_me X 0 bm_X7_asked false [.ref 0] h Q := by
  show bw_go _ 0 7 1 false (some .int) cX7_asked 0 [(0, .ref _)] [] _ _
  refine go_aload_n dX7_asked_0 rfl ?_
  refine go_gfi dX7_asked_1 fl_7_76 rfl hx.1.1.1 hx.1.1.2.1 ?_
  rw [hx.2.2.2.2.2.2.2.1]
  refine go_iret dX7_asked_4 rfl rfl ?_
  exact hQ h hx (frM_r h)
set_option maxRecDepth 100000 in
set_option maxHeartbeats 4000000 in
theorem me_X7_upper {X : Nat × (Nat → Int32)} {Q : Option Value → bw_H → Prop} {h : bw_H} {S : ST} (hx : XR h S) (hQ : ∀ g, XR g S → frM h g → Q (some (.long (sU S))) g) : bw_me X 0 bm_X7_upper false [.ref 0] h Q := by
  show bw_go _ 0 7 1 false (some .long) cX7_upper 0 [(0, .ref _)] [] _ _
  refine go_aload_n dX7_upper_0 rfl ?_
  refine go_gfl dX7_upper_1 fl_7_79 rfl hx.1.1.1 hx.1.1.2.1 ?_
  rw [hx.2.2.2.2.2.2.2.2.1]
  refine go_lret dX7_upper_4 rfl ?_
  exact hQ h hx (frM_r h)
set_option maxRecDepth 100000 in
set_option maxHeartbeats 4000000 in
theorem me_X7_lower {X : Nat × (Nat → Int32)} {Q : Option Value → bw_H → Prop} {h : bw_H} {S : ST} (hx : XR h S) (hQ : ∀ g, XR g S → frM h g → Q (some (.long (sO S))) g) : bw_me X 0 bm_X7_lower false [.ref 0] h Q := by
  show bw_go _ 0 7 1 false (some .long) cX7_lower 0 [(0, .ref _)] [] _ _
  refine go_aload_n dX7_lower_0 rfl ?_
  refine go_gfl dX7_lower_1 fl_7_83 rfl hx.1.1.1 hx.1.1.2.1 ?_
  rw [hx.2.2.2.2.2.2.2.2.2]
  refine go_lret dX7_lower_4 rfl ?_
  exact hQ h hx (frM_r h)
def yFindings (f : Int32) (S : ST) : Int32 × ST := if 1 ≤ f.toInt ∧ f.toInt ≤ 5 then (sF S (rn f), S) else (-1, S)
