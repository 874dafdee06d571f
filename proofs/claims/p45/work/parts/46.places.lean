/-! BearWitness: places of rows and texts -/
def yAt (r i : Int32) (S : ST) : Int32 × ST := if isn r 6 = true then (if mis (sR S (rn r)) i = 0 then (1, wQ S (sRc S (rn r) (rn i))) else (-3, fnd S (mis (sR S (rn r)) i))) else (-1, S)
def yLay (r i v : Int32) (S : ST) : Int32 × ST := if isn r 6 = true then (if mis (sR S (rn r)) i = 0 then (1, wR (wQ S (sRc S (rn r) (rn i))) (sR S) (bw_up (sRc S) (rn r) (bw_up (sRc S (rn r)) (rn i) v))) else (-3, fnd S (mis (sR S (rn r)) i))) else (-1, S)
def yText (r n : Int32) (S : ST) : Int32 × ST := if isn r 4 = true ∧ n.toInt ≤ 60 then (if n.toInt < 0 then (-3, fnd S 5) else (n, wT S (bw_up (sT S) (rn r) (some (rn n))) (bw_up (sTc S) (rn r) (fun _ => 32)))) else (-1, S)
def yPut (r i v : Int32) (S : ST) : Int32 × ST := if isn r 4 = true then (if mis (sT S (rn r)) i = 0 then (sTc S (rn r) (rn i) + 1000, wT S (sT S) (bw_up (sTc S) (rn r) (bw_up (sTc S (rn r)) (rn i) v.toInt8.toInt32))) else (-3, fnd S (mis (sT S (rn r)) i))) else (-1, S)
theorem mis_lt (s : Option Nat) (i : Int32) : mis s i < 3 := by
  unfold mis
  split
  · decide
  · split <;> decide
theorem mis_0 {s : Option Nat} {i : Int32} (h : nI (mis s i) = 0) : mis s i = 0 := by
  have h1 := mis_lt s i
  exact (nI_eq (b := 0) (by omega) (by omega)).mp h
theorem mis_n {s : Option Nat} {i : Int32} (h : ¬ nI (mis s i) = 0) : ¬ mis s i = 0 := fun z => h (by rw [z]; rfl)
theorem gcell {h : bw_H} {p num wid j : Nat} {s : Nat → Option Nat} {c : Nat → Nat → Int32} {i : Int32} (hx : shR h p num wid s c) (hj : j < num) (h0 : mis (s j) i = 0) : pin (s j) i = true ∧ rn i < wid ∧ bw_i h (p + 4) (j * wid + i.toNatClampNeg) = c j (rn i) := by
  obtain ⟨h1, h2, h3⟩ := hx.2 j hj
  cases e : s j with
  | none => rw [e] at h0; cases h0
  | some m =>
    rw [e] at h0
    have hp : pin (some m) i = true := by
      cases e2 : pin (some m) i with
      | true => rfl
      | false =>
        unfold mis at h0
        simp only at h0
        rw [if_neg (by rw [e2]; decide)] at h0
        cases h0
    have h4 := of_decide_eq_true (show decide (0 ≤ i.toInt ∧ i.toInt < m) = true from hp)
    have h5 := h2 m e
    have h6 : i.toNatClampNeg < m := by rw [Int32.toNatClampNeg]; omega
    exact ⟨hp, Nat.lt_of_lt_of_le h6 h5, h3 m e _ h6⟩
set_option maxRecDepth 100000 in
set_option maxHeartbeats 4000000 in
theorem me_X7_at {X : Nat × (Nat → Int32)} {Q : Option Value → bw_H → Prop} {h : bw_H} {S : ST} {r i : Int32} (hx : XR h S) (hQ : PX h Q (yAt r i S)) : bw_me X 4 bm_X7_at false [.ref 0, .int r, .int i] h Q := by
  show bw_go _ 4 7 4 false (some .int) cX7_at 0 [(0, .ref _), (1, .int _), (2, .int _)] [] _ _
  refine go_aload_n dX7_at_0 rfl ?_
  refine go_gfr dX7_at_1 fl_7_14 rfl hx.1.1.1 hx.1.1.2.1 hx.1.1.2.2.1 ?_
  refine go_iload_n dX7_at_4 rfl ?_
  refine go_cv (as := [.int _]) 0 dX7_at_5 mt_7_86 (Or.inr rfl) rfl rfl hx.2.1.1.1.1 hx.2.1.1.1.2.1 (Nat.le_of_ble_eq_true rfl) (Nat.le_of_ble_eq_true rfl) (Nat.le_of_ble_eq_true rfl) (Nat.le_of_ble_eq_true rfl) (Nat.le_of_ble_eq_true rfl) ?_
  refine me_X4_isNumber hx.2.1.1 ?_
  show bw_go _ _ _ _ _ _ _ 8 [(0, .ref _), (1, .int _), (2, .int _)] ((.int _) :: []) _ _
  refine go_ifb_ne (pc' := 13) dX7_at_8 rfl (fun c_8 => ?_) (fun c_8 => ?_)
  · -- ne at 8: yes
    show bw_go _ _ _ _ _ _ _ 13 [(0, .ref _), (1, .int _), (2, .int _)] ([]) _ _
    obtain ⟨j, hj, rfl⟩ := isn_ex c_8 (by decide)
    refine go_aload_n dX7_at_13 rfl ?_
    refine go_gfr dX7_at_14 fl_7_14 rfl hx.1.1.1 hx.1.1.2.1 hx.1.1.2.2.1 ?_
    refine go_iload_n dX7_at_17 rfl ?_
    refine go_iload_n dX7_at_18 rfl ?_
    refine go_cs (as := [.ref _, .int _, .int _]) 3 dX7_at_19 rfl rfl mt_7_98 (Nat.le_of_ble_eq_true rfl) rfl rfl (Nat.le_of_ble_eq_true rfl) (Nat.le_of_ble_eq_true rfl) (Nat.le_of_ble_eq_true rfl) (Nat.le_of_ble_eq_true rfl) ?_
    refine me_X7_missingPlace hx.2.1.1 hj (hx.2.1.2 j hj).1 (hx.2.1.2 j hj).2.1 ?_
    show bw_go _ _ _ _ _ _ _ 22 [(0, .ref _), (1, .int _), (2, .int _)] ((.int _) :: []) _ _
    refine go_istore_n dX7_at_22 (Nat.lt_of_lt_of_le (Nat.lt_succ_self _) (Nat.le_of_ble_eq_true rfl)) ?_
    show bw_go _ _ _ _ _ _ _ 23 [(3, .int _), (0, .ref _), (1, .int _), (2, .int _)] ([]) _ _
    refine go_iload_n dX7_at_23 rfl ?_
    refine go_if_eq (pc' := 33) dX7_at_24 rfl (fun c_24 => ?_) (fun c_24 => ?_)
    · -- eq at 24: yes
      show bw_go _ _ _ _ _ _ _ 33 [(3, .int _), (0, .ref _), (1, .int _), (2, .int _)] ([]) _ _
      refine go_aload_n dX7_at_33 rfl ?_
      refine go_aload_n dX7_at_34 rfl ?_
      refine go_gfr dX7_at_35 fl_7_14 rfl hx.1.1.1 hx.1.1.2.1 hx.1.1.2.2.1 ?_
      refine go_iload_n dX7_at_38 rfl ?_
      refine go_iload_n dX7_at_39 rfl ?_
      refine go_cv (as := [.int _, .int _]) 3 dX7_at_40 mt_7_102 (Or.inr rfl) rfl rfl hx.2.1.1.1.1 hx.2.1.1.1.2.1 (Nat.le_of_ble_eq_true rfl) (Nat.le_of_ble_eq_true rfl) (Nat.le_of_ble_eq_true rfl) (Nat.le_of_ble_eq_true rfl) (Nat.le_of_ble_eq_true rfl) ?_
      obtain ⟨g1, g2, g3⟩ := gcell hx.2.1 hj (mis_0 c_24)
      refine me_X4_get hx.2.1.1 hj (hx.2.1.2 j hj).1 (hx.2.1.2 j hj).2.1 ?_
      rw [if_pos g1, g3]
      show bw_go _ _ _ _ _ _ _ 43 [(3, .int _), (0, .ref _), (1, .int _), (2, .int _)] ((.int _) :: (.ref _) :: []) _ _
      refine go_pfi dX7_at_43 fl_7_76 rfl hx.1.1.1 hx.1.1.2.1 (Nat.le_of_ble_eq_true rfl) (Or.inl rfl) ?_
      show bw_go _ _ _ _ _ _ _ 46 [(3, .int _), (0, .ref _), (1, .int _), (2, .int _)] ([]) _ _
      refine go_iconst (1) dX7_at_46 rfl ?_
      refine go_iret dX7_at_47 rfl rfl ?_
      refine q_x hQ ?_ (xr_la hx _) (frM_wi rfl (fun q h1 h2 => ?_))
      · unfold yAt
        rw [if_pos (show isn (nI j) 6 = true from c_8), rn_n (by omega), if_pos (mis_0 c_24)]
      · rw [i_si_o (by omega)]
    · -- eq at 24: no
      show bw_go _ _ _ _ _ _ _ 27 [(3, .int _), (0, .ref _), (1, .int _), (2, .int _)] ([]) _ _
      refine go_aload_n dX7_at_27 rfl ?_
      refine go_iload_n dX7_at_28 rfl ?_
      refine go_cv (as := [.int _]) 1 dX7_at_29 mt_7_90 (Or.inl rfl) rfl rfl hx.1.1.1 hx.1.1.2.1 (Nat.le_of_ble_eq_true rfl) (Nat.le_of_ble_eq_true rfl) (Nat.le_of_ble_eq_true rfl) (Nat.le_of_ble_eq_true rfl) (Nat.le_of_ble_eq_true rfl) ?_
      refine me_X7_found hx (f := mis (sR S j) i) (by have := mis_lt (sR S j) i; omega) (fun g hg hf => ?_)
      show bw_go _ _ _ _ _ _ _ 32 [(3, .int _), (0, .ref _), (1, .int _), (2, .int _)] ((.int _) :: []) _ _
      refine go_iret dX7_at_32 rfl rfl ?_
      refine q_x hQ ?_ hg hf
      unfold yAt
      rw [if_pos (show isn (nI j) 6 = true from c_8), rn_n (by omega), if_neg (mis_n c_24)]
  · -- ne at 8: no
    show bw_go _ _ _ _ _ _ _ 11 [(0, .ref _), (1, .int _), (2, .int _)] ([]) _ _
    refine go_iconst (-1) dX7_at_11 rfl ?_
    refine go_iret dX7_at_12 rfl rfl ?_
    refine q_x hQ ?_ hx (frM_r h)
    unfold yAt
    rw [if_neg (fun z => Bool.noConfusion ((show isn r 6 = false from c_8).symm.trans z))]
set_option maxRecDepth 100000 in
set_option maxHeartbeats 4000000 in
theorem me_X7_lay {X : Nat × (Nat → Int32)} {Q : Option Value → bw_H → Prop} {h : bw_H} {S : ST} {r i v : Int32} (hx : XR h S) (hQ : PX h Q (yLay r i v S)) : bw_me X 4 bm_X7_lay false [.ref 0, .int r, .int i, .int v] h Q := by
  show bw_go _ 4 7 5 false (some .int) cX7_lay 0 [(0, .ref _), (1, .int _), (2, .int _), (3, .int _)] [] _ _
  refine go_aload_n dX7_lay_0 rfl ?_
  refine go_gfr dX7_lay_1 fl_7_14 rfl hx.1.1.1 hx.1.1.2.1 hx.1.1.2.2.1 ?_
  refine go_iload_n dX7_lay_4 rfl ?_
  refine go_cv (as := [.int _]) 0 dX7_lay_5 mt_7_86 (Or.inr rfl) rfl rfl hx.2.1.1.1.1 hx.2.1.1.1.2.1 (Nat.le_of_ble_eq_true rfl) (Nat.le_of_ble_eq_true rfl) (Nat.le_of_ble_eq_true rfl) (Nat.le_of_ble_eq_true rfl) (Nat.le_of_ble_eq_true rfl) ?_
  refine me_X4_isNumber hx.2.1.1 ?_
  show bw_go _ _ _ _ _ _ _ 8 [(0, .ref _), (1, .int _), (2, .int _), (3, .int _)] ((.int _) :: []) _ _
  refine go_ifb_ne (pc' := 13) dX7_lay_8 rfl (fun c_8 => ?_) (fun c_8 => ?_)
  · -- ne at 8: yes
    show bw_go _ _ _ _ _ _ _ 13 [(0, .ref _), (1, .int _), (2, .int _), (3, .int _)] ([]) _ _
    obtain ⟨j, hj, rfl⟩ := isn_ex c_8 (by decide)
    refine go_aload_n dX7_lay_13 rfl ?_
    refine go_gfr dX7_lay_14 fl_7_14 rfl hx.1.1.1 hx.1.1.2.1 hx.1.1.2.2.1 ?_
    refine go_iload_n dX7_lay_17 rfl ?_
    refine go_iload_n dX7_lay_18 rfl ?_
    refine go_cs (as := [.ref _, .int _, .int _]) 3 dX7_lay_19 rfl rfl mt_7_98 (Nat.le_of_ble_eq_true rfl) rfl rfl (Nat.le_of_ble_eq_true rfl) (Nat.le_of_ble_eq_true rfl) (Nat.le_of_ble_eq_true rfl) (Nat.le_of_ble_eq_true rfl) ?_
    refine me_X7_missingPlace hx.2.1.1 hj (hx.2.1.2 j hj).1 (hx.2.1.2 j hj).2.1 ?_
    show bw_go _ _ _ _ _ _ _ 22 [(0, .ref _), (1, .int _), (2, .int _), (3, .int _)] ((.int _) :: []) _ _
    refine go_istore dX7_lay_22 (Nat.lt_of_lt_of_le (Nat.lt_succ_self _) (Nat.le_of_ble_eq_true rfl)) ?_
    show bw_go _ _ _ _ _ _ _ 24 [(4, .int _), (0, .ref _), (1, .int _), (2, .int _), (3, .int _)] ([]) _ _
    refine go_iload dX7_lay_24 rfl ?_
    refine go_if_eq (pc' := 36) dX7_lay_26 rfl (fun c_26 => ?_) (fun c_26 => ?_)
    · -- eq at 26: yes
      show bw_go _ _ _ _ _ _ _ 36 [(4, .int _), (0, .ref _), (1, .int _), (2, .int _), (3, .int _)] ([]) _ _
      refine go_aload_n dX7_lay_36 rfl ?_
      refine go_aload_n dX7_lay_37 rfl ?_
      refine go_gfr dX7_lay_38 fl_7_14 rfl hx.1.1.1 hx.1.1.2.1 hx.1.1.2.2.1 ?_
      refine go_iload_n dX7_lay_41 rfl ?_
      refine go_iload_n dX7_lay_42 rfl ?_
      refine go_cv (as := [.int _, .int _]) 3 dX7_lay_43 mt_7_102 (Or.inr rfl) rfl rfl hx.2.1.1.1.1 hx.2.1.1.1.2.1 (Nat.le_of_ble_eq_true rfl) (Nat.le_of_ble_eq_true rfl) (Nat.le_of_ble_eq_true rfl) (Nat.le_of_ble_eq_true rfl) (Nat.le_of_ble_eq_true rfl) ?_
      obtain ⟨g1, g2, g3⟩ := gcell hx.2.1 hj (mis_0 c_26)
      refine me_X4_get hx.2.1.1 hj (hx.2.1.2 j hj).1 (hx.2.1.2 j hj).2.1 ?_
      rw [if_pos g1, g3]
      show bw_go _ _ _ _ _ _ _ 46 [(4, .int _), (0, .ref _), (1, .int _), (2, .int _), (3, .int _)] ((.int _) :: (.ref _) :: []) _ _
      refine go_pfi dX7_lay_46 fl_7_76 rfl hx.1.1.1 hx.1.1.2.1 (Nat.le_of_ble_eq_true rfl) (Or.inl rfl) ?_
      show bw_go _ _ _ _ _ _ _ 49 [(4, .int _), (0, .ref _), (1, .int _), (2, .int _), (3, .int _)] ([]) _ _
      refine go_aload_n dX7_lay_49 rfl ?_
      refine go_gfr dX7_lay_50 fl_7_14 rfl hx.1.1.1 hx.1.1.2.1 hx.1.1.2.2.1 ?_
      refine go_iload_n dX7_lay_53 rfl ?_
      refine go_iload_n dX7_lay_54 rfl ?_
      refine go_iload_n dX7_lay_55 rfl ?_
      refine go_cv (as := [.int _, .int _, .int _]) 3 dX7_lay_56 mt_7_106 (Or.inr rfl) rfl rfl hx.2.1.1.1.1 hx.2.1.1.1.2.1 (Nat.le_of_ble_eq_true rfl) (Nat.le_of_ble_eq_true rfl) (Nat.le_of_ble_eq_true rfl) (Nat.le_of_ble_eq_true rfl) (Nat.le_of_ble_eq_true rfl) ?_
      have hx1 := xr_la hx (sRc S j (rn i))
      refine me_X4_set hx1.2.1.1 hj (hx1.2.1.2 j hj).1 (hx1.2.1.2 j hj).2.1 ?_
      rw [if_pos (show pin (sR (wQ S (sRc S j (rn i))) j) i = true from g1)]
      show bw_go _ _ _ _ _ _ _ 59 [(4, .int _), (0, .ref _), (1, .int _), (2, .int _), (3, .int _)] ([]) _ _
      refine go_iconst (1) dX7_lay_59 rfl ?_
      refine go_iret dX7_lay_60 rfl rfl ?_
      refine q_x hQ ?_ (xr_rows (h := bw_si h 0 11 (sRc S j (rn i))) (I := bw_i (bw_sa (bw_si h 0 11 (sRc S j (rn i))) (1 + 4) (bw_up (bw_i (bw_si h 0 11 (sRc S j (rn i))) (1 + 4)) (j * 40 + i.toNatClampNeg) v))) hx1 (fun q h1 h2 => ?_) (shR_set hx1.2.1 g2)) (frM_wi rfl (fun q h1 h2 => ?_))
      · unfold yLay
        rw [if_pos (show isn (nI j) 6 = true from c_8), rn_n (by omega), if_pos (mis_0 c_26)]
        rfl
      · rw [i_sa_o (by omega)]
      · rw [i_sa_o (by omega), i_si_o (by omega)]
    · -- eq at 26: no
      show bw_go _ _ _ _ _ _ _ 29 [(4, .int _), (0, .ref _), (1, .int _), (2, .int _), (3, .int _)] ([]) _ _
      refine go_aload_n dX7_lay_29 rfl ?_
      refine go_iload dX7_lay_30 rfl ?_
      refine go_cv (as := [.int _]) 1 dX7_lay_32 mt_7_90 (Or.inl rfl) rfl rfl hx.1.1.1 hx.1.1.2.1 (Nat.le_of_ble_eq_true rfl) (Nat.le_of_ble_eq_true rfl) (Nat.le_of_ble_eq_true rfl) (Nat.le_of_ble_eq_true rfl) (Nat.le_of_ble_eq_true rfl) ?_
      refine me_X7_found hx (f := mis (sR S j) i) (by have := mis_lt (sR S j) i; omega) (fun g hg hf => ?_)
      show bw_go _ _ _ _ _ _ _ 35 [(4, .int _), (0, .ref _), (1, .int _), (2, .int _), (3, .int _)] ((.int _) :: []) _ _
      refine go_iret dX7_lay_35 rfl rfl ?_
      refine q_x hQ ?_ hg hf
      unfold yLay
      rw [if_pos (show isn (nI j) 6 = true from c_8), rn_n (by omega), if_neg (mis_n c_26)]
  · -- ne at 8: no
    show bw_go _ _ _ _ _ _ _ 11 [(0, .ref _), (1, .int _), (2, .int _), (3, .int _)] ([]) _ _
    refine go_iconst (-1) dX7_lay_11 rfl ?_
    refine go_iret dX7_lay_12 rfl rfl ?_
    refine q_x hQ ?_ hx (frM_r h)
    unfold yLay
    rw [if_neg (fun z => Bool.noConfusion ((show isn r 6 = false from c_8).symm.trans z))]
set_option maxRecDepth 100000 in
set_option maxHeartbeats 4000000 in
theorem me_X7_text {X : Nat × (Nat → Int32)} {Q : Option Value → bw_H → Prop} {h : bw_H} {S : ST} {r n : Int32} (hx : XR h S) (hQ : PX h Q (yText r n S)) : bw_me X 2 bm_X7_text false [.ref 0, .int r, .int n] h Q := by
  show bw_go _ 2 7 3 false (some .int) cX7_text 0 [(0, .ref _), (1, .int _), (2, .int _)] [] _ _
  refine go_aload_n dX7_text_0 rfl ?_
  refine go_gfr dX7_text_1 fl_7_18 rfl hx.1.1.1 hx.1.1.2.1 hx.1.1.2.2.2.1 ?_
  refine go_iload_n dX7_text_4 rfl ?_
  refine go_cv (as := [.int _]) 0 dX7_text_5 mt_7_86 (Or.inr rfl) rfl rfl hx.2.2.1.1.1.1 hx.2.2.1.1.1.2.1 (Nat.le_of_ble_eq_true rfl) (Nat.le_of_ble_eq_true rfl) (Nat.le_of_ble_eq_true rfl) (Nat.le_of_ble_eq_true rfl) (Nat.le_of_ble_eq_true rfl) ?_
  refine me_X4_isNumber hx.2.2.1.1 ?_
  show bw_go _ _ _ _ _ _ _ 8 [(0, .ref _), (1, .int _), (2, .int _)] ((.int _) :: []) _ _
  refine go_ifb_eq (pc' := 17) dX7_text_8 rfl (fun c_8 => ?_) (fun c_8 => ?_)
  · -- eq at 8: yes
    show bw_go _ _ _ _ _ _ _ 17 [(0, .ref _), (1, .int _), (2, .int _)] ([]) _ _
    refine go_iconst (-1) dX7_text_17 rfl ?_
    refine go_iret dX7_text_18 rfl rfl ?_
    refine q_x hQ ?_ hx (frM_r h)
    unfold yText
    rw [if_neg (fun z => Bool.noConfusion ((show isn r 4 = false from c_8).symm.trans z.1))]
  · -- eq at 8: no
    show bw_go _ _ _ _ _ _ _ 11 [(0, .ref _), (1, .int _), (2, .int _)] ([]) _ _
    refine go_iload_n dX7_text_11 rfl ?_
    refine go_bipush (60) dX7_text_12 rfl ?_
    refine go_icmp_le (pc' := 19) dX7_text_14 rfl (fun c_14 => ?_) (fun c_14 => ?_)
    · -- le at 14: yes
      show bw_go _ _ _ _ _ _ _ 19 [(0, .ref _), (1, .int _), (2, .int _)] ([]) _ _
      refine go_iload_n dX7_text_19 rfl ?_
      refine go_if_ge (pc' := 29) dX7_text_20 rfl (fun c_20 => ?_) (fun c_20 => ?_)
      · -- ge at 20: yes
        show bw_go _ _ _ _ _ _ _ 29 [(0, .ref _), (1, .int _), (2, .int _)] ([]) _ _
        refine go_aload_n dX7_text_29 rfl ?_
        refine go_gfr dX7_text_30 fl_7_18 rfl hx.1.1.1 hx.1.1.2.1 hx.1.1.2.2.2.1 ?_
        refine go_iload_n dX7_text_33 rfl ?_
        refine go_iload_n dX7_text_34 rfl ?_
        refine go_bipush (32) dX7_text_35 rfl ?_
        refine go_cv (as := [.int _, .int _, .int _]) 1 dX7_text_37 mt_7_94 (Or.inr rfl) rfl rfl hx.2.2.1.1.1.1 hx.2.2.1.1.1.2.1 (Nat.le_of_ble_eq_true rfl) (Nat.le_of_ble_eq_true rfl) (Nat.le_of_ble_eq_true rfl) (Nat.le_of_ble_eq_true rfl) (Nat.le_of_ble_eq_true rfl) ?_
        obtain ⟨j, hj, rfl⟩ := isn_ex c_8 (by decide)
        obtain ⟨k, hk, rfl⟩ := nn (fun z => (by rw [i_le, i_0] at c_20; rw [i_lt, i_0] at z; omega) : ¬ n < 0)
        have hk2 : k ≤ 60 := by have t_0 := nI_toInt hk; have l_0 : (60 : Int32).toInt = 60 := rfl; simp only [i_le] at c_14; omega
        refine me_X4_make hx.2.2.1.1 hj hk2 ?_
        show bw_go _ _ _ _ _ _ _ 40 [(0, .ref _), (1, .int _), (2, .int _)] ([]) _ _
        refine go_iload_n dX7_text_40 rfl ?_
        refine go_iret dX7_text_41 rfl rfl ?_
        refine q_x hQ ?_ (xr_txts (h := h) (I := bw_i (bw_sa (bw_sa h (6 + 2) (bw_up (bw_i h (6 + 2)) j (nI k))) (6 + 4) (fl (bw_i h (6 + 4)) (j * 60) k 32))) hx (fun q h1 h2 => ?_) (shR_make hx.2.2.1 hk2)) (frM_wi rfl (fun q h1 h2 => ?_))
        · unfold yText
          have t_0 := nI_toInt hk
          rw [if_pos ⟨(show isn (nI j) 4 = true from c_8), by omega⟩, if_neg (by omega), rn_n (by omega), rn_n (by omega)]
        · rw [i_sa_o (by omega), i_sa_o (by omega)]
        · rw [i_sa_o (by omega), i_sa_o (by omega)]
      · -- ge at 20: no
        show bw_go _ _ _ _ _ _ _ 23 [(0, .ref _), (1, .int _), (2, .int _)] ([]) _ _
        refine go_aload_n dX7_text_23 rfl ?_
        refine go_iconst (5) dX7_text_24 rfl ?_
        refine go_cv (as := [.int _]) 1 dX7_text_25 mt_7_90 (Or.inl rfl) rfl rfl hx.1.1.1 hx.1.1.2.1 (Nat.le_of_ble_eq_true rfl) (Nat.le_of_ble_eq_true rfl) (Nat.le_of_ble_eq_true rfl) (Nat.le_of_ble_eq_true rfl) (Nat.le_of_ble_eq_true rfl) ?_
        rw [show (5 : Int32) = nI 5 from rfl]
        refine me_X7_found hx (f := 5) (by decide) (fun g hg hf => ?_)
        show bw_go _ _ _ _ _ _ _ 28 [(0, .ref _), (1, .int _), (2, .int _)] ((.int _) :: []) _ _
        refine go_iret dX7_text_28 rfl rfl ?_
        refine q_x hQ ?_ hg hf
        unfold yText
        have l_0 : (60 : Int32).toInt = 60 := rfl
        have l_1 := i_0
        simp only [i_le] at c_14
        simp only [i_le] at c_20
        rw [if_pos ⟨(show isn r 4 = true from c_8), by omega⟩, if_pos (by omega)]
    · -- le at 14: no
      show bw_go _ _ _ _ _ _ _ 17 [(0, .ref _), (1, .int _), (2, .int _)] ([]) _ _
      refine go_iconst (-1) dX7_text_17 rfl ?_
      refine go_iret dX7_text_18 rfl rfl ?_
      refine q_x hQ ?_ hx (frM_r h)
      unfold yText
      have l_0 : (60 : Int32).toInt = 60 := rfl
      simp only [i_le] at c_14
      rw [if_neg (by omega)]
set_option maxRecDepth 100000 in
set_option maxHeartbeats 4000000 in
theorem me_X7_put {X : Nat × (Nat → Int32)} {Q : Option Value → bw_H → Prop} {h : bw_H} {S : ST} {r i v : Int32} (hx : XR h S) (hQ : PX h Q (yPut r i v S)) : bw_me X 4 bm_X7_put false [.ref 0, .int r, .int i, .int v] h Q := by
  show bw_go _ 4 7 6 false (some .int) cX7_put 0 [(0, .ref _), (1, .int _), (2, .int _), (3, .int _)] [] _ _
  refine go_aload_n dX7_put_0 rfl ?_
  refine go_gfr dX7_put_1 fl_7_18 rfl hx.1.1.1 hx.1.1.2.1 hx.1.1.2.2.2.1 ?_
  refine go_iload_n dX7_put_4 rfl ?_
  refine go_cv (as := [.int _]) 0 dX7_put_5 mt_7_86 (Or.inr rfl) rfl rfl hx.2.2.1.1.1.1 hx.2.2.1.1.1.2.1 (Nat.le_of_ble_eq_true rfl) (Nat.le_of_ble_eq_true rfl) (Nat.le_of_ble_eq_true rfl) (Nat.le_of_ble_eq_true rfl) (Nat.le_of_ble_eq_true rfl) ?_
  refine me_X4_isNumber hx.2.2.1.1 ?_
  show bw_go _ _ _ _ _ _ _ 8 [(0, .ref _), (1, .int _), (2, .int _), (3, .int _)] ((.int _) :: []) _ _
  refine go_ifb_ne (pc' := 13) dX7_put_8 rfl (fun c_8 => ?_) (fun c_8 => ?_)
  · -- ne at 8: yes
    show bw_go _ _ _ _ _ _ _ 13 [(0, .ref _), (1, .int _), (2, .int _), (3, .int _)] ([]) _ _
    obtain ⟨j, hj, rfl⟩ := isn_ex c_8 (by decide)
    refine go_aload_n dX7_put_13 rfl ?_
    refine go_gfr dX7_put_14 fl_7_18 rfl hx.1.1.1 hx.1.1.2.1 hx.1.1.2.2.2.1 ?_
    refine go_iload_n dX7_put_17 rfl ?_
    refine go_iload_n dX7_put_18 rfl ?_
    refine go_cs (as := [.ref _, .int _, .int _]) 3 dX7_put_19 rfl rfl mt_7_98 (Nat.le_of_ble_eq_true rfl) rfl rfl (Nat.le_of_ble_eq_true rfl) (Nat.le_of_ble_eq_true rfl) (Nat.le_of_ble_eq_true rfl) (Nat.le_of_ble_eq_true rfl) ?_
    refine me_X7_missingPlace hx.2.2.1.1 hj (hx.2.2.1.2 j hj).1 (hx.2.2.1.2 j hj).2.1 ?_
    show bw_go _ _ _ _ _ _ _ 22 [(0, .ref _), (1, .int _), (2, .int _), (3, .int _)] ((.int _) :: []) _ _
    refine go_istore dX7_put_22 (Nat.lt_of_lt_of_le (Nat.lt_succ_self _) (Nat.le_of_ble_eq_true rfl)) ?_
    show bw_go _ _ _ _ _ _ _ 24 [(4, .int _), (0, .ref _), (1, .int _), (2, .int _), (3, .int _)] ([]) _ _
    refine go_iload dX7_put_24 rfl ?_
    refine go_if_eq (pc' := 36) dX7_put_26 rfl (fun c_26 => ?_) (fun c_26 => ?_)
    · -- eq at 26: yes
      show bw_go _ _ _ _ _ _ _ 36 [(4, .int _), (0, .ref _), (1, .int _), (2, .int _), (3, .int _)] ([]) _ _
      refine go_aload_n dX7_put_36 rfl ?_
      refine go_gfr dX7_put_37 fl_7_18 rfl hx.1.1.1 hx.1.1.2.1 hx.1.1.2.2.2.1 ?_
      refine go_iload_n dX7_put_40 rfl ?_
      refine go_iload_n dX7_put_41 rfl ?_
      refine go_cv (as := [.int _, .int _]) 3 dX7_put_42 mt_7_102 (Or.inr rfl) rfl rfl hx.2.2.1.1.1.1 hx.2.2.1.1.1.2.1 (Nat.le_of_ble_eq_true rfl) (Nat.le_of_ble_eq_true rfl) (Nat.le_of_ble_eq_true rfl) (Nat.le_of_ble_eq_true rfl) (Nat.le_of_ble_eq_true rfl) ?_
      obtain ⟨g1, g2, g3⟩ := gcell hx.2.2.1 hj (mis_0 c_26)
      refine me_X4_get hx.2.2.1.1 hj (hx.2.2.1.2 j hj).1 (hx.2.2.1.2 j hj).2.1 ?_
      rw [if_pos g1, g3]
      show bw_go _ _ _ _ _ _ _ 45 [(4, .int _), (0, .ref _), (1, .int _), (2, .int _), (3, .int _)] ((.int _) :: []) _ _
      refine go_istore dX7_put_45 (Nat.lt_of_lt_of_le (Nat.lt_succ_self _) (Nat.le_of_ble_eq_true rfl)) ?_
      show bw_go _ _ _ _ _ _ _ 47 [(5, .int _), (4, .int _), (0, .ref _), (1, .int _), (2, .int _), (3, .int _)] ([]) _ _
      refine go_aload_n dX7_put_47 rfl ?_
      refine go_gfr dX7_put_48 fl_7_18 rfl hx.1.1.1 hx.1.1.2.1 hx.1.1.2.2.2.1 ?_
      refine go_iload_n dX7_put_51 rfl ?_
      refine go_iload_n dX7_put_52 rfl ?_
      refine go_iload_n dX7_put_53 rfl ?_
      refine go_i2b dX7_put_54 ?_
      refine go_cv (as := [.int _, .int _, .int _]) 3 dX7_put_55 mt_7_106 (Or.inr rfl) rfl rfl hx.2.2.1.1.1.1 hx.2.2.1.1.1.2.1 (Nat.le_of_ble_eq_true rfl) (Nat.le_of_ble_eq_true rfl) (Nat.le_of_ble_eq_true rfl) (Nat.le_of_ble_eq_true rfl) (Nat.le_of_ble_eq_true rfl) ?_
      refine me_X4_set hx.2.2.1.1 hj (hx.2.2.1.2 j hj).1 (hx.2.2.1.2 j hj).2.1 ?_
      rw [if_pos g1]
      show bw_go _ _ _ _ _ _ _ 58 [(5, .int _), (4, .int _), (0, .ref _), (1, .int _), (2, .int _), (3, .int _)] ([]) _ _
      refine go_iload dX7_put_58 rfl ?_
      refine go_sipush (1000) dX7_put_60 rfl ?_
      refine go_iadd dX7_put_63 ?_
      refine go_iret dX7_put_64 rfl rfl ?_
      refine q_x hQ ?_ (xr_txts (h := h) (I := bw_i (bw_sa h (6 + 4) (bw_up (bw_i h (6 + 4)) (j * 60 + i.toNatClampNeg) v.toInt8.toInt32))) hx (fun q h1 h2 => ?_) (shR_set hx.2.2.1 g2)) (frM_wi rfl (fun q h1 h2 => ?_))
      · unfold yPut
        rw [if_pos (show isn (nI j) 4 = true from c_8), rn_n (by omega), if_pos (mis_0 c_26)]
        rfl
      · rw [i_sa_o (by omega)]
      · rw [i_sa_o (by omega)]
    · -- eq at 26: no
      show bw_go _ _ _ _ _ _ _ 29 [(4, .int _), (0, .ref _), (1, .int _), (2, .int _), (3, .int _)] ([]) _ _
      refine go_aload_n dX7_put_29 rfl ?_
      refine go_iload dX7_put_30 rfl ?_
      refine go_cv (as := [.int _]) 1 dX7_put_32 mt_7_90 (Or.inl rfl) rfl rfl hx.1.1.1 hx.1.1.2.1 (Nat.le_of_ble_eq_true rfl) (Nat.le_of_ble_eq_true rfl) (Nat.le_of_ble_eq_true rfl) (Nat.le_of_ble_eq_true rfl) (Nat.le_of_ble_eq_true rfl) ?_
      refine me_X7_found hx (f := mis (sT S j) i) (by have := mis_lt (sT S j) i; omega) (fun g hg hf => ?_)
      show bw_go _ _ _ _ _ _ _ 35 [(4, .int _), (0, .ref _), (1, .int _), (2, .int _), (3, .int _)] ((.int _) :: []) _ _
      refine go_iret dX7_put_35 rfl rfl ?_
      refine q_x hQ ?_ hg hf
      unfold yPut
      rw [if_pos (show isn (nI j) 4 = true from c_8), rn_n (by omega), if_neg (mis_n c_26)]
  · -- ne at 8: no
    show bw_go _ _ _ _ _ _ _ 11 [(0, .ref _), (1, .int _), (2, .int _), (3, .int _)] ([]) _ _
    refine go_iconst (-1) dX7_put_11 rfl ?_
    refine go_iret dX7_put_12 rfl rfl ?_
    refine q_x hQ ?_ hx (frM_r h)
    unfold yPut
    rw [if_neg (fun z => Bool.noConfusion ((show isn r 4 = false from c_8).symm.trans z))]
