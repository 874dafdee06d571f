/-! BearWitness: means, faults, what is asked -/
def yMean (r : Int32) (S : ST) : Int32 × ST := if isn r 6 = true then (match sR S (rn r) with
    | none => (-3, fnd S 1)
    | some m => if m = 0 then (-3, fnd S 4) else (1, wQ S (sml (sRc S (rn r)) 0 m / (nI m).toInt64).toInt32)) else (-1, S)
def yFault (r : Int32) (S : ST) : Int32 × ST := if isn r 4 = true then (match sT S (rn r) with
    | none => (-3, fnd S 1)
    | some m => (mtI (rdt (m, sTc S (rn r))).2.2, S)) else (-1, S)
theorem sml_c {F G : Nat → Int32} {b m : Nat} (h : ∀ i, i < m → F (b + i) = G i) : sml F b m = sml G 0 m := by
  induction m with
  | zero => rfl
  | succ m ih =>
    show sml F b m + (F (b + m)).toInt64 = sml G 0 m + (G (0 + m)).toInt64
    rw [ih (fun i hi => h i (by omega)), h m (by omega), Nat.zero_add]
theorem nI_l0 {m : Nat} (h0 : m ≠ 0) (h : m < 1000) : ¬ (nI m).toInt64 = 0 := fun z => by
  have h1 : (nI m).toInt64.toInt = (0 : Int64).toInt := congrArg _ z
  rw [Int32.toInt_toInt64, nI_toInt (by omega)] at h1
  have l_0 : (0 : Int64).toInt = 0 := rfl
  omega
/-- what the reader reads -/
theorem xr_rx {h : bw_H} {S : ST} {j m : Nat} (hx : XR h S) (hj : j < 4) (e : sT S j = some m) : sx h 38 76 6 4 60 j (m, sTc S j) := by
  obtain ⟨h1, h2, h3⟩ := hx.2.2.1.2 j hj
  rw [e] at h1 h2
  exact ⟨⟨hx.1.2.2.1.1, hx.1.2.2.1.2.1, hx.1.2.2.1.2.2.1⟩, hx.1.2.2.1.2.2.2, hx.2.2.1.1, hj, h1, h2, h2 m rfl, fun i hi => h3 m e i hi, by decide, by decide, by decide⟩
set_option maxRecDepth 100000 in
set_option maxHeartbeats 4000000 in
theorem me_X7_mean {X : Nat × (Nat → Int32)} {Q : Option Value → bw_H → Prop} {h : bw_H} {S : ST} {r : Int32} (hx : XR h S) (hQ : PX h Q (yMean r S)) : bw_me X 5 bm_X7_mean false [.ref 0, .int r] h Q := by
  show bw_go _ 5 7 3 false (some .int) cX7_mean 0 [(0, .ref _), (1, .int _)] [] _ _
  refine go_aload_n dX7_mean_0 rfl ?_
  refine go_gfr dX7_mean_1 fl_7_14 rfl hx.1.1.1 hx.1.1.2.1 hx.1.1.2.2.1 ?_
  refine go_iload_n dX7_mean_4 rfl ?_
  refine go_cv (as := [.int _]) 0 dX7_mean_5 mt_7_86 (Or.inr rfl) rfl rfl hx.2.1.1.1.1 hx.2.1.1.1.2.1 (Nat.le_of_ble_eq_true rfl) (Nat.le_of_ble_eq_true rfl) (Nat.le_of_ble_eq_true rfl) (Nat.le_of_ble_eq_true rfl) (Nat.le_of_ble_eq_true rfl) ?_
  refine me_X4_isNumber hx.2.1.1 ?_
  show bw_go _ _ _ _ _ _ _ 8 [(0, .ref _), (1, .int _)] ((.int _) :: []) _ _
  refine go_ifb_ne (pc' := 13) dX7_mean_8 rfl (fun c_8 => ?_) (fun c_8 => ?_)
  · -- ne at 8: yes
    show bw_go _ _ _ _ _ _ _ 13 [(0, .ref _), (1, .int _)] ([]) _ _
    obtain ⟨j, hj, rfl⟩ := isn_ex c_8 (by decide)
    refine go_aload_n dX7_mean_13 rfl ?_
    refine go_gfr dX7_mean_14 fl_7_14 rfl hx.1.1.1 hx.1.1.2.1 hx.1.1.2.2.1 ?_
    refine go_iload_n dX7_mean_17 rfl ?_
    refine go_cv (as := [.int _]) 2 dX7_mean_18 mt_7_109 (Or.inr rfl) rfl rfl hx.2.1.1.1.1 hx.2.1.1.1.2.1 (Nat.le_of_ble_eq_true rfl) (Nat.le_of_ble_eq_true rfl) (Nat.le_of_ble_eq_true rfl) (Nat.le_of_ble_eq_true rfl) (Nat.le_of_ble_eq_true rfl) ?_
    refine me_X4_has hx.2.1.1 hj (hx.2.1.2 j hj).1 (hx.2.1.2 j hj).2.1 ?_
    show bw_go _ _ _ _ _ _ _ 21 [(0, .ref _), (1, .int _)] ((.int _) :: []) _ _
    refine go_ifb_ne (pc' := 30) dX7_mean_21 rfl (fun c_21 => ?_) (fun c_21 => ?_)
    · -- ne at 21: yes
      show bw_go _ _ _ _ _ _ _ 30 [(0, .ref _), (1, .int _)] ([]) _ _
      obtain ⟨m, e1⟩ := Option.isSome_iff_exists.mp c_21
      have hm := (hx.2.1.2 j hj).2.1 m e1
      refine go_aload_n dX7_mean_30 rfl ?_
      refine go_gfr dX7_mean_31 fl_7_14 rfl hx.1.1.1 hx.1.1.2.1 hx.1.1.2.2.1 ?_
      refine go_iload_n dX7_mean_34 rfl ?_
      refine go_cv (as := [.int _]) 1 dX7_mean_35 mt_7_123 (Or.inr rfl) rfl rfl hx.2.1.1.1.1 hx.2.1.1.1.2.1 (Nat.le_of_ble_eq_true rfl) (Nat.le_of_ble_eq_true rfl) (Nat.le_of_ble_eq_true rfl) (Nat.le_of_ble_eq_true rfl) (Nat.le_of_ble_eq_true rfl) ?_
      refine me_X4_sizeOf hx.2.1.1 hj (hx.2.1.2 j hj).1 ?_
      show bw_go _ _ _ _ _ _ _ 38 [(0, .ref _), (1, .int _)] ((.int _) :: []) _ _
      refine go_istore_n dX7_mean_38 (Nat.lt_of_lt_of_le (Nat.lt_succ_self _) (Nat.le_of_ble_eq_true rfl)) ?_
      show bw_go _ _ _ _ _ _ _ 39 [(2, .int _), (0, .ref _), (1, .int _)] ([]) _ _
      rw [e1]
      refine go_iload_n dX7_mean_39 rfl ?_
      refine go_if_gt (pc' := 49) dX7_mean_40 rfl (fun c_40 => ?_) (fun c_40 => ?_)
      · -- gt at 40: yes
        show bw_go _ _ _ _ _ _ _ 49 [(2, .int _), (0, .ref _), (1, .int _)] ([]) _ _
        refine go_aload_n dX7_mean_49 rfl ?_
        refine go_aload_n dX7_mean_50 rfl ?_
        refine go_gfr dX7_mean_51 fl_7_14 rfl hx.1.1.1 hx.1.1.2.1 hx.1.1.2.2.1 ?_
        refine go_iload_n dX7_mean_54 rfl ?_
        refine go_cv (as := [.int _]) 4 dX7_mean_55 mt_7_126 (Or.inr rfl) rfl rfl hx.2.1.1.1.1 hx.2.1.1.1.2.1 (Nat.le_of_ble_eq_true rfl) (Nat.le_of_ble_eq_true rfl) (Nat.le_of_ble_eq_true rfl) (Nat.le_of_ble_eq_true rfl) (Nat.le_of_ble_eq_true rfl) ?_
        have hm0 : m ≠ 0 := fun z => by
          subst z
          exact absurd c_40 (by decide)
        refine me_X4_sumOf hx.2.1.1 hj (hx.2.1.2 j hj).1 (hx.2.1.2 j hj).2.1 ?_
        rw [e1, show osz (some m) = m from rfl, sml_c (G := sRc S j) (fun i hi => (hx.2.1.2 j hj).2.2 m e1 i hi)]
        show bw_go _ _ _ _ _ _ _ 58 [(2, .int _), (0, .ref _), (1, .int _)] ((.long _) :: (.ref _) :: []) _ _
        refine go_iload_n dX7_mean_58 rfl ?_
        
        refine go_i2l dX7_mean_59 ?_
        refine go_ldiv dX7_mean_60 (nI_l0 hm0 (by omega)) ?_
        refine go_l2i dX7_mean_61 ?_
        refine go_pfi dX7_mean_62 fl_7_76 rfl hx.1.1.1 hx.1.1.2.1 (Nat.le_of_ble_eq_true rfl) (Or.inl rfl) ?_
        show bw_go _ _ _ _ _ _ _ 65 [(2, .int _), (0, .ref _), (1, .int _)] ([]) _ _
        refine go_iconst (1) dX7_mean_65 rfl ?_
        refine go_iret dX7_mean_66 rfl rfl ?_
        refine q_x hQ ?_ (xr_la hx _) (frM_wi rfl (fun q h1 h2 => ?_))
        · unfold yMean
          rw [if_pos (show isn (nI j) 6 = true from c_8), rn_n (by omega), e1]
          simp only
          rw [if_neg hm0]
          rfl
        · rw [i_si_o (by omega)]
      · -- gt at 40: no
        show bw_go _ _ _ _ _ _ _ 43 [(2, .int _), (0, .ref _), (1, .int _)] ([]) _ _
        refine go_aload_n dX7_mean_43 rfl ?_
        refine go_iconst (4) dX7_mean_44 rfl ?_
        refine go_cv (as := [.int _]) 1 dX7_mean_45 mt_7_90 (Or.inl rfl) rfl rfl hx.1.1.1 hx.1.1.2.1 (Nat.le_of_ble_eq_true rfl) (Nat.le_of_ble_eq_true rfl) (Nat.le_of_ble_eq_true rfl) (Nat.le_of_ble_eq_true rfl) (Nat.le_of_ble_eq_true rfl) ?_
        rw [show (4 : Int32) = nI 4 from rfl]
        refine me_X7_found hx (f := 4) (by decide) (fun g hg hf => ?_)
        show bw_go _ _ _ _ _ _ _ 48 [(2, .int _), (0, .ref _), (1, .int _)] ((.int _) :: []) _ _
        refine go_iret dX7_mean_48 rfl rfl ?_
        refine q_x hQ ?_ hg hf
        unfold yMean
        rw [if_pos (show isn (nI j) 6 = true from c_8), rn_n (by omega), e1]
        simp only
        have t_0 := nI_toInt (n := m) (by omega)
        have l_0 := i_0
        have c40 : ¬ (0 : Int32) < nI m := c_40
        simp only [i_lt] at c40
        rw [if_pos (by omega)]
    · -- ne at 21: no
      show bw_go _ _ _ _ _ _ _ 24 [(0, .ref _), (1, .int _)] ([]) _ _
      refine go_aload_n dX7_mean_24 rfl ?_
      refine go_iconst (1) dX7_mean_25 rfl ?_
      refine go_cv (as := [.int _]) 1 dX7_mean_26 mt_7_90 (Or.inl rfl) rfl rfl hx.1.1.1 hx.1.1.2.1 (Nat.le_of_ble_eq_true rfl) (Nat.le_of_ble_eq_true rfl) (Nat.le_of_ble_eq_true rfl) (Nat.le_of_ble_eq_true rfl) (Nat.le_of_ble_eq_true rfl) ?_
      rw [show (1 : Int32) = nI 1 from rfl]
      refine me_X7_found hx (f := 1) (by decide) (fun g hg hf => ?_)
      show bw_go _ _ _ _ _ _ _ 29 [(0, .ref _), (1, .int _)] ((.int _) :: []) _ _
      refine go_iret dX7_mean_29 rfl rfl ?_
      have e1 : sR S j = none := by
        cases e : sR S j with
        | none => rfl
        | some _ => rw [e] at c_21; cases c_21
      refine q_x hQ ?_ hg hf
      unfold yMean
      rw [if_pos (show isn (nI j) 6 = true from c_8), rn_n (by omega), e1]
  · -- ne at 8: no
    show bw_go _ _ _ _ _ _ _ 11 [(0, .ref _), (1, .int _)] ([]) _ _
    refine go_iconst (-1) dX7_mean_11 rfl ?_
    refine go_iret dX7_mean_12 rfl rfl ?_
    refine q_x hQ ?_ hx (frM_r h)
    unfold yMean
    rw [if_neg (fun z => Bool.noConfusion ((show isn r 6 = false from c_8).symm.trans z))]
set_option maxRecDepth 100000 in
set_option maxHeartbeats 4000000 in
theorem me_X7_fault {X : Nat × (Nat → Int32)} {Q : Option Value → bw_H → Prop} {h : bw_H} {S : ST} {r : Int32} (hx : XR h S) (hQ : PX h Q (yFault r S)) : bw_me X 6 bm_X7_fault false [.ref 0, .int r] h Q := by
  show bw_go _ 6 7 2 false (some .int) cX7_fault 0 [(0, .ref _), (1, .int _)] [] _ _
  refine go_aload_n dX7_fault_0 rfl ?_
  refine go_gfr dX7_fault_1 fl_7_18 rfl hx.1.1.1 hx.1.1.2.1 hx.1.1.2.2.2.1 ?_
  refine go_iload_n dX7_fault_4 rfl ?_
  refine go_cv (as := [.int _]) 0 dX7_fault_5 mt_7_86 (Or.inr rfl) rfl rfl hx.2.2.1.1.1.1 hx.2.2.1.1.1.2.1 (Nat.le_of_ble_eq_true rfl) (Nat.le_of_ble_eq_true rfl) (Nat.le_of_ble_eq_true rfl) (Nat.le_of_ble_eq_true rfl) (Nat.le_of_ble_eq_true rfl) ?_
  refine me_X4_isNumber hx.2.2.1.1 ?_
  show bw_go _ _ _ _ _ _ _ 8 [(0, .ref _), (1, .int _)] ((.int _) :: []) _ _
  refine go_ifb_ne (pc' := 13) dX7_fault_8 rfl (fun c_8 => ?_) (fun c_8 => ?_)
  · -- ne at 8: yes
    show bw_go _ _ _ _ _ _ _ 13 [(0, .ref _), (1, .int _)] ([]) _ _
    obtain ⟨j, hj, rfl⟩ := isn_ex c_8 (by decide)
    refine go_aload_n dX7_fault_13 rfl ?_
    refine go_gfr dX7_fault_14 fl_7_18 rfl hx.1.1.1 hx.1.1.2.1 hx.1.1.2.2.2.1 ?_
    refine go_iload_n dX7_fault_17 rfl ?_
    refine go_cv (as := [.int _]) 2 dX7_fault_18 mt_7_109 (Or.inr rfl) rfl rfl hx.2.2.1.1.1.1 hx.2.2.1.1.1.2.1 (Nat.le_of_ble_eq_true rfl) (Nat.le_of_ble_eq_true rfl) (Nat.le_of_ble_eq_true rfl) (Nat.le_of_ble_eq_true rfl) (Nat.le_of_ble_eq_true rfl) ?_
    refine me_X4_has hx.2.2.1.1 hj (hx.2.2.1.2 j hj).1 (hx.2.2.1.2 j hj).2.1 ?_
    show bw_go _ _ _ _ _ _ _ 21 [(0, .ref _), (1, .int _)] ((.int _) :: []) _ _
    refine go_ifb_ne (pc' := 30) dX7_fault_21 rfl (fun c_21 => ?_) (fun c_21 => ?_)
    · -- ne at 21: yes
      show bw_go _ _ _ _ _ _ _ 30 [(0, .ref _), (1, .int _)] ([]) _ _
      obtain ⟨m, e1⟩ := Option.isSome_iff_exists.mp c_21
      refine go_aload_n dX7_fault_30 rfl ?_
      refine go_gfr dX7_fault_31 fl_7_38 rfl hx.1.1.1 hx.1.1.2.1 hx.1.1.2.2.2.2.2.2.2.1 ?_
      refine go_aload_n dX7_fault_34 rfl ?_
      refine go_gfr dX7_fault_35 fl_7_28 rfl hx.1.1.1 hx.1.1.2.1 hx.1.1.2.2.2.2.2.1 ?_
      refine go_aload_n dX7_fault_38 rfl ?_
      refine go_gfr dX7_fault_39 fl_7_18 rfl hx.1.1.1 hx.1.1.2.1 hx.1.1.2.2.2.1 ?_
      refine go_iload_n dX7_fault_42 rfl ?_
      refine go_cv (as := [.ref _, .ref _, .int _]) 5 dX7_fault_43 mt_7_130 (Or.inr rfl) rfl rfl hx.1.2.2.1.1 hx.1.2.2.1.2.1 (Nat.le_of_ble_eq_true rfl) (Nat.le_of_ble_eq_true rfl) (Nat.le_of_ble_eq_true rfl) (Nat.le_of_ble_eq_true rfl) (Nat.le_of_ble_eq_true rfl) ?_
      refine me_X3_readInto (xr_rx hx hj e1) hx.1.2.2.2.1 (show rsep 38 76 24 from ⟨by decide, by decide⟩) (fun I fI dI bI => ?_)
      show bw_go _ _ _ _ _ _ _ 46 [(0, .ref _), (1, .int _)] ((.int _) :: []) _ _
      refine go_iret dX7_fault_46 rfl rfl ?_
      refine q_x hQ ?_ (xr_sc hx (fun q hq => fI q (by omega) (by omega) (by omega) (by omega) (by omega) (by omega) (by omega))) (frM_wi (g := bw_wi h I) rfl (fun q h1 h2 => fI q (by omega) (by omega) (by omega) (by omega) (by omega) (by omega) (by omega)))
      unfold yFault
      rw [if_pos (show isn (nI j) 4 = true from c_8), rn_n (by omega), e1]
    · -- ne at 21: no
      show bw_go _ _ _ _ _ _ _ 24 [(0, .ref _), (1, .int _)] ([]) _ _
      refine go_aload_n dX7_fault_24 rfl ?_
      refine go_iconst (1) dX7_fault_25 rfl ?_
      refine go_cv (as := [.int _]) 1 dX7_fault_26 mt_7_90 (Or.inl rfl) rfl rfl hx.1.1.1 hx.1.1.2.1 (Nat.le_of_ble_eq_true rfl) (Nat.le_of_ble_eq_true rfl) (Nat.le_of_ble_eq_true rfl) (Nat.le_of_ble_eq_true rfl) (Nat.le_of_ble_eq_true rfl) ?_
      rw [show (1 : Int32) = nI 1 from rfl]
      refine me_X7_found hx (f := 1) (by decide) (fun g hg hf => ?_)
      show bw_go _ _ _ _ _ _ _ 29 [(0, .ref _), (1, .int _)] ((.int _) :: []) _ _
      refine go_iret dX7_fault_29 rfl rfl ?_
      have e1 : sT S j = none := by
        cases e : sT S j with
        | none => rfl
        | some _ => rw [e] at c_21; cases c_21
      refine q_x hQ ?_ hg hf
      unfold yFault
      rw [if_pos (show isn (nI j) 4 = true from c_8), rn_n (by omega), e1]
  · -- ne at 8: no
    show bw_go _ _ _ _ _ _ _ 11 [(0, .ref _), (1, .int _)] ([]) _ _
    refine go_iconst (-1) dX7_fault_11 rfl ?_
    refine go_iret dX7_fault_12 rfl rfl ?_
    refine q_x hQ ?_ hx (frM_r h)
    unfold yFault
    rw [if_neg (fun z => Bool.noConfusion ((show isn r 4 = false from c_8).symm.trans z))]
set_option maxRecDepth 100000 in
set_option maxHeartbeats 4000000 in
theorem me_X7_asked {X : Nat × (Nat → Int32)} {Q : Option Value → bw_H → Prop} {h : bw_H} {S : ST} (hx : XR h S) (hQ : PX h Q (sQ S, S)) : bw_me X 0 bm_X7_asked false [.ref 0] h Q := by
  show bw_go _ 0 7 1 false (some .int) cX7_asked 0 [(0, .ref _)] [] _ _
  refine go_aload_n dX7_asked_0 rfl ?_
  refine go_gfi dX7_asked_1 fl_7_76 rfl hx.1.1.1 hx.1.1.2.1 ?_
  rw [hx.2.2.2.2.2.2.2.1]
  refine go_iret dX7_asked_4 rfl rfl ?_
  exact hQ h hx (frM_r h)
set_option maxRecDepth 100000 in
set_option maxHeartbeats 4000000 in
theorem me_X7_finding {X : Nat × (Nat → Int32)} {Q : Option Value → bw_H → Prop} {h : bw_H} {S : ST} (hx : XR h S) (hQ : PX h Q (sL S, S)) : bw_me X 0 bm_X7_finding false [.ref 0] h Q := by
  show bw_go _ 0 7 1 false (some .int) cX7_finding 0 [(0, .ref _)] [] _ _
  refine go_aload_n dX7_finding_0 rfl ?_
  refine go_gfi dX7_finding_1 fl_7_72 rfl hx.1.1.1 hx.1.1.2.1 ?_
  rw [hx.2.2.2.2.2.2.1]
  refine go_iret dX7_finding_4 rfl rfl ?_
  exact hQ h hx (frM_r h)
set_option maxRecDepth 100000 in
set_option maxHeartbeats 4000000 in
theorem me_X7_upper {X : Nat × (Nat → Int32)} {Q : Option Value → bw_H → Prop} {h : bw_H} {S : ST} (hx : XR h S) (hQ : ∀ g, XR g S → frM h g → Q (some (.long (sU S))) g) : bw_me X 0 bm_X7_upper false [.ref 0] h Q := by
  show bw_go _ 0 7 1 false (some .long) cX7_upper 0 [(0, .ref _)] [] _ _
  refine go_aload_n dX7_upper_0 rfl ?_
  refine go_gfl dX7_upper_1 fl_7_79 rfl hx.1.1.1 hx.1.1.2.1 ?_
  rw [hx.2.2.2.2.2.2.2.2.1]
  refine go_lret dX7_upper_4 rfl ?_
  exact hQ h hx (frM_r h)
set_option maxRecDepth 100000 in
set_option maxHeartbeats 4000000 in
theorem me_X7_lower {X : Nat × (Nat → Int32)} {Q : Option Value → bw_H → Prop} {h : bw_H} {S : ST} (hx : XR h S) (hQ : ∀ g, XR g S → frM h g → Q (some (.long (sO S))) g) : bw_me X 0 bm_X7_lower false [.ref 0] h Q := by
  show bw_go _ 0 7 1 false (some .long) cX7_lower 0 [(0, .ref _)] [] _ _
  refine go_aload_n dX7_lower_0 rfl ?_
  refine go_gfl dX7_lower_1 fl_7_83 rfl hx.1.1.1 hx.1.1.2.1 ?_
  rw [hx.2.2.2.2.2.2.2.2.2]
  refine go_lret dX7_lower_4 rfl ?_
  exact hQ h hx (frM_r h)
def yFindings (f : Int32) (S : ST) : Int32 × ST := if 1 ≤ f.toInt ∧ f.toInt ≤ 5 then (sF S (rn f), S) else (-1, S)
set_option maxRecDepth 100000 in
set_option maxHeartbeats 4000000 in
theorem me_X7_findings {X : Nat × (Nat → Int32)} {Q : Option Value → bw_H → Prop} {h : bw_H} {S : ST} {f : Int32} (hx : XR h S) (hQ : PX h Q (yFindings f S)) : bw_me X 1 bm_X7_findings false [.ref 0, .int f] h Q := by
  show bw_go _ 1 7 2 false (some .int) cX7_findings 0 [(0, .ref _), (1, .int _)] [] _ _
  refine go_iload_n dX7_findings_0 rfl ?_
  refine go_iconst (1) dX7_findings_1 rfl ?_
  refine go_icmp_lt (pc' := 10) dX7_findings_2 rfl (fun c_2 => ?_) (fun c_2 => ?_)
  · -- lt at 2: yes
    show bw_go _ _ _ _ _ _ _ 10 [(0, .ref _), (1, .int _)] ([]) _ _
    refine go_iconst (-1) dX7_findings_10 rfl ?_
    refine go_iret dX7_findings_11 rfl rfl ?_
    refine q_x hQ ?_ hx (frM_r h)
    unfold yFindings
    have l_0 : (1 : Int32).toInt = 1 := rfl
    have l_1 : (5 : Int32).toInt = 5 := rfl
    simp only [i_lt, i_le] at c_2
    rw [if_neg (by omega)]
  · -- lt at 2: no
    show bw_go _ _ _ _ _ _ _ 5 [(0, .ref _), (1, .int _)] ([]) _ _
    refine go_iload_n dX7_findings_5 rfl ?_
    refine go_iconst (5) dX7_findings_6 rfl ?_
    refine go_icmp_le (pc' := 12) dX7_findings_7 rfl (fun c_7 => ?_) (fun c_7 => ?_)
    · -- le at 7: yes
      show bw_go _ _ _ _ _ _ _ 12 [(0, .ref _), (1, .int _)] ([]) _ _
      refine go_aload_n dX7_findings_12 rfl ?_
      refine go_gfr dX7_findings_13 fl_7_68 rfl hx.1.1.1 hx.1.1.2.1 hx.1.1.2.2.2.2.2.2.2.2.2.2.2 ?_
      refine go_iload_n dX7_findings_16 rfl ?_
      refine go_cv (as := [.int _]) 0 dX7_findings_17 mt_7_153 (Or.inr rfl) rfl rfl hx.1.2.2.2.2.2.2.2.1.1 hx.1.2.2.2.2.2.2.2.1.2.1 (Nat.le_of_ble_eq_true rfl) (Nat.le_of_ble_eq_true rfl) (Nat.le_of_ble_eq_true rfl) (Nat.le_of_ble_eq_true rfl) (Nat.le_of_ble_eq_true rfl) ?_
      have hin : 1 ≤ f.toInt ∧ f.toInt ≤ 5 := by
        have l_0 : (1 : Int32).toInt = 1 := rfl
        have l_1 : (5 : Int32).toInt = 5 := rfl
        simp only [i_lt, i_le] at c_2
        simp only [i_lt, i_le] at c_7
        omega
      refine me_X0_get hx.1.2.2.2.2.2.2.2.1 ?_
      rw [show cg (bw_i h 59) 6 f = bw_i h 59 (rn f) from if_pos (by omega), hx.2.2.2.2.2.1 (rn f) (by unfold rn; rw [Int32.toNatClampNeg]; omega)]
      show bw_go _ _ _ _ _ _ _ 20 [(0, .ref _), (1, .int _)] ((.int _) :: []) _ _
      refine go_iret dX7_findings_20 rfl rfl ?_
      refine q_x hQ ?_ hx (frM_r h)
      unfold yFindings
      rw [if_pos hin]
    · -- le at 7: no
      show bw_go _ _ _ _ _ _ _ 10 [(0, .ref _), (1, .int _)] ([]) _ _
      refine go_iconst (-1) dX7_findings_10 rfl ?_
      refine go_iret dX7_findings_11 rfl rfl ?_
      refine q_x hQ ?_ hx (frM_r h)
      unfold yFindings
      have l_0 : (1 : Int32).toInt = 1 := rfl
      have l_1 : (5 : Int32).toInt = 5 := rfl
      simp only [i_lt, i_le] at c_2
      simp only [i_lt, i_le] at c_7
      rw [if_neg (by omega)]
