/-! the reference: of a bear, marks -/
theorem cnt_c {P P' : Nat → Bool} : ∀ n, (∀ i, i < n → P i = P' i) → cnt P n = cnt P' n
  | 0, _ => rfl
  | n + 1, h => by
    show cnt P n + (if P n = true then 1 else 0) = cnt P' n + (if P' n = true then 1 else 0)
    rw [cnt_c n (fun i hi => h i (by omega)), h n (by omega)]
theorem in_06 (r : Int32) : inr r.toInt64 0 5 = isn r 6 := X8_isRow_e r
theorem in_15 (r : Int32) : inr r.toInt64 1 5 = decide (1 ≤ r.toInt ∧ r.toInt < 6) := by
  unfold inr
  rw [l_i, show (1 : Int64).toInt = 1 from rfl, show (5 : Int64).toInt = 5 from rfl]
  exact decide_eq_decide.mpr (by omega)
theorem sya_9 {k e w v t dn : Nat} : sya k e w v t dn = -9 ↔ ¬ (see k w v e).testBit t = true := by
  unfold sya
  constructor
  · intro z y
    rw [if_pos y] at z
    repeat' split at z
    all_goals exact absurd z (by decide)
  · intro z; rw [if_neg z]
set_option maxRecDepth 100000 in
set_option maxHeartbeats 4000000 in
theorem me_X8_toldOf {X : Nat × (Nat → Int32)} {Q : Option Value → bw_H → Prop} {h : bw_H} {S : ST} {i w : Nat} (hm : MR h S) (hi : i < cN (nowC S)) (hw : w < 6) (hQ : Q (some (.int (nI (obf (nowC S) i w)))) h) : bw_me X 7 bm_X8_toldOf false [.ref 60, .int (nI i), .int (nI w)] h Q := by
  have hv := mr_v hm
  have hk := mr_k hm
  have k1 := hk.1
  have k2 := hk.2.2.2.2 i hi
  show bw_go _ 7 8 3 false (some .int) cX8_toldOf 0 [(0, .ref _), (1, .int _), (2, .int _)] [] _ _
  refine go_iload_n dX8_toldOf_0 rfl ?_
  rcases (show w = 0 ∨ w = 1 ∨ w = 2 ∨ w = 3 ∨ w = 4 ∨ w = 5 by omega) with rfl | rfl | rfl | rfl | rfl | rfl
  · -- w = 0
    refine go_tsIn (pc' := 36) dX8_toldOf_1 (by decide) (by decide) rfl rfl ?_
    show bw_go _ _ _ _ _ _ _ 36 [(0, .ref _), (1, .int _), (2, .int _)] ([]) _ _
    refine go_aload_n dX8_toldOf_36 rfl ?_
    refine go_gfr dX8_toldOf_37 fl_8_7 rfl (ms_lt hm.1 (by decide)) hm.1.1.2 hm.1.2.1.1 ?_
    refine go_iconst (2) dX8_toldOf_40 rfl ?_
    refine go_iload_n dX8_toldOf_41 rfl ?_
    refine go_iadd dX8_toldOf_42 ?_
    rw [show (2 : Int32) = nI 2 from rfl, nI_add]
    refine go_ia dX8_toldOf_43 hm.1.2.2.1 (ms_lt hm.1 (by decide)) (n_in (N := 80) (by omega) (by decide)) ?_
    rw [nI_clamp (by omega), (hv.2.2.2 i hi).1]
    refine go_iret dX8_toldOf_44 rfl rfl ?_
    exact hQ
  · -- w = 1
    refine go_tsIn (pc' := 45) dX8_toldOf_1 (by decide) (by decide) rfl rfl ?_
    show bw_go _ _ _ _ _ _ _ 45 [(0, .ref _), (1, .int _), (2, .int _)] ([]) _ _
    refine go_aload_n dX8_toldOf_45 rfl ?_
    refine go_gfr dX8_toldOf_46 fl_8_7 rfl (ms_lt hm.1 (by decide)) hm.1.1.2 hm.1.2.1.1 ?_
    refine go_bipush (67) dX8_toldOf_49 rfl ?_
    refine go_iload_n dX8_toldOf_51 rfl ?_
    refine go_iadd dX8_toldOf_52 ?_
    rw [show (67 : Int32) = nI 67 from rfl, nI_add]
    refine go_ia dX8_toldOf_53 hm.1.2.2.1 (ms_lt hm.1 (by decide)) (n_in (N := 80) (by omega) (by decide)) ?_
    rw [nI_clamp (by omega), (hv.2.2.2 i hi).2.1]
    refine go_iret dX8_toldOf_54 rfl rfl ?_
    exact hQ
  · -- w = 2
    refine go_tsIn (pc' := 55) dX8_toldOf_1 (by decide) (by decide) rfl rfl ?_
    show bw_go _ _ _ _ _ _ _ 55 [(0, .ref _), (1, .int _), (2, .int _)] ([]) _ _
    refine go_aload_n dX8_toldOf_55 rfl ?_
    refine go_gfr dX8_toldOf_56 fl_8_7 rfl (ms_lt hm.1 (by decide)) hm.1.1.2 hm.1.2.1.1 ?_
    refine go_bipush (73) dX8_toldOf_59 rfl ?_
    refine go_iload_n dX8_toldOf_61 rfl ?_
    refine go_iadd dX8_toldOf_62 ?_
    rw [show (73 : Int32) = nI 73 from rfl, nI_add]
    refine go_ia dX8_toldOf_63 hm.1.2.2.1 (ms_lt hm.1 (by decide)) (n_in (N := 80) (by omega) (by decide)) ?_
    rw [nI_clamp (by omega), (hv.2.2.2 i hi).2.2.1]
    refine go_iret dX8_toldOf_64 rfl rfl ?_
    exact hQ
  · -- w = 3
    refine go_tsIn (pc' := 65) dX8_toldOf_1 (by decide) (by decide) rfl rfl ?_
    show bw_go _ _ _ _ _ _ _ 65 [(0, .ref _), (1, .int _), (2, .int _)] ([]) _ _
    refine go_aload_n dX8_toldOf_65 rfl ?_
    refine go_gfr dX8_toldOf_66 fl_8_7 rfl (ms_lt hm.1 (by decide)) hm.1.1.2 hm.1.2.1.1 ?_
    refine go_bipush (20) dX8_toldOf_69 rfl ?_
    refine go_iload_n dX8_toldOf_71 rfl ?_
    refine go_iadd dX8_toldOf_72 ?_
    rw [show (20 : Int32) = nI 20 from rfl, nI_add]
    refine go_ia dX8_toldOf_73 hm.1.2.2.1 (ms_lt hm.1 (by decide)) (n_in (N := 80) (by omega) (by decide)) ?_
    rw [nI_clamp (by omega), (hv.2.2.2 i hi).2.2.2]
    refine go_iret dX8_toldOf_74 rfl rfl ?_
    exact hQ
  · -- w = 4
    refine go_tsIn (pc' := 75) dX8_toldOf_1 (by decide) (by decide) rfl rfl ?_
    show bw_go _ _ _ _ _ _ _ 75 [(0, .ref _), (1, .int _), (2, .int _)] ([]) _ _
    refine go_aload_n dX8_toldOf_75 rfl ?_
    refine go_gfr dX8_toldOf_76 fl_8_7 rfl (ms_lt hm.1 (by decide)) hm.1.1.2 hm.1.2.1.1 ?_
    refine go_bipush (79) dX8_toldOf_79 rfl ?_
    refine go_ia dX8_toldOf_81 hm.1.2.2.1 (ms_lt hm.1 (by decide)) (by decide) ?_
    rw [show (79 : Int32).toNatClampNeg = 79 from rfl, hv.2.2.1]
    refine go_iload_n dX8_toldOf_82 rfl ?_
    refine go_cs (as := [.int _, .int _]) 0 dX8_toldOf_83 rfl rfl mt_8_129 (Nat.le_of_ble_eq_true rfl) rfl rfl (Nat.le_of_ble_eq_true rfl) (Nat.le_of_ble_eq_true rfl) (Nat.le_of_ble_eq_true rfl) (Nat.le_of_ble_eq_true rfl) ?_
    refine me_X8_has hk.2.2.1 (by omega) ?_
    show bw_go _ _ _ _ _ _ _ 86 [(0, .ref _), (1, .int _), (2, .int _)] ((.int _) :: []) _ _
    refine go_ifb_eq (pc' := 93) dX8_toldOf_86 rfl (fun c_86 => ?_) (fun c_86 => ?_)
    · -- eq at 86: yes
      show bw_go _ _ _ _ _ _ _ 93 [(0, .ref _), (1, .int _), (2, .int _)] ([]) _ _
      refine go_iconst (0) dX8_toldOf_93 rfl ?_
      refine go_iret dX8_toldOf_94 rfl rfl ?_
      refine qi hQ ?_
      unfold obf
      rw [if_neg (by decide), if_neg (by decide), if_neg (by decide), if_neg (by decide), if_pos rfl]
      rw [if_neg (fun z => Bool.noConfusion (c_86.symm.trans z))]
      rfl
    · -- eq at 86: no
      show bw_go _ _ _ _ _ _ _ 89 [(0, .ref _), (1, .int _), (2, .int _)] ([]) _ _
      refine go_iconst (1) dX8_toldOf_89 rfl ?_
      refine go_goto (pc' := 94) dX8_toldOf_90 rfl ?_
      show bw_go _ _ _ _ _ _ _ 94 [(0, .ref _), (1, .int _), (2, .int _)] ((.int _) :: []) _ _
      refine go_iret dX8_toldOf_94 rfl rfl ?_
      refine qi hQ ?_
      unfold obf
      rw [if_neg (by decide), if_neg (by decide), if_neg (by decide), if_neg (by decide), if_pos rfl]
      rw [if_pos c_86]
      rfl
  · -- w = 5
    refine go_tsOut (pc' := 95) dX8_toldOf_1 (by decide) rfl ?_
    show bw_go _ _ _ _ _ _ _ 95 [(0, .ref _), (1, .int _), (2, .int _)] ([]) _ _
    refine go_aload_n dX8_toldOf_95 rfl ?_
    refine go_iload_n dX8_toldOf_96 rfl ?_
    refine go_cv (as := [.int _]) 6 dX8_toldOf_97 mt_8_154 (Or.inl rfl) rfl rfl (ms_lt hm.1 (by decide)) hm.1.1.2 (Nat.le_of_ble_eq_true rfl) (Nat.le_of_ble_eq_true rfl) (Nat.le_of_ble_eq_true rfl) (Nat.le_of_ble_eq_true rfl) (Nat.le_of_ble_eq_true rfl) ?_
    refine me_X8_toldThings hm hi ?_
    show bw_go _ _ _ _ _ _ _ 100 [(0, .ref _), (1, .int _), (2, .int _)] ((.int _) :: []) _ _
    refine go_iret dX8_toldOf_100 rfl rfl ?_
    exact hQ
set_option maxRecDepth 100000 in
set_option maxHeartbeats 4000000 in
theorem me_X8_bear {X : Nat × (Nat → Int32)} {Q : Option Value → bw_H → Prop} {h : bw_H} {S : ST} {i w : Int32} (hm : MR h S) (hQ : PM h Q (yBear i w S)) : bw_me X 8 bm_X8_bear false [.ref 60, .int i, .int w] h Q := by
  have hv := mr_v hm
  have hk := mr_k hm
  have k1 := hk.1
  show bw_go _ 8 8 3 false (some .int) cX8_bear 0 [(0, .ref _), (1, .int _), (2, .int _)] [] _ _
  refine go_aload_n dX8_bear_0 rfl ?_
  refine go_iload_n dX8_bear_1 rfl ?_
  refine go_cv (as := [.int _]) 1 dX8_bear_2 mt_8_157 (Or.inl rfl) rfl rfl (ms_lt hm.1 (by decide)) hm.1.1.2 (Nat.le_of_ble_eq_true rfl) (Nat.le_of_ble_eq_true rfl) (Nat.le_of_ble_eq_true rfl) (Nat.le_of_ble_eq_true rfl) (Nat.le_of_ble_eq_true rfl) ?_
  refine me_X8_isBear hm ?_
  show bw_go _ _ _ _ _ _ _ 5 [(0, .ref _), (1, .int _), (2, .int _)] ((.int _) :: []) _ _
  refine go_ifb_eq (pc' := 33) dX8_bear_5 rfl (fun c_5 => ?_) (fun c_5 => ?_)
  · -- eq at 5: yes
    show bw_go _ _ _ _ _ _ _ 33 [(0, .ref _), (1, .int _), (2, .int _)] ([]) _ _
    refine go_iconst (-1) dX8_bear_33 rfl ?_
    refine go_iret dX8_bear_34 rfl rfl ?_
    refine q_m hQ ?_ hm (frX_r h)
    unfold yBear
    first
    | rw [if_neg (fun z => Bool.noConfusion ((show isn w 6 = false from c_17).symm.trans z.2))]
    | rw [if_neg (fun z => Bool.noConfusion ((show isn i (cN (nowC S)) = false from c_5).symm.trans z.1))]
  · -- eq at 5: no
    show bw_go _ _ _ _ _ _ _ 8 [(0, .ref _), (1, .int _), (2, .int _)] ([]) _ _
    refine go_iload_n dX8_bear_8 rfl ?_
    refine go_i2l dX8_bear_9 ?_
    refine go_lconst (0) dX8_bear_10 rfl ?_
    refine go_ldc2_w dX8_bear_11 kc_8_67 ?_
    refine go_cs (as := [.long _, .long _, .long _]) 0 dX8_bear_14 rfl rfl mt_8_69 (Nat.le_of_ble_eq_true rfl) rfl rfl (Nat.le_of_ble_eq_true rfl) (Nat.le_of_ble_eq_true rfl) (Nat.le_of_ble_eq_true rfl) (Nat.le_of_ble_eq_true rfl) ?_
    refine me_X8_in ?_
    rw [in_06]
    show bw_go _ _ _ _ _ _ _ 17 [(0, .ref _), (1, .int _), (2, .int _)] ((.int _) :: []) _ _
    refine go_ifb_eq (pc' := 33) dX8_bear_17 rfl (fun c_17 => ?_) (fun c_17 => ?_)
    · -- eq at 17: yes
      show bw_go _ _ _ _ _ _ _ 33 [(0, .ref _), (1, .int _), (2, .int _)] ([]) _ _
      refine go_iconst (-1) dX8_bear_33 rfl ?_
      refine go_iret dX8_bear_34 rfl rfl ?_
      refine q_m hQ ?_ hm (frX_r h)
      unfold yBear
      first
      | rw [if_neg (fun z => Bool.noConfusion ((show isn w 6 = false from c_17).symm.trans z.2))]
      | rw [if_neg (fun z => Bool.noConfusion ((show isn i (cN (nowC S)) = false from c_5).symm.trans z.1))]
    · -- eq at 17: no
      show bw_go _ _ _ _ _ _ _ 20 [(0, .ref _), (1, .int _), (2, .int _)] ([]) _ _
      obtain ⟨a, ha, rfl⟩ := isn_ex (r := i) (num := cN (nowC S)) c_5 (by omega)
      obtain ⟨b, hb, rfl⟩ := isn_ex (r := w) (num := 6) c_17 (by decide)
      refine go_aload_n dX8_bear_20 rfl ?_
      refine go_aload_n dX8_bear_21 rfl ?_
      refine go_iload_n dX8_bear_22 rfl ?_
      refine go_iload_n dX8_bear_23 rfl ?_
      refine go_cv (as := [.int _, .int _]) 7 dX8_bear_24 mt_8_160 (Or.inl rfl) rfl rfl (ms_lt hm.1 (by decide)) hm.1.1.2 (Nat.le_of_ble_eq_true rfl) (Nat.le_of_ble_eq_true rfl) (Nat.le_of_ble_eq_true rfl) (Nat.le_of_ble_eq_true rfl) (Nat.le_of_ble_eq_true rfl) ?_
      refine me_X8_toldOf hm ha hb ?_
      show bw_go _ _ _ _ _ _ _ 27 [(0, .ref _), (1, .int _), (2, .int _)] ((.int _) :: (.ref _) :: []) _ _
      refine go_cv (as := [.int _]) 0 dX8_bear_27 mt_8_87 (Or.inl rfl) rfl rfl (ms_lt hm.1 (by decide)) hm.1.1.2 (Nat.le_of_ble_eq_true rfl) (Nat.le_of_ble_eq_true rfl) (Nat.le_of_ble_eq_true rfl) (Nat.le_of_ble_eq_true rfl) (Nat.le_of_ble_eq_true rfl) ?_
      refine me_X8_asks hm (fun g hg hf => ?_)
      show bw_go _ _ _ _ _ _ _ 30 [(0, .ref _), (1, .int _), (2, .int _)] ((.int _) :: []) _ _
      refine go_goto (pc' := 34) dX8_bear_30 rfl ?_
      show bw_go _ _ _ _ _ _ _ 34 [(0, .ref _), (1, .int _), (2, .int _)] ((.int _) :: []) _ _
      refine go_iret dX8_bear_34 rfl rfl ?_
      refine q_m hQ ?_ hg hf
      unfold yBear
      rw [if_pos ⟨show isn (nI a) (cN (nowC S)) = true from c_5, show isn (nI b) 6 = true from c_17⟩, rn_n (by omega), rn_n (by omega)]
set_option maxRecDepth 100000 in
set_option maxHeartbeats 4000000 in
theorem me_X8_isOf {X : Nat × (Nat → Int32)} {Q : Option Value → bw_H → Prop} {h : bw_H} {k w : Nat} (hk : k < 6) (hw1 : 1 ≤ w) (hw : w < 6) (hQ : Q (some (.int (bi (ofk k w)))) h) : bw_me X 0 bm_X8_isOf false [.int (nI k), .int (nI w)] h Q := by
  show bw_go _ 0 8 2 false (some .boolean) cX8_isOf 0 [(0, .int _), (1, .int _)] [] _ _
  refine go_iload_n dX8_isOf_0 rfl ?_
  refine go_iload_n dX8_isOf_1 rfl ?_
  refine go_icmp_eq (pc' := 25) dX8_isOf_2 rfl (fun c_2 => ?_) (fun c_2 => ?_)
  · -- eq at 2: yes
    show bw_go _ _ _ _ _ _ _ 25 [(0, .int _), (1, .int _)] ([]) _ _
    refine go_iconst (1) dX8_isOf_25 rfl ?_
    refine go_goto (pc' := 30) dX8_isOf_26 rfl ?_
    show bw_go _ _ _ _ _ _ _ 30 [(0, .int _), (1, .int _)] ((.int _) :: []) _ _
    refine go_iret dX8_isOf_30 rfl rfl ?_
    have t_0 := nI_toInt (n := k) (by omega); have t_1 := nI_toInt (n := w) (by omega)
    have l_0 : (0 : Int32).toInt = 0 := rfl
    have l_1 : (1 : Int32).toInt = 1 := rfl
    have l_3 : (3 : Int32).toInt = 3 := rfl
    have l_4 : (4 : Int32).toInt = 4 := rfl
    have l_5 : (5 : Int32).toInt = 5 := rfl
    simp only [i_eq] at c_2
    first | exact bi_1 (decide_eq_true (by omega)) hQ | exact bi_0 (decide_eq_false (by omega)) hQ
  · -- eq at 2: no
    show bw_go _ _ _ _ _ _ _ 5 [(0, .int _), (1, .int _)] ([]) _ _
    refine go_iload_n dX8_isOf_5 rfl ?_
    refine go_iconst (1) dX8_isOf_6 rfl ?_
    refine go_icmp_ne (pc' := 15) dX8_isOf_7 rfl (fun c_7 => ?_) (fun c_7 => ?_)
    · -- ne at 7: yes
      show bw_go _ _ _ _ _ _ _ 15 [(0, .int _), (1, .int _)] ([]) _ _
      refine go_iload_n dX8_isOf_15 rfl ?_
      refine go_iconst (3) dX8_isOf_16 rfl ?_
      refine go_icmp_ne (pc' := 29) dX8_isOf_17 rfl (fun c_17 => ?_) (fun c_17 => ?_)
      · -- ne at 17: yes
        show bw_go _ _ _ _ _ _ _ 29 [(0, .int _), (1, .int _)] ([]) _ _
        refine go_iconst (0) dX8_isOf_29 rfl ?_
        refine go_iret dX8_isOf_30 rfl rfl ?_
        have t_0 := nI_toInt (n := k) (by omega); have t_1 := nI_toInt (n := w) (by omega)
        have l_0 : (0 : Int32).toInt = 0 := rfl
        have l_1 : (1 : Int32).toInt = 1 := rfl
        have l_3 : (3 : Int32).toInt = 3 := rfl
        have l_4 : (4 : Int32).toInt = 4 := rfl
        have l_5 : (5 : Int32).toInt = 5 := rfl
        simp only [i_eq] at c_2
        simp only [i_eq] at c_7
        simp only [i_eq] at c_17
        first | exact bi_1 (decide_eq_true (by omega)) hQ | exact bi_0 (decide_eq_false (by omega)) hQ
      · -- ne at 17: no
        show bw_go _ _ _ _ _ _ _ 20 [(0, .int _), (1, .int _)] ([]) _ _
        refine go_iload_n dX8_isOf_20 rfl ?_
        refine go_iconst (5) dX8_isOf_21 rfl ?_
        refine go_icmp_ne (pc' := 29) dX8_isOf_22 rfl (fun c_22 => ?_) (fun c_22 => ?_)
        · -- ne at 22: yes
          show bw_go _ _ _ _ _ _ _ 29 [(0, .int _), (1, .int _)] ([]) _ _
          refine go_iconst (0) dX8_isOf_29 rfl ?_
          refine go_iret dX8_isOf_30 rfl rfl ?_
          have t_0 := nI_toInt (n := k) (by omega); have t_1 := nI_toInt (n := w) (by omega)
          have l_0 : (0 : Int32).toInt = 0 := rfl
          have l_1 : (1 : Int32).toInt = 1 := rfl
          have l_3 : (3 : Int32).toInt = 3 := rfl
          have l_4 : (4 : Int32).toInt = 4 := rfl
          have l_5 : (5 : Int32).toInt = 5 := rfl
          simp only [i_eq] at c_2
          simp only [i_eq] at c_7
          simp only [i_eq] at c_17
          simp only [i_eq] at c_22
          first | exact bi_1 (decide_eq_true (by omega)) hQ | exact bi_0 (decide_eq_false (by omega)) hQ
        · -- ne at 22: no
          show bw_go _ _ _ _ _ _ _ 25 [(0, .int _), (1, .int _)] ([]) _ _
          refine go_iconst (1) dX8_isOf_25 rfl ?_
          refine go_goto (pc' := 30) dX8_isOf_26 rfl ?_
          show bw_go _ _ _ _ _ _ _ 30 [(0, .int _), (1, .int _)] ((.int _) :: []) _ _
          refine go_iret dX8_isOf_30 rfl rfl ?_
          have t_0 := nI_toInt (n := k) (by omega); have t_1 := nI_toInt (n := w) (by omega)
          have l_0 : (0 : Int32).toInt = 0 := rfl
          have l_1 : (1 : Int32).toInt = 1 := rfl
          have l_3 : (3 : Int32).toInt = 3 := rfl
          have l_4 : (4 : Int32).toInt = 4 := rfl
          have l_5 : (5 : Int32).toInt = 5 := rfl
          simp only [i_eq] at c_2
          simp only [i_eq] at c_7
          simp only [i_eq] at c_17
          simp only [i_eq] at c_22
          first | exact bi_1 (decide_eq_true (by omega)) hQ | exact bi_0 (decide_eq_false (by omega)) hQ
    · -- ne at 7: no
      show bw_go _ _ _ _ _ _ _ 10 [(0, .int _), (1, .int _)] ([]) _ _
      refine go_iload_n dX8_isOf_10 rfl ?_
      refine go_iconst (4) dX8_isOf_11 rfl ?_
      refine go_icmp_eq (pc' := 25) dX8_isOf_12 rfl (fun c_12 => ?_) (fun c_12 => ?_)
      · -- eq at 12: yes
        show bw_go _ _ _ _ _ _ _ 25 [(0, .int _), (1, .int _)] ([]) _ _
        refine go_iconst (1) dX8_isOf_25 rfl ?_
        refine go_goto (pc' := 30) dX8_isOf_26 rfl ?_
        show bw_go _ _ _ _ _ _ _ 30 [(0, .int _), (1, .int _)] ((.int _) :: []) _ _
        refine go_iret dX8_isOf_30 rfl rfl ?_
        have t_0 := nI_toInt (n := k) (by omega); have t_1 := nI_toInt (n := w) (by omega)
        have l_0 : (0 : Int32).toInt = 0 := rfl
        have l_1 : (1 : Int32).toInt = 1 := rfl
        have l_3 : (3 : Int32).toInt = 3 := rfl
        have l_4 : (4 : Int32).toInt = 4 := rfl
        have l_5 : (5 : Int32).toInt = 5 := rfl
        simp only [i_eq] at c_2
        simp only [i_eq] at c_7
        simp only [i_eq] at c_12
        first | exact bi_1 (decide_eq_true (by omega)) hQ | exact bi_0 (decide_eq_false (by omega)) hQ
      · -- eq at 12: no
        show bw_go _ _ _ _ _ _ _ 15 [(0, .int _), (1, .int _)] ([]) _ _
        refine go_iload_n dX8_isOf_15 rfl ?_
        refine go_iconst (3) dX8_isOf_16 rfl ?_
        refine go_icmp_ne (pc' := 29) dX8_isOf_17 rfl (fun c_17 => ?_) (fun c_17 => ?_)
        · -- ne at 17: yes
          show bw_go _ _ _ _ _ _ _ 29 [(0, .int _), (1, .int _)] ([]) _ _
          refine go_iconst (0) dX8_isOf_29 rfl ?_
          refine go_iret dX8_isOf_30 rfl rfl ?_
          have t_0 := nI_toInt (n := k) (by omega); have t_1 := nI_toInt (n := w) (by omega)
          have l_0 : (0 : Int32).toInt = 0 := rfl
          have l_1 : (1 : Int32).toInt = 1 := rfl
          have l_3 : (3 : Int32).toInt = 3 := rfl
          have l_4 : (4 : Int32).toInt = 4 := rfl
          have l_5 : (5 : Int32).toInt = 5 := rfl
          simp only [i_eq] at c_2
          simp only [i_eq] at c_7
          simp only [i_eq] at c_12
          simp only [i_eq] at c_17
          first | exact bi_1 (decide_eq_true (by omega)) hQ | exact bi_0 (decide_eq_false (by omega)) hQ
        · -- ne at 17: no
          show bw_go _ _ _ _ _ _ _ 20 [(0, .int _), (1, .int _)] ([]) _ _
          refine go_iload_n dX8_isOf_20 rfl ?_
          refine go_iconst (5) dX8_isOf_21 rfl ?_
          refine go_icmp_ne (pc' := 29) dX8_isOf_22 rfl (fun c_22 => ?_) (fun c_22 => ?_)
          · -- ne at 22: yes
            show bw_go _ _ _ _ _ _ _ 29 [(0, .int _), (1, .int _)] ([]) _ _
            refine go_iconst (0) dX8_isOf_29 rfl ?_
            refine go_iret dX8_isOf_30 rfl rfl ?_
            have t_0 := nI_toInt (n := k) (by omega); have t_1 := nI_toInt (n := w) (by omega)
            have l_0 : (0 : Int32).toInt = 0 := rfl
            have l_1 : (1 : Int32).toInt = 1 := rfl
            have l_3 : (3 : Int32).toInt = 3 := rfl
            have l_4 : (4 : Int32).toInt = 4 := rfl
            have l_5 : (5 : Int32).toInt = 5 := rfl
            simp only [i_eq] at c_2
            simp only [i_eq] at c_7
            simp only [i_eq] at c_12
            simp only [i_eq] at c_17
            simp only [i_eq] at c_22
            first | exact bi_1 (decide_eq_true (by omega)) hQ | exact bi_0 (decide_eq_false (by omega)) hQ
          · -- ne at 22: no
            show bw_go _ _ _ _ _ _ _ 25 [(0, .int _), (1, .int _)] ([]) _ _
            refine go_iconst (1) dX8_isOf_25 rfl ?_
            refine go_goto (pc' := 30) dX8_isOf_26 rfl ?_
            show bw_go _ _ _ _ _ _ _ 30 [(0, .int _), (1, .int _)] ((.int _) :: []) _ _
            refine go_iret dX8_isOf_30 rfl rfl ?_
            have t_0 := nI_toInt (n := k) (by omega); have t_1 := nI_toInt (n := w) (by omega)
            have l_0 : (0 : Int32).toInt = 0 := rfl
            have l_1 : (1 : Int32).toInt = 1 := rfl
            have l_3 : (3 : Int32).toInt = 3 := rfl
            have l_4 : (4 : Int32).toInt = 4 := rfl
            have l_5 : (5 : Int32).toInt = 5 := rfl
            simp only [i_eq] at c_2
            simp only [i_eq] at c_7
            simp only [i_eq] at c_12
            simp only [i_eq] at c_17
            simp only [i_eq] at c_22
            first | exact bi_1 (decide_eq_true (by omega)) hQ | exact bi_0 (decide_eq_false (by omega)) hQ
set_option maxRecDepth 100000 in
set_option maxHeartbeats 4000000 in
theorem me_X8_seesBeyond {X : Nat × (Nat → Int32)} {Q : Option Value → bw_H → Prop} {h : bw_H} {S : ST} {i s : Nat} (hm : MR h S) (hi : i < cN (nowC S)) (hs : s < 64) (hQ : Q (some (.int (nI (bc ((see (cK (nowC S) i) (cR (nowC S) i) (cV (nowC S) i) (cE (nowC S) i)) &&& (63 ^^^ s)))))) h) : bw_me X 4 bm_X8_seesBeyond false [.ref 60, .int (nI i), .int (nI s)] h Q := by
  have hv := mr_v hm
  have hkC := mr_k hm
  have k1 := hkC.1
  show bw_go _ 4 8 5 false (some .int) cX8_seesBeyond 0 [(0, .ref _), (1, .int _), (2, .int _)] [] _ _
  refine go_iconst (0) dX8_seesBeyond_0 rfl ?_
  refine go_istore_n dX8_seesBeyond_1 (Nat.lt_of_lt_of_le (Nat.lt_succ_self _) (Nat.le_of_ble_eq_true rfl)) ?_
  show bw_go _ _ _ _ _ _ _ 2 [(3, .int _), (0, .ref _), (1, .int _), (2, .int _)] ([]) _ _
  refine go_iconst (0) dX8_seesBeyond_2 rfl ?_
  refine go_istore dX8_seesBeyond_3 (Nat.lt_of_lt_of_le (Nat.lt_succ_self _) (Nat.le_of_ble_eq_true rfl)) ?_
  show bw_go _ _ _ _ _ _ _ 5 [(4, .int _), (3, .int _), (0, .ref _), (1, .int _), (2, .int _)] ([]) _ _
  refine go_for (P := fun k => bw_go X 4 8 5 false (some .int) cX8_seesBeyond 5 [(4, .int (nI k)), (3, .int (nI (cnt (fun t => (see (cK (nowC S) i) (cR (nowC S) i) (cV (nowC S) i) (cE (nowC S) i)).testBit t && !s.testBit t) k))), (0, .ref (60)), (1, .int (nI i)), (2, .int (nI s))] [] h Q) (N := 6) (fun k hk K => ?_) ?_ (0) (Nat.zero_le _)
  · -- a turn
    show bw_go _ _ _ _ _ _ _ 5 [(4, .int _), (3, .int _), (0, .ref _), (1, .int _), (2, .int _)] ([]) _ _
    refine go_iload dX8_seesBeyond_5 rfl ?_
    refine go_bipush (6) dX8_seesBeyond_7 rfl ?_
    refine go_icmp_ge (pc' := 52) dX8_seesBeyond_9 rfl (fun c_9 => ?_) (fun c_9 => ?_)
    · -- ge at 9: yes
      exfalso; have t_0 := nI_toInt (n := k) (by omega); have l_0 : (6 : Int32).toInt = 6 := rfl; simp only [i_le, i_lt, i_eq, bi_eq] at c_9; omega
    · -- ge at 9: no
      show bw_go _ _ _ _ _ _ _ 12 [(4, .int _), (3, .int _), (0, .ref _), (1, .int _), (2, .int _)] ([]) _ _
      refine go_iload_n dX8_seesBeyond_12 rfl ?_
      refine go_aload_n dX8_seesBeyond_13 rfl ?_
      refine go_aload_n dX8_seesBeyond_14 rfl ?_
      refine go_gfr dX8_seesBeyond_15 fl_8_7 rfl (ms_lt hm.1 (by decide)) hm.1.1.2 hm.1.2.1.1 ?_
      refine go_iload_n dX8_seesBeyond_18 rfl ?_
      refine go_iload dX8_seesBeyond_19 rfl ?_
      refine go_iconst (0) dX8_seesBeyond_21 rfl ?_
      refine go_cv (as := [.ref _, .int _, .int _, .int _]) 3 dX8_seesBeyond_22 mt_8_140 (Or.inl rfl) rfl rfl (ms_lt hm.1 (by decide)) hm.1.1.2 (Nat.le_of_ble_eq_true rfl) (Nat.le_of_ble_eq_true rfl) (Nat.le_of_ble_eq_true rfl) (Nat.le_of_ble_eq_true rfl) (Nat.le_of_ble_eq_true rfl) ?_
      rw [show (0 : Int32) = nI 0 from rfl]
      refine me_X8_sayOf hm.1 (ms_lt hm.1 (by decide)) hm.1.2.2.1 hv hkC hi hk (by decide) ?_
      show bw_go _ _ _ _ _ _ _ 25 [(4, .int _), (3, .int _), (0, .ref _), (1, .int _), (2, .int _)] ((.int _) :: (.int _) :: []) _ _
      refine go_bipush (-9) dX8_seesBeyond_25 rfl ?_
      refine go_icmp_eq (pc' := 43) dX8_seesBeyond_27 rfl (fun c_27 => ?_) (fun c_27 => ?_)
      · -- eq at 27: yes
        show bw_go _ _ _ _ _ _ _ 43 [(4, .int _), (3, .int _), (0, .ref _), (1, .int _), (2, .int _)] ((.int _) :: []) _ _
        refine go_iconst (0) dX8_seesBeyond_43 rfl ?_
        refine go_iadd dX8_seesBeyond_44 ?_
        first | rw [show nI (cnt (fun t => (see (cK (nowC S) i) (cR (nowC S) i) (cV (nowC S) i) (cE (nowC S) i)).testBit t && !s.testBit t) k) + 1 = nI (cnt (fun t => (see (cK (nowC S) i) (cR (nowC S) i) (cV (nowC S) i) (cE (nowC S) i)).testBit t && !s.testBit t) k + 1) from nI_1 _] | rw [show nI (cnt (fun t => (see (cK (nowC S) i) (cR (nowC S) i) (cV (nowC S) i) (cE (nowC S) i)).testBit t && !s.testBit t) k) + 0 = nI (cnt (fun t => (see (cK (nowC S) i) (cR (nowC S) i) (cV (nowC S) i) (cE (nowC S) i)).testBit t && !s.testBit t) k + 0) from nI_add _ 0]
        refine go_istore_n dX8_seesBeyond_45 (Nat.lt_of_lt_of_le (Nat.lt_succ_self _) (Nat.le_of_ble_eq_true rfl)) ?_
        show bw_go _ _ _ _ _ _ _ 46 [(3, .int _), (4, .int _), (0, .ref _), (1, .int _), (2, .int _)] ([]) _ _
        refine go_iinc dX8_seesBeyond_46 rfl (nI_1 k) (Nat.lt_of_lt_of_le (Nat.lt_succ_self _) (Nat.le_of_ble_eq_true rfl)) ?_
        show bw_go _ _ _ _ _ _ _ 49 [(4, .int _), (3, .int _), (0, .ref _), (1, .int _), (2, .int _)] ([]) _ _
        refine go_goto (pc' := 5) dX8_seesBeyond_49 rfl ?_
        have e1 : cnt (fun t => (see (cK (nowC S) i) (cR (nowC S) i) (cV (nowC S) i) (cE (nowC S) i)).testBit t && !s.testBit t) (k + 1) = cnt (fun t => (see (cK (nowC S) i) (cR (nowC S) i) (cV (nowC S) i) (cE (nowC S) i)).testBit t && !s.testBit t) k + (if ((see (cK (nowC S) i) (cR (nowC S) i) (cV (nowC S) i) (cE (nowC S) i)).testBit k && !s.testBit k) = true then 1 else 0) := rfl
        first
        | (rw [if_neg (by have z := sya_9.mp c_27; simp [z])] at e1; rw [e1] at K; exact K)
        | (have z : (see (cK (nowC S) i) (cR (nowC S) i) (cV (nowC S) i) (cE (nowC S) i)).testBit k = true := Decidable.of_not_not (fun z => c_27 (sya_9.mpr z))
           first
           | (rw [if_neg (by rw [c_36]; simp)] at e1; rw [e1] at K; exact K)
           | (rw [if_pos (by rw [c_36, z]; rfl)] at e1; rw [e1] at K; exact K))
      · -- eq at 27: no
        show bw_go _ _ _ _ _ _ _ 30 [(4, .int _), (3, .int _), (0, .ref _), (1, .int _), (2, .int _)] ((.int _) :: []) _ _
        refine go_iload_n dX8_seesBeyond_30 rfl ?_
        refine go_iload dX8_seesBeyond_31 rfl ?_
        refine go_cs (as := [.int _, .int _]) 0 dX8_seesBeyond_33 rfl rfl mt_8_129 (Nat.le_of_ble_eq_true rfl) rfl rfl (Nat.le_of_ble_eq_true rfl) (Nat.le_of_ble_eq_true rfl) (Nat.le_of_ble_eq_true rfl) (Nat.le_of_ble_eq_true rfl) ?_
        refine me_X8_has hs (by omega) ?_
        show bw_go _ _ _ _ _ _ _ 36 [(4, .int _), (3, .int _), (0, .ref _), (1, .int _), (2, .int _)] ((.int _) :: (.int _) :: []) _ _
        refine go_ifb_ne (pc' := 43) dX8_seesBeyond_36 rfl (fun c_36 => ?_) (fun c_36 => ?_)
        · -- ne at 36: yes
          show bw_go _ _ _ _ _ _ _ 43 [(4, .int _), (3, .int _), (0, .ref _), (1, .int _), (2, .int _)] ((.int _) :: []) _ _
          refine go_iconst (0) dX8_seesBeyond_43 rfl ?_
          refine go_iadd dX8_seesBeyond_44 ?_
          first | rw [show nI (cnt (fun t => (see (cK (nowC S) i) (cR (nowC S) i) (cV (nowC S) i) (cE (nowC S) i)).testBit t && !s.testBit t) k) + 1 = nI (cnt (fun t => (see (cK (nowC S) i) (cR (nowC S) i) (cV (nowC S) i) (cE (nowC S) i)).testBit t && !s.testBit t) k + 1) from nI_1 _] | rw [show nI (cnt (fun t => (see (cK (nowC S) i) (cR (nowC S) i) (cV (nowC S) i) (cE (nowC S) i)).testBit t && !s.testBit t) k) + 0 = nI (cnt (fun t => (see (cK (nowC S) i) (cR (nowC S) i) (cV (nowC S) i) (cE (nowC S) i)).testBit t && !s.testBit t) k + 0) from nI_add _ 0]
          refine go_istore_n dX8_seesBeyond_45 (Nat.lt_of_lt_of_le (Nat.lt_succ_self _) (Nat.le_of_ble_eq_true rfl)) ?_
          show bw_go _ _ _ _ _ _ _ 46 [(3, .int _), (4, .int _), (0, .ref _), (1, .int _), (2, .int _)] ([]) _ _
          refine go_iinc dX8_seesBeyond_46 rfl (nI_1 k) (Nat.lt_of_lt_of_le (Nat.lt_succ_self _) (Nat.le_of_ble_eq_true rfl)) ?_
          show bw_go _ _ _ _ _ _ _ 49 [(4, .int _), (3, .int _), (0, .ref _), (1, .int _), (2, .int _)] ([]) _ _
          refine go_goto (pc' := 5) dX8_seesBeyond_49 rfl ?_
          have e1 : cnt (fun t => (see (cK (nowC S) i) (cR (nowC S) i) (cV (nowC S) i) (cE (nowC S) i)).testBit t && !s.testBit t) (k + 1) = cnt (fun t => (see (cK (nowC S) i) (cR (nowC S) i) (cV (nowC S) i) (cE (nowC S) i)).testBit t && !s.testBit t) k + (if ((see (cK (nowC S) i) (cR (nowC S) i) (cV (nowC S) i) (cE (nowC S) i)).testBit k && !s.testBit k) = true then 1 else 0) := rfl
          first
          | (rw [if_neg (by have z := sya_9.mp c_27; simp [z])] at e1; rw [e1] at K; exact K)
          | (have z : (see (cK (nowC S) i) (cR (nowC S) i) (cV (nowC S) i) (cE (nowC S) i)).testBit k = true := Decidable.of_not_not (fun z => c_27 (sya_9.mpr z))
             first
             | (rw [if_neg (by rw [c_36]; simp)] at e1; rw [e1] at K; exact K)
             | (rw [if_pos (by rw [c_36, z]; rfl)] at e1; rw [e1] at K; exact K))
        · -- ne at 36: no
          show bw_go _ _ _ _ _ _ _ 39 [(4, .int _), (3, .int _), (0, .ref _), (1, .int _), (2, .int _)] ((.int _) :: []) _ _
          refine go_iconst (1) dX8_seesBeyond_39 rfl ?_
          refine go_goto (pc' := 44) dX8_seesBeyond_40 rfl ?_
          show bw_go _ _ _ _ _ _ _ 44 [(4, .int _), (3, .int _), (0, .ref _), (1, .int _), (2, .int _)] ((.int _) :: (.int _) :: []) _ _
          refine go_iadd dX8_seesBeyond_44 ?_
          first | rw [show nI (cnt (fun t => (see (cK (nowC S) i) (cR (nowC S) i) (cV (nowC S) i) (cE (nowC S) i)).testBit t && !s.testBit t) k) + 1 = nI (cnt (fun t => (see (cK (nowC S) i) (cR (nowC S) i) (cV (nowC S) i) (cE (nowC S) i)).testBit t && !s.testBit t) k + 1) from nI_1 _] | rw [show nI (cnt (fun t => (see (cK (nowC S) i) (cR (nowC S) i) (cV (nowC S) i) (cE (nowC S) i)).testBit t && !s.testBit t) k) + 0 = nI (cnt (fun t => (see (cK (nowC S) i) (cR (nowC S) i) (cV (nowC S) i) (cE (nowC S) i)).testBit t && !s.testBit t) k + 0) from nI_add _ 0]
          refine go_istore_n dX8_seesBeyond_45 (Nat.lt_of_lt_of_le (Nat.lt_succ_self _) (Nat.le_of_ble_eq_true rfl)) ?_
          show bw_go _ _ _ _ _ _ _ 46 [(3, .int _), (4, .int _), (0, .ref _), (1, .int _), (2, .int _)] ([]) _ _
          refine go_iinc dX8_seesBeyond_46 rfl (nI_1 k) (Nat.lt_of_lt_of_le (Nat.lt_succ_self _) (Nat.le_of_ble_eq_true rfl)) ?_
          show bw_go _ _ _ _ _ _ _ 49 [(4, .int _), (3, .int _), (0, .ref _), (1, .int _), (2, .int _)] ([]) _ _
          refine go_goto (pc' := 5) dX8_seesBeyond_49 rfl ?_
          have e1 : cnt (fun t => (see (cK (nowC S) i) (cR (nowC S) i) (cV (nowC S) i) (cE (nowC S) i)).testBit t && !s.testBit t) (k + 1) = cnt (fun t => (see (cK (nowC S) i) (cR (nowC S) i) (cV (nowC S) i) (cE (nowC S) i)).testBit t && !s.testBit t) k + (if ((see (cK (nowC S) i) (cR (nowC S) i) (cV (nowC S) i) (cE (nowC S) i)).testBit k && !s.testBit k) = true then 1 else 0) := rfl
          first
          | (rw [if_neg (by have z := sya_9.mp c_27; simp [z])] at e1; rw [e1] at K; exact K)
          | (have z : (see (cK (nowC S) i) (cR (nowC S) i) (cV (nowC S) i) (cE (nowC S) i)).testBit k = true := Decidable.of_not_not (fun z => c_27 (sya_9.mpr z))
             first
             | (rw [if_neg (by rw [c_36]; simp)] at e1; rw [e1] at K; exact K)
             | (rw [if_pos (by rw [c_36, z]; rfl)] at e1; rw [e1] at K; exact K))
  · -- behind the last
    show bw_go _ _ _ _ _ _ _ 5 [(4, .int _), (3, .int _), (0, .ref _), (1, .int _), (2, .int _)] ([]) _ _
    refine go_iload dX8_seesBeyond_5 rfl ?_
    refine go_bipush (6) dX8_seesBeyond_7 rfl ?_
    refine go_icmp_ge (pc' := 52) dX8_seesBeyond_9 rfl (fun c_9 => ?_) (fun c_9 => ?_)
    · -- ge at 9: yes
      show bw_go _ _ _ _ _ _ _ 52 [(4, .int _), (3, .int _), (0, .ref _), (1, .int _), (2, .int _)] ([]) _ _
      refine go_iload_n dX8_seesBeyond_52 rfl ?_
      refine go_iret dX8_seesBeyond_53 rfl rfl ?_
      refine qi hQ (congrArg nI (cnt_c 6 (fun t ht => ?_)))
      rw [Nat.testBit_and, Nat.testBit_xor, t63 t ht]
      cases s.testBit t <;> rfl
    · -- ge at 9: no
      exfalso; have t_0 := nI_toInt (n := 6) (by omega); have l_0 : (6 : Int32).toInt = 6 := rfl; simp only [i_le, i_lt, i_eq, bi_eq] at c_9; omega
set_option maxRecDepth 100000 in
set_option maxHeartbeats 4000000 in
theorem me_X8_mark {X : Nat × (Nat → Int32)} {Q : Option Value → bw_H → Prop} {h : bw_H} {S : ST} {i k : Int32} (hm : MR h S) (hQ : PM h Q (yMark i k S)) : bw_me X 5 bm_X8_mark false [.ref 60, .int i, .int k] h Q := by
  have hv := mr_v hm
  have hk := mr_k hm
  have k1 := hk.1
  show bw_go _ 5 8 4 false (some .int) cX8_mark 0 [(0, .ref _), (1, .int _), (2, .int _)] [] _ _
  refine go_aload_n dX8_mark_0 rfl ?_
  refine go_iload_n dX8_mark_1 rfl ?_
  refine go_cv (as := [.int _]) 1 dX8_mark_2 mt_8_157 (Or.inl rfl) rfl rfl (ms_lt hm.1 (by decide)) hm.1.1.2 (Nat.le_of_ble_eq_true rfl) (Nat.le_of_ble_eq_true rfl) (Nat.le_of_ble_eq_true rfl) (Nat.le_of_ble_eq_true rfl) (Nat.le_of_ble_eq_true rfl) ?_
  refine me_X8_isBear hm ?_
  show bw_go _ _ _ _ _ _ _ 5 [(0, .ref _), (1, .int _), (2, .int _)] ((.int _) :: []) _ _
  refine go_ifb_eq (pc' := 20) dX8_mark_5 rfl (fun c_5 => ?_) (fun c_5 => ?_)
  · -- eq at 5: yes
    show bw_go _ _ _ _ _ _ _ 20 [(0, .ref _), (1, .int _), (2, .int _)] ([]) _ _
    refine go_iconst (-1) dX8_mark_20 rfl ?_
    refine go_iret dX8_mark_21 rfl rfl ?_
    refine q_m hQ ?_ hm (frX_r h)
    unfold yMark
    first
    | rw [if_neg (fun z => (of_decide_eq_false c_17) z.2)]
    | rw [if_neg (fun z => Bool.noConfusion ((show isn i (cN (nowC S)) = false from c_5).symm.trans z.1))]
  · -- eq at 5: no
    show bw_go _ _ _ _ _ _ _ 8 [(0, .ref _), (1, .int _), (2, .int _)] ([]) _ _
    refine go_iload_n dX8_mark_8 rfl ?_
    refine go_i2l dX8_mark_9 ?_
    refine go_lconst (1) dX8_mark_10 rfl ?_
    refine go_ldc2_w dX8_mark_11 kc_8_67 ?_
    refine go_cs (as := [.long _, .long _, .long _]) 0 dX8_mark_14 rfl rfl mt_8_69 (Nat.le_of_ble_eq_true rfl) rfl rfl (Nat.le_of_ble_eq_true rfl) (Nat.le_of_ble_eq_true rfl) (Nat.le_of_ble_eq_true rfl) (Nat.le_of_ble_eq_true rfl) ?_
    refine me_X8_in ?_
    rw [in_15]
    show bw_go _ _ _ _ _ _ _ 17 [(0, .ref _), (1, .int _), (2, .int _)] ((.int _) :: []) _ _
    refine go_ifb_ne (pc' := 22) dX8_mark_17 rfl (fun c_17 => ?_) (fun c_17 => ?_)
    · -- ne at 17: yes
      show bw_go _ _ _ _ _ _ _ 22 [(0, .ref _), (1, .int _), (2, .int _)] ([]) _ _
      have hk3 : 1 ≤ k.toInt ∧ k.toInt < 6 := of_decide_eq_true c_17
      obtain ⟨a, ha, rfl⟩ := isn_ex (r := i) (num := cN (nowC S)) c_5 (by omega)
      obtain ⟨y, hy, rfl⟩ := isn_ex (r := k) (num := 6) (decide_eq_true (by omega)) (by decide)
      have t_y := nI_toInt (n := y) (by omega)
      have hy1 : 1 ≤ y := by omega
      have k2 := hk.2.2.2.2 a ha
      refine go_aload_n dX8_mark_22 rfl ?_
      refine go_gfr dX8_mark_23 fl_8_7 rfl (ms_lt hm.1 (by decide)) hm.1.1.2 hm.1.2.1.1 ?_
      refine go_iconst (2) dX8_mark_26 rfl ?_
      refine go_iload_n dX8_mark_27 rfl ?_
      refine go_iadd dX8_mark_28 ?_
      rw [show (2 : Int32) = nI 2 from rfl, nI_add]
      refine go_ia dX8_mark_29 hm.1.2.2.1 (ms_lt hm.1 (by decide)) (n_in (N := 80) (by omega) (by decide)) ?_
      rw [nI_clamp (by omega), (hv.2.2.2 a ha).1]
      refine go_iload_n dX8_mark_30 rfl ?_
      refine go_cs (as := [.int _, .int _]) 0 dX8_mark_31 rfl rfl mt_8_163 (Nat.le_of_ble_eq_true rfl) rfl rfl (Nat.le_of_ble_eq_true rfl) (Nat.le_of_ble_eq_true rfl) (Nat.le_of_ble_eq_true rfl) (Nat.le_of_ble_eq_true rfl) ?_
      refine me_X8_isOf k2.1 hy1 hy ?_
      show bw_go _ _ _ _ _ _ _ 34 [(0, .ref _), (1, .int _), (2, .int _)] ((.int _) :: []) _ _
      refine go_ifb_ne (pc' := 43) dX8_mark_34 rfl (fun c_34 => ?_) (fun c_34 => ?_)
      · -- ne at 34: yes
        show bw_go _ _ _ _ _ _ _ 43 [(0, .ref _), (1, .int _), (2, .int _)] ([]) _ _
        refine go_aload_n dX8_mark_43 rfl ?_
        refine go_gfr dX8_mark_44 fl_8_7 rfl (ms_lt hm.1 (by decide)) hm.1.1.2 hm.1.2.1.1 ?_
        refine go_bipush (73) dX8_mark_47 rfl ?_
        refine go_iload_n dX8_mark_49 rfl ?_
        refine go_iadd dX8_mark_50 ?_
        rw [show (73 : Int32) = nI 73 from rfl, nI_add]
        refine go_ia dX8_mark_51 hm.1.2.2.1 (ms_lt hm.1 (by decide)) (n_in (N := 80) (by omega) (by decide)) ?_
        rw [nI_clamp (by omega), (hv.2.2.2 a ha).2.2.1]
        refine go_istore_n dX8_mark_52 (Nat.lt_of_lt_of_le (Nat.lt_succ_self _) (Nat.le_of_ble_eq_true rfl)) ?_
        show bw_go _ _ _ _ _ _ _ 53 [(3, .int _), (0, .ref _), (1, .int _), (2, .int _)] ([]) _ _
        refine go_iload_n dX8_mark_53 rfl ?_
        rcases (show y = 1 ∨ y = 2 ∨ y = 3 ∨ y = 4 ∨ y = 5 by omega) with rfl | rfl | rfl | rfl | rfl
        · skip
          refine go_tsIn (pc' := 84) dX8_mark_54 (by decide) (by decide) rfl rfl ?_
          show bw_go _ _ _ _ _ _ _ 84 [(3, .int _), (0, .ref _), (1, .int _), (2, .int _)] ([]) _ _
          refine go_aload_n dX8_mark_84 rfl ?_
          refine go_gfr dX8_mark_85 fl_8_7 rfl (ms_lt hm.1 (by decide)) hm.1.1.2 hm.1.2.1.1 ?_
          refine go_bipush (20) dX8_mark_88 rfl ?_
          refine go_iload_n dX8_mark_90 rfl ?_
          refine go_iadd dX8_mark_91 ?_
          rw [show (20 : Int32) = nI 20 from rfl, nI_add]
          refine go_ia dX8_mark_92 hm.1.2.2.1 (ms_lt hm.1 (by decide)) (n_in (N := 80) (by omega) (by decide)) ?_
          rw [nI_clamp (by omega), (hv.2.2.2 a ha).2.2.2]
          refine go_cs (as := [.int _]) 0 dX8_mark_93 rfl rfl mt_8_166 (Nat.le_of_ble_eq_true rfl) rfl rfl (Nat.le_of_ble_eq_true rfl) (Nat.le_of_ble_eq_true rfl) (Nat.le_of_ble_eq_true rfl) (Nat.le_of_ble_eq_true rfl) ?_
          refine me_X8_bits k2.2.2.2 ?_
          show bw_go _ _ _ _ _ _ _ 96 [(3, .int _), (0, .ref _), (1, .int _), (2, .int _)] ((.int _) :: []) _ _
          refine go_iret dX8_mark_96 rfl rfl ?_
          refine q_m hQ ?_ hm (frX_r h)
          unfold yMark
          rw [if_pos ⟨show isn (nI a) (cN (nowC S)) = true from c_5, hk3⟩, rn_n (by omega), rn_n (by omega), if_pos c_34]
          unfold mkf
          rw [if_pos rfl]
        · skip
          refine go_tsIn (pc' := 97) dX8_mark_54 (by decide) (by decide) rfl rfl ?_
          show bw_go _ _ _ _ _ _ _ 97 [(3, .int _), (0, .ref _), (1, .int _), (2, .int _)] ([]) _ _
          refine go_aload_n dX8_mark_97 rfl ?_
          refine go_iload_n dX8_mark_98 rfl ?_
          refine go_aload_n dX8_mark_99 rfl ?_
          refine go_gfr dX8_mark_100 fl_8_7 rfl (ms_lt hm.1 (by decide)) hm.1.1.2 hm.1.2.1.1 ?_
          refine go_bipush (20) dX8_mark_103 rfl ?_
          refine go_iload_n dX8_mark_105 rfl ?_
          refine go_iadd dX8_mark_106 ?_
          rw [show (20 : Int32) = nI 20 from rfl, nI_add]
          refine go_ia dX8_mark_107 hm.1.2.2.1 (ms_lt hm.1 (by decide)) (n_in (N := 80) (by omega) (by decide)) ?_
          rw [nI_clamp (by omega), (hv.2.2.2 a ha).2.2.2]
          refine go_cv (as := [.int _, .int _]) 4 dX8_mark_108 mt_8_169 (Or.inl rfl) rfl rfl (ms_lt hm.1 (by decide)) hm.1.1.2 (Nat.le_of_ble_eq_true rfl) (Nat.le_of_ble_eq_true rfl) (Nat.le_of_ble_eq_true rfl) (Nat.le_of_ble_eq_true rfl) (Nat.le_of_ble_eq_true rfl) ?_
          refine me_X8_seesBeyond hm ha k2.2.2.2 ?_
          show bw_go _ _ _ _ _ _ _ 111 [(3, .int _), (0, .ref _), (1, .int _), (2, .int _)] ((.int _) :: []) _ _
          refine go_iret dX8_mark_111 rfl rfl ?_
          refine q_m hQ ?_ hm (frX_r h)
          unfold yMark
          rw [if_pos ⟨show isn (nI a) (cN (nowC S)) = true from c_5, hk3⟩, rn_n (by omega), rn_n (by omega), if_pos c_34]
          unfold mkf
          rw [if_neg (by decide), if_pos rfl]
        · skip
          refine go_tsIn (pc' := 112) dX8_mark_54 (by decide) (by decide) rfl rfl ?_
          show bw_go _ _ _ _ _ _ _ 112 [(3, .int _), (0, .ref _), (1, .int _), (2, .int _)] ([]) _ _
          refine go_iload_n dX8_mark_112 rfl ?_
          refine go_iconst (5) dX8_mark_113 rfl ?_
          refine go_icmp_ge (pc' := 123) dX8_mark_114 rfl (fun c_114 => ?_) (fun c_114 => ?_)
          · -- ge at 114: yes
            show bw_go _ _ _ _ _ _ _ 123 [(3, .int _), (0, .ref _), (1, .int _), (2, .int _)] ([]) _ _
            refine go_iconst (0) dX8_mark_123 rfl ?_
            refine go_iret dX8_mark_124 rfl rfl ?_
            have t_0 := nI_toInt (n := cR (nowC S) a) (by omega)
            have l_0 : (5 : Int32).toInt = 5 := rfl
            simp only [i_le] at c_114
            first | rw [show (5 : Int32) = nI 5 from rfl, pk_sub (by omega)] | rw [show (0 : Int32) = nI (5 - cR (nowC S) a) from by rw [show 5 - cR (nowC S) a = 0 by omega]; rfl]
            refine q_m hQ ?_ hm (frX_r h)
            unfold yMark
            rw [if_pos ⟨show isn (nI a) (cN (nowC S)) = true from c_5, hk3⟩, rn_n (by omega), rn_n (by omega), if_pos c_34]
            unfold mkf
            rw [if_neg (by decide), if_neg (by decide), if_pos rfl]
          · -- ge at 114: no
            show bw_go _ _ _ _ _ _ _ 117 [(3, .int _), (0, .ref _), (1, .int _), (2, .int _)] ([]) _ _
            refine go_iconst (5) dX8_mark_117 rfl ?_
            refine go_iload_n dX8_mark_118 rfl ?_
            refine go_isub dX8_mark_119 ?_
            refine go_goto (pc' := 124) dX8_mark_120 rfl ?_
            show bw_go _ _ _ _ _ _ _ 124 [(3, .int _), (0, .ref _), (1, .int _), (2, .int _)] ((.int _) :: []) _ _
            refine go_iret dX8_mark_124 rfl rfl ?_
            have t_0 := nI_toInt (n := cR (nowC S) a) (by omega)
            have l_0 : (5 : Int32).toInt = 5 := rfl
            simp only [i_le] at c_114
            first | rw [show (5 : Int32) = nI 5 from rfl, pk_sub (by omega)] | rw [show (0 : Int32) = nI (5 - cR (nowC S) a) from by rw [show 5 - cR (nowC S) a = 0 by omega]; rfl]
            refine q_m hQ ?_ hm (frX_r h)
            unfold yMark
            rw [if_pos ⟨show isn (nI a) (cN (nowC S)) = true from c_5, hk3⟩, rn_n (by omega), rn_n (by omega), if_pos c_34]
            unfold mkf
            rw [if_neg (by decide), if_neg (by decide), if_pos rfl]
        · skip
          refine go_tsIn (pc' := 125) dX8_mark_54 (by decide) (by decide) rfl rfl ?_
          show bw_go _ _ _ _ _ _ _ 125 [(3, .int _), (0, .ref _), (1, .int _), (2, .int _)] ([]) _ _
          refine go_aload_n dX8_mark_125 rfl ?_
          refine go_iload_n dX8_mark_126 rfl ?_
          refine go_aload_n dX8_mark_127 rfl ?_
          refine go_gfr dX8_mark_128 fl_8_7 rfl (ms_lt hm.1 (by decide)) hm.1.1.2 hm.1.2.1.1 ?_
          refine go_iconst (1) dX8_mark_131 rfl ?_
          refine go_ia dX8_mark_132 hm.1.2.2.1 (ms_lt hm.1 (by decide)) (by decide) ?_
          rw [show (1 : Int32).toNatClampNeg = 1 from rfl, hv.2.1]
          refine go_cv (as := [.int _, .int _]) 4 dX8_mark_133 mt_8_169 (Or.inl rfl) rfl rfl (ms_lt hm.1 (by decide)) hm.1.1.2 (Nat.le_of_ble_eq_true rfl) (Nat.le_of_ble_eq_true rfl) (Nat.le_of_ble_eq_true rfl) (Nat.le_of_ble_eq_true rfl) (Nat.le_of_ble_eq_true rfl) ?_
          refine me_X8_seesBeyond hm ha hk.2.1 ?_
          show bw_go _ _ _ _ _ _ _ 136 [(3, .int _), (0, .ref _), (1, .int _), (2, .int _)] ((.int _) :: []) _ _
          refine go_iret dX8_mark_136 rfl rfl ?_
          refine q_m hQ ?_ hm (frX_r h)
          unfold yMark
          rw [if_pos ⟨show isn (nI a) (cN (nowC S)) = true from c_5, hk3⟩, rn_n (by omega), rn_n (by omega), if_pos c_34]
          unfold mkf
          rw [if_neg (by decide), if_neg (by decide), if_neg (by decide), if_pos rfl]
        · skip
          refine go_tsOut (pc' := 137) dX8_mark_54 (Or.inr (by decide)) rfl ?_
          show bw_go _ _ _ _ _ _ _ 137 [(3, .int _), (0, .ref _), (1, .int _), (2, .int _)] ([]) _ _
          refine go_iload_n dX8_mark_137 rfl ?_
          refine go_iconst (3) dX8_mark_138 rfl ?_
          refine go_icmp_ge (pc' := 148) dX8_mark_139 rfl (fun c_139 => ?_) (fun c_139 => ?_)
          · -- ge at 139: yes
            show bw_go _ _ _ _ _ _ _ 148 [(3, .int _), (0, .ref _), (1, .int _), (2, .int _)] ([]) _ _
            refine go_iconst (0) dX8_mark_148 rfl ?_
            refine go_iret dX8_mark_149 rfl rfl ?_
            have t_0 := nI_toInt (n := cR (nowC S) a) (by omega)
            have l_0 : (3 : Int32).toInt = 3 := rfl
            simp only [i_le] at c_139
            first | rw [show (3 : Int32) = nI 3 from rfl, pk_sub (by omega)] | rw [show (0 : Int32) = nI (3 - cR (nowC S) a) from by rw [show 3 - cR (nowC S) a = 0 by omega]; rfl]
            refine q_m hQ ?_ hm (frX_r h)
            unfold yMark
            rw [if_pos ⟨show isn (nI a) (cN (nowC S)) = true from c_5, hk3⟩, rn_n (by omega), rn_n (by omega), if_pos c_34]
            unfold mkf
            rw [if_neg (by decide), if_neg (by decide), if_neg (by decide), if_neg (by decide)]
          · -- ge at 139: no
            show bw_go _ _ _ _ _ _ _ 142 [(3, .int _), (0, .ref _), (1, .int _), (2, .int _)] ([]) _ _
            refine go_iconst (3) dX8_mark_142 rfl ?_
            refine go_iload_n dX8_mark_143 rfl ?_
            refine go_isub dX8_mark_144 ?_
            refine go_goto (pc' := 149) dX8_mark_145 rfl ?_
            show bw_go _ _ _ _ _ _ _ 149 [(3, .int _), (0, .ref _), (1, .int _), (2, .int _)] ((.int _) :: []) _ _
            refine go_iret dX8_mark_149 rfl rfl ?_
            have t_0 := nI_toInt (n := cR (nowC S) a) (by omega)
            have l_0 : (3 : Int32).toInt = 3 := rfl
            simp only [i_le] at c_139
            first | rw [show (3 : Int32) = nI 3 from rfl, pk_sub (by omega)] | rw [show (0 : Int32) = nI (3 - cR (nowC S) a) from by rw [show 3 - cR (nowC S) a = 0 by omega]; rfl]
            refine q_m hQ ?_ hm (frX_r h)
            unfold yMark
            rw [if_pos ⟨show isn (nI a) (cN (nowC S)) = true from c_5, hk3⟩, rn_n (by omega), rn_n (by omega), if_pos c_34]
            unfold mkf
            rw [if_neg (by decide), if_neg (by decide), if_neg (by decide), if_neg (by decide)]
      · -- ne at 34: no
        show bw_go _ _ _ _ _ _ _ 37 [(0, .ref _), (1, .int _), (2, .int _)] ([]) _ _
        refine go_aload_n dX8_mark_37 rfl ?_
        refine go_iconst (3) dX8_mark_38 rfl ?_
        refine go_cv (as := [.int _]) 0 dX8_mark_39 mt_8_79 (Or.inl rfl) rfl rfl (ms_lt hm.1 (by decide)) hm.1.1.2 (Nat.le_of_ble_eq_true rfl) (Nat.le_of_ble_eq_true rfl) (Nat.le_of_ble_eq_true rfl) (Nat.le_of_ble_eq_true rfl) (Nat.le_of_ble_eq_true rfl) ?_
        rw [show (3 : Int32) = nI 3 from rfl]
        refine me_X8_finds hm (f := 3) (by decide) (fun g hg hf => ?_)
        show bw_go _ _ _ _ _ _ _ 42 [(0, .ref _), (1, .int _), (2, .int _)] ((.int _) :: []) _ _
        refine go_iret dX8_mark_42 rfl rfl ?_
        refine q_m hQ ?_ hg hf
        unfold yMark
        rw [if_pos ⟨show isn (nI a) (cN (nowC S)) = true from c_5, hk3⟩, rn_n (by omega), rn_n (by omega), if_neg (by rw [c_34]; decide)]
    · -- ne at 17: no
      show bw_go _ _ _ _ _ _ _ 20 [(0, .ref _), (1, .int _), (2, .int _)] ([]) _ _
      refine go_iconst (-1) dX8_mark_20 rfl ?_
      refine go_iret dX8_mark_21 rfl rfl ?_
      refine q_m hQ ?_ hm (frX_r h)
      unfold yMark
      first
      | rw [if_neg (fun z => (of_decide_eq_false c_17) z.2)]
      | rw [if_neg (fun z => Bool.noConfusion ((show isn i (cN (nowC S)) = false from c_5).symm.trans z.1))]
set_option maxRecDepth 100000 in
set_option maxHeartbeats 4000000 in
theorem me_X8_tells {X : Nat × (Nat → Int32)} {Q : Option Value → bw_H → Prop} {h : bw_H} {S : ST} {i x : Int32} (hm : MR h S) (hQ : PM h Q (yTells i x S)) : bw_me X 6 bm_X8_tells false [.ref 60, .int i, .int x] h Q := by
  have hv := mr_v hm
  have hk := mr_k hm
  have k1 := hk.1
  show bw_go _ 6 8 3 false (some .int) cX8_tells 0 [(0, .ref _), (1, .int _), (2, .int _)] [] _ _
  refine go_aload_n dX8_tells_0 rfl ?_
  refine go_iload_n dX8_tells_1 rfl ?_
  refine go_cv (as := [.int _]) 1 dX8_tells_2 mt_8_157 (Or.inl rfl) rfl rfl (ms_lt hm.1 (by decide)) hm.1.1.2 (Nat.le_of_ble_eq_true rfl) (Nat.le_of_ble_eq_true rfl) (Nat.le_of_ble_eq_true rfl) (Nat.le_of_ble_eq_true rfl) (Nat.le_of_ble_eq_true rfl) ?_
  refine me_X8_isBear hm ?_
  show bw_go _ _ _ _ _ _ _ 5 [(0, .ref _), (1, .int _), (2, .int _)] ((.int _) :: []) _ _
  refine go_ifb_eq (pc' := 24) dX8_tells_5 rfl (fun c_5 => ?_) (fun c_5 => ?_)
  · -- eq at 5: yes
    show bw_go _ _ _ _ _ _ _ 24 [(0, .ref _), (1, .int _), (2, .int _)] ([]) _ _
    refine go_iconst (-1) dX8_tells_24 rfl ?_
    refine go_iret dX8_tells_25 rfl rfl ?_
    refine q_m hQ ?_ hm (frX_r h)
    unfold yTells
    first
    | rw [if_neg (fun z => Bool.noConfusion ((show isn x 6 = false from c_12).symm.trans z.2))]
    | rw [if_neg (fun z => Bool.noConfusion ((show isn i (cN (nowC S)) = false from c_5).symm.trans z.1))]
  · -- eq at 5: no
    show bw_go _ _ _ _ _ _ _ 8 [(0, .ref _), (1, .int _), (2, .int _)] ([]) _ _
    refine go_iload_n dX8_tells_8 rfl ?_
    refine go_cs (as := [.int _]) 1 dX8_tells_9 rfl rfl mt_8_191 (Nat.le_of_ble_eq_true rfl) rfl rfl (Nat.le_of_ble_eq_true rfl) (Nat.le_of_ble_eq_true rfl) (Nat.le_of_ble_eq_true rfl) (Nat.le_of_ble_eq_true rfl) ?_
    refine me_X8_isThing ?_
    show bw_go _ _ _ _ _ _ _ 12 [(0, .ref _), (1, .int _), (2, .int _)] ((.int _) :: []) _ _
    refine go_ifb_eq (pc' := 24) dX8_tells_12 rfl (fun c_12 => ?_) (fun c_12 => ?_)
    · -- eq at 12: yes
      show bw_go _ _ _ _ _ _ _ 24 [(0, .ref _), (1, .int _), (2, .int _)] ([]) _ _
      refine go_iconst (-1) dX8_tells_24 rfl ?_
      refine go_iret dX8_tells_25 rfl rfl ?_
      refine q_m hQ ?_ hm (frX_r h)
      unfold yTells
      first
      | rw [if_neg (fun z => Bool.noConfusion ((show isn x 6 = false from c_12).symm.trans z.2))]
      | rw [if_neg (fun z => Bool.noConfusion ((show isn i (cN (nowC S)) = false from c_5).symm.trans z.1))]
    · -- eq at 12: no
      show bw_go _ _ _ _ _ _ _ 15 [(0, .ref _), (1, .int _), (2, .int _)] ([]) _ _
      obtain ⟨a, ha, rfl⟩ := isn_ex (r := i) (num := cN (nowC S)) c_5 (by omega)
      obtain ⟨b, hb, rfl⟩ := isn_ex (r := x) (num := 6) c_12 (by decide)
      refine go_aload_n dX8_tells_15 rfl ?_
      refine go_iload_n dX8_tells_16 rfl ?_
      refine go_iload_n dX8_tells_17 rfl ?_
      refine go_cv (as := [.int _, .int _]) 5 dX8_tells_18 mt_8_147 (Or.inl rfl) rfl rfl (ms_lt hm.1 (by decide)) hm.1.1.2 (Nat.le_of_ble_eq_true rfl) (Nat.le_of_ble_eq_true rfl) (Nat.le_of_ble_eq_true rfl) (Nat.le_of_ble_eq_true rfl) (Nat.le_of_ble_eq_true rfl) ?_
      refine me_X8_tellNow hm ha hb ?_
      show bw_go _ _ _ _ _ _ _ 21 [(0, .ref _), (1, .int _), (2, .int _)] ((.int _) :: []) _ _
      refine go_goto (pc' := 25) dX8_tells_21 rfl ?_
      show bw_go _ _ _ _ _ _ _ 25 [(0, .ref _), (1, .int _), (2, .int _)] ((.int _) :: []) _ _
      refine go_iret dX8_tells_25 rfl rfl ?_
      refine q_m hQ ?_ hm (frX_r h)
      unfold yTells
      rw [if_pos ⟨show isn (nI a) (cN (nowC S)) = true from c_5, show isn (nI b) 6 = true from c_12⟩, rn_n (by omega), rn_n (by omega)]
      rfl
