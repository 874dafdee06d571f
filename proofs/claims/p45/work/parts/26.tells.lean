/-! Court: what bears see and tell; deeds -/
set_option maxRecDepth 100000 in
set_option maxHeartbeats 4000000 in
theorem me_X1_canBe {X : Nat × (Nat → Int32)} {Q : Option Value → bw_H → Prop} {h : bw_H} {p : Nat} {C : CT} (hc : bw_ct h p C) {a i : Nat} (ha : a < 5) (hi : i < cN C) (hQ : Q (some (.int (bi (cbe C a i)))) h) : bw_me X 1 bm_X1_canBe false [.ref p, .int (nI a), .int (nI i)] h Q := by
  show bw_go _ 1 1 3 false (some .boolean) cX1_canBe 0 [(0, .ref _), (1, .int _), (2, .int _)] [] _ _
  refine go_iload_n dX1_canBe_0 rfl ?_
  rcases (show a = 0 ∨ a = 1 ∨ a = 2 ∨ 3 ≤ a by omega) with rfl | rfl | rfl | hsw
  · -- a = 0
    refine go_tsIn (pc' := 28) dX1_canBe_1 (by decide) (by decide) rfl rfl ?_
    show bw_go _ _ _ _ _ _ _ 28 [(0, .ref _), (1, .int _), (2, .int _)] ([]) _ _
    refine go_aload_n dX1_canBe_28 rfl ?_
    refine go_gfr dX1_canBe_29 fl_1_36 rfl hc.1.1.1 hc.1.1.2.1 hc.1.1.2.2.2.2.1 ?_
    refine go_iload_n dX1_canBe_32 rfl ?_
    refine go_cv (as := [.int _]) 0 dX1_canBe_33 mt_1_60 (Or.inr rfl) rfl rfl hc.1.2.2.2.1.1 hc.1.2.2.2.1.2.1 (Nat.le_of_ble_eq_true rfl) (Nat.le_of_ble_eq_true rfl) (Nat.le_of_ble_eq_true rfl) (Nat.le_of_ble_eq_true rfl) (Nat.le_of_ble_eq_true rfl) ?_
    refine me_X0_get hc.1.2.2.2.1 ?_
    rw [cg_n (Nat.lt_of_lt_of_le hi hc.2.2.1) (Nat.le_of_ble_eq_true rfl), (hc.2.1.2.2.2.2 _ hi).2.2.1]
    show bw_go _ _ _ _ _ _ _ 36 [(0, .ref _), (1, .int _), (2, .int _)] ((.int _) :: []) _ _
    refine go_bipush (9) dX1_canBe_36 rfl ?_
    refine go_icmp_ge (pc' := 45) dX1_canBe_38 rfl (fun c_38 => ?_) (fun c_38 => ?_)
    · -- ge at 38: yes
      show bw_go _ _ _ _ _ _ _ 45 [(0, .ref _), (1, .int _), (2, .int _)] ([]) _ _
      refine go_iconst (0) dX1_canBe_45 rfl ?_
      refine go_iret dX1_canBe_46 rfl rfl ?_
      have k1 := hc.2.2.2.2.2.2 i hi; have t_0 := nI_toInt (n := cR C i) (by omega); have t_1 := nI_toInt (n := cE C i) (by omega); have l_0 := i_0; have l_9 : (9 : Int32).toInt = 9 := rfl
      simp only [i_le, i_lt] at c_38
      first | exact bi_1 (decide_eq_true (by omega)) hQ | exact bi_0 (decide_eq_false (by omega)) hQ | (unfold cbe at hQ; rw [if_neg (by omega), if_neg (by omega), if_neg (by omega)] at hQ; exact hQ) | exact hQ
    · -- ge at 38: no
      show bw_go _ _ _ _ _ _ _ 41 [(0, .ref _), (1, .int _), (2, .int _)] ([]) _ _
      refine go_iconst (1) dX1_canBe_41 rfl ?_
      refine go_goto (pc' := 46) dX1_canBe_42 rfl ?_
      show bw_go _ _ _ _ _ _ _ 46 [(0, .ref _), (1, .int _), (2, .int _)] ((.int _) :: []) _ _
      refine go_iret dX1_canBe_46 rfl rfl ?_
      have k1 := hc.2.2.2.2.2.2 i hi; have t_0 := nI_toInt (n := cR C i) (by omega); have t_1 := nI_toInt (n := cE C i) (by omega); have l_0 := i_0; have l_9 : (9 : Int32).toInt = 9 := rfl
      simp only [i_le, i_lt] at c_38
      first | exact bi_1 (decide_eq_true (by omega)) hQ | exact bi_0 (decide_eq_false (by omega)) hQ | (unfold cbe at hQ; rw [if_neg (by omega), if_neg (by omega), if_neg (by omega)] at hQ; exact hQ) | exact hQ
  · -- a = 1
    refine go_tsIn (pc' := 47) dX1_canBe_1 (by decide) (by decide) rfl rfl ?_
    show bw_go _ _ _ _ _ _ _ 47 [(0, .ref _), (1, .int _), (2, .int _)] ([]) _ _
    refine go_aload_n dX1_canBe_47 rfl ?_
    refine go_gfr dX1_canBe_48 fl_1_36 rfl hc.1.1.1 hc.1.1.2.1 hc.1.1.2.2.2.2.1 ?_
    refine go_iload_n dX1_canBe_51 rfl ?_
    refine go_cv (as := [.int _]) 0 dX1_canBe_52 mt_1_60 (Or.inr rfl) rfl rfl hc.1.2.2.2.1.1 hc.1.2.2.2.1.2.1 (Nat.le_of_ble_eq_true rfl) (Nat.le_of_ble_eq_true rfl) (Nat.le_of_ble_eq_true rfl) (Nat.le_of_ble_eq_true rfl) (Nat.le_of_ble_eq_true rfl) ?_
    refine me_X0_get hc.1.2.2.2.1 ?_
    rw [cg_n (Nat.lt_of_lt_of_le hi hc.2.2.1) (Nat.le_of_ble_eq_true rfl), (hc.2.1.2.2.2.2 _ hi).2.2.1]
    show bw_go _ _ _ _ _ _ _ 55 [(0, .ref _), (1, .int _), (2, .int _)] ((.int _) :: []) _ _
    refine go_if_le (pc' := 62) dX1_canBe_55 rfl (fun c_55 => ?_) (fun c_55 => ?_)
    · -- le at 55: yes
      show bw_go _ _ _ _ _ _ _ 62 [(0, .ref _), (1, .int _), (2, .int _)] ([]) _ _
      refine go_iconst (0) dX1_canBe_62 rfl ?_
      refine go_iret dX1_canBe_63 rfl rfl ?_
      have k1 := hc.2.2.2.2.2.2 i hi; have t_0 := nI_toInt (n := cR C i) (by omega); have t_1 := nI_toInt (n := cE C i) (by omega); have l_0 := i_0; have l_9 : (9 : Int32).toInt = 9 := rfl
      simp only [i_le, i_lt] at c_55
      first | exact bi_1 (decide_eq_true (by omega)) hQ | exact bi_0 (decide_eq_false (by omega)) hQ | (unfold cbe at hQ; rw [if_neg (by omega), if_neg (by omega), if_neg (by omega)] at hQ; exact hQ) | exact hQ
    · -- le at 55: no
      show bw_go _ _ _ _ _ _ _ 58 [(0, .ref _), (1, .int _), (2, .int _)] ([]) _ _
      refine go_iconst (1) dX1_canBe_58 rfl ?_
      refine go_goto (pc' := 63) dX1_canBe_59 rfl ?_
      show bw_go _ _ _ _ _ _ _ 63 [(0, .ref _), (1, .int _), (2, .int _)] ((.int _) :: []) _ _
      refine go_iret dX1_canBe_63 rfl rfl ?_
      have k1 := hc.2.2.2.2.2.2 i hi; have t_0 := nI_toInt (n := cR C i) (by omega); have t_1 := nI_toInt (n := cE C i) (by omega); have l_0 := i_0; have l_9 : (9 : Int32).toInt = 9 := rfl
      simp only [i_le, i_lt] at c_55
      first | exact bi_1 (decide_eq_true (by omega)) hQ | exact bi_0 (decide_eq_false (by omega)) hQ | (unfold cbe at hQ; rw [if_neg (by omega), if_neg (by omega), if_neg (by omega)] at hQ; exact hQ) | exact hQ
  · -- a = 2
    refine go_tsIn (pc' := 64) dX1_canBe_1 (by decide) (by decide) rfl rfl ?_
    show bw_go _ _ _ _ _ _ _ 64 [(0, .ref _), (1, .int _), (2, .int _)] ([]) _ _
    refine go_aload_n dX1_canBe_64 rfl ?_
    refine go_gfr dX1_canBe_65 fl_1_33 rfl hc.1.1.1 hc.1.1.2.1 hc.1.1.2.2.2.1 ?_
    refine go_iload_n dX1_canBe_68 rfl ?_
    refine go_cv (as := [.int _]) 0 dX1_canBe_69 mt_1_60 (Or.inr rfl) rfl rfl hc.1.2.2.1.1 hc.1.2.2.1.2.1 (Nat.le_of_ble_eq_true rfl) (Nat.le_of_ble_eq_true rfl) (Nat.le_of_ble_eq_true rfl) (Nat.le_of_ble_eq_true rfl) (Nat.le_of_ble_eq_true rfl) ?_
    refine me_X0_get hc.1.2.2.1 ?_
    rw [cg_n (Nat.lt_of_lt_of_le hi hc.2.2.1) (Nat.le_of_ble_eq_true rfl), (hc.2.1.2.2.2.2 _ hi).2.1]
    show bw_go _ _ _ _ _ _ _ 72 [(0, .ref _), (1, .int _), (2, .int _)] ((.int _) :: []) _ _
    refine go_if_le (pc' := 79) dX1_canBe_72 rfl (fun c_72 => ?_) (fun c_72 => ?_)
    · -- le at 72: yes
      show bw_go _ _ _ _ _ _ _ 79 [(0, .ref _), (1, .int _), (2, .int _)] ([]) _ _
      refine go_iconst (0) dX1_canBe_79 rfl ?_
      refine go_iret dX1_canBe_80 rfl rfl ?_
      have k1 := hc.2.2.2.2.2.2 i hi; have t_0 := nI_toInt (n := cR C i) (by omega); have t_1 := nI_toInt (n := cE C i) (by omega); have l_0 := i_0; have l_9 : (9 : Int32).toInt = 9 := rfl
      simp only [i_le, i_lt] at c_72
      first | exact bi_1 (decide_eq_true (by omega)) hQ | exact bi_0 (decide_eq_false (by omega)) hQ | (unfold cbe at hQ; rw [if_neg (by omega), if_neg (by omega), if_neg (by omega)] at hQ; exact hQ) | exact hQ
    · -- le at 72: no
      show bw_go _ _ _ _ _ _ _ 75 [(0, .ref _), (1, .int _), (2, .int _)] ([]) _ _
      refine go_iconst (1) dX1_canBe_75 rfl ?_
      refine go_goto (pc' := 80) dX1_canBe_76 rfl ?_
      show bw_go _ _ _ _ _ _ _ 80 [(0, .ref _), (1, .int _), (2, .int _)] ((.int _) :: []) _ _
      refine go_iret dX1_canBe_80 rfl rfl ?_
      have k1 := hc.2.2.2.2.2.2 i hi; have t_0 := nI_toInt (n := cR C i) (by omega); have t_1 := nI_toInt (n := cE C i) (by omega); have l_0 := i_0; have l_9 : (9 : Int32).toInt = 9 := rfl
      simp only [i_le, i_lt] at c_72
      first | exact bi_1 (decide_eq_true (by omega)) hQ | exact bi_0 (decide_eq_false (by omega)) hQ | (unfold cbe at hQ; rw [if_neg (by omega), if_neg (by omega), if_neg (by omega)] at hQ; exact hQ) | exact hQ
  · -- 3 ≤ a
    refine go_tsOut (pc' := 81) dX1_canBe_1 (Or.inr (by rw [nI_toInt (by omega)]; omega)) rfl ?_
    show bw_go _ _ _ _ _ _ _ 81 [(0, .ref _), (1, .int _), (2, .int _)] ([]) _ _
    refine go_iconst (1) dX1_canBe_81 rfl ?_
    refine go_iret dX1_canBe_82 rfl rfl ?_
    have k1 := hc.2.2.2.2.2.2 i hi; have t_0 := nI_toInt (n := cR C i) (by omega); have t_1 := nI_toInt (n := cE C i) (by omega); have l_0 := i_0; have l_9 : (9 : Int32).toInt = 9 := rfl
    first | exact bi_1 (decide_eq_true (by omega)) hQ | exact bi_0 (decide_eq_false (by omega)) hQ | (unfold cbe at hQ; rw [if_neg (by omega), if_neg (by omega), if_neg (by omega)] at hQ; exact hQ) | exact hQ
set_option maxRecDepth 100000 in
set_option maxHeartbeats 4000000 in
theorem me_X1_seenBy {X : Nat × (Nat → Int32)} {Q : Option Value → bw_H → Prop} {h : bw_H} {p : Nat} {C : CT} (hc : bw_ct h p C) {i k w : Nat} (hi : i < cN C) (hk : k < 6) (hw : w < 10) (hQ : Q (some (.int (nI (see k w (cV C i) (cE C i))))) h) : bw_me X 1 bm_X1_seenBy false [.ref p, .int (nI i), .int (nI k), .int (nI w)] h Q := by
  show bw_go _ 1 1 5 false (some .int) cX1_seenBy 0 [(0, .ref _), (1, .int _), (2, .int _), (3, .int _)] [] _ _
  have k1 := hc.2.2.2.2.2.2 i hi
  refine go_iload_n dX1_seenBy_0 rfl ?_
  refine go_bipush (9) dX1_seenBy_1 rfl ?_
  refine go_icmp_lt (pc' := 8) dX1_seenBy_3 rfl (fun c_3 => ?_) (fun c_3 => ?_)
  · -- lt at 3: yes
    show bw_go _ _ _ _ _ _ _ 8 [(0, .ref _), (1, .int _), (2, .int _), (3, .int _)] ([]) _ _
    refine go_iload_n dX1_seenBy_8 rfl ?_
    refine go_iconst (5) dX1_seenBy_9 rfl ?_
    refine go_icmp_ne (pc' := 20) dX1_seenBy_10 rfl (fun c_10 => ?_) (fun c_10 => ?_)
    · -- ne at 10: yes
      show bw_go _ _ _ _ _ _ _ 20 [(0, .ref _), (1, .int _), (2, .int _), (3, .int _)] ([]) _ _
      refine go_aload_n dX1_seenBy_20 rfl ?_
      refine go_gfr dX1_seenBy_21 fl_1_39 rfl hc.1.1.1 hc.1.1.2.1 hc.1.1.2.2.2.2.2.1 ?_
      refine go_iload_n dX1_seenBy_24 rfl ?_
      refine go_cv (as := [.int _]) 0 dX1_seenBy_25 mt_1_60 (Or.inr rfl) rfl rfl hc.1.2.2.2.2.1.1 hc.1.2.2.2.2.1.2.1 (Nat.le_of_ble_eq_true rfl) (Nat.le_of_ble_eq_true rfl) (Nat.le_of_ble_eq_true rfl) (Nat.le_of_ble_eq_true rfl) (Nat.le_of_ble_eq_true rfl) ?_
      refine me_X0_get hc.1.2.2.2.2.1 ?_
      rw [cg_n (Nat.lt_of_lt_of_le hi hc.2.2.1) (Nat.le_of_ble_eq_true rfl), (hc.2.1.2.2.2.2 _ hi).2.2.2]
      show bw_go _ _ _ _ _ _ _ 28 [(0, .ref _), (1, .int _), (2, .int _), (3, .int _)] ((.int _) :: []) _ _
      refine go_istore dX1_seenBy_28 (Nat.lt_of_lt_of_le (Nat.lt_succ_self _) (Nat.le_of_ble_eq_true rfl)) ?_
      show bw_go _ _ _ _ _ _ _ 30 [(4, .int _), (0, .ref _), (1, .int _), (2, .int _), (3, .int _)] ([]) _ _
      refine go_iload_n dX1_seenBy_30 rfl ?_
      refine go_iconst (2) dX1_seenBy_31 rfl ?_
      refine go_icmp_ne (pc' := 47) dX1_seenBy_32 rfl (fun c_32 => ?_) (fun c_32 => ?_)
      · -- ne at 32: yes
        show bw_go _ _ _ _ _ _ _ 47 [(4, .int _), (0, .ref _), (1, .int _), (2, .int _), (3, .int _)] ([]) _ _
        try rw [pan_t _ k1.2.2.2]
        refine go_iload_n dX1_seenBy_47 rfl ?_
        refine go_iconst (1) dX1_seenBy_48 rfl ?_
        refine go_cs (as := [.int _, .int _]) 0 dX1_seenBy_49 rfl rfl mt_1_64 (Nat.le_of_ble_eq_true rfl) rfl rfl (Nat.le_of_ble_eq_true rfl) (Nat.le_of_ble_eq_true rfl) (Nat.le_of_ble_eq_true rfl) (Nat.le_of_ble_eq_true rfl) ?_
        refine me_X7_isOfKind (w := 1) hk (by omega) ?_
        show bw_go _ _ _ _ _ _ _ 52 [(4, .int _), (0, .ref _), (1, .int _), (2, .int _), (3, .int _)] ((.int _) :: []) _ _
        refine go_ifb_ne (pc' := 67) dX1_seenBy_52 rfl (fun c_52 => ?_) (fun c_52 => ?_)
        · -- ne at 52: yes
          show bw_go _ _ _ _ _ _ _ 67 [(4, .int _), (0, .ref _), (1, .int _), (2, .int _), (3, .int _)] ([]) _ _
          refine go_iload dX1_seenBy_67 rfl ?_
          refine go_iret dX1_seenBy_69 rfl rfl ?_
          refine qi hQ ?_
          have t_0 := nI_toInt (n := k) (by omega); have t_1 := nI_toInt (n := w) (by omega); have t_2 := nI_toInt (n := cE C i) (by omega); have l_0 : (9 : Int32).toInt = 9 := rfl; have l_1 : (5 : Int32).toInt = 5 := rfl; have l_2 : (3 : Int32).toInt = 3 := rfl; have l_3 : (2 : Int32).toInt = 2 := rfl; have l_4 : (1 : Int32).toInt = 1 := rfl
          try simp only [i_le, i_lt, i_eq, ofk, decide_eq_true_eq, decide_eq_false_iff_not, true_and, and_true] at c_3
          try simp only [i_le, i_lt, i_eq, ofk, decide_eq_true_eq, decide_eq_false_iff_not, true_and, and_true] at c_10
          try simp only [i_le, i_lt, i_eq, ofk, decide_eq_true_eq, decide_eq_false_iff_not, true_and, and_true] at c_32
          try simp only [i_le, i_lt, i_eq, ofk, decide_eq_true_eq, decide_eq_false_iff_not, true_and, and_true] at c_52
          unfold see
          repeat' split
          all_goals first | rfl | (exfalso; omega) | (exfalso; simp_all; done) | exact and21 _ (by first | exact k1.2.2.2 | exact pan_lt _ k1.2.2.2)
        · -- ne at 52: no
          show bw_go _ _ _ _ _ _ _ 55 [(4, .int _), (0, .ref _), (1, .int _), (2, .int _), (3, .int _)] ([]) _ _
          refine go_aload_n dX1_seenBy_55 rfl ?_
          refine go_gfr dX1_seenBy_56 fl_1_33 rfl hc.1.1.1 hc.1.1.2.1 hc.1.1.2.2.2.1 ?_
          refine go_iload_n dX1_seenBy_59 rfl ?_
          refine go_cv (as := [.int _]) 0 dX1_seenBy_60 mt_1_60 (Or.inr rfl) rfl rfl hc.1.2.2.1.1 hc.1.2.2.1.2.1 (Nat.le_of_ble_eq_true rfl) (Nat.le_of_ble_eq_true rfl) (Nat.le_of_ble_eq_true rfl) (Nat.le_of_ble_eq_true rfl) (Nat.le_of_ble_eq_true rfl) ?_
          refine me_X0_get hc.1.2.2.1 ?_
          rw [cg_n (Nat.lt_of_lt_of_le hi hc.2.2.1) (Nat.le_of_ble_eq_true rfl), (hc.2.1.2.2.2.2 _ hi).2.1]
          show bw_go _ _ _ _ _ _ _ 63 [(4, .int _), (0, .ref _), (1, .int _), (2, .int _), (3, .int _)] ((.int _) :: []) _ _
          refine go_iconst (2) dX1_seenBy_63 rfl ?_
          refine go_icmp_lt (pc' := 70) dX1_seenBy_64 rfl (fun c_64 => ?_) (fun c_64 => ?_)
          · -- lt at 64: yes
            show bw_go _ _ _ _ _ _ _ 70 [(4, .int _), (0, .ref _), (1, .int _), (2, .int _), (3, .int _)] ([]) _ _
            refine go_aload_n dX1_seenBy_70 rfl ?_
            refine go_gfr dX1_seenBy_71 fl_1_33 rfl hc.1.1.1 hc.1.1.2.1 hc.1.1.2.2.2.1 ?_
            refine go_iload_n dX1_seenBy_74 rfl ?_
            refine go_cv (as := [.int _]) 0 dX1_seenBy_75 mt_1_60 (Or.inr rfl) rfl rfl hc.1.2.2.1.1 hc.1.2.2.1.2.1 (Nat.le_of_ble_eq_true rfl) (Nat.le_of_ble_eq_true rfl) (Nat.le_of_ble_eq_true rfl) (Nat.le_of_ble_eq_true rfl) (Nat.le_of_ble_eq_true rfl) ?_
            refine me_X0_get hc.1.2.2.1 ?_
            rw [cg_n (Nat.lt_of_lt_of_le hi hc.2.2.1) (Nat.le_of_ble_eq_true rfl), (hc.2.1.2.2.2.2 _ hi).2.1]
            show bw_go _ _ _ _ _ _ _ 78 [(4, .int _), (0, .ref _), (1, .int _), (2, .int _), (3, .int _)] ((.int _) :: []) _ _
            refine go_iconst (1) dX1_seenBy_78 rfl ?_
            refine go_icmp_ne (pc' := 90) dX1_seenBy_79 rfl (fun c_79 => ?_) (fun c_79 => ?_)
            · -- ne at 79: yes
              show bw_go _ _ _ _ _ _ _ 90 [(4, .int _), (0, .ref _), (1, .int _), (2, .int _), (3, .int _)] ([]) _ _
              refine go_iconst (0) dX1_seenBy_90 rfl ?_
              refine go_iret dX1_seenBy_91 rfl rfl ?_
              refine qi hQ ?_
              have t_0 := nI_toInt (n := k) (by omega); have t_1 := nI_toInt (n := w) (by omega); have t_2 := nI_toInt (n := cE C i) (by omega); have l_0 : (9 : Int32).toInt = 9 := rfl; have l_1 : (5 : Int32).toInt = 5 := rfl; have l_2 : (3 : Int32).toInt = 3 := rfl; have l_3 : (2 : Int32).toInt = 2 := rfl; have l_4 : (1 : Int32).toInt = 1 := rfl
              try simp only [i_le, i_lt, i_eq, ofk, decide_eq_true_eq, decide_eq_false_iff_not, true_and, and_true] at c_3
              try simp only [i_le, i_lt, i_eq, ofk, decide_eq_true_eq, decide_eq_false_iff_not, true_and, and_true] at c_10
              try simp only [i_le, i_lt, i_eq, ofk, decide_eq_true_eq, decide_eq_false_iff_not, true_and, and_true] at c_32
              try simp only [i_le, i_lt, i_eq, ofk, decide_eq_true_eq, decide_eq_false_iff_not, true_and, and_true] at c_52
              try simp only [i_le, i_lt, i_eq, ofk, decide_eq_true_eq, decide_eq_false_iff_not, true_and, and_true] at c_64
              try simp only [i_le, i_lt, i_eq, ofk, decide_eq_true_eq, decide_eq_false_iff_not, true_and, and_true] at c_79
              unfold see
              repeat' split
              all_goals first | rfl | (exfalso; omega) | (exfalso; simp_all; done) | exact and21 _ (by first | exact k1.2.2.2 | exact pan_lt _ k1.2.2.2)
            · -- ne at 79: no
              show bw_go _ _ _ _ _ _ _ 82 [(4, .int _), (0, .ref _), (1, .int _), (2, .int _), (3, .int _)] ([]) _ _
              refine go_iload dX1_seenBy_82 rfl ?_
              refine go_bipush (21) dX1_seenBy_84 rfl ?_
              refine go_iand dX1_seenBy_86 ?_
              refine go_goto (pc' := 91) dX1_seenBy_87 rfl ?_
              show bw_go _ _ _ _ _ _ _ 91 [(4, .int _), (0, .ref _), (1, .int _), (2, .int _), (3, .int _)] ((.int _) :: []) _ _
              refine go_iret dX1_seenBy_91 rfl rfl ?_
              refine qi hQ ?_
              have t_0 := nI_toInt (n := k) (by omega); have t_1 := nI_toInt (n := w) (by omega); have t_2 := nI_toInt (n := cE C i) (by omega); have l_0 : (9 : Int32).toInt = 9 := rfl; have l_1 : (5 : Int32).toInt = 5 := rfl; have l_2 : (3 : Int32).toInt = 3 := rfl; have l_3 : (2 : Int32).toInt = 2 := rfl; have l_4 : (1 : Int32).toInt = 1 := rfl
              try simp only [i_le, i_lt, i_eq, ofk, decide_eq_true_eq, decide_eq_false_iff_not, true_and, and_true] at c_3
              try simp only [i_le, i_lt, i_eq, ofk, decide_eq_true_eq, decide_eq_false_iff_not, true_and, and_true] at c_10
              try simp only [i_le, i_lt, i_eq, ofk, decide_eq_true_eq, decide_eq_false_iff_not, true_and, and_true] at c_32
              try simp only [i_le, i_lt, i_eq, ofk, decide_eq_true_eq, decide_eq_false_iff_not, true_and, and_true] at c_52
              try simp only [i_le, i_lt, i_eq, ofk, decide_eq_true_eq, decide_eq_false_iff_not, true_and, and_true] at c_64
              try simp only [i_le, i_lt, i_eq, ofk, decide_eq_true_eq, decide_eq_false_iff_not, true_and, and_true] at c_79
              unfold see
              repeat' split
              all_goals first | rfl | (exfalso; omega) | (exfalso; simp_all; done) | exact and21 _ (by first | exact k1.2.2.2 | exact pan_lt _ k1.2.2.2)
          · -- lt at 64: no
            show bw_go _ _ _ _ _ _ _ 67 [(4, .int _), (0, .ref _), (1, .int _), (2, .int _), (3, .int _)] ([]) _ _
            refine go_iload dX1_seenBy_67 rfl ?_
            refine go_iret dX1_seenBy_69 rfl rfl ?_
            refine qi hQ ?_
            have t_0 := nI_toInt (n := k) (by omega); have t_1 := nI_toInt (n := w) (by omega); have t_2 := nI_toInt (n := cE C i) (by omega); have l_0 : (9 : Int32).toInt = 9 := rfl; have l_1 : (5 : Int32).toInt = 5 := rfl; have l_2 : (3 : Int32).toInt = 3 := rfl; have l_3 : (2 : Int32).toInt = 2 := rfl; have l_4 : (1 : Int32).toInt = 1 := rfl
            try simp only [i_le, i_lt, i_eq, ofk, decide_eq_true_eq, decide_eq_false_iff_not, true_and, and_true] at c_3
            try simp only [i_le, i_lt, i_eq, ofk, decide_eq_true_eq, decide_eq_false_iff_not, true_and, and_true] at c_10
            try simp only [i_le, i_lt, i_eq, ofk, decide_eq_true_eq, decide_eq_false_iff_not, true_and, and_true] at c_32
            try simp only [i_le, i_lt, i_eq, ofk, decide_eq_true_eq, decide_eq_false_iff_not, true_and, and_true] at c_52
            try simp only [i_le, i_lt, i_eq, ofk, decide_eq_true_eq, decide_eq_false_iff_not, true_and, and_true] at c_64
            unfold see
            repeat' split
            all_goals first | rfl | (exfalso; omega) | (exfalso; simp_all; done) | exact and21 _ (by first | exact k1.2.2.2 | exact pan_lt _ k1.2.2.2)
      · -- ne at 32: no
        show bw_go _ _ _ _ _ _ _ 35 [(4, .int _), (0, .ref _), (1, .int _), (2, .int _), (3, .int _)] ([]) _ _
        refine go_iload dX1_seenBy_35 rfl ?_
        refine go_iload dX1_seenBy_37 rfl ?_
        refine go_iconst (1) dX1_seenBy_39 rfl ?_
        refine go_ishl dX1_seenBy_40 ?_
        refine go_bipush (63) dX1_seenBy_41 rfl ?_
        refine go_iand dX1_seenBy_43 ?_
        refine go_ior dX1_seenBy_44 ?_
        refine go_istore dX1_seenBy_45 (Nat.lt_of_lt_of_le (Nat.lt_succ_self _) (Nat.le_of_ble_eq_true rfl)) ?_
        show bw_go _ _ _ _ _ _ _ 47 [(4, .int _), (0, .ref _), (1, .int _), (2, .int _), (3, .int _)] ([]) _ _
        try rw [pan_t _ k1.2.2.2]
        refine go_iload_n dX1_seenBy_47 rfl ?_
        refine go_iconst (1) dX1_seenBy_48 rfl ?_
        refine go_cs (as := [.int _, .int _]) 0 dX1_seenBy_49 rfl rfl mt_1_64 (Nat.le_of_ble_eq_true rfl) rfl rfl (Nat.le_of_ble_eq_true rfl) (Nat.le_of_ble_eq_true rfl) (Nat.le_of_ble_eq_true rfl) (Nat.le_of_ble_eq_true rfl) ?_
        refine me_X7_isOfKind (w := 1) hk (by omega) ?_
        show bw_go _ _ _ _ _ _ _ 52 [(4, .int _), (0, .ref _), (1, .int _), (2, .int _), (3, .int _)] ((.int _) :: []) _ _
        refine go_ifb_ne (pc' := 67) dX1_seenBy_52 rfl (fun c_52 => ?_) (fun c_52 => ?_)
        · -- ne at 52: yes
          show bw_go _ _ _ _ _ _ _ 67 [(4, .int _), (0, .ref _), (1, .int _), (2, .int _), (3, .int _)] ([]) _ _
          refine go_iload dX1_seenBy_67 rfl ?_
          refine go_iret dX1_seenBy_69 rfl rfl ?_
          refine qi hQ ?_
          have t_0 := nI_toInt (n := k) (by omega); have t_1 := nI_toInt (n := w) (by omega); have t_2 := nI_toInt (n := cE C i) (by omega); have l_0 : (9 : Int32).toInt = 9 := rfl; have l_1 : (5 : Int32).toInt = 5 := rfl; have l_2 : (3 : Int32).toInt = 3 := rfl; have l_3 : (2 : Int32).toInt = 2 := rfl; have l_4 : (1 : Int32).toInt = 1 := rfl
          try simp only [i_le, i_lt, i_eq, ofk, decide_eq_true_eq, decide_eq_false_iff_not, true_and, and_true] at c_3
          try simp only [i_le, i_lt, i_eq, ofk, decide_eq_true_eq, decide_eq_false_iff_not, true_and, and_true] at c_10
          try simp only [i_le, i_lt, i_eq, ofk, decide_eq_true_eq, decide_eq_false_iff_not, true_and, and_true] at c_32
          try simp only [i_le, i_lt, i_eq, ofk, decide_eq_true_eq, decide_eq_false_iff_not, true_and, and_true] at c_52
          unfold see
          repeat' split
          all_goals first | rfl | (exfalso; omega) | (exfalso; simp_all; done) | exact and21 _ (by first | exact k1.2.2.2 | exact pan_lt _ k1.2.2.2)
        · -- ne at 52: no
          show bw_go _ _ _ _ _ _ _ 55 [(4, .int _), (0, .ref _), (1, .int _), (2, .int _), (3, .int _)] ([]) _ _
          refine go_aload_n dX1_seenBy_55 rfl ?_
          refine go_gfr dX1_seenBy_56 fl_1_33 rfl hc.1.1.1 hc.1.1.2.1 hc.1.1.2.2.2.1 ?_
          refine go_iload_n dX1_seenBy_59 rfl ?_
          refine go_cv (as := [.int _]) 0 dX1_seenBy_60 mt_1_60 (Or.inr rfl) rfl rfl hc.1.2.2.1.1 hc.1.2.2.1.2.1 (Nat.le_of_ble_eq_true rfl) (Nat.le_of_ble_eq_true rfl) (Nat.le_of_ble_eq_true rfl) (Nat.le_of_ble_eq_true rfl) (Nat.le_of_ble_eq_true rfl) ?_
          refine me_X0_get hc.1.2.2.1 ?_
          rw [cg_n (Nat.lt_of_lt_of_le hi hc.2.2.1) (Nat.le_of_ble_eq_true rfl), (hc.2.1.2.2.2.2 _ hi).2.1]
          show bw_go _ _ _ _ _ _ _ 63 [(4, .int _), (0, .ref _), (1, .int _), (2, .int _), (3, .int _)] ((.int _) :: []) _ _
          refine go_iconst (2) dX1_seenBy_63 rfl ?_
          refine go_icmp_lt (pc' := 70) dX1_seenBy_64 rfl (fun c_64 => ?_) (fun c_64 => ?_)
          · -- lt at 64: yes
            show bw_go _ _ _ _ _ _ _ 70 [(4, .int _), (0, .ref _), (1, .int _), (2, .int _), (3, .int _)] ([]) _ _
            refine go_aload_n dX1_seenBy_70 rfl ?_
            refine go_gfr dX1_seenBy_71 fl_1_33 rfl hc.1.1.1 hc.1.1.2.1 hc.1.1.2.2.2.1 ?_
            refine go_iload_n dX1_seenBy_74 rfl ?_
            refine go_cv (as := [.int _]) 0 dX1_seenBy_75 mt_1_60 (Or.inr rfl) rfl rfl hc.1.2.2.1.1 hc.1.2.2.1.2.1 (Nat.le_of_ble_eq_true rfl) (Nat.le_of_ble_eq_true rfl) (Nat.le_of_ble_eq_true rfl) (Nat.le_of_ble_eq_true rfl) (Nat.le_of_ble_eq_true rfl) ?_
            refine me_X0_get hc.1.2.2.1 ?_
            rw [cg_n (Nat.lt_of_lt_of_le hi hc.2.2.1) (Nat.le_of_ble_eq_true rfl), (hc.2.1.2.2.2.2 _ hi).2.1]
            show bw_go _ _ _ _ _ _ _ 78 [(4, .int _), (0, .ref _), (1, .int _), (2, .int _), (3, .int _)] ((.int _) :: []) _ _
            refine go_iconst (1) dX1_seenBy_78 rfl ?_
            refine go_icmp_ne (pc' := 90) dX1_seenBy_79 rfl (fun c_79 => ?_) (fun c_79 => ?_)
            · -- ne at 79: yes
              show bw_go _ _ _ _ _ _ _ 90 [(4, .int _), (0, .ref _), (1, .int _), (2, .int _), (3, .int _)] ([]) _ _
              refine go_iconst (0) dX1_seenBy_90 rfl ?_
              refine go_iret dX1_seenBy_91 rfl rfl ?_
              refine qi hQ ?_
              have t_0 := nI_toInt (n := k) (by omega); have t_1 := nI_toInt (n := w) (by omega); have t_2 := nI_toInt (n := cE C i) (by omega); have l_0 : (9 : Int32).toInt = 9 := rfl; have l_1 : (5 : Int32).toInt = 5 := rfl; have l_2 : (3 : Int32).toInt = 3 := rfl; have l_3 : (2 : Int32).toInt = 2 := rfl; have l_4 : (1 : Int32).toInt = 1 := rfl
              try simp only [i_le, i_lt, i_eq, ofk, decide_eq_true_eq, decide_eq_false_iff_not, true_and, and_true] at c_3
              try simp only [i_le, i_lt, i_eq, ofk, decide_eq_true_eq, decide_eq_false_iff_not, true_and, and_true] at c_10
              try simp only [i_le, i_lt, i_eq, ofk, decide_eq_true_eq, decide_eq_false_iff_not, true_and, and_true] at c_32
              try simp only [i_le, i_lt, i_eq, ofk, decide_eq_true_eq, decide_eq_false_iff_not, true_and, and_true] at c_52
              try simp only [i_le, i_lt, i_eq, ofk, decide_eq_true_eq, decide_eq_false_iff_not, true_and, and_true] at c_64
              try simp only [i_le, i_lt, i_eq, ofk, decide_eq_true_eq, decide_eq_false_iff_not, true_and, and_true] at c_79
              unfold see
              repeat' split
              all_goals first | rfl | (exfalso; omega) | (exfalso; simp_all; done) | exact and21 _ (by first | exact k1.2.2.2 | exact pan_lt _ k1.2.2.2)
            · -- ne at 79: no
              show bw_go _ _ _ _ _ _ _ 82 [(4, .int _), (0, .ref _), (1, .int _), (2, .int _), (3, .int _)] ([]) _ _
              refine go_iload dX1_seenBy_82 rfl ?_
              refine go_bipush (21) dX1_seenBy_84 rfl ?_
              refine go_iand dX1_seenBy_86 ?_
              refine go_goto (pc' := 91) dX1_seenBy_87 rfl ?_
              show bw_go _ _ _ _ _ _ _ 91 [(4, .int _), (0, .ref _), (1, .int _), (2, .int _), (3, .int _)] ((.int _) :: []) _ _
              refine go_iret dX1_seenBy_91 rfl rfl ?_
              refine qi hQ ?_
              have t_0 := nI_toInt (n := k) (by omega); have t_1 := nI_toInt (n := w) (by omega); have t_2 := nI_toInt (n := cE C i) (by omega); have l_0 : (9 : Int32).toInt = 9 := rfl; have l_1 : (5 : Int32).toInt = 5 := rfl; have l_2 : (3 : Int32).toInt = 3 := rfl; have l_3 : (2 : Int32).toInt = 2 := rfl; have l_4 : (1 : Int32).toInt = 1 := rfl
              try simp only [i_le, i_lt, i_eq, ofk, decide_eq_true_eq, decide_eq_false_iff_not, true_and, and_true] at c_3
              try simp only [i_le, i_lt, i_eq, ofk, decide_eq_true_eq, decide_eq_false_iff_not, true_and, and_true] at c_10
              try simp only [i_le, i_lt, i_eq, ofk, decide_eq_true_eq, decide_eq_false_iff_not, true_and, and_true] at c_32
              try simp only [i_le, i_lt, i_eq, ofk, decide_eq_true_eq, decide_eq_false_iff_not, true_and, and_true] at c_52
              try simp only [i_le, i_lt, i_eq, ofk, decide_eq_true_eq, decide_eq_false_iff_not, true_and, and_true] at c_64
              try simp only [i_le, i_lt, i_eq, ofk, decide_eq_true_eq, decide_eq_false_iff_not, true_and, and_true] at c_79
              unfold see
              repeat' split
              all_goals first | rfl | (exfalso; omega) | (exfalso; simp_all; done) | exact and21 _ (by first | exact k1.2.2.2 | exact pan_lt _ k1.2.2.2)
          · -- lt at 64: no
            show bw_go _ _ _ _ _ _ _ 67 [(4, .int _), (0, .ref _), (1, .int _), (2, .int _), (3, .int _)] ([]) _ _
            refine go_iload dX1_seenBy_67 rfl ?_
            refine go_iret dX1_seenBy_69 rfl rfl ?_
            refine qi hQ ?_
            have t_0 := nI_toInt (n := k) (by omega); have t_1 := nI_toInt (n := w) (by omega); have t_2 := nI_toInt (n := cE C i) (by omega); have l_0 : (9 : Int32).toInt = 9 := rfl; have l_1 : (5 : Int32).toInt = 5 := rfl; have l_2 : (3 : Int32).toInt = 3 := rfl; have l_3 : (2 : Int32).toInt = 2 := rfl; have l_4 : (1 : Int32).toInt = 1 := rfl
            try simp only [i_le, i_lt, i_eq, ofk, decide_eq_true_eq, decide_eq_false_iff_not, true_and, and_true] at c_3
            try simp only [i_le, i_lt, i_eq, ofk, decide_eq_true_eq, decide_eq_false_iff_not, true_and, and_true] at c_10
            try simp only [i_le, i_lt, i_eq, ofk, decide_eq_true_eq, decide_eq_false_iff_not, true_and, and_true] at c_32
            try simp only [i_le, i_lt, i_eq, ofk, decide_eq_true_eq, decide_eq_false_iff_not, true_and, and_true] at c_52
            try simp only [i_le, i_lt, i_eq, ofk, decide_eq_true_eq, decide_eq_false_iff_not, true_and, and_true] at c_64
            unfold see
            repeat' split
            all_goals first | rfl | (exfalso; omega) | (exfalso; simp_all; done) | exact and21 _ (by first | exact k1.2.2.2 | exact pan_lt _ k1.2.2.2)
    · -- ne at 10: no
      show bw_go _ _ _ _ _ _ _ 13 [(0, .ref _), (1, .int _), (2, .int _), (3, .int _)] ([]) _ _
      refine go_iload_n dX1_seenBy_13 rfl ?_
      refine go_iconst (3) dX1_seenBy_14 rfl ?_
      refine go_icmp_lt (pc' := 20) dX1_seenBy_15 rfl (fun c_15 => ?_) (fun c_15 => ?_)
      · -- lt at 15: yes
        show bw_go _ _ _ _ _ _ _ 20 [(0, .ref _), (1, .int _), (2, .int _), (3, .int _)] ([]) _ _
        refine go_aload_n dX1_seenBy_20 rfl ?_
        refine go_gfr dX1_seenBy_21 fl_1_39 rfl hc.1.1.1 hc.1.1.2.1 hc.1.1.2.2.2.2.2.1 ?_
        refine go_iload_n dX1_seenBy_24 rfl ?_
        refine go_cv (as := [.int _]) 0 dX1_seenBy_25 mt_1_60 (Or.inr rfl) rfl rfl hc.1.2.2.2.2.1.1 hc.1.2.2.2.2.1.2.1 (Nat.le_of_ble_eq_true rfl) (Nat.le_of_ble_eq_true rfl) (Nat.le_of_ble_eq_true rfl) (Nat.le_of_ble_eq_true rfl) (Nat.le_of_ble_eq_true rfl) ?_
        refine me_X0_get hc.1.2.2.2.2.1 ?_
        rw [cg_n (Nat.lt_of_lt_of_le hi hc.2.2.1) (Nat.le_of_ble_eq_true rfl), (hc.2.1.2.2.2.2 _ hi).2.2.2]
        show bw_go _ _ _ _ _ _ _ 28 [(0, .ref _), (1, .int _), (2, .int _), (3, .int _)] ((.int _) :: []) _ _
        refine go_istore dX1_seenBy_28 (Nat.lt_of_lt_of_le (Nat.lt_succ_self _) (Nat.le_of_ble_eq_true rfl)) ?_
        show bw_go _ _ _ _ _ _ _ 30 [(4, .int _), (0, .ref _), (1, .int _), (2, .int _), (3, .int _)] ([]) _ _
        refine go_iload_n dX1_seenBy_30 rfl ?_
        refine go_iconst (2) dX1_seenBy_31 rfl ?_
        refine go_icmp_ne (pc' := 47) dX1_seenBy_32 rfl (fun c_32 => ?_) (fun c_32 => ?_)
        · -- ne at 32: yes
          show bw_go _ _ _ _ _ _ _ 47 [(4, .int _), (0, .ref _), (1, .int _), (2, .int _), (3, .int _)] ([]) _ _
          try rw [pan_t _ k1.2.2.2]
          refine go_iload_n dX1_seenBy_47 rfl ?_
          refine go_iconst (1) dX1_seenBy_48 rfl ?_
          refine go_cs (as := [.int _, .int _]) 0 dX1_seenBy_49 rfl rfl mt_1_64 (Nat.le_of_ble_eq_true rfl) rfl rfl (Nat.le_of_ble_eq_true rfl) (Nat.le_of_ble_eq_true rfl) (Nat.le_of_ble_eq_true rfl) (Nat.le_of_ble_eq_true rfl) ?_
          refine me_X7_isOfKind (w := 1) hk (by omega) ?_
          show bw_go _ _ _ _ _ _ _ 52 [(4, .int _), (0, .ref _), (1, .int _), (2, .int _), (3, .int _)] ((.int _) :: []) _ _
          refine go_ifb_ne (pc' := 67) dX1_seenBy_52 rfl (fun c_52 => ?_) (fun c_52 => ?_)
          · -- ne at 52: yes
            show bw_go _ _ _ _ _ _ _ 67 [(4, .int _), (0, .ref _), (1, .int _), (2, .int _), (3, .int _)] ([]) _ _
            refine go_iload dX1_seenBy_67 rfl ?_
            refine go_iret dX1_seenBy_69 rfl rfl ?_
            refine qi hQ ?_
            have t_0 := nI_toInt (n := k) (by omega); have t_1 := nI_toInt (n := w) (by omega); have t_2 := nI_toInt (n := cE C i) (by omega); have l_0 : (9 : Int32).toInt = 9 := rfl; have l_1 : (5 : Int32).toInt = 5 := rfl; have l_2 : (3 : Int32).toInt = 3 := rfl; have l_3 : (2 : Int32).toInt = 2 := rfl; have l_4 : (1 : Int32).toInt = 1 := rfl
            try simp only [i_le, i_lt, i_eq, ofk, decide_eq_true_eq, decide_eq_false_iff_not, true_and, and_true] at c_3
            try simp only [i_le, i_lt, i_eq, ofk, decide_eq_true_eq, decide_eq_false_iff_not, true_and, and_true] at c_10
            try simp only [i_le, i_lt, i_eq, ofk, decide_eq_true_eq, decide_eq_false_iff_not, true_and, and_true] at c_15
            try simp only [i_le, i_lt, i_eq, ofk, decide_eq_true_eq, decide_eq_false_iff_not, true_and, and_true] at c_32
            try simp only [i_le, i_lt, i_eq, ofk, decide_eq_true_eq, decide_eq_false_iff_not, true_and, and_true] at c_52
            unfold see
            repeat' split
            all_goals first | rfl | (exfalso; omega) | (exfalso; simp_all; done) | exact and21 _ (by first | exact k1.2.2.2 | exact pan_lt _ k1.2.2.2)
          · -- ne at 52: no
            show bw_go _ _ _ _ _ _ _ 55 [(4, .int _), (0, .ref _), (1, .int _), (2, .int _), (3, .int _)] ([]) _ _
            refine go_aload_n dX1_seenBy_55 rfl ?_
            refine go_gfr dX1_seenBy_56 fl_1_33 rfl hc.1.1.1 hc.1.1.2.1 hc.1.1.2.2.2.1 ?_
            refine go_iload_n dX1_seenBy_59 rfl ?_
            refine go_cv (as := [.int _]) 0 dX1_seenBy_60 mt_1_60 (Or.inr rfl) rfl rfl hc.1.2.2.1.1 hc.1.2.2.1.2.1 (Nat.le_of_ble_eq_true rfl) (Nat.le_of_ble_eq_true rfl) (Nat.le_of_ble_eq_true rfl) (Nat.le_of_ble_eq_true rfl) (Nat.le_of_ble_eq_true rfl) ?_
            refine me_X0_get hc.1.2.2.1 ?_
            rw [cg_n (Nat.lt_of_lt_of_le hi hc.2.2.1) (Nat.le_of_ble_eq_true rfl), (hc.2.1.2.2.2.2 _ hi).2.1]
            show bw_go _ _ _ _ _ _ _ 63 [(4, .int _), (0, .ref _), (1, .int _), (2, .int _), (3, .int _)] ((.int _) :: []) _ _
            refine go_iconst (2) dX1_seenBy_63 rfl ?_
            refine go_icmp_lt (pc' := 70) dX1_seenBy_64 rfl (fun c_64 => ?_) (fun c_64 => ?_)
            · -- lt at 64: yes
              show bw_go _ _ _ _ _ _ _ 70 [(4, .int _), (0, .ref _), (1, .int _), (2, .int _), (3, .int _)] ([]) _ _
              refine go_aload_n dX1_seenBy_70 rfl ?_
              refine go_gfr dX1_seenBy_71 fl_1_33 rfl hc.1.1.1 hc.1.1.2.1 hc.1.1.2.2.2.1 ?_
              refine go_iload_n dX1_seenBy_74 rfl ?_
              refine go_cv (as := [.int _]) 0 dX1_seenBy_75 mt_1_60 (Or.inr rfl) rfl rfl hc.1.2.2.1.1 hc.1.2.2.1.2.1 (Nat.le_of_ble_eq_true rfl) (Nat.le_of_ble_eq_true rfl) (Nat.le_of_ble_eq_true rfl) (Nat.le_of_ble_eq_true rfl) (Nat.le_of_ble_eq_true rfl) ?_
              refine me_X0_get hc.1.2.2.1 ?_
              rw [cg_n (Nat.lt_of_lt_of_le hi hc.2.2.1) (Nat.le_of_ble_eq_true rfl), (hc.2.1.2.2.2.2 _ hi).2.1]
              show bw_go _ _ _ _ _ _ _ 78 [(4, .int _), (0, .ref _), (1, .int _), (2, .int _), (3, .int _)] ((.int _) :: []) _ _
              refine go_iconst (1) dX1_seenBy_78 rfl ?_
              refine go_icmp_ne (pc' := 90) dX1_seenBy_79 rfl (fun c_79 => ?_) (fun c_79 => ?_)
              · -- ne at 79: yes
                show bw_go _ _ _ _ _ _ _ 90 [(4, .int _), (0, .ref _), (1, .int _), (2, .int _), (3, .int _)] ([]) _ _
                refine go_iconst (0) dX1_seenBy_90 rfl ?_
                refine go_iret dX1_seenBy_91 rfl rfl ?_
                refine qi hQ ?_
                have t_0 := nI_toInt (n := k) (by omega); have t_1 := nI_toInt (n := w) (by omega); have t_2 := nI_toInt (n := cE C i) (by omega); have l_0 : (9 : Int32).toInt = 9 := rfl; have l_1 : (5 : Int32).toInt = 5 := rfl; have l_2 : (3 : Int32).toInt = 3 := rfl; have l_3 : (2 : Int32).toInt = 2 := rfl; have l_4 : (1 : Int32).toInt = 1 := rfl
                try simp only [i_le, i_lt, i_eq, ofk, decide_eq_true_eq, decide_eq_false_iff_not, true_and, and_true] at c_3
                try simp only [i_le, i_lt, i_eq, ofk, decide_eq_true_eq, decide_eq_false_iff_not, true_and, and_true] at c_10
                try simp only [i_le, i_lt, i_eq, ofk, decide_eq_true_eq, decide_eq_false_iff_not, true_and, and_true] at c_15
                try simp only [i_le, i_lt, i_eq, ofk, decide_eq_true_eq, decide_eq_false_iff_not, true_and, and_true] at c_32
                try simp only [i_le, i_lt, i_eq, ofk, decide_eq_true_eq, decide_eq_false_iff_not, true_and, and_true] at c_52
                try simp only [i_le, i_lt, i_eq, ofk, decide_eq_true_eq, decide_eq_false_iff_not, true_and, and_true] at c_64
                try simp only [i_le, i_lt, i_eq, ofk, decide_eq_true_eq, decide_eq_false_iff_not, true_and, and_true] at c_79
                unfold see
                repeat' split
                all_goals first | rfl | (exfalso; omega) | (exfalso; simp_all; done) | exact and21 _ (by first | exact k1.2.2.2 | exact pan_lt _ k1.2.2.2)
              · -- ne at 79: no
                show bw_go _ _ _ _ _ _ _ 82 [(4, .int _), (0, .ref _), (1, .int _), (2, .int _), (3, .int _)] ([]) _ _
                refine go_iload dX1_seenBy_82 rfl ?_
                refine go_bipush (21) dX1_seenBy_84 rfl ?_
                refine go_iand dX1_seenBy_86 ?_
                refine go_goto (pc' := 91) dX1_seenBy_87 rfl ?_
                show bw_go _ _ _ _ _ _ _ 91 [(4, .int _), (0, .ref _), (1, .int _), (2, .int _), (3, .int _)] ((.int _) :: []) _ _
                refine go_iret dX1_seenBy_91 rfl rfl ?_
                refine qi hQ ?_
                have t_0 := nI_toInt (n := k) (by omega); have t_1 := nI_toInt (n := w) (by omega); have t_2 := nI_toInt (n := cE C i) (by omega); have l_0 : (9 : Int32).toInt = 9 := rfl; have l_1 : (5 : Int32).toInt = 5 := rfl; have l_2 : (3 : Int32).toInt = 3 := rfl; have l_3 : (2 : Int32).toInt = 2 := rfl; have l_4 : (1 : Int32).toInt = 1 := rfl
                try simp only [i_le, i_lt, i_eq, ofk, decide_eq_true_eq, decide_eq_false_iff_not, true_and, and_true] at c_3
                try simp only [i_le, i_lt, i_eq, ofk, decide_eq_true_eq, decide_eq_false_iff_not, true_and, and_true] at c_10
                try simp only [i_le, i_lt, i_eq, ofk, decide_eq_true_eq, decide_eq_false_iff_not, true_and, and_true] at c_15
                try simp only [i_le, i_lt, i_eq, ofk, decide_eq_true_eq, decide_eq_false_iff_not, true_and, and_true] at c_32
                try simp only [i_le, i_lt, i_eq, ofk, decide_eq_true_eq, decide_eq_false_iff_not, true_and, and_true] at c_52
                try simp only [i_le, i_lt, i_eq, ofk, decide_eq_true_eq, decide_eq_false_iff_not, true_and, and_true] at c_64
                try simp only [i_le, i_lt, i_eq, ofk, decide_eq_true_eq, decide_eq_false_iff_not, true_and, and_true] at c_79
                unfold see
                repeat' split
                all_goals first | rfl | (exfalso; omega) | (exfalso; simp_all; done) | exact and21 _ (by first | exact k1.2.2.2 | exact pan_lt _ k1.2.2.2)
            · -- lt at 64: no
              show bw_go _ _ _ _ _ _ _ 67 [(4, .int _), (0, .ref _), (1, .int _), (2, .int _), (3, .int _)] ([]) _ _
              refine go_iload dX1_seenBy_67 rfl ?_
              refine go_iret dX1_seenBy_69 rfl rfl ?_
              refine qi hQ ?_
              have t_0 := nI_toInt (n := k) (by omega); have t_1 := nI_toInt (n := w) (by omega); have t_2 := nI_toInt (n := cE C i) (by omega); have l_0 : (9 : Int32).toInt = 9 := rfl; have l_1 : (5 : Int32).toInt = 5 := rfl; have l_2 : (3 : Int32).toInt = 3 := rfl; have l_3 : (2 : Int32).toInt = 2 := rfl; have l_4 : (1 : Int32).toInt = 1 := rfl
              try simp only [i_le, i_lt, i_eq, ofk, decide_eq_true_eq, decide_eq_false_iff_not, true_and, and_true] at c_3
              try simp only [i_le, i_lt, i_eq, ofk, decide_eq_true_eq, decide_eq_false_iff_not, true_and, and_true] at c_10
              try simp only [i_le, i_lt, i_eq, ofk, decide_eq_true_eq, decide_eq_false_iff_not, true_and, and_true] at c_15
              try simp only [i_le, i_lt, i_eq, ofk, decide_eq_true_eq, decide_eq_false_iff_not, true_and, and_true] at c_32
              try simp only [i_le, i_lt, i_eq, ofk, decide_eq_true_eq, decide_eq_false_iff_not, true_and, and_true] at c_52
              try simp only [i_le, i_lt, i_eq, ofk, decide_eq_true_eq, decide_eq_false_iff_not, true_and, and_true] at c_64
              unfold see
              repeat' split
              all_goals first | rfl | (exfalso; omega) | (exfalso; simp_all; done) | exact and21 _ (by first | exact k1.2.2.2 | exact pan_lt _ k1.2.2.2)
        · -- ne at 32: no
          show bw_go _ _ _ _ _ _ _ 35 [(4, .int _), (0, .ref _), (1, .int _), (2, .int _), (3, .int _)] ([]) _ _
          refine go_iload dX1_seenBy_35 rfl ?_
          refine go_iload dX1_seenBy_37 rfl ?_
          refine go_iconst (1) dX1_seenBy_39 rfl ?_
          refine go_ishl dX1_seenBy_40 ?_
          refine go_bipush (63) dX1_seenBy_41 rfl ?_
          refine go_iand dX1_seenBy_43 ?_
          refine go_ior dX1_seenBy_44 ?_
          refine go_istore dX1_seenBy_45 (Nat.lt_of_lt_of_le (Nat.lt_succ_self _) (Nat.le_of_ble_eq_true rfl)) ?_
          show bw_go _ _ _ _ _ _ _ 47 [(4, .int _), (0, .ref _), (1, .int _), (2, .int _), (3, .int _)] ([]) _ _
          try rw [pan_t _ k1.2.2.2]
          refine go_iload_n dX1_seenBy_47 rfl ?_
          refine go_iconst (1) dX1_seenBy_48 rfl ?_
          refine go_cs (as := [.int _, .int _]) 0 dX1_seenBy_49 rfl rfl mt_1_64 (Nat.le_of_ble_eq_true rfl) rfl rfl (Nat.le_of_ble_eq_true rfl) (Nat.le_of_ble_eq_true rfl) (Nat.le_of_ble_eq_true rfl) (Nat.le_of_ble_eq_true rfl) ?_
          refine me_X7_isOfKind (w := 1) hk (by omega) ?_
          show bw_go _ _ _ _ _ _ _ 52 [(4, .int _), (0, .ref _), (1, .int _), (2, .int _), (3, .int _)] ((.int _) :: []) _ _
          refine go_ifb_ne (pc' := 67) dX1_seenBy_52 rfl (fun c_52 => ?_) (fun c_52 => ?_)
          · -- ne at 52: yes
            show bw_go _ _ _ _ _ _ _ 67 [(4, .int _), (0, .ref _), (1, .int _), (2, .int _), (3, .int _)] ([]) _ _
            refine go_iload dX1_seenBy_67 rfl ?_
            refine go_iret dX1_seenBy_69 rfl rfl ?_
            refine qi hQ ?_
            have t_0 := nI_toInt (n := k) (by omega); have t_1 := nI_toInt (n := w) (by omega); have t_2 := nI_toInt (n := cE C i) (by omega); have l_0 : (9 : Int32).toInt = 9 := rfl; have l_1 : (5 : Int32).toInt = 5 := rfl; have l_2 : (3 : Int32).toInt = 3 := rfl; have l_3 : (2 : Int32).toInt = 2 := rfl; have l_4 : (1 : Int32).toInt = 1 := rfl
            try simp only [i_le, i_lt, i_eq, ofk, decide_eq_true_eq, decide_eq_false_iff_not, true_and, and_true] at c_3
            try simp only [i_le, i_lt, i_eq, ofk, decide_eq_true_eq, decide_eq_false_iff_not, true_and, and_true] at c_10
            try simp only [i_le, i_lt, i_eq, ofk, decide_eq_true_eq, decide_eq_false_iff_not, true_and, and_true] at c_15
            try simp only [i_le, i_lt, i_eq, ofk, decide_eq_true_eq, decide_eq_false_iff_not, true_and, and_true] at c_32
            try simp only [i_le, i_lt, i_eq, ofk, decide_eq_true_eq, decide_eq_false_iff_not, true_and, and_true] at c_52
            unfold see
            repeat' split
            all_goals first | rfl | (exfalso; omega) | (exfalso; simp_all; done) | exact and21 _ (by first | exact k1.2.2.2 | exact pan_lt _ k1.2.2.2)
          · -- ne at 52: no
            show bw_go _ _ _ _ _ _ _ 55 [(4, .int _), (0, .ref _), (1, .int _), (2, .int _), (3, .int _)] ([]) _ _
            refine go_aload_n dX1_seenBy_55 rfl ?_
            refine go_gfr dX1_seenBy_56 fl_1_33 rfl hc.1.1.1 hc.1.1.2.1 hc.1.1.2.2.2.1 ?_
            refine go_iload_n dX1_seenBy_59 rfl ?_
            refine go_cv (as := [.int _]) 0 dX1_seenBy_60 mt_1_60 (Or.inr rfl) rfl rfl hc.1.2.2.1.1 hc.1.2.2.1.2.1 (Nat.le_of_ble_eq_true rfl) (Nat.le_of_ble_eq_true rfl) (Nat.le_of_ble_eq_true rfl) (Nat.le_of_ble_eq_true rfl) (Nat.le_of_ble_eq_true rfl) ?_
            refine me_X0_get hc.1.2.2.1 ?_
            rw [cg_n (Nat.lt_of_lt_of_le hi hc.2.2.1) (Nat.le_of_ble_eq_true rfl), (hc.2.1.2.2.2.2 _ hi).2.1]
            show bw_go _ _ _ _ _ _ _ 63 [(4, .int _), (0, .ref _), (1, .int _), (2, .int _), (3, .int _)] ((.int _) :: []) _ _
            refine go_iconst (2) dX1_seenBy_63 rfl ?_
            refine go_icmp_lt (pc' := 70) dX1_seenBy_64 rfl (fun c_64 => ?_) (fun c_64 => ?_)
            · -- lt at 64: yes
              show bw_go _ _ _ _ _ _ _ 70 [(4, .int _), (0, .ref _), (1, .int _), (2, .int _), (3, .int _)] ([]) _ _
              refine go_aload_n dX1_seenBy_70 rfl ?_
              refine go_gfr dX1_seenBy_71 fl_1_33 rfl hc.1.1.1 hc.1.1.2.1 hc.1.1.2.2.2.1 ?_
              refine go_iload_n dX1_seenBy_74 rfl ?_
              refine go_cv (as := [.int _]) 0 dX1_seenBy_75 mt_1_60 (Or.inr rfl) rfl rfl hc.1.2.2.1.1 hc.1.2.2.1.2.1 (Nat.le_of_ble_eq_true rfl) (Nat.le_of_ble_eq_true rfl) (Nat.le_of_ble_eq_true rfl) (Nat.le_of_ble_eq_true rfl) (Nat.le_of_ble_eq_true rfl) ?_
              refine me_X0_get hc.1.2.2.1 ?_
              rw [cg_n (Nat.lt_of_lt_of_le hi hc.2.2.1) (Nat.le_of_ble_eq_true rfl), (hc.2.1.2.2.2.2 _ hi).2.1]
              show bw_go _ _ _ _ _ _ _ 78 [(4, .int _), (0, .ref _), (1, .int _), (2, .int _), (3, .int _)] ((.int _) :: []) _ _
              refine go_iconst (1) dX1_seenBy_78 rfl ?_
              refine go_icmp_ne (pc' := 90) dX1_seenBy_79 rfl (fun c_79 => ?_) (fun c_79 => ?_)
              · -- ne at 79: yes
                show bw_go _ _ _ _ _ _ _ 90 [(4, .int _), (0, .ref _), (1, .int _), (2, .int _), (3, .int _)] ([]) _ _
                refine go_iconst (0) dX1_seenBy_90 rfl ?_
                refine go_iret dX1_seenBy_91 rfl rfl ?_
                refine qi hQ ?_
                have t_0 := nI_toInt (n := k) (by omega); have t_1 := nI_toInt (n := w) (by omega); have t_2 := nI_toInt (n := cE C i) (by omega); have l_0 : (9 : Int32).toInt = 9 := rfl; have l_1 : (5 : Int32).toInt = 5 := rfl; have l_2 : (3 : Int32).toInt = 3 := rfl; have l_3 : (2 : Int32).toInt = 2 := rfl; have l_4 : (1 : Int32).toInt = 1 := rfl
                try simp only [i_le, i_lt, i_eq, ofk, decide_eq_true_eq, decide_eq_false_iff_not, true_and, and_true] at c_3
                try simp only [i_le, i_lt, i_eq, ofk, decide_eq_true_eq, decide_eq_false_iff_not, true_and, and_true] at c_10
                try simp only [i_le, i_lt, i_eq, ofk, decide_eq_true_eq, decide_eq_false_iff_not, true_and, and_true] at c_15
                try simp only [i_le, i_lt, i_eq, ofk, decide_eq_true_eq, decide_eq_false_iff_not, true_and, and_true] at c_32
                try simp only [i_le, i_lt, i_eq, ofk, decide_eq_true_eq, decide_eq_false_iff_not, true_and, and_true] at c_52
                try simp only [i_le, i_lt, i_eq, ofk, decide_eq_true_eq, decide_eq_false_iff_not, true_and, and_true] at c_64
                try simp only [i_le, i_lt, i_eq, ofk, decide_eq_true_eq, decide_eq_false_iff_not, true_and, and_true] at c_79
                unfold see
                repeat' split
                all_goals first | rfl | (exfalso; omega) | (exfalso; simp_all; done) | exact and21 _ (by first | exact k1.2.2.2 | exact pan_lt _ k1.2.2.2)
              · -- ne at 79: no
                show bw_go _ _ _ _ _ _ _ 82 [(4, .int _), (0, .ref _), (1, .int _), (2, .int _), (3, .int _)] ([]) _ _
                refine go_iload dX1_seenBy_82 rfl ?_
                refine go_bipush (21) dX1_seenBy_84 rfl ?_
                refine go_iand dX1_seenBy_86 ?_
                refine go_goto (pc' := 91) dX1_seenBy_87 rfl ?_
                show bw_go _ _ _ _ _ _ _ 91 [(4, .int _), (0, .ref _), (1, .int _), (2, .int _), (3, .int _)] ((.int _) :: []) _ _
                refine go_iret dX1_seenBy_91 rfl rfl ?_
                refine qi hQ ?_
                have t_0 := nI_toInt (n := k) (by omega); have t_1 := nI_toInt (n := w) (by omega); have t_2 := nI_toInt (n := cE C i) (by omega); have l_0 : (9 : Int32).toInt = 9 := rfl; have l_1 : (5 : Int32).toInt = 5 := rfl; have l_2 : (3 : Int32).toInt = 3 := rfl; have l_3 : (2 : Int32).toInt = 2 := rfl; have l_4 : (1 : Int32).toInt = 1 := rfl
                try simp only [i_le, i_lt, i_eq, ofk, decide_eq_true_eq, decide_eq_false_iff_not, true_and, and_true] at c_3
                try simp only [i_le, i_lt, i_eq, ofk, decide_eq_true_eq, decide_eq_false_iff_not, true_and, and_true] at c_10
                try simp only [i_le, i_lt, i_eq, ofk, decide_eq_true_eq, decide_eq_false_iff_not, true_and, and_true] at c_15
                try simp only [i_le, i_lt, i_eq, ofk, decide_eq_true_eq, decide_eq_false_iff_not, true_and, and_true] at c_32
                try simp only [i_le, i_lt, i_eq, ofk, decide_eq_true_eq, decide_eq_false_iff_not, true_and, and_true] at c_52
                try simp only [i_le, i_lt, i_eq, ofk, decide_eq_true_eq, decide_eq_false_iff_not, true_and, and_true] at c_64
                try simp only [i_le, i_lt, i_eq, ofk, decide_eq_true_eq, decide_eq_false_iff_not, true_and, and_true] at c_79
                unfold see
                repeat' split
                all_goals first | rfl | (exfalso; omega) | (exfalso; simp_all; done) | exact and21 _ (by first | exact k1.2.2.2 | exact pan_lt _ k1.2.2.2)
            · -- lt at 64: no
              show bw_go _ _ _ _ _ _ _ 67 [(4, .int _), (0, .ref _), (1, .int _), (2, .int _), (3, .int _)] ([]) _ _
              refine go_iload dX1_seenBy_67 rfl ?_
              refine go_iret dX1_seenBy_69 rfl rfl ?_
              refine qi hQ ?_
              have t_0 := nI_toInt (n := k) (by omega); have t_1 := nI_toInt (n := w) (by omega); have t_2 := nI_toInt (n := cE C i) (by omega); have l_0 : (9 : Int32).toInt = 9 := rfl; have l_1 : (5 : Int32).toInt = 5 := rfl; have l_2 : (3 : Int32).toInt = 3 := rfl; have l_3 : (2 : Int32).toInt = 2 := rfl; have l_4 : (1 : Int32).toInt = 1 := rfl
              try simp only [i_le, i_lt, i_eq, ofk, decide_eq_true_eq, decide_eq_false_iff_not, true_and, and_true] at c_3
              try simp only [i_le, i_lt, i_eq, ofk, decide_eq_true_eq, decide_eq_false_iff_not, true_and, and_true] at c_10
              try simp only [i_le, i_lt, i_eq, ofk, decide_eq_true_eq, decide_eq_false_iff_not, true_and, and_true] at c_15
              try simp only [i_le, i_lt, i_eq, ofk, decide_eq_true_eq, decide_eq_false_iff_not, true_and, and_true] at c_32
              try simp only [i_le, i_lt, i_eq, ofk, decide_eq_true_eq, decide_eq_false_iff_not, true_and, and_true] at c_52
              try simp only [i_le, i_lt, i_eq, ofk, decide_eq_true_eq, decide_eq_false_iff_not, true_and, and_true] at c_64
              unfold see
              repeat' split
              all_goals first | rfl | (exfalso; omega) | (exfalso; simp_all; done) | exact and21 _ (by first | exact k1.2.2.2 | exact pan_lt _ k1.2.2.2)
      · -- lt at 15: no
        show bw_go _ _ _ _ _ _ _ 18 [(0, .ref _), (1, .int _), (2, .int _), (3, .int _)] ([]) _ _
        refine go_iconst (0) dX1_seenBy_18 rfl ?_
        refine go_iret dX1_seenBy_19 rfl rfl ?_
        refine qi hQ ?_
        have t_0 := nI_toInt (n := k) (by omega); have t_1 := nI_toInt (n := w) (by omega); have t_2 := nI_toInt (n := cE C i) (by omega); have l_0 : (9 : Int32).toInt = 9 := rfl; have l_1 : (5 : Int32).toInt = 5 := rfl; have l_2 : (3 : Int32).toInt = 3 := rfl; have l_3 : (2 : Int32).toInt = 2 := rfl; have l_4 : (1 : Int32).toInt = 1 := rfl
        try simp only [i_le, i_lt, i_eq, ofk, decide_eq_true_eq, decide_eq_false_iff_not, true_and, and_true] at c_3
        try simp only [i_le, i_lt, i_eq, ofk, decide_eq_true_eq, decide_eq_false_iff_not, true_and, and_true] at c_10
        try simp only [i_le, i_lt, i_eq, ofk, decide_eq_true_eq, decide_eq_false_iff_not, true_and, and_true] at c_15
        unfold see
        repeat' split
        all_goals first | rfl | (exfalso; omega) | (exfalso; simp_all; done) | exact and21 _ (by first | exact k1.2.2.2 | exact pan_lt _ k1.2.2.2)
  · -- lt at 3: no
    show bw_go _ _ _ _ _ _ _ 6 [(0, .ref _), (1, .int _), (2, .int _), (3, .int _)] ([]) _ _
    refine go_iconst (0) dX1_seenBy_6 rfl ?_
    refine go_iret dX1_seenBy_7 rfl rfl ?_
    refine qi hQ ?_
    have t_0 := nI_toInt (n := k) (by omega); have t_1 := nI_toInt (n := w) (by omega); have t_2 := nI_toInt (n := cE C i) (by omega); have l_0 : (9 : Int32).toInt = 9 := rfl; have l_1 : (5 : Int32).toInt = 5 := rfl; have l_2 : (3 : Int32).toInt = 3 := rfl; have l_3 : (2 : Int32).toInt = 2 := rfl; have l_4 : (1 : Int32).toInt = 1 := rfl
    try simp only [i_le, i_lt, i_eq, ofk, decide_eq_true_eq, decide_eq_false_iff_not, true_and, and_true] at c_3
    unfold see
    repeat' split
    all_goals first | rfl | (exfalso; omega) | (exfalso; simp_all; done) | exact and21 _ (by first | exact k1.2.2.2 | exact pan_lt _ k1.2.2.2)
set_option maxRecDepth 100000 in
set_option maxHeartbeats 4000000 in
theorem me_X1_toldOf {X : Nat × (Nat → Int32)} {Q : Option Value → bw_H → Prop} {h : bw_H} {p : Nat} {C : CT} (hc : bw_ct h p C) {i k w : Nat} (hi : i < cN C) (hk : k < 6) (hw : w < 10) (hQ : Q (some (.int (nI (tol (cW C) i k w (cV C i) (cE C i))))) h) : bw_me X 2 bm_X1_toldOf false [.ref p, .int (nI i), .int (nI k), .int (nI w)] h Q := by
  show bw_go _ 2 1 4 false (some .int) cX1_toldOf 0 [(0, .ref _), (1, .int _), (2, .int _), (3, .int _)] [] _ _
  refine go_aload_n dX1_toldOf_0 rfl ?_
  refine go_gfi dX1_toldOf_1 fl_1_18 rfl hc.1.1.1 hc.1.1.2.1 ?_
  rw [hc.2.1.2.2.1]
  refine go_iload_n dX1_toldOf_4 rfl ?_
  refine go_cs (as := [.int _, .int _]) 0 dX1_toldOf_5 rfl rfl mt_1_72 (Nat.le_of_ble_eq_true rfl) rfl rfl (Nat.le_of_ble_eq_true rfl) (Nat.le_of_ble_eq_true rfl) (Nat.le_of_ble_eq_true rfl) (Nat.le_of_ble_eq_true rfl) ?_
  refine me_X7_isIn hc.2.2.2.2.1 (Nat.lt_of_lt_of_le hi (Nat.le_trans hc.2.2.1 (by decide))) ?_
  show bw_go _ _ _ _ _ _ _ 8 [(0, .ref _), (1, .int _), (2, .int _), (3, .int _)] ((.int _) :: []) _ _
  refine go_ifb_eq (pc' := 15) dX1_toldOf_8 rfl (fun c_8 => ?_) (fun c_8 => ?_)
  · -- eq at 8: yes
    show bw_go _ _ _ _ _ _ _ 15 [(0, .ref _), (1, .int _), (2, .int _), (3, .int _)] ([]) _ _
    refine go_aload_n dX1_toldOf_15 rfl ?_
    refine go_iload_n dX1_toldOf_16 rfl ?_
    refine go_iload_n dX1_toldOf_17 rfl ?_
    refine go_iload_n dX1_toldOf_18 rfl ?_
    refine go_cv (as := [.int _, .int _, .int _]) 1 dX1_toldOf_19 mt_1_75 (Or.inl rfl) rfl rfl hc.1.1.1 hc.1.1.2.1 (Nat.le_of_ble_eq_true rfl) (Nat.le_of_ble_eq_true rfl) (Nat.le_of_ble_eq_true rfl) (Nat.le_of_ble_eq_true rfl) (Nat.le_of_ble_eq_true rfl) ?_
    refine me_X1_seenBy hc hi hk hw ?_
    show bw_go _ _ _ _ _ _ _ 22 [(0, .ref _), (1, .int _), (2, .int _), (3, .int _)] ((.int _) :: []) _ _
    refine go_iret dX1_toldOf_22 rfl rfl ?_
    unfold tol at hQ; simp only [c_8, if_true, if_false, Bool.false_eq_true] at hQ; exact hQ
  · -- eq at 8: no
    show bw_go _ _ _ _ _ _ _ 11 [(0, .ref _), (1, .int _), (2, .int _), (3, .int _)] ([]) _ _
    refine go_iconst (0) dX1_toldOf_11 rfl ?_
    refine go_goto (pc' := 22) dX1_toldOf_12 rfl ?_
    show bw_go _ _ _ _ _ _ _ 22 [(0, .ref _), (1, .int _), (2, .int _), (3, .int _)] ((.int _) :: []) _ _
    refine go_iret dX1_toldOf_22 rfl rfl ?_
    unfold tol at hQ; simp only [c_8, if_true, if_false, Bool.false_eq_true] at hQ; exact hQ
set_option maxRecDepth 100000 in
set_option maxHeartbeats 4000000 in
theorem me_X1_onesOf {X : Nat × (Nat → Int32)} {Q : Option Value → bw_H → Prop} {h : bw_H} {t k w dn : Nat} (ht : t < 64) (hk : k < 6) (hw : w < 10) (hd : dn < 64) (hQ : Q (some (.int (nI (one t k w dn)))) h) : bw_me X 1 bm_X1_onesOf false [.int (nI t), .int (nI k), .int (nI w), .int (nI dn)] h Q := by
  show bw_go _ 1 1 4 false (some .int) cX1_onesOf 0 [(0, .int _), (1, .int _), (2, .int _), (3, .int _)] [] _ _
  refine go_iload_n dX1_onesOf_0 rfl ?_
  refine go_iconst (4) dX1_onesOf_1 rfl ?_
  refine go_icmp_ne (pc' := 7) dX1_onesOf_2 rfl (fun c_2 => ?_) (fun c_2 => ?_)
  · -- ne at 2: yes
    show bw_go _ _ _ _ _ _ _ 7 [(0, .int _), (1, .int _), (2, .int _), (3, .int _)] ([]) _ _
    refine go_iload_n dX1_onesOf_7 rfl ?_
    refine go_iconst (3) dX1_onesOf_8 rfl ?_
    refine go_cs (as := [.int _, .int _]) 0 dX1_onesOf_9 rfl rfl mt_1_64 (Nat.le_of_ble_eq_true rfl) rfl rfl (Nat.le_of_ble_eq_true rfl) (Nat.le_of_ble_eq_true rfl) (Nat.le_of_ble_eq_true rfl) (Nat.le_of_ble_eq_true rfl) ?_
    refine me_X7_isOfKind (w := 3) hk (by omega) ?_
    show bw_go _ _ _ _ _ _ _ 12 [(0, .int _), (1, .int _), (2, .int _), (3, .int _)] ((.int _) :: []) _ _
    refine go_ifb_eq (pc' := 26) dX1_onesOf_12 rfl (fun c_12 => ?_) (fun c_12 => ?_)
    · -- eq at 12: yes
      show bw_go _ _ _ _ _ _ _ 26 [(0, .int _), (1, .int _), (2, .int _), (3, .int _)] ([]) _ _
      refine go_iload_n dX1_onesOf_26 rfl ?_
      refine go_iload_n dX1_onesOf_27 rfl ?_
      refine go_iand dX1_onesOf_28 ?_
      refine go_iret dX1_onesOf_29 rfl rfl ?_
      refine qi hQ ?_
      have t_0 := nI_toInt (n := k) (by omega); have t_1 := nI_toInt (n := w) (by omega); have l_0 : (4 : Int32).toInt = 4 := rfl; have l_1 : (5 : Int32).toInt = 5 := rfl
      try simp only [i_le, i_lt, i_eq, ofk, decide_eq_true_eq, decide_eq_false_iff_not, true_and, and_true] at c_2
      try simp only [i_le, i_lt, i_eq, ofk, decide_eq_true_eq, decide_eq_false_iff_not, true_and, and_true] at c_12
      unfold one
      repeat' split
      all_goals first | rfl | (exfalso; omega) | (exfalso; simp_all; done) | exact not_n _ hd _ ht | exact and_n _ _
    · -- eq at 12: no
      show bw_go _ _ _ _ _ _ _ 15 [(0, .int _), (1, .int _), (2, .int _), (3, .int _)] ([]) _ _
      refine go_iload_n dX1_onesOf_15 rfl ?_
      refine go_iconst (5) dX1_onesOf_16 rfl ?_
      refine go_icmp_lt (pc' := 26) dX1_onesOf_17 rfl (fun c_17 => ?_) (fun c_17 => ?_)
      · -- lt at 17: yes
        show bw_go _ _ _ _ _ _ _ 26 [(0, .int _), (1, .int _), (2, .int _), (3, .int _)] ([]) _ _
        refine go_iload_n dX1_onesOf_26 rfl ?_
        refine go_iload_n dX1_onesOf_27 rfl ?_
        refine go_iand dX1_onesOf_28 ?_
        refine go_iret dX1_onesOf_29 rfl rfl ?_
        refine qi hQ ?_
        have t_0 := nI_toInt (n := k) (by omega); have t_1 := nI_toInt (n := w) (by omega); have l_0 : (4 : Int32).toInt = 4 := rfl; have l_1 : (5 : Int32).toInt = 5 := rfl
        try simp only [i_le, i_lt, i_eq, ofk, decide_eq_true_eq, decide_eq_false_iff_not, true_and, and_true] at c_2
        try simp only [i_le, i_lt, i_eq, ofk, decide_eq_true_eq, decide_eq_false_iff_not, true_and, and_true] at c_12
        try simp only [i_le, i_lt, i_eq, ofk, decide_eq_true_eq, decide_eq_false_iff_not, true_and, and_true] at c_17
        unfold one
        repeat' split
        all_goals first | rfl | (exfalso; omega) | (exfalso; simp_all; done) | exact not_n _ hd _ ht | exact and_n _ _
      · -- lt at 17: no
        show bw_go _ _ _ _ _ _ _ 20 [(0, .int _), (1, .int _), (2, .int _), (3, .int _)] ([]) _ _
        refine go_iload_n dX1_onesOf_20 rfl ?_
        refine go_iload_n dX1_onesOf_21 rfl ?_
        refine go_iconst (-1) dX1_onesOf_22 rfl ?_
        refine go_ixor dX1_onesOf_23 ?_
        refine go_iand dX1_onesOf_24 ?_
        refine go_iret dX1_onesOf_25 rfl rfl ?_
        refine qi hQ ?_
        have t_0 := nI_toInt (n := k) (by omega); have t_1 := nI_toInt (n := w) (by omega); have l_0 : (4 : Int32).toInt = 4 := rfl; have l_1 : (5 : Int32).toInt = 5 := rfl
        try simp only [i_le, i_lt, i_eq, ofk, decide_eq_true_eq, decide_eq_false_iff_not, true_and, and_true] at c_2
        try simp only [i_le, i_lt, i_eq, ofk, decide_eq_true_eq, decide_eq_false_iff_not, true_and, and_true] at c_12
        try simp only [i_le, i_lt, i_eq, ofk, decide_eq_true_eq, decide_eq_false_iff_not, true_and, and_true] at c_17
        unfold one
        repeat' split
        all_goals first | rfl | (exfalso; omega) | (exfalso; simp_all; done) | exact not_n _ hd _ ht | exact and_n _ _
  · -- ne at 2: no
    show bw_go _ _ _ _ _ _ _ 5 [(0, .int _), (1, .int _), (2, .int _), (3, .int _)] ([]) _ _
    refine go_iload_n dX1_onesOf_5 rfl ?_
    refine go_iret dX1_onesOf_6 rfl rfl ?_
    refine qi hQ ?_
    have t_0 := nI_toInt (n := k) (by omega); have t_1 := nI_toInt (n := w) (by omega); have l_0 : (4 : Int32).toInt = 4 := rfl; have l_1 : (5 : Int32).toInt = 5 := rfl
    try simp only [i_le, i_lt, i_eq, ofk, decide_eq_true_eq, decide_eq_false_iff_not, true_and, and_true] at c_2
    unfold one
    repeat' split
    all_goals first | rfl | (exfalso; omega) | (exfalso; simp_all; done) | exact not_n _ hd _ ht | exact and_n _ _
set_option maxRecDepth 100000 in
set_option maxHeartbeats 4000000 in
theorem me_X1_answerIf {X : Nat × (Nat → Int32)} {Q : Option Value → bw_H → Prop} {h : bw_H} {p : Nat} {C : CT} (hc : bw_ct h p C) {i k t dn : Nat} (hi : i < cN C) (hk : k < 6) (ht : t < 6) (hd : dn < 64) (hQ : Q (some (.int (ans (cW C) i k (cR C i) (cV C i) (cE C i) t dn))) h) : bw_me X 3 bm_X1_answerIf false [.ref p, .int (nI i), .int (nI k), .int (nI t), .int (nI dn)] h Q := by
  show bw_go _ 3 1 7 false (some .int) cX1_answerIf 0 [(0, .ref _), (1, .int _), (2, .int _), (3, .int _), (4, .int _)] [] _ _
  have k1 := hc.2.2.2.2.2.2 i hi
  refine go_aload_n dX1_answerIf_0 rfl ?_
  refine go_gfr dX1_answerIf_1 fl_1_36 rfl hc.1.1.1 hc.1.1.2.1 hc.1.1.2.2.2.2.1 ?_
  refine go_iload_n dX1_answerIf_4 rfl ?_
  refine go_cv (as := [.int _]) 0 dX1_answerIf_5 mt_1_60 (Or.inr rfl) rfl rfl hc.1.2.2.2.1.1 hc.1.2.2.2.1.2.1 (Nat.le_of_ble_eq_true rfl) (Nat.le_of_ble_eq_true rfl) (Nat.le_of_ble_eq_true rfl) (Nat.le_of_ble_eq_true rfl) (Nat.le_of_ble_eq_true rfl) ?_
  refine me_X0_get hc.1.2.2.2.1 ?_
  rw [cg_n (Nat.lt_of_lt_of_le hi hc.2.2.1) (Nat.le_of_ble_eq_true rfl), (hc.2.1.2.2.2.2 _ hi).2.2.1]
  show bw_go _ _ _ _ _ _ _ 8 [(0, .ref _), (1, .int _), (2, .int _), (3, .int _), (4, .int _)] ((.int _) :: []) _ _
  refine go_istore dX1_answerIf_8 (Nat.lt_of_lt_of_le (Nat.lt_succ_self _) (Nat.le_of_ble_eq_true rfl)) ?_
  show bw_go _ _ _ _ _ _ _ 10 [(5, .int _), (0, .ref _), (1, .int _), (2, .int _), (3, .int _), (4, .int _)] ([]) _ _
  refine go_aload_n dX1_answerIf_10 rfl ?_
  refine go_iload_n dX1_answerIf_11 rfl ?_
  refine go_iload_n dX1_answerIf_12 rfl ?_
  refine go_iload dX1_answerIf_13 rfl ?_
  refine go_cv (as := [.int _, .int _, .int _]) 2 dX1_answerIf_15 mt_1_79 (Or.inl rfl) rfl rfl hc.1.1.1 hc.1.1.2.1 (Nat.le_of_ble_eq_true rfl) (Nat.le_of_ble_eq_true rfl) (Nat.le_of_ble_eq_true rfl) (Nat.le_of_ble_eq_true rfl) (Nat.le_of_ble_eq_true rfl) ?_
  refine me_X1_toldOf hc hi hk (by omega) ?_
  show bw_go _ _ _ _ _ _ _ 18 [(5, .int _), (0, .ref _), (1, .int _), (2, .int _), (3, .int _), (4, .int _)] ((.int _) :: []) _ _
  refine go_istore dX1_answerIf_18 (Nat.lt_of_lt_of_le (Nat.lt_succ_self _) (Nat.le_of_ble_eq_true rfl)) ?_
  show bw_go _ _ _ _ _ _ _ 20 [(6, .int _), (5, .int _), (0, .ref _), (1, .int _), (2, .int _), (3, .int _), (4, .int _)] ([]) _ _
  refine go_iload dX1_answerIf_20 rfl ?_
  refine go_iload_n dX1_answerIf_22 rfl ?_
  refine go_cs (as := [.int _, .int _]) 0 dX1_answerIf_23 rfl rfl mt_1_72 (Nat.le_of_ble_eq_true rfl) rfl rfl (Nat.le_of_ble_eq_true rfl) (Nat.le_of_ble_eq_true rfl) (Nat.le_of_ble_eq_true rfl) (Nat.le_of_ble_eq_true rfl) ?_
  refine me_X7_isIn (tol_lt k1.2.2.2) (by omega) ?_
  show bw_go _ _ _ _ _ _ _ 26 [(6, .int _), (5, .int _), (0, .ref _), (1, .int _), (2, .int _), (3, .int _), (4, .int _)] ((.int _) :: []) _ _
  refine go_ifb_ne (pc' := 32) dX1_answerIf_26 rfl (fun c_26 => ?_) (fun c_26 => ?_)
  · -- ne at 26: yes
    show bw_go _ _ _ _ _ _ _ 32 [(6, .int _), (5, .int _), (0, .ref _), (1, .int _), (2, .int _), (3, .int _), (4, .int _)] ([]) _ _
    refine go_iload dX1_answerIf_32 rfl ?_
    refine go_iload_n dX1_answerIf_34 rfl ?_
    refine go_iload dX1_answerIf_35 rfl ?_
    refine go_iload dX1_answerIf_37 rfl ?_
    refine go_cs (as := [.int _, .int _, .int _, .int _]) 1 dX1_answerIf_39 rfl rfl mt_1_82 (Nat.le_of_ble_eq_true rfl) rfl rfl (Nat.le_of_ble_eq_true rfl) (Nat.le_of_ble_eq_true rfl) (Nat.le_of_ble_eq_true rfl) (Nat.le_of_ble_eq_true rfl) ?_
    refine me_X1_onesOf (tol_lt k1.2.2.2) hk (by omega) hd ?_
    show bw_go _ _ _ _ _ _ _ 42 [(6, .int _), (5, .int _), (0, .ref _), (1, .int _), (2, .int _), (3, .int _), (4, .int _)] ((.int _) :: []) _ _
    refine go_iload_n dX1_answerIf_42 rfl ?_
    refine go_cs (as := [.int _, .int _]) 0 dX1_answerIf_43 rfl rfl mt_1_72 (Nat.le_of_ble_eq_true rfl) rfl rfl (Nat.le_of_ble_eq_true rfl) (Nat.le_of_ble_eq_true rfl) (Nat.le_of_ble_eq_true rfl) (Nat.le_of_ble_eq_true rfl) ?_
    refine me_X7_isIn (one_lt (tol_lt k1.2.2.2)) (by omega) ?_
    show bw_go _ _ _ _ _ _ _ 46 [(6, .int _), (5, .int _), (0, .ref _), (1, .int _), (2, .int _), (3, .int _), (4, .int _)] ((.int _) :: []) _ _
    refine go_ifb_eq (pc' := 53) dX1_answerIf_46 rfl (fun c_46 => ?_) (fun c_46 => ?_)
    · -- eq at 46: yes
      show bw_go _ _ _ _ _ _ _ 53 [(6, .int _), (5, .int _), (0, .ref _), (1, .int _), (2, .int _), (3, .int _), (4, .int _)] ([]) _ _
      refine go_iconst (0) dX1_answerIf_53 rfl ?_
      refine go_iret dX1_answerIf_54 rfl rfl ?_
      unfold ans at hQ; simp only [c_26, c_46, if_true, if_false, Bool.false_eq_true] at hQ; exact hQ
    · -- eq at 46: no
      show bw_go _ _ _ _ _ _ _ 49 [(6, .int _), (5, .int _), (0, .ref _), (1, .int _), (2, .int _), (3, .int _), (4, .int _)] ([]) _ _
      refine go_iconst (1) dX1_answerIf_49 rfl ?_
      refine go_goto (pc' := 54) dX1_answerIf_50 rfl ?_
      show bw_go _ _ _ _ _ _ _ 54 [(6, .int _), (5, .int _), (0, .ref _), (1, .int _), (2, .int _), (3, .int _), (4, .int _)] ((.int _) :: []) _ _
      refine go_iret dX1_answerIf_54 rfl rfl ?_
      unfold ans at hQ; simp only [c_26, c_46, if_true, if_false, Bool.false_eq_true] at hQ; exact hQ
  · -- ne at 26: no
    show bw_go _ _ _ _ _ _ _ 29 [(6, .int _), (5, .int _), (0, .ref _), (1, .int _), (2, .int _), (3, .int _), (4, .int _)] ([]) _ _
    refine go_bipush (-9) dX1_answerIf_29 rfl ?_
    refine go_iret dX1_answerIf_31 rfl rfl ?_
    unfold ans at hQ; simp only [c_26, if_true, if_false, Bool.false_eq_true] at hQ; exact hQ
set_option maxRecDepth 100000 in
set_option maxHeartbeats 4000000 in
theorem me_X1_answerOf {X : Nat × (Nat → Int32)} {Q : Option Value → bw_H → Prop} {h : bw_H} {p : Nat} {C : CT} (hc : bw_ct h p C) {i t : Nat} (hi : i < cN C) (ht : t < 6) (hQ : Q (some (.int (ans (cW C) i (cK C i) (cR C i) (cV C i) (cE C i) t (cD C)))) h) : bw_me X 4 bm_X1_answerOf false [.ref p, .int (nI i), .int (nI t)] h Q := by
  show bw_go _ 4 1 3 false (some .int) cX1_answerOf 0 [(0, .ref _), (1, .int _), (2, .int _)] [] _ _
  have k1 := hc.2.2.2.2.2.2 i hi
  refine go_aload_n dX1_answerOf_0 rfl ?_
  refine go_iload_n dX1_answerOf_1 rfl ?_
  refine go_aload_n dX1_answerOf_2 rfl ?_
  refine go_gfr dX1_answerOf_3 fl_1_29 rfl hc.1.1.1 hc.1.1.2.1 hc.1.1.2.2.1 ?_
  refine go_iload_n dX1_answerOf_6 rfl ?_
  refine go_cv (as := [.int _]) 0 dX1_answerOf_7 mt_1_60 (Or.inr rfl) rfl rfl hc.1.2.1.1 hc.1.2.1.2.1 (Nat.le_of_ble_eq_true rfl) (Nat.le_of_ble_eq_true rfl) (Nat.le_of_ble_eq_true rfl) (Nat.le_of_ble_eq_true rfl) (Nat.le_of_ble_eq_true rfl) ?_
  refine me_X0_get hc.1.2.1 ?_
  rw [cg_n (Nat.lt_of_lt_of_le hi hc.2.2.1) (Nat.le_of_ble_eq_true rfl), (hc.2.1.2.2.2.2 _ hi).1]
  show bw_go _ _ _ _ _ _ _ 10 [(0, .ref _), (1, .int _), (2, .int _)] ((.int _) :: (.int _) :: (.ref _) :: []) _ _
  refine go_iload_n dX1_answerOf_10 rfl ?_
  refine go_aload_n dX1_answerOf_11 rfl ?_
  refine go_gfi dX1_answerOf_12 fl_1_15 rfl hc.1.1.1 hc.1.1.2.1 ?_
  rw [hc.2.1.2.1]
  refine go_cv (as := [.int _, .int _, .int _, .int _]) 3 dX1_answerOf_15 mt_1_86 (Or.inl rfl) rfl rfl hc.1.1.1 hc.1.1.2.1 (Nat.le_of_ble_eq_true rfl) (Nat.le_of_ble_eq_true rfl) (Nat.le_of_ble_eq_true rfl) (Nat.le_of_ble_eq_true rfl) (Nat.le_of_ble_eq_true rfl) ?_
  refine me_X1_answerIf hc hi k1.1 ht hc.2.2.2.1 ?_
  show bw_go _ _ _ _ _ _ _ 18 [(0, .ref _), (1, .int _), (2, .int _)] ((.int _) :: []) _ _
  refine go_iret dX1_answerOf_18 rfl rfl ?_
  exact hQ
