/-! BearWitness: deeds -/
def yDeed (a : Nat) (i : Int32) (S : ST) : Int32 × ST := if isn i (cN (nowC S)) = true then
    (if cbe (nowC S) a (rn i) = true then
      (if cT (sA S).1 < 40 then (nI (if a = 3 then (if (cW (nowC (wA S (acP (sA S) a (rn i))))).testBit (rn i) = true then 1 else 0) else if a = 2 then cE (nowC (wA S (acP (sA S) a (rn i)))) (rn i) else cR (nowC (wA S (acP (sA S) a (rn i)))) (rn i)), wA S (acP (sA S) a (rn i)))
      else (-2, S)) else (-4, S)) else (-1, S)
set_option maxRecDepth 100000 in
set_option maxHeartbeats 4000000 in
theorem me_X7_ofBear {X : Nat × (Nat → Int32)} {Q : Option Value → bw_H → Prop} {h : bw_H} {S : ST} {i w : Nat} (hx : XR h S) (hi : i < cN (nowC S)) (hw : w < 6) (hQ : Q (some (.int (nI (obf (nowC S) i w)))) h) : bw_me X 3 bm_X7_ofBear false [.ref 0, .int (nI i), .int (nI w)] h Q := by
  have hc : bw_ct h 11 (nowC S) := hx.2.2.2.1.1.1
  have hN := hc.2.2.1
  have k1 := hc.2.2.2.2.2.2 i hi
  show bw_go _ 3 7 3 false (some .int) cX7_ofBear 0 [(0, .ref _), (1, .int _), (2, .int _)] [] _ _
  refine go_iload_n dX7_ofBear_0 rfl ?_
  rcases (show w = 0 ∨ w = 1 ∨ w = 2 ∨ w = 3 ∨ w = 4 ∨ 5 ≤ w by omega) with rfl | rfl | rfl | rfl | rfl | hsw
  · -- w = 0
    refine go_tsIn (pc' := 36) dX7_ofBear_1 (by decide) (by decide) rfl rfl ?_
    show bw_go _ _ _ _ _ _ _ 36 [(0, .ref _), (1, .int _), (2, .int _)] ([]) _ _
    refine go_aload_n dX7_ofBear_36 rfl ?_
    refine go_gfr dX7_ofBear_37 fl_7_24 rfl hx.1.1.1 hx.1.1.2.1 hx.1.1.2.2.2.2.1 ?_
    refine go_gfr dX7_ofBear_40 fl_7_150 rfl hc.1.1.1 hc.1.1.2.1 hc.1.1.2.2.1 ?_
    refine go_iload_n dX7_ofBear_43 rfl ?_
    refine go_cv (as := [.int _]) 0 dX7_ofBear_44 mt_7_153 (Or.inr rfl) rfl rfl hc.1.2.1.1 hc.1.2.1.2.1 (Nat.le_of_ble_eq_true rfl) (Nat.le_of_ble_eq_true rfl) (Nat.le_of_ble_eq_true rfl) (Nat.le_of_ble_eq_true rfl) (Nat.le_of_ble_eq_true rfl) ?_
    refine me_X0_get hc.1.2.1 ?_
    rw [cg_n (Nat.lt_of_lt_of_le hi hc.2.2.1) (by decide), (hc.2.1.2.2.2.2 _ hi).1]
    show bw_go _ _ _ _ _ _ _ 47 [(0, .ref _), (1, .int _), (2, .int _)] ((.int _) :: []) _ _
    refine go_iret dX7_ofBear_47 rfl rfl ?_
    exact hQ
  · -- w = 1
    refine go_tsIn (pc' := 48) dX7_ofBear_1 (by decide) (by decide) rfl rfl ?_
    show bw_go _ _ _ _ _ _ _ 48 [(0, .ref _), (1, .int _), (2, .int _)] ([]) _ _
    refine go_aload_n dX7_ofBear_48 rfl ?_
    refine go_gfr dX7_ofBear_49 fl_7_24 rfl hx.1.1.1 hx.1.1.2.1 hx.1.1.2.2.2.2.1 ?_
    refine go_gfr dX7_ofBear_52 fl_7_311 rfl hc.1.1.1 hc.1.1.2.1 hc.1.1.2.2.2.1 ?_
    refine go_iload_n dX7_ofBear_55 rfl ?_
    refine go_cv (as := [.int _]) 0 dX7_ofBear_56 mt_7_153 (Or.inr rfl) rfl rfl hc.1.2.2.1.1 hc.1.2.2.1.2.1 (Nat.le_of_ble_eq_true rfl) (Nat.le_of_ble_eq_true rfl) (Nat.le_of_ble_eq_true rfl) (Nat.le_of_ble_eq_true rfl) (Nat.le_of_ble_eq_true rfl) ?_
    refine me_X0_get hc.1.2.2.1 ?_
    rw [cg_n (Nat.lt_of_lt_of_le hi hc.2.2.1) (by decide), (hc.2.1.2.2.2.2 _ hi).2.1]
    show bw_go _ _ _ _ _ _ _ 59 [(0, .ref _), (1, .int _), (2, .int _)] ((.int _) :: []) _ _
    refine go_iret dX7_ofBear_59 rfl rfl ?_
    exact hQ
  · -- w = 2
    refine go_tsIn (pc' := 60) dX7_ofBear_1 (by decide) (by decide) rfl rfl ?_
    show bw_go _ _ _ _ _ _ _ 60 [(0, .ref _), (1, .int _), (2, .int _)] ([]) _ _
    refine go_aload_n dX7_ofBear_60 rfl ?_
    refine go_gfr dX7_ofBear_61 fl_7_24 rfl hx.1.1.1 hx.1.1.2.1 hx.1.1.2.2.2.2.1 ?_
    refine go_gfr dX7_ofBear_64 fl_7_305 rfl hc.1.1.1 hc.1.1.2.1 hc.1.1.2.2.2.2.1 ?_
    refine go_iload_n dX7_ofBear_67 rfl ?_
    refine go_cv (as := [.int _]) 0 dX7_ofBear_68 mt_7_153 (Or.inr rfl) rfl rfl hc.1.2.2.2.1.1 hc.1.2.2.2.1.2.1 (Nat.le_of_ble_eq_true rfl) (Nat.le_of_ble_eq_true rfl) (Nat.le_of_ble_eq_true rfl) (Nat.le_of_ble_eq_true rfl) (Nat.le_of_ble_eq_true rfl) ?_
    refine me_X0_get hc.1.2.2.2.1 ?_
    rw [cg_n (Nat.lt_of_lt_of_le hi hc.2.2.1) (by decide), (hc.2.1.2.2.2.2 _ hi).2.2.1]
    show bw_go _ _ _ _ _ _ _ 71 [(0, .ref _), (1, .int _), (2, .int _)] ((.int _) :: []) _ _
    refine go_iret dX7_ofBear_71 rfl rfl ?_
    exact hQ
  · -- w = 3
    refine go_tsIn (pc' := 72) dX7_ofBear_1 (by decide) (by decide) rfl rfl ?_
    show bw_go _ _ _ _ _ _ _ 72 [(0, .ref _), (1, .int _), (2, .int _)] ([]) _ _
    refine go_aload_n dX7_ofBear_72 rfl ?_
    refine go_gfr dX7_ofBear_73 fl_7_24 rfl hx.1.1.1 hx.1.1.2.1 hx.1.1.2.2.2.2.1 ?_
    refine go_gfr dX7_ofBear_76 fl_7_339 rfl hc.1.1.1 hc.1.1.2.1 hc.1.1.2.2.2.2.2.1 ?_
    refine go_iload_n dX7_ofBear_79 rfl ?_
    refine go_cv (as := [.int _]) 0 dX7_ofBear_80 mt_7_153 (Or.inr rfl) rfl rfl hc.1.2.2.2.2.1.1 hc.1.2.2.2.2.1.2.1 (Nat.le_of_ble_eq_true rfl) (Nat.le_of_ble_eq_true rfl) (Nat.le_of_ble_eq_true rfl) (Nat.le_of_ble_eq_true rfl) (Nat.le_of_ble_eq_true rfl) ?_
    refine me_X0_get hc.1.2.2.2.2.1 ?_
    rw [cg_n (Nat.lt_of_lt_of_le hi hc.2.2.1) (by decide), (hc.2.1.2.2.2.2 _ hi).2.2.2]
    show bw_go _ _ _ _ _ _ _ 83 [(0, .ref _), (1, .int _), (2, .int _)] ((.int _) :: []) _ _
    refine go_iret dX7_ofBear_83 rfl rfl ?_
    exact hQ
  · -- w = 4
    refine go_tsIn (pc' := 84) dX7_ofBear_1 (by decide) (by decide) rfl rfl ?_
    show bw_go _ _ _ _ _ _ _ 84 [(0, .ref _), (1, .int _), (2, .int _)] ([]) _ _
    refine go_aload_n dX7_ofBear_84 rfl ?_
    refine go_gfr dX7_ofBear_85 fl_7_24 rfl hx.1.1.1 hx.1.1.2.1 hx.1.1.2.2.2.2.1 ?_
    refine go_gfi dX7_ofBear_88 fl_7_302 rfl hc.1.1.1 hc.1.1.2.1 ?_
    rw [hc.2.1.2.2.1]
    refine go_iload_n dX7_ofBear_91 rfl ?_
    refine go_cs (as := [.int _, .int _]) 0 dX7_ofBear_92 rfl rfl mt_7_202 (Nat.le_of_ble_eq_true rfl) rfl rfl (Nat.le_of_ble_eq_true rfl) (Nat.le_of_ble_eq_true rfl) (Nat.le_of_ble_eq_true rfl) (Nat.le_of_ble_eq_true rfl) ?_
    refine me_X7_isIn hc.2.2.2.2.1 (by omega) ?_
    show bw_go _ _ _ _ _ _ _ 95 [(0, .ref _), (1, .int _), (2, .int _)] ((.int _) :: []) _ _
    refine go_ifb_eq (pc' := 102) dX7_ofBear_95 rfl (fun c_95 => ?_) (fun c_95 => ?_)
    · -- eq at 95: yes
      show bw_go _ _ _ _ _ _ _ 102 [(0, .ref _), (1, .int _), (2, .int _)] ([]) _ _
      refine go_iconst (0) dX7_ofBear_102 rfl ?_
      refine go_iret dX7_ofBear_103 rfl rfl ?_
      have e1 : obf (nowC S) i 4 = 0 := by
        show (if (cW (nowC S)).testBit i = true then 1 else 0) = 0
        rw [if_neg (by rw [c_95]; decide)]
      rw [e1] at hQ; exact hQ
    · -- eq at 95: no
      show bw_go _ _ _ _ _ _ _ 98 [(0, .ref _), (1, .int _), (2, .int _)] ([]) _ _
      refine go_iconst (1) dX7_ofBear_98 rfl ?_
      refine go_goto (pc' := 103) dX7_ofBear_99 rfl ?_
      show bw_go _ _ _ _ _ _ _ 103 [(0, .ref _), (1, .int _), (2, .int _)] ((.int _) :: []) _ _
      refine go_iret dX7_ofBear_103 rfl rfl ?_
      have e1 : obf (nowC S) i 4 = 1 := by
        show (if (cW (nowC S)).testBit i = true then 1 else 0) = 1
        rw [if_pos c_95]
      rw [e1] at hQ; exact hQ
  · -- 5 ≤ w
    refine go_tsOut (pc' := 104) dX7_ofBear_1 (Or.inr (by rw [nI_toInt (by omega)]; omega)) rfl ?_
    show bw_go _ _ _ _ _ _ _ 104 [(0, .ref _), (1, .int _), (2, .int _)] ([]) _ _
    refine go_aload_n dX7_ofBear_104 rfl ?_
    refine go_gfr dX7_ofBear_105 fl_7_24 rfl hx.1.1.1 hx.1.1.2.1 hx.1.1.2.2.2.2.1 ?_
    refine go_iload_n dX7_ofBear_108 rfl ?_
    refine go_aload_n dX7_ofBear_109 rfl ?_
    refine go_gfr dX7_ofBear_110 fl_7_24 rfl hx.1.1.1 hx.1.1.2.1 hx.1.1.2.2.2.2.1 ?_
    refine go_gfr dX7_ofBear_113 fl_7_150 rfl hc.1.1.1 hc.1.1.2.1 hc.1.1.2.2.1 ?_
    refine go_iload_n dX7_ofBear_116 rfl ?_
    refine go_cv (as := [.int _]) 0 dX7_ofBear_117 mt_7_153 (Or.inr rfl) rfl rfl hc.1.2.1.1 hc.1.2.1.2.1 (Nat.le_of_ble_eq_true rfl) (Nat.le_of_ble_eq_true rfl) (Nat.le_of_ble_eq_true rfl) (Nat.le_of_ble_eq_true rfl) (Nat.le_of_ble_eq_true rfl) ?_
    refine me_X0_get hc.1.2.1 ?_
    rw [cg_n (Nat.lt_of_lt_of_le hi hc.2.2.1) (by decide), (hc.2.1.2.2.2.2 _ hi).1]
    show bw_go _ _ _ _ _ _ _ 120 [(0, .ref _), (1, .int _), (2, .int _)] ((.int _) :: (.int _) :: (.ref _) :: []) _ _
    refine go_aload_n dX7_ofBear_120 rfl ?_
    refine go_gfr dX7_ofBear_121 fl_7_24 rfl hx.1.1.1 hx.1.1.2.1 hx.1.1.2.2.2.2.1 ?_
    refine go_gfr dX7_ofBear_124 fl_7_305 rfl hc.1.1.1 hc.1.1.2.1 hc.1.1.2.2.2.2.1 ?_
    refine go_iload_n dX7_ofBear_127 rfl ?_
    refine go_cv (as := [.int _]) 0 dX7_ofBear_128 mt_7_153 (Or.inr rfl) rfl rfl hc.1.2.2.2.1.1 hc.1.2.2.2.1.2.1 (Nat.le_of_ble_eq_true rfl) (Nat.le_of_ble_eq_true rfl) (Nat.le_of_ble_eq_true rfl) (Nat.le_of_ble_eq_true rfl) (Nat.le_of_ble_eq_true rfl) ?_
    refine me_X0_get hc.1.2.2.2.1 ?_
    rw [cg_n (Nat.lt_of_lt_of_le hi hc.2.2.1) (by decide), (hc.2.1.2.2.2.2 _ hi).2.2.1]
    show bw_go _ _ _ _ _ _ _ 131 [(0, .ref _), (1, .int _), (2, .int _)] ((.int _) :: (.int _) :: (.int _) :: (.ref _) :: []) _ _
    refine go_cv (as := [.int _, .int _, .int _]) 2 dX7_ofBear_131 mt_7_342 (Or.inr rfl) rfl rfl hc.1.1.1 hc.1.1.2.1 (Nat.le_of_ble_eq_true rfl) (Nat.le_of_ble_eq_true rfl) (Nat.le_of_ble_eq_true rfl) (Nat.le_of_ble_eq_true rfl) (Nat.le_of_ble_eq_true rfl) ?_
    refine me_X1_toldOf hc hi k1.1 (Nat.lt_succ_of_le k1.2.2.1) ?_
    show bw_go _ _ _ _ _ _ _ 134 [(0, .ref _), (1, .int _), (2, .int _)] ((.int _) :: []) _ _
    refine go_iret dX7_ofBear_134 rfl rfl ?_
    unfold obf at hQ
    rw [if_neg (by omega), if_neg (by omega), if_neg (by omega), if_neg (by omega), if_neg (by omega)] at hQ
    exact hQ
set_option maxRecDepth 100000 in
set_option maxHeartbeats 4000000 in
theorem me_X7_bear {X : Nat × (Nat → Int32)} {Q : Option Value → bw_H → Prop} {h : bw_H} {S : ST} {i w : Int32} (hx : XR h S) (hQ : PX h Q (yBear i w S)) : bw_me X 4 bm_X7_bear false [.ref 0, .int i, .int w] h Q := by
  have hc : bw_ct h 11 (nowC S) := hx.2.2.2.1.1.1
  have hN := hc.2.2.1
  show bw_go _ 4 7 3 false (some .int) cX7_bear 0 [(0, .ref _), (1, .int _), (2, .int _)] [] _ _
  refine go_aload_n dX7_bear_0 rfl ?_
  refine go_gfr dX7_bear_1 fl_7_24 rfl hx.1.1.1 hx.1.1.2.1 hx.1.1.2.2.2.2.1 ?_
  refine go_iload_n dX7_bear_4 rfl ?_
  refine go_cv (as := [.int _]) 0 dX7_bear_5 mt_7_144 (Or.inr rfl) rfl rfl hc.1.1.1 hc.1.1.2.1 (Nat.le_of_ble_eq_true rfl) (Nat.le_of_ble_eq_true rfl) (Nat.le_of_ble_eq_true rfl) (Nat.le_of_ble_eq_true rfl) (Nat.le_of_ble_eq_true rfl) ?_
  refine me_X1_hasBear hc ?_
  show bw_go _ _ _ _ _ _ _ 8 [(0, .ref _), (1, .int _), (2, .int _)] ((.int _) :: []) _ _
  refine go_ifb_eq (pc' := 21) dX7_bear_8 rfl (fun c_8 => ?_) (fun c_8 => ?_)
  · -- eq at 8: yes
    show bw_go _ _ _ _ _ _ _ 21 [(0, .ref _), (1, .int _), (2, .int _)] ([]) _ _
    refine go_iconst (-1) dX7_bear_21 rfl ?_
    refine go_iret dX7_bear_22 rfl rfl ?_
    refine q_x hQ ?_ hx (frM_r h)
    unfold yBear
    rw [if_neg (fun z => Bool.noConfusion ((show isn i (cN (nowC S)) = false from c_8).symm.trans z.1))]
  · -- eq at 8: no
    show bw_go _ _ _ _ _ _ _ 11 [(0, .ref _), (1, .int _), (2, .int _)] ([]) _ _
    refine go_iload_n dX7_bear_11 rfl ?_
    refine go_if_lt (pc' := 21) dX7_bear_12 rfl (fun c_12 => ?_) (fun c_12 => ?_)
    · -- lt at 12: yes
      show bw_go _ _ _ _ _ _ _ 21 [(0, .ref _), (1, .int _), (2, .int _)] ([]) _ _
      refine go_iconst (-1) dX7_bear_21 rfl ?_
      refine go_iret dX7_bear_22 rfl rfl ?_
      refine q_x hQ ?_ hx (frM_r h)
      unfold yBear
      have c12 := c_12
      rw [if_neg (fun z => by have z2 := of_decide_eq_true (show decide (0 ≤ w.toInt ∧ w.toInt < (6 : Nat)) = true from z.2); have l_0 := i_0; have l_6 : (6 : Int32).toInt = 6 := rfl; simp only [i_le, i_lt] at c12; omega)]
    · -- lt at 12: no
      show bw_go _ _ _ _ _ _ _ 15 [(0, .ref _), (1, .int _), (2, .int _)] ([]) _ _
      refine go_iload_n dX7_bear_15 rfl ?_
      refine go_bipush (6) dX7_bear_16 rfl ?_
      refine go_icmp_lt (pc' := 23) dX7_bear_18 rfl (fun c_18 => ?_) (fun c_18 => ?_)
      · -- lt at 18: yes
        show bw_go _ _ _ _ _ _ _ 23 [(0, .ref _), (1, .int _), (2, .int _)] ([]) _ _
        obtain ⟨i, hi, rfl⟩ := isn_ex (num := cN (nowC S)) c_8 (by omega)
        have hk : 0 ≤ w.toInt ∧ w.toInt < (6 : Nat) := by have l_0 := i_0; have l_6 : (6 : Int32).toInt = 6 := rfl; simp only [i_le, i_lt] at c_12 c_18; omega
        obtain ⟨y, hy, rfl⟩ := isn_ex (r := w) (num := 6) (decide_eq_true hk) (by decide)
        refine go_aload_n dX7_bear_23 rfl ?_
        refine go_aload_n dX7_bear_24 rfl ?_
        refine go_iload_n dX7_bear_25 rfl ?_
        refine go_iload_n dX7_bear_26 rfl ?_
        refine go_cv (as := [.int _, .int _]) 3 dX7_bear_27 mt_7_147 (Or.inl rfl) rfl rfl hx.1.1.1 hx.1.1.2.1 (Nat.le_of_ble_eq_true rfl) (Nat.le_of_ble_eq_true rfl) (Nat.le_of_ble_eq_true rfl) (Nat.le_of_ble_eq_true rfl) (Nat.le_of_ble_eq_true rfl) ?_
        refine me_X7_ofBear hx hi hy ?_
        show bw_go _ _ _ _ _ _ _ 30 [(0, .ref _), (1, .int _), (2, .int _)] ((.int _) :: (.ref _) :: []) _ _
        refine go_pfi dX7_bear_30 fl_7_76 rfl hx.1.1.1 hx.1.1.2.1 (Nat.le_of_ble_eq_true rfl) (Or.inl rfl) ?_
        show bw_go _ _ _ _ _ _ _ 33 [(0, .ref _), (1, .int _), (2, .int _)] ([]) _ _
        refine go_iconst (1) dX7_bear_33 rfl ?_
        refine go_iret dX7_bear_34 rfl rfl ?_
        refine q_x hQ ?_ (xr_la hx _) (frM_wi rfl (fun q h1 h2 => ?_))
        · unfold yBear
          rw [if_pos ⟨(show isn (nI i) (cN (nowC S)) = true from c_8), (show isn (nI y) 6 = true from decide_eq_true hk)⟩, rn_n (by omega), rn_n (by omega)]
        · rw [i_si_o (by omega)]
      · -- lt at 18: no
        show bw_go _ _ _ _ _ _ _ 21 [(0, .ref _), (1, .int _), (2, .int _)] ([]) _ _
        refine go_iconst (-1) dX7_bear_21 rfl ?_
        refine go_iret dX7_bear_22 rfl rfl ?_
        refine q_x hQ ?_ hx (frM_r h)
        unfold yBear
        have c12 := c_12
        have c18 := c_18
        rw [if_neg (fun z => by have z2 := of_decide_eq_true (show decide (0 ≤ w.toInt ∧ w.toInt < (6 : Nat)) = true from z.2); have l_0 := i_0; have l_6 : (6 : Int32).toInt = 6 := rfl; simp only [i_le, i_lt] at c12; simp only [i_le, i_lt] at c18; omega)]
set_option maxRecDepth 100000 in
set_option maxHeartbeats 4000000 in
theorem me_X7_answerDeed {X : Nat × (Nat → Int32)} {Q : Option Value → bw_H → Prop} {h : bw_H} {S : ST} {a : Nat} {i : Int32} (hx : XR h S) (ha : a < 5) (hQ : PX h Q (yDeed a i S)) : bw_me X 3 bm_X7_answerDeed false [.ref 0, .int (nI a), .int i] h Q := by
  have hc : bw_ct h 11 (nowC S) := hx.2.2.2.1.1.1
  have hN := hc.2.2.1
  show bw_go _ 3 7 3 false (some .int) cX7_answerDeed 0 [(0, .ref _), (1, .int _), (2, .int _)] [] _ _
  refine go_aload_n dX7_answerDeed_0 rfl ?_
  refine go_gfr dX7_answerDeed_1 fl_7_24 rfl hx.1.1.1 hx.1.1.2.1 hx.1.1.2.2.2.2.1 ?_
  refine go_iload_n dX7_answerDeed_4 rfl ?_
  refine go_cv (as := [.int _]) 0 dX7_answerDeed_5 mt_7_144 (Or.inr rfl) rfl rfl hc.1.1.1 hc.1.1.2.1 (Nat.le_of_ble_eq_true rfl) (Nat.le_of_ble_eq_true rfl) (Nat.le_of_ble_eq_true rfl) (Nat.le_of_ble_eq_true rfl) (Nat.le_of_ble_eq_true rfl) ?_
  refine me_X1_hasBear hc ?_
  show bw_go _ _ _ _ _ _ _ 8 [(0, .ref _), (1, .int _), (2, .int _)] ((.int _) :: []) _ _
  refine go_ifb_ne (pc' := 13) dX7_answerDeed_8 rfl (fun c_8 => ?_) (fun c_8 => ?_)
  · -- ne at 8: yes
    show bw_go _ _ _ _ _ _ _ 13 [(0, .ref _), (1, .int _), (2, .int _)] ([]) _ _
    obtain ⟨i, hi, rfl⟩ := isn_ex (num := cN (nowC S)) c_8 (by omega)
    refine go_aload_n dX7_answerDeed_13 rfl ?_
    refine go_gfr dX7_answerDeed_14 fl_7_24 rfl hx.1.1.1 hx.1.1.2.1 hx.1.1.2.2.2.2.1 ?_
    refine go_iload_n dX7_answerDeed_17 rfl ?_
    refine go_iload_n dX7_answerDeed_18 rfl ?_
    refine go_cv (as := [.int _, .int _]) 1 dX7_answerDeed_19 mt_7_290 (Or.inr rfl) rfl rfl hc.1.1.1 hc.1.1.2.1 (Nat.le_of_ble_eq_true rfl) (Nat.le_of_ble_eq_true rfl) (Nat.le_of_ble_eq_true rfl) (Nat.le_of_ble_eq_true rfl) (Nat.le_of_ble_eq_true rfl) ?_
    refine me_X1_canBe hc ha hi ?_
    show bw_go _ _ _ _ _ _ _ 22 [(0, .ref _), (1, .int _), (2, .int _)] ((.int _) :: []) _ _
    refine go_ifb_ne (pc' := 28) dX7_answerDeed_22 rfl (fun c_22 => ?_) (fun c_22 => ?_)
    · -- ne at 22: yes
      show bw_go _ _ _ _ _ _ _ 28 [(0, .ref _), (1, .int _), (2, .int _)] ([]) _ _
      refine go_aload_n dX7_answerDeed_28 rfl ?_
      refine go_gfr dX7_answerDeed_29 fl_7_24 rfl hx.1.1.1 hx.1.1.2.1 hx.1.1.2.2.2.2.1 ?_
      refine go_gfi dX7_answerDeed_32 fl_7_165 rfl hc.1.1.1 hc.1.1.2.1 ?_
      rw [hc.2.1.2.2.2.1]
      refine go_bipush (40) dX7_answerDeed_35 rfl ?_
      refine go_icmp_lt (pc' := 43) dX7_answerDeed_37 rfl (fun c_37 => ?_) (fun c_37 => ?_)
      · -- lt at 37: yes
        show bw_go _ _ _ _ _ _ _ 43 [(0, .ref _), (1, .int _), (2, .int _)] ([]) _ _
        have h40 : cT (sA S).1 < 40 := by
          have t_0 := nI_toInt (n := cT (nowC S)) (by have := hc.2.2.2.2.2.1; omega)
          have l_0 : (40 : Int32).toInt = 40 := rfl
          simp only [i_lt] at c_37
          have e0 : cT (nowC S) = cT (sA S).1 := rfl
          omega
        refine go_aload_n dX7_answerDeed_43 rfl ?_
        refine go_gfr dX7_answerDeed_44 fl_7_24 rfl hx.1.1.1 hx.1.1.2.1 hx.1.1.2.2.2.2.1 ?_
        refine go_iload_n dX7_answerDeed_47 rfl ?_
        refine go_iload_n dX7_answerDeed_48 rfl ?_
        refine go_cv (as := [.int _, .int _]) 2 dX7_answerDeed_49 mt_7_293 (Or.inr rfl) rfl rfl hc.1.1.1 hc.1.1.2.1 (Nat.le_of_ble_eq_true rfl) (Nat.le_of_ble_eq_true rfl) (Nat.le_of_ble_eq_true rfl) (Nat.le_of_ble_eq_true rfl) (Nat.le_of_ble_eq_true rfl) ?_
        refine me_X1_commit hx.2.2.2.1.1 h40 ha hi c_22 (fun I hI => ?_)
        have hx2 : XR (bw_wi h I) (wA S (acP (sA S) a i)) := xr_now hx hI.2 hI.1 (ac_acP hx.2.2.2.1.2 h40 ha hi c_22)
        have hf2 : frM h (bw_wi h I) := frM_wi rfl (fun q h1 h2 => hI.2 q (by unfold co_pl; omega))
        have hc2 : bw_ct (bw_wi h I) 11 (nowC (wA S (acP (sA S) a i))) := hx2.2.2.2.1.1.1
        show bw_go _ _ _ _ _ _ _ 52 [(0, .ref _), (1, .int _), (2, .int _)] ([]) _ _
        refine go_iload_n dX7_answerDeed_52 rfl ?_
        refine go_iconst (3) dX7_answerDeed_53 rfl ?_
        refine go_icmp_ne (pc' := 77) dX7_answerDeed_54 rfl (fun c_54 => ?_) (fun c_54 => ?_)
        · -- ne at 54: yes
          show bw_go _ _ _ _ _ _ _ 77 [(0, .ref _), (1, .int _), (2, .int _)] ([]) _ _
          refine go_iload_n dX7_answerDeed_77 rfl ?_
          refine go_iconst (2) dX7_answerDeed_78 rfl ?_
          refine go_icmp_ne (pc' := 96) dX7_answerDeed_79 rfl (fun c_79 => ?_) (fun c_79 => ?_)
          · -- ne at 79: yes
            show bw_go _ _ _ _ _ _ _ 96 [(0, .ref _), (1, .int _), (2, .int _)] ([]) _ _
            refine go_aload_n dX7_answerDeed_96 rfl ?_
            refine go_gfr dX7_answerDeed_97 fl_7_24 rfl hx.1.1.1 hx.1.1.2.1 hx.1.1.2.2.2.2.1 ?_
            refine go_gfr dX7_answerDeed_100 fl_7_305 rfl hc.1.1.1 hc.1.1.2.1 hc.1.1.2.2.2.2.1 ?_
            refine go_iload_n dX7_answerDeed_103 rfl ?_
            refine go_cv (as := [.int _]) 0 dX7_answerDeed_104 mt_7_153 (Or.inr rfl) rfl rfl hc.1.2.2.2.1.1 hc.1.2.2.2.1.2.1 (Nat.le_of_ble_eq_true rfl) (Nat.le_of_ble_eq_true rfl) (Nat.le_of_ble_eq_true rfl) (Nat.le_of_ble_eq_true rfl) (Nat.le_of_ble_eq_true rfl) ?_
            refine me_X0_get (h := bw_wi h I) hc.1.2.2.2.1 ?_
            rw [cg_n (Nat.lt_of_lt_of_le hi hN) (by decide), (hc2.2.1.2.2.2.2 _ hi).2.2.1]
            show bw_go _ _ _ _ _ _ _ 107 [(0, .ref _), (1, .int _), (2, .int _)] ((.int _) :: []) _ _
            refine go_iret dX7_answerDeed_107 rfl rfl ?_
            refine q_x hQ ?_ hx2 hf2
            unfold yDeed
            rw [if_pos (show isn (nI i) (cN (nowC S)) = true from c_8), rn_n (by omega), if_pos c_22, if_pos h40]
            have ea : ¬ a = 3 := fun z => c_54 (by rw [z]; rfl)
            have eb : ¬ a = 2 := fun z => c_79 (by rw [z]; rfl)
            rw [if_neg ea, if_neg eb]
          · -- ne at 79: no
            show bw_go _ _ _ _ _ _ _ 82 [(0, .ref _), (1, .int _), (2, .int _)] ([]) _ _
            refine go_aload_n dX7_answerDeed_82 rfl ?_
            refine go_gfr dX7_answerDeed_83 fl_7_24 rfl hx.1.1.1 hx.1.1.2.1 hx.1.1.2.2.2.2.1 ?_
            refine go_gfr dX7_answerDeed_86 fl_7_311 rfl hc.1.1.1 hc.1.1.2.1 hc.1.1.2.2.2.1 ?_
            refine go_iload_n dX7_answerDeed_89 rfl ?_
            refine go_cv (as := [.int _]) 0 dX7_answerDeed_90 mt_7_153 (Or.inr rfl) rfl rfl hc.1.2.2.1.1 hc.1.2.2.1.2.1 (Nat.le_of_ble_eq_true rfl) (Nat.le_of_ble_eq_true rfl) (Nat.le_of_ble_eq_true rfl) (Nat.le_of_ble_eq_true rfl) (Nat.le_of_ble_eq_true rfl) ?_
            refine me_X0_get (h := bw_wi h I) hc.1.2.2.1 ?_
            rw [cg_n (Nat.lt_of_lt_of_le hi hN) (by decide), (hc2.2.1.2.2.2.2 _ hi).2.1]
            show bw_go _ _ _ _ _ _ _ 93 [(0, .ref _), (1, .int _), (2, .int _)] ((.int _) :: []) _ _
            refine go_goto (pc' := 107) dX7_answerDeed_93 rfl ?_
            show bw_go _ _ _ _ _ _ _ 107 [(0, .ref _), (1, .int _), (2, .int _)] ((.int _) :: []) _ _
            refine go_iret dX7_answerDeed_107 rfl rfl ?_
            refine q_x hQ ?_ hx2 hf2
            unfold yDeed
            rw [if_pos (show isn (nI i) (cN (nowC S)) = true from c_8), rn_n (by omega), if_pos c_22, if_pos h40]
            have ea : ¬ a = 3 := fun z => c_54 (by rw [z]; rfl)
            have eb : a = 2 := (nI_eq (b := 2) (by omega) (by omega)).mp (Decidable.of_not_not c_79)
            rw [if_neg ea, if_pos eb]
        · -- ne at 54: no
          show bw_go _ _ _ _ _ _ _ 57 [(0, .ref _), (1, .int _), (2, .int _)] ([]) _ _
          refine go_aload_n dX7_answerDeed_57 rfl ?_
          refine go_gfr dX7_answerDeed_58 fl_7_24 rfl hx.1.1.1 hx.1.1.2.1 hx.1.1.2.2.2.2.1 ?_
          refine go_gfi dX7_answerDeed_61 fl_7_302 rfl hc.1.1.1 hc.1.1.2.1 ?_
          rw [show bw_i (bw_wi h I) 11 2 = nI (cW (nowC (wA S (acP (sA S) a i)))) from hc2.2.1.2.2.1]
          refine go_iload_n dX7_answerDeed_64 rfl ?_
          refine go_cs (as := [.int _, .int _]) 0 dX7_answerDeed_65 rfl rfl mt_7_202 (Nat.le_of_ble_eq_true rfl) rfl rfl (Nat.le_of_ble_eq_true rfl) (Nat.le_of_ble_eq_true rfl) (Nat.le_of_ble_eq_true rfl) (Nat.le_of_ble_eq_true rfl) ?_
          refine me_X7_isIn hc2.2.2.2.2.1 (by omega) ?_
          show bw_go _ _ _ _ _ _ _ 68 [(0, .ref _), (1, .int _), (2, .int _)] ((.int _) :: []) _ _
          refine go_ifb_eq (pc' := 75) dX7_answerDeed_68 rfl (fun c_68 => ?_) (fun c_68 => ?_)
          · -- eq at 68: yes
            show bw_go _ _ _ _ _ _ _ 75 [(0, .ref _), (1, .int _), (2, .int _)] ([]) _ _
            refine go_iconst (0) dX7_answerDeed_75 rfl ?_
            refine go_iret dX7_answerDeed_76 rfl rfl ?_
            refine q_x hQ ?_ hx2 hf2
            unfold yDeed
            rw [if_pos (show isn (nI i) (cN (nowC S)) = true from c_8), rn_n (by omega), if_pos c_22, if_pos h40]
            have ea : a = 3 := (nI_eq (b := 3) (by omega) (by omega)).mp (Decidable.of_not_not c_54)
            rw [if_pos ea, if_neg (by rw [c_68]; decide)]
            rfl
          · -- eq at 68: no
            show bw_go _ _ _ _ _ _ _ 71 [(0, .ref _), (1, .int _), (2, .int _)] ([]) _ _
            refine go_iconst (1) dX7_answerDeed_71 rfl ?_
            refine go_goto (pc' := 76) dX7_answerDeed_72 rfl ?_
            show bw_go _ _ _ _ _ _ _ 76 [(0, .ref _), (1, .int _), (2, .int _)] ((.int _) :: []) _ _
            refine go_iret dX7_answerDeed_76 rfl rfl ?_
            refine q_x hQ ?_ hx2 hf2
            unfold yDeed
            rw [if_pos (show isn (nI i) (cN (nowC S)) = true from c_8), rn_n (by omega), if_pos c_22, if_pos h40]
            have ea : a = 3 := (nI_eq (b := 3) (by omega) (by omega)).mp (Decidable.of_not_not c_54)
            rw [if_pos ea, if_pos c_68]
            rfl
      · -- lt at 37: no
        show bw_go _ _ _ _ _ _ _ 40 [(0, .ref _), (1, .int _), (2, .int _)] ([]) _ _
        refine go_bipush (-2) dX7_answerDeed_40 rfl ?_
        refine go_iret dX7_answerDeed_42 rfl rfl ?_
        refine q_x hQ ?_ hx (frM_r h)
        unfold yDeed
        have h40 : ¬ cT (sA S).1 < 40 := by
          have t_0 := nI_toInt (n := cT (nowC S)) (by have := hc.2.2.2.2.2.1; omega)
          have l_0 : (40 : Int32).toInt = 40 := rfl
          simp only [i_lt] at c_37
          have e0 : cT (nowC S) = cT (sA S).1 := rfl
          omega
        rw [if_pos (show isn (nI i) (cN (nowC S)) = true from c_8), rn_n (by omega), if_pos c_22, if_neg h40]
    · -- ne at 22: no
      show bw_go _ _ _ _ _ _ _ 25 [(0, .ref _), (1, .int _), (2, .int _)] ([]) _ _
      refine go_bipush (-4) dX7_answerDeed_25 rfl ?_
      refine go_iret dX7_answerDeed_27 rfl rfl ?_
      refine q_x hQ ?_ hx (frM_r h)
      unfold yDeed
      rw [if_pos (show isn (nI i) (cN (nowC S)) = true from c_8), rn_n (by omega), if_neg (fun z => Bool.noConfusion ((show cbe (nowC S) a i = false from c_22).symm.trans z))]
  · -- ne at 8: no
    show bw_go _ _ _ _ _ _ _ 11 [(0, .ref _), (1, .int _), (2, .int _)] ([]) _ _
    refine go_iconst (-1) dX7_answerDeed_11 rfl ?_
    refine go_iret dX7_answerDeed_12 rfl rfl ?_
    refine q_x hQ ?_ hx (frM_r h)
    unfold yDeed
    rw [if_neg (fun z => Bool.noConfusion ((show isn i (cN (nowC S)) = false from c_8).symm.trans z))]
set_option maxRecDepth 100000 in
set_option maxHeartbeats 4000000 in
theorem me_X7_press {X : Nat × (Nat → Int32)} {Q : Option Value → bw_H → Prop} {h : bw_H} {S : ST} {i : Int32} (hx : XR h S) (hQ : PX h Q (yDeed 0 i S)) : bw_me X 4 bm_X7_press false [.ref 0, .int i] h Q := by
  show bw_go _ 4 7 2 false (some .int) cX7_press 0 [(0, .ref _), (1, .int _)] [] _ _
  refine go_aload_n dX7_press_0 rfl ?_
  refine go_iconst (0) dX7_press_1 rfl ?_
  refine go_iload_n dX7_press_2 rfl ?_
  refine go_cv (as := [.int _, .int _]) 3 dX7_press_3 mt_7_162 (Or.inl rfl) rfl rfl hx.1.1.1 hx.1.1.2.1 (Nat.le_of_ble_eq_true rfl) (Nat.le_of_ble_eq_true rfl) (Nat.le_of_ble_eq_true rfl) (Nat.le_of_ble_eq_true rfl) (Nat.le_of_ble_eq_true rfl) ?_
  refine me_X7_answerDeed (a := 0) hx (by decide) (fun g hg hf => ?_)
  show bw_go _ _ _ _ _ _ _ 6 [(0, .ref _), (1, .int _)] ((.int _) :: []) _ _
  refine go_iret dX7_press_6 rfl rfl ?_
  exact hQ g hg hf
set_option maxRecDepth 100000 in
set_option maxHeartbeats 4000000 in
theorem me_X7_mend {X : Nat × (Nat → Int32)} {Q : Option Value → bw_H → Prop} {h : bw_H} {S : ST} {i : Int32} (hx : XR h S) (hQ : PX h Q (yDeed 1 i S)) : bw_me X 4 bm_X7_mend false [.ref 0, .int i] h Q := by
  show bw_go _ 4 7 2 false (some .int) cX7_mend 0 [(0, .ref _), (1, .int _)] [] _ _
  refine go_aload_n dX7_mend_0 rfl ?_
  refine go_iconst (1) dX7_mend_1 rfl ?_
  refine go_iload_n dX7_mend_2 rfl ?_
  refine go_cv (as := [.int _, .int _]) 3 dX7_mend_3 mt_7_162 (Or.inl rfl) rfl rfl hx.1.1.1 hx.1.1.2.1 (Nat.le_of_ble_eq_true rfl) (Nat.le_of_ble_eq_true rfl) (Nat.le_of_ble_eq_true rfl) (Nat.le_of_ble_eq_true rfl) (Nat.le_of_ble_eq_true rfl) ?_
  refine me_X7_answerDeed (a := 1) hx (by decide) (fun g hg hf => ?_)
  show bw_go _ _ _ _ _ _ _ 6 [(0, .ref _), (1, .int _)] ((.int _) :: []) _ _
  refine go_iret dX7_mend_6 rfl rfl ?_
  exact hQ g hg hf
set_option maxRecDepth 100000 in
set_option maxHeartbeats 4000000 in
theorem me_X7_eye {X : Nat × (Nat → Int32)} {Q : Option Value → bw_H → Prop} {h : bw_H} {S : ST} {i : Int32} (hx : XR h S) (hQ : PX h Q (yDeed 2 i S)) : bw_me X 4 bm_X7_eye false [.ref 0, .int i] h Q := by
  show bw_go _ 4 7 2 false (some .int) cX7_eye 0 [(0, .ref _), (1, .int _)] [] _ _
  refine go_aload_n dX7_eye_0 rfl ?_
  refine go_iconst (2) dX7_eye_1 rfl ?_
  refine go_iload_n dX7_eye_2 rfl ?_
  refine go_cv (as := [.int _, .int _]) 3 dX7_eye_3 mt_7_162 (Or.inl rfl) rfl rfl hx.1.1.1 hx.1.1.2.1 (Nat.le_of_ble_eq_true rfl) (Nat.le_of_ble_eq_true rfl) (Nat.le_of_ble_eq_true rfl) (Nat.le_of_ble_eq_true rfl) (Nat.le_of_ble_eq_true rfl) ?_
  refine me_X7_answerDeed (a := 2) hx (by decide) (fun g hg hf => ?_)
  show bw_go _ _ _ _ _ _ _ 6 [(0, .ref _), (1, .int _)] ((.int _) :: []) _ _
  refine go_iret dX7_eye_6 rfl rfl ?_
  exact hQ g hg hf
set_option maxRecDepth 100000 in
set_option maxHeartbeats 4000000 in
theorem me_X7_turn {X : Nat × (Nat → Int32)} {Q : Option Value → bw_H → Prop} {h : bw_H} {S : ST} {i : Int32} (hx : XR h S) (hQ : PX h Q (yDeed 3 i S)) : bw_me X 4 bm_X7_turn false [.ref 0, .int i] h Q := by
  show bw_go _ 4 7 2 false (some .int) cX7_turn 0 [(0, .ref _), (1, .int _)] [] _ _
  refine go_aload_n dX7_turn_0 rfl ?_
  refine go_iconst (3) dX7_turn_1 rfl ?_
  refine go_iload_n dX7_turn_2 rfl ?_
  refine go_cv (as := [.int _, .int _]) 3 dX7_turn_3 mt_7_162 (Or.inl rfl) rfl rfl hx.1.1.1 hx.1.1.2.1 (Nat.le_of_ble_eq_true rfl) (Nat.le_of_ble_eq_true rfl) (Nat.le_of_ble_eq_true rfl) (Nat.le_of_ble_eq_true rfl) (Nat.le_of_ble_eq_true rfl) ?_
  refine me_X7_answerDeed (a := 3) hx (by decide) (fun g hg hf => ?_)
  show bw_go _ _ _ _ _ _ _ 6 [(0, .ref _), (1, .int _)] ((.int _) :: []) _ _
  refine go_iret dX7_turn_6 rfl rfl ?_
  exact hQ g hg hf
