/-! the reference: chances -/
def goS (C : CT) (y p : Nat) : Nat → Nat
  | 0 => 0
  | k + 1 => goS C y p k + wgt k p (cN C) * bc (sho (taC C) k &&& y)
theorem goS_le {C : CT} {y p : Nat} (hp : p ≤ 12) (hN : cN C ≤ 6) : ∀ k, goS C y p k ≤ k * 17915904
  | 0 => Nat.zero_le _
  | k + 1 => by
    have h1 := goS_le (y := y) hp hN k
    have h2 := Nat.le_trans (wgt_le (s := k) hp (cN C)) (p12 hN)
    have h3 : wgt k p (cN C) * bc (sho (taC C) k &&& y) ≤ 2985984 * 6 := Nat.mul_le_mul h2 (cnt_le6 _ 6)
    rw [Nat.succ_mul]
    exact Nat.add_le_add h1 h3
theorem bc_1 : ∀ s, s < 64 → ∀ x, x < 6 → bc (s &&& 2 ^ x) = if s.testBit x = true then 1 else 0 := by decide +kernel
theorem and_63 : ∀ s, s < 64 → s &&& 63 = s := by decide
theorem goS_od {C : CT} {x p : Nat} (hx : x < 6) : ∀ k, goS C (2 ^ x) p k = odK C x p k
  | 0 => rfl
  | k + 1 => by
    show goS C (2 ^ x) p k + wgt k p (cN C) * bc (sho (taC C) k &&& 2 ^ x) = odK C x p k + (if (sho (taC C) k).testBit x = true then wgt k p (cN C) else 0)
    rw [goS_od hx k, bc_1 _ (sho_lt _ _) x hx]
    by_cases z : (sho (taC C) k).testBit x = true
    · rw [if_pos z, if_pos z, Nat.mul_one]
    · rw [if_neg z, if_neg z, Nat.mul_zero]
theorem goS_mi {C : CT} {p : Nat} : ∀ k, goS C 63 p k = miK C p k
  | 0 => rfl
  | k + 1 => by
    show goS C 63 p k + wgt k p (cN C) * bc (sho (taC C) k &&& 63) = miK C p k + wgt k p (cN C) * bc (sho (taC C) k)
    rw [goS_mi k, and_63 _ (sho_lt _ _)]
set_option maxRecDepth 100000 in
set_option maxHeartbeats 4000000 in
theorem me_X8_fraction {X : Nat × (Nat → Int32)} {Q : Option Value → bw_H → Prop} {h : bw_H} {S : ST} {a0 b0 : Nat} (hm : MR h S) (ha : a0 < 2 ^ 40) (hb : b0 < 2 ^ 40) (hb0 : 0 < b0) (hQ : ∀ g, MR g (tlP S a0 b0) → frX h g → Q none g) : bw_me X 0 bm_X8_fraction false [.ref 60, .long (lN a0), .long (lN b0)] h Q := by
  have hg0 : 0 < Nat.gcd a0 b0 := Nat.gcd_pos_of_pos_right a0 hb0
  have hgb : Nat.gcd a0 b0 ≤ b0 := Nat.gcd_le_right a0 hb0
  have hgz : ¬ lN (Nat.gcd a0 b0) = 0 := fun z => by have := (lz (by omega)).mp z; omega
  show bw_go _ 0 8 11 false none cX8_fraction 0 [(0, .ref _), (1, .long _), (3, .long _)] [] _ _
  refine go_lload_n dX8_fraction_0 rfl ?_
  refine go_lstore dX8_fraction_1 (Nat.lt_of_lt_of_le (Nat.lt_succ_self _) (Nat.le_of_ble_eq_true rfl)) ?_
  show bw_go _ _ _ _ _ _ _ 3 [(5, .long _), (0, .ref _), (1, .long _), (3, .long _)] ([]) _ _
  refine go_lload_n dX8_fraction_3 rfl ?_
  refine go_lstore dX8_fraction_4 (Nat.lt_of_lt_of_le (Nat.lt_succ_self _) (Nat.le_of_ble_eq_true rfl)) ?_
  show bw_go _ _ _ _ _ _ _ 6 [(7, .long _), (5, .long _), (0, .ref _), (1, .long _), (3, .long _)] ([]) _ _
  refine go_for (P := fun k => ∀ (a b : Nat), (a < 2 ^ 60 ∧ b < 2 ^ 60 ∧ Nat.gcd a b = Nat.gcd a0 b0 ∧ b + k ≤ b0) → bw_go X 0 8 11 false none cX8_fraction 6 [(7, .long (lN b)), (5, .long (lN a)), (0, .ref (60)), (1, .long (lN a0)), (3, .long (lN b0))] [] h Q) (N := b0) (fun k hk K => ?_) ?_ (0) (Nat.zero_le _) a0 b0 ⟨by omega, by omega, rfl, by omega⟩
  · -- a turn
    intro a b hv
    obtain ⟨v1, v2, v3, v4⟩ := hv
    show bw_go _ _ _ _ _ _ _ 6 [(7, .long _), (5, .long _), (0, .ref _), (1, .long _), (3, .long _)] ([]) _ _
    refine go_lload dX8_fraction_6 rfl ?_
    refine go_lconst (0) dX8_fraction_8 rfl ?_
    refine go_lcmp dX8_fraction_9 ?_
    refine go_if_eq (pc' := 31) dX8_fraction_10 rfl (fun c_10 => ?_) (fun c_10 => ?_)
    · -- eq at 10: yes
      show bw_go _ _ _ _ _ _ _ 31 [(7, .long _), (5, .long _), (0, .ref _), (1, .long _), (3, .long _)] ([]) _ _
      have e0 : b = 0 := (lz (by omega)).mp ((lg_cmp_eq _ _).mp c_10)
      rw [e0, Nat.gcd_zero_right] at v3
      rw [v3]
      refine go_aload_n dX8_fraction_31 rfl ?_
      refine go_lload_n dX8_fraction_32 rfl ?_
      refine go_lload dX8_fraction_33 rfl ?_
      refine go_ldiv dX8_fraction_35 hgz ?_
      rw [pk_lDiv (by omega) hg0 (by omega)]
      refine go_pfl dX8_fraction_36 fl_8_228 rfl (ms_lt hm.1 (by decide)) hm.1.1.2 (Nat.le_of_ble_eq_true rfl) rfl ?_
      show bw_go _ _ _ _ _ _ _ 39 [(7, .long _), (5, .long _), (0, .ref _), (1, .long _), (3, .long _)] ([]) _ _
      refine go_aload_n dX8_fraction_39 rfl ?_
      refine go_lload_n dX8_fraction_40 rfl ?_
      refine go_lload dX8_fraction_41 rfl ?_
      refine go_ldiv dX8_fraction_43 hgz ?_
      rw [pk_lDiv (by omega) hg0 (by omega)]
      refine go_pfl dX8_fraction_44 fl_8_35 rfl (ms_lt hm.1 (by decide)) hm.1.1.2 (Nat.le_of_ble_eq_true rfl) rfl ?_
      show bw_go _ _ _ _ _ _ _ 47 [(7, .long _), (5, .long _), (0, .ref _), (1, .long _), (3, .long _)] ([]) _ _
      refine go_vret dX8_fraction_47 rfl ?_
      exact hQ _ (mr_u hm _ _) (frX_t (frX_sl (by decide)) (frX_sl (by decide)))
    · -- eq at 10: no
      show bw_go _ _ _ _ _ _ _ 13 [(7, .long _), (5, .long _), (0, .ref _), (1, .long _), (3, .long _)] ([]) _ _
      have hbz : ¬ b = 0 := fun z => c_10 ((lg_cmp_eq _ _).mpr ((lz (by omega)).mpr z))
      refine go_lload dX8_fraction_13 rfl ?_
      refine go_lload dX8_fraction_15 rfl ?_
      refine go_lrem dX8_fraction_17 (fun z => hbz ((lz (by omega)).mp z)) ?_
      rw [pk_lRem (by omega) (by omega) (by omega)]
      refine go_lstore dX8_fraction_18 (Nat.lt_of_lt_of_le (Nat.lt_succ_self _) (Nat.le_of_ble_eq_true rfl)) ?_
      show bw_go _ _ _ _ _ _ _ 20 [(9, .long _), (7, .long _), (5, .long _), (0, .ref _), (1, .long _), (3, .long _)] ([]) _ _
      refine go_lload dX8_fraction_20 rfl ?_
      refine go_lstore dX8_fraction_22 (Nat.lt_of_lt_of_le (Nat.lt_succ_self _) (Nat.le_of_ble_eq_true rfl)) ?_
      show bw_go _ _ _ _ _ _ _ 24 [(5, .long _), (9, .long _), (7, .long _), (0, .ref _), (1, .long _), (3, .long _)] ([]) _ _
      refine go_lload dX8_fraction_24 rfl ?_
      refine go_lstore dX8_fraction_26 (Nat.lt_of_lt_of_le (Nat.lt_succ_self _) (Nat.le_of_ble_eq_true rfl)) ?_
      show bw_go _ _ _ _ _ _ _ 28 [(7, .long _), (5, .long _), (9, .long _), (0, .ref _), (1, .long _), (3, .long _)] ([]) _ _
      refine go_goto (pc' := 6) dX8_fraction_28 rfl ?_
      refine go_ls [(7, .long _), (5, .long _), (0, .ref _), (1, .long _), (3, .long _)] (by show List.Nodup ([7, 5, 0, 1, 3] : List Nat); decide) (by show List.Nodup ([7, 5, 9, 0, 1, 3] : List Nat); decide) (le_cons rfl (le_cons rfl (le_cons rfl (le_cons rfl (le_cons rfl (le_nil _)))))) ?_
      have hml := Nat.mod_lt a (show 0 < b by omega)
      exact K b (a % b) ⟨v2, by omega, (gcd_s a b).trans v3, by omega⟩
  · -- behind the last
    intro a b hv
    obtain ⟨v1, v2, v3, v4⟩ := hv
    show bw_go _ _ _ _ _ _ _ 6 [(7, .long _), (5, .long _), (0, .ref _), (1, .long _), (3, .long _)] ([]) _ _
    refine go_lload dX8_fraction_6 rfl ?_
    refine go_lconst (0) dX8_fraction_8 rfl ?_
    refine go_lcmp dX8_fraction_9 ?_
    refine go_if_eq (pc' := 31) dX8_fraction_10 rfl (fun c_10 => ?_) (fun c_10 => ?_)
    · -- eq at 10: yes
      show bw_go _ _ _ _ _ _ _ 31 [(7, .long _), (5, .long _), (0, .ref _), (1, .long _), (3, .long _)] ([]) _ _
      have e0 : b = 0 := (lz (by omega)).mp ((lg_cmp_eq _ _).mp c_10)
      rw [e0, Nat.gcd_zero_right] at v3
      rw [v3]
      refine go_aload_n dX8_fraction_31 rfl ?_
      refine go_lload_n dX8_fraction_32 rfl ?_
      refine go_lload dX8_fraction_33 rfl ?_
      refine go_ldiv dX8_fraction_35 hgz ?_
      rw [pk_lDiv (by omega) hg0 (by omega)]
      refine go_pfl dX8_fraction_36 fl_8_228 rfl (ms_lt hm.1 (by decide)) hm.1.1.2 (Nat.le_of_ble_eq_true rfl) rfl ?_
      show bw_go _ _ _ _ _ _ _ 39 [(7, .long _), (5, .long _), (0, .ref _), (1, .long _), (3, .long _)] ([]) _ _
      refine go_aload_n dX8_fraction_39 rfl ?_
      refine go_lload_n dX8_fraction_40 rfl ?_
      refine go_lload dX8_fraction_41 rfl ?_
      refine go_ldiv dX8_fraction_43 hgz ?_
      rw [pk_lDiv (by omega) hg0 (by omega)]
      refine go_pfl dX8_fraction_44 fl_8_35 rfl (ms_lt hm.1 (by decide)) hm.1.1.2 (Nat.le_of_ble_eq_true rfl) rfl ?_
      show bw_go _ _ _ _ _ _ _ 47 [(7, .long _), (5, .long _), (0, .ref _), (1, .long _), (3, .long _)] ([]) _ _
      refine go_vret dX8_fraction_47 rfl ?_
      exact hQ _ (mr_u hm _ _) (frX_t (frX_sl (by decide)) (frX_sl (by decide)))
    · -- eq at 10: no
      exact absurd ((lg_cmp_eq _ _).mpr ((lz (by omega)).mpr (show b = 0 by omega))) c_10
set_option maxRecDepth 100000 in
set_option maxHeartbeats 4000000 in
theorem me_X8_goOdds {X : Nat × (Nat → Int32)} {Q : Option Value → bw_H → Prop} {h : bw_H} {S : ST} {y w : Nat} (hm : MR h S) (hy : y < 64) (hw : w ≤ 12) (hQ : ∀ g, MR g (tlP S (goS (nowC S) y w (2 ^ cN (nowC S))) (12 ^ cN (nowC S))) → frX h g → Q none g) : bw_me X 7 bm_X8_goOdds false [.ref 60, .int (nI y), .int (nI w)] h Q := by
  have hv := mr_v hm
  have hk := mr_k hm
  have k1 := hk.1
  have hkC := hk
  have h2N := p2N k1
  have hp0 : 0 < 2 ^ cN (nowC S) := Nat.two_pow_pos _
  show bw_go _ 7 8 11 false none cX8_goOdds 0 [(0, .ref _), (1, .int _), (2, .int _)] [] _ _
  refine go_lconst (0) dX8_goOdds_0 rfl ?_
  refine go_lstore_n dX8_goOdds_1 (Nat.lt_of_lt_of_le (Nat.lt_succ_self _) (Nat.le_of_ble_eq_true rfl)) ?_
  show bw_go _ _ _ _ _ _ _ 2 [(3, .long _), (0, .ref _), (1, .int _), (2, .int _)] ([]) _ _
  refine go_lconst (1) dX8_goOdds_2 rfl ?_
  refine go_lstore dX8_goOdds_3 (Nat.lt_of_lt_of_le (Nat.lt_succ_self _) (Nat.le_of_ble_eq_true rfl)) ?_
  show bw_go _ _ _ _ _ _ _ 5 [(5, .long _), (3, .long _), (0, .ref _), (1, .int _), (2, .int _)] ([]) _ _
  refine go_iconst (0) dX8_goOdds_5 rfl ?_
  refine go_istore dX8_goOdds_6 (Nat.lt_of_lt_of_le (Nat.lt_succ_self _) (Nat.le_of_ble_eq_true rfl)) ?_
  show bw_go _ _ _ _ _ _ _ 8 [(7, .int _), (5, .long _), (3, .long _), (0, .ref _), (1, .int _), (2, .int _)] ([]) _ _
  refine go_for (P := fun k => bw_go X 7 8 11 false none cX8_goOdds 8 [(7, .int (nI k)), (5, .long (lN (12 ^ k))), (3, .long (0)), (0, .ref (60)), (1, .int (nI y)), (2, .int (nI w))] [] h Q) (N := cN (nowC S)) (fun k hk K => ?_) ?_ (0) (Nat.zero_le _)
  · -- a turn
    show bw_go _ _ _ _ _ _ _ 8 [(7, .int _), (5, .long _), (3, .long _), (0, .ref _), (1, .int _), (2, .int _)] ([]) _ _
    refine go_iload dX8_goOdds_8 rfl ?_
    refine go_aload_n dX8_goOdds_10 rfl ?_
    refine go_gfr dX8_goOdds_11 fl_8_7 rfl (ms_lt hm.1 (by decide)) hm.1.1.2 hm.1.2.1.1 ?_
    refine go_iconst (0) dX8_goOdds_14 rfl ?_
    refine go_ia dX8_goOdds_15 hm.1.2.2.1 (ms_lt hm.1 (by decide)) (by decide) ?_
    rw [show (0 : Int32).toNatClampNeg = 0 from rfl, hv.1]
    refine go_icmp_ge (pc' := 33) dX8_goOdds_16 rfl (fun c_16 => ?_) (fun c_16 => ?_)
    · -- ge at 16: yes
      exfalso; have t_0 := nI_toInt (n := cN (nowC S)) (by omega); have t_1 := nI_toInt (n := k) (by omega); simp only [i_le, i_lt, i_eq, bi_eq] at c_16; omega
    · -- ge at 16: no
      show bw_go _ _ _ _ _ _ _ 19 [(7, .int _), (5, .long _), (3, .long _), (0, .ref _), (1, .int _), (2, .int _)] ([]) _ _
      refine go_lload dX8_goOdds_19 rfl ?_
      refine go_ldc2_w dX8_goOdds_21 kc_8_242 ?_
      refine go_lmul dX8_goOdds_24 ?_
      rw [show (12 : Int64) = lN 12 from rfl, lN_mul, ← Nat.pow_succ]
      refine go_lstore dX8_goOdds_25 (Nat.lt_of_lt_of_le (Nat.lt_succ_self _) (Nat.le_of_ble_eq_true rfl)) ?_
      show bw_go _ _ _ _ _ _ _ 27 [(5, .long _), (7, .int _), (3, .long _), (0, .ref _), (1, .int _), (2, .int _)] ([]) _ _
      refine go_iinc dX8_goOdds_27 rfl (nI_1 k) (Nat.lt_of_lt_of_le (Nat.lt_succ_self _) (Nat.le_of_ble_eq_true rfl)) ?_
      show bw_go _ _ _ _ _ _ _ 30 [(7, .int _), (5, .long _), (3, .long _), (0, .ref _), (1, .int _), (2, .int _)] ([]) _ _
      refine go_goto (pc' := 8) dX8_goOdds_30 rfl ?_
      exact K
  · -- behind the last
    show bw_go _ _ _ _ _ _ _ 8 [(7, .int _), (5, .long _), (3, .long _), (0, .ref _), (1, .int _), (2, .int _)] ([]) _ _
    refine go_iload dX8_goOdds_8 rfl ?_
    refine go_aload_n dX8_goOdds_10 rfl ?_
    refine go_gfr dX8_goOdds_11 fl_8_7 rfl (ms_lt hm.1 (by decide)) hm.1.1.2 hm.1.2.1.1 ?_
    refine go_iconst (0) dX8_goOdds_14 rfl ?_
    refine go_ia dX8_goOdds_15 hm.1.2.2.1 (ms_lt hm.1 (by decide)) (by decide) ?_
    rw [show (0 : Int32).toNatClampNeg = 0 from rfl, hv.1]
    refine go_icmp_ge (pc' := 33) dX8_goOdds_16 rfl (fun c_16 => ?_) (fun c_16 => ?_)
    · -- ge at 16: yes
      show bw_go _ _ _ _ _ _ _ 33 [(7, .int _), (5, .long _), (3, .long _), (0, .ref _), (1, .int _), (2, .int _)] ([]) _ _
      refine go_iconst (0) dX8_goOdds_33 rfl ?_
      refine go_istore dX8_goOdds_34 (Nat.lt_of_lt_of_le (Nat.lt_succ_self _) (Nat.le_of_ble_eq_true rfl)) ?_
      show bw_go _ _ _ _ _ _ _ 36 [(7, .int _), (5, .long _), (3, .long _), (0, .ref _), (1, .int _), (2, .int _)] ([]) _ _
      refine go_for (P := fun k => bw_go X 7 8 11 false none cX8_goOdds 36 [(7, .int (nI k)), (5, .long (lN (12 ^ cN (nowC S)))), (3, .long (lN (goS (nowC S) y w k))), (0, .ref (60)), (1, .int (nI y)), (2, .int (nI w))] [] h Q) (N := 2 ^ cN (nowC S)) (fun k hk K => ?_) ?_ (0) (Nat.zero_le _)
      · -- a turn
        show bw_go _ _ _ _ _ _ _ 36 [(7, .int _), (5, .long _), (3, .long _), (0, .ref _), (1, .int _), (2, .int _)] ([]) _ _
        refine go_iload dX8_goOdds_36 rfl ?_
        refine go_aload_n dX8_goOdds_38 rfl ?_
        refine go_cv (as := []) 0 dX8_goOdds_39 mt_8_194 (Or.inl rfl) rfl rfl (ms_lt hm.1 (by decide)) hm.1.1.2 (Nat.le_of_ble_eq_true rfl) (Nat.le_of_ble_eq_true rfl) (Nat.le_of_ble_eq_true rfl) (Nat.le_of_ble_eq_true rfl) (Nat.le_of_ble_eq_true rfl) ?_
        refine me_X8_allBears hm ?_
        show bw_go _ _ _ _ _ _ _ 42 [(7, .int _), (5, .long _), (3, .long _), (0, .ref _), (1, .int _), (2, .int _)] ((.int _) :: (.int _) :: []) _ _
        refine go_icmp_gt (pc' := 117) dX8_goOdds_42 rfl (fun c_42 => ?_) (fun c_42 => ?_)
        · -- gt at 42: yes
          exfalso; have t_0 := nI_toInt (n := k) (by omega); have t_1 := nI_toInt (n := 2 ^ cN (nowC S) - 1) (by omega); simp only [i_le, i_lt, i_eq, bi_eq] at c_42; omega
        · -- gt at 42: no
          show bw_go _ _ _ _ _ _ _ 45 [(7, .int _), (5, .long _), (3, .long _), (0, .ref _), (1, .int _), (2, .int _)] ([]) _ _
          refine go_lconst (1) dX8_goOdds_45 rfl ?_
          refine go_lstore dX8_goOdds_46 (Nat.lt_of_lt_of_le (Nat.lt_succ_self _) (Nat.le_of_ble_eq_true rfl)) ?_
          show bw_go _ _ _ _ _ _ _ 48 [(8, .long _), (7, .int _), (5, .long _), (3, .long _), (0, .ref _), (1, .int _), (2, .int _)] ([]) _ _
          refine go_iconst (0) dX8_goOdds_48 rfl ?_
          refine go_istore dX8_goOdds_49 (Nat.lt_of_lt_of_le (Nat.lt_succ_self _) (Nat.le_of_ble_eq_true rfl)) ?_
          show bw_go _ _ _ _ _ _ _ 51 [(10, .int _), (8, .long _), (7, .int _), (5, .long _), (3, .long _), (0, .ref _), (1, .int _), (2, .int _)] ([]) _ _
          refine go_for (P := fun i => bw_go X 7 8 11 false none cX8_goOdds 51 [(10, .int (nI i)), (8, .long (lN (wgt k w i))), (7, .int (nI k)), (5, .long (lN (12 ^ cN (nowC S)))), (3, .long (lN (goS (nowC S) y w k))), (0, .ref (60)), (1, .int (nI y)), (2, .int (nI w))] [] h Q) (N := cN (nowC S)) (fun i hi K => ?_) ?_ (0) (Nat.zero_le _)
          · -- a turn
            show bw_go _ _ _ _ _ _ _ 51 [(10, .int _), (8, .long _), (7, .int _), (5, .long _), (3, .long _), (0, .ref _), (1, .int _), (2, .int _)] ([]) _ _
            refine go_iload dX8_goOdds_51 rfl ?_
            refine go_aload_n dX8_goOdds_53 rfl ?_
            refine go_gfr dX8_goOdds_54 fl_8_7 rfl (ms_lt hm.1 (by decide)) hm.1.1.2 hm.1.2.1.1 ?_
            refine go_iconst (0) dX8_goOdds_57 rfl ?_
            refine go_ia dX8_goOdds_58 hm.1.2.2.1 (ms_lt hm.1 (by decide)) (by decide) ?_
            rw [show (0 : Int32).toNatClampNeg = 0 from rfl, hv.1]
            refine go_icmp_ge (pc' := 93) dX8_goOdds_59 rfl (fun c_59 => ?_) (fun c_59 => ?_)
            · -- ge at 59: yes
              exfalso; have t_0 := nI_toInt (n := i) (by omega); have t_1 := nI_toInt (n := cN (nowC S)) (by omega); simp only [i_le, i_lt, i_eq, bi_eq] at c_59; omega
            · -- ge at 59: no
              show bw_go _ _ _ _ _ _ _ 62 [(10, .int _), (8, .long _), (7, .int _), (5, .long _), (3, .long _), (0, .ref _), (1, .int _), (2, .int _)] ([]) _ _
              refine go_lload dX8_goOdds_62 rfl ?_
              refine go_iload dX8_goOdds_64 rfl ?_
              refine go_iload dX8_goOdds_66 rfl ?_
              refine go_cs (as := [.int _, .int _]) 0 dX8_goOdds_68 rfl rfl mt_8_129 (Nat.le_of_ble_eq_true rfl) rfl rfl (Nat.le_of_ble_eq_true rfl) (Nat.le_of_ble_eq_true rfl) (Nat.le_of_ble_eq_true rfl) (Nat.le_of_ble_eq_true rfl) ?_
              refine me_X8_has (by omega) (by omega) ?_
              show bw_go _ _ _ _ _ _ _ 71 [(10, .int _), (8, .long _), (7, .int _), (5, .long _), (3, .long _), (0, .ref _), (1, .int _), (2, .int _)] ((.int _) :: (.long _) :: []) _ _
              refine go_ifb_eq (pc' := 82) dX8_goOdds_71 rfl (fun c_71 => ?_) (fun c_71 => ?_)
              · -- eq at 71: yes
                show bw_go _ _ _ _ _ _ _ 82 [(10, .int _), (8, .long _), (7, .int _), (5, .long _), (3, .long _), (0, .ref _), (1, .int _), (2, .int _)] ((.long _) :: []) _ _
                refine go_iload_n dX8_goOdds_82 rfl ?_
                refine go_i2l dX8_goOdds_83 ?_
                first | rw [nI_l (by omega)] | skip
                refine go_lmul dX8_goOdds_84 ?_
                rw [lN_mul]
                refine go_lstore dX8_goOdds_85 (Nat.lt_of_lt_of_le (Nat.lt_succ_self _) (Nat.le_of_ble_eq_true rfl)) ?_
                show bw_go _ _ _ _ _ _ _ 87 [(8, .long _), (10, .int _), (7, .int _), (5, .long _), (3, .long _), (0, .ref _), (1, .int _), (2, .int _)] ([]) _ _
                refine go_iinc dX8_goOdds_87 rfl (nI_1 i) (Nat.lt_of_lt_of_le (Nat.lt_succ_self _) (Nat.le_of_ble_eq_true rfl)) ?_
                show bw_go _ _ _ _ _ _ _ 90 [(10, .int _), (8, .long _), (7, .int _), (5, .long _), (3, .long _), (0, .ref _), (1, .int _), (2, .int _)] ([]) _ _
                refine go_goto (pc' := 51) dX8_goOdds_90 rfl ?_
                first | rw [show wgt k w (i + 1) = wgt k w i * (12 - w) from congrArg (wgt k w i * ·) (if_pos c_71)] at K | rw [show wgt k w (i + 1) = wgt k w i * w from congrArg (wgt k w i * ·) (if_neg (by rw [c_71]; decide))] at K
                exact K
              · -- eq at 71: no
                show bw_go _ _ _ _ _ _ _ 74 [(10, .int _), (8, .long _), (7, .int _), (5, .long _), (3, .long _), (0, .ref _), (1, .int _), (2, .int _)] ((.long _) :: []) _ _
                refine go_bipush (12) dX8_goOdds_74 rfl ?_
                refine go_iload_n dX8_goOdds_76 rfl ?_
                refine go_isub dX8_goOdds_77 ?_
                rw [show (12 : Int32) = nI 12 from rfl, pk_sub (by omega)]
                refine go_i2l dX8_goOdds_78 ?_
                rw [nI_l (by omega)]
                refine go_goto (pc' := 84) dX8_goOdds_79 rfl ?_
                show bw_go _ _ _ _ _ _ _ 84 [(10, .int _), (8, .long _), (7, .int _), (5, .long _), (3, .long _), (0, .ref _), (1, .int _), (2, .int _)] ((.long _) :: (.long _) :: []) _ _
                first | rw [nI_l (by omega)] | skip
                refine go_lmul dX8_goOdds_84 ?_
                rw [lN_mul]
                refine go_lstore dX8_goOdds_85 (Nat.lt_of_lt_of_le (Nat.lt_succ_self _) (Nat.le_of_ble_eq_true rfl)) ?_
                show bw_go _ _ _ _ _ _ _ 87 [(8, .long _), (10, .int _), (7, .int _), (5, .long _), (3, .long _), (0, .ref _), (1, .int _), (2, .int _)] ([]) _ _
                refine go_iinc dX8_goOdds_87 rfl (nI_1 i) (Nat.lt_of_lt_of_le (Nat.lt_succ_self _) (Nat.le_of_ble_eq_true rfl)) ?_
                show bw_go _ _ _ _ _ _ _ 90 [(10, .int _), (8, .long _), (7, .int _), (5, .long _), (3, .long _), (0, .ref _), (1, .int _), (2, .int _)] ([]) _ _
                refine go_goto (pc' := 51) dX8_goOdds_90 rfl ?_
                first | rw [show wgt k w (i + 1) = wgt k w i * (12 - w) from congrArg (wgt k w i * ·) (if_pos c_71)] at K | rw [show wgt k w (i + 1) = wgt k w i * w from congrArg (wgt k w i * ·) (if_neg (by rw [c_71]; decide))] at K
                exact K
          · -- behind the last
            show bw_go _ _ _ _ _ _ _ 51 [(10, .int _), (8, .long _), (7, .int _), (5, .long _), (3, .long _), (0, .ref _), (1, .int _), (2, .int _)] ([]) _ _
            refine go_iload dX8_goOdds_51 rfl ?_
            refine go_aload_n dX8_goOdds_53 rfl ?_
            refine go_gfr dX8_goOdds_54 fl_8_7 rfl (ms_lt hm.1 (by decide)) hm.1.1.2 hm.1.2.1.1 ?_
            refine go_iconst (0) dX8_goOdds_57 rfl ?_
            refine go_ia dX8_goOdds_58 hm.1.2.2.1 (ms_lt hm.1 (by decide)) (by decide) ?_
            rw [show (0 : Int32).toNatClampNeg = 0 from rfl, hv.1]
            refine go_icmp_ge (pc' := 93) dX8_goOdds_59 rfl (fun c_59 => ?_) (fun c_59 => ?_)
            · -- ge at 59: yes
              show bw_go _ _ _ _ _ _ _ 93 [(10, .int _), (8, .long _), (7, .int _), (5, .long _), (3, .long _), (0, .ref _), (1, .int _), (2, .int _)] ([]) _ _
              refine go_lload_n dX8_goOdds_93 rfl ?_
              refine go_lload dX8_goOdds_94 rfl ?_
              refine go_aload_n dX8_goOdds_96 rfl ?_
              refine go_iload dX8_goOdds_97 rfl ?_
              refine go_cv (as := [.int _]) 6 dX8_goOdds_99 mt_8_198 (Or.inl rfl) rfl rfl (ms_lt hm.1 (by decide)) hm.1.1.2 (Nat.le_of_ble_eq_true rfl) (Nat.le_of_ble_eq_true rfl) (Nat.le_of_ble_eq_true rfl) (Nat.le_of_ble_eq_true rfl) (Nat.le_of_ble_eq_true rfl) ?_
              refine me_X8_shownBy hm (by omega) ?_
              show bw_go _ _ _ _ _ _ _ 102 [(10, .int _), (8, .long _), (7, .int _), (5, .long _), (3, .long _), (0, .ref _), (1, .int _), (2, .int _)] ((.int _) :: (.long _) :: (.long _) :: []) _ _
              refine go_iload_n dX8_goOdds_102 rfl ?_
              refine go_iand dX8_goOdds_103 ?_
              rw [and_n]
              refine go_cs (as := [.int _]) 0 dX8_goOdds_104 rfl rfl mt_8_166 (Nat.le_of_ble_eq_true rfl) rfl rfl (Nat.le_of_ble_eq_true rfl) (Nat.le_of_ble_eq_true rfl) (Nat.le_of_ble_eq_true rfl) (Nat.le_of_ble_eq_true rfl) ?_
              refine me_X8_bits (Nat.lt_of_le_of_lt Nat.and_le_left (sho_lt _ _)) ?_
              show bw_go _ _ _ _ _ _ _ 107 [(10, .int _), (8, .long _), (7, .int _), (5, .long _), (3, .long _), (0, .ref _), (1, .int _), (2, .int _)] ((.int _) :: (.long _) :: (.long _) :: []) _ _
              refine go_i2l dX8_goOdds_107 ?_
              rw [nI_l (by have := bc_lt (sho (taC (nowC S)) k &&& y); omega)]
              refine go_lmul dX8_goOdds_108 ?_
              rw [lN_mul]
              refine go_ladd dX8_goOdds_109 ?_
              rw [lN_add]
              refine go_lstore_n dX8_goOdds_110 (Nat.lt_of_lt_of_le (Nat.lt_succ_self _) (Nat.le_of_ble_eq_true rfl)) ?_
              show bw_go _ _ _ _ _ _ _ 111 [(3, .long _), (10, .int _), (8, .long _), (7, .int _), (5, .long _), (0, .ref _), (1, .int _), (2, .int _)] ([]) _ _
              refine go_iinc dX8_goOdds_111 rfl (nI_1 k) (Nat.lt_of_lt_of_le (Nat.lt_succ_self _) (Nat.le_of_ble_eq_true rfl)) ?_
              show bw_go _ _ _ _ _ _ _ 114 [(7, .int _), (3, .long _), (10, .int _), (8, .long _), (5, .long _), (0, .ref _), (1, .int _), (2, .int _)] ([]) _ _
              refine go_goto (pc' := 36) dX8_goOdds_114 rfl ?_
              refine go_ls [(7, .int _), (5, .long _), (3, .long _), (0, .ref _), (1, .int _), (2, .int _)] (by show List.Nodup ([7, 5, 3, 0, 1, 2] : List Nat); decide) (by show List.Nodup ([7, 3, 10, 8, 5, 0, 1, 2] : List Nat); decide) (le_cons rfl (le_cons rfl (le_cons rfl (le_cons rfl (le_cons rfl (le_cons rfl (le_nil _))))))) ?_
              exact K
            · -- ge at 59: no
              exfalso; have t_0 := nI_toInt (n := cN (nowC S)) (by omega); simp only [i_le, i_lt, i_eq, bi_eq] at c_59; omega
      · -- behind the last
        show bw_go _ _ _ _ _ _ _ 36 [(7, .int _), (5, .long _), (3, .long _), (0, .ref _), (1, .int _), (2, .int _)] ([]) _ _
        refine go_iload dX8_goOdds_36 rfl ?_
        refine go_aload_n dX8_goOdds_38 rfl ?_
        refine go_cv (as := []) 0 dX8_goOdds_39 mt_8_194 (Or.inl rfl) rfl rfl (ms_lt hm.1 (by decide)) hm.1.1.2 (Nat.le_of_ble_eq_true rfl) (Nat.le_of_ble_eq_true rfl) (Nat.le_of_ble_eq_true rfl) (Nat.le_of_ble_eq_true rfl) (Nat.le_of_ble_eq_true rfl) ?_
        refine me_X8_allBears hm ?_
        show bw_go _ _ _ _ _ _ _ 42 [(7, .int _), (5, .long _), (3, .long _), (0, .ref _), (1, .int _), (2, .int _)] ((.int _) :: (.int _) :: []) _ _
        refine go_icmp_gt (pc' := 117) dX8_goOdds_42 rfl (fun c_42 => ?_) (fun c_42 => ?_)
        · -- gt at 42: yes
          show bw_go _ _ _ _ _ _ _ 117 [(7, .int _), (5, .long _), (3, .long _), (0, .ref _), (1, .int _), (2, .int _)] ([]) _ _
          refine go_aload_n dX8_goOdds_117 rfl ?_
          refine go_lload_n dX8_goOdds_118 rfl ?_
          refine go_lload dX8_goOdds_119 rfl ?_
          refine go_cv (as := [.long _, .long _]) 0 dX8_goOdds_121 mt_8_244 (Or.inl rfl) rfl rfl (ms_lt hm.1 (by decide)) hm.1.1.2 (Nat.le_of_ble_eq_true rfl) (Nat.le_of_ble_eq_true rfl) (Nat.le_of_ble_eq_true rfl) (Nat.le_of_ble_eq_true rfl) (Nat.le_of_ble_eq_true rfl) ?_
          have b1 := goS_le (C := nowC S) (y := y) hw k1 (2 ^ cN (nowC S))
          have b2 := p12 k1
          have b3 : 0 < 12 ^ cN (nowC S) := Nat.pow_pos (by decide)
          refine me_X8_fraction hm (by omega) (by omega) b3 (fun g hg hf => ?_)
          show bw_go _ _ _ _ _ _ _ 124 [(7, .int _), (5, .long _), (3, .long _), (0, .ref _), (1, .int _), (2, .int _)] ([]) _ _
          refine go_vret dX8_goOdds_124 rfl ?_
          exact hQ g hg hf
        · -- gt at 42: no
          exfalso; have t_0 := nI_toInt (n := 2 ^ cN (nowC S)) (by omega); have t_1 := nI_toInt (n := 2 ^ cN (nowC S) - 1) (by omega); simp only [i_le, i_lt, i_eq, bi_eq] at c_42; omega
    · -- ge at 16: no
      exfalso; have t_0 := nI_toInt (n := cN (nowC S)) (by omega); simp only [i_le, i_lt, i_eq, bi_eq] at c_16; omega
theorem in_12 (n : Int32) : inr n.toInt64 0 12 = decide (0 ≤ n.toInt ∧ n.toInt ≤ 12) := by
  unfold inr
  rw [l_i, show (0 : Int64).toInt = 0 from rfl, show (12 : Int64).toInt = 12 from rfl]
set_option maxRecDepth 100000 in
set_option maxHeartbeats 4000000 in
theorem me_X8_odds {X : Nat × (Nat → Int32)} {Q : Option Value → bw_H → Prop} {h : bw_H} {S : ST} {x p : Int32} (hm : MR h S) (hQ : PM h Q (yOdds x p S)) : bw_me X 8 bm_X8_odds false [.ref 60, .int x, .int p] h Q := by
  have hv := mr_v hm
  have hk := mr_k hm
  have k1 := hk.1
  have hkC := hk
  have h2N := p2N k1
  have hp0 : 0 < 2 ^ cN (nowC S) := Nat.two_pow_pos _
  show bw_go _ 8 8 3 false (some .int) cX8_odds 0 [(0, .ref _), (1, .int _), (2, .int _)] [] _ _
  refine go_iload_n dX8_odds_0 rfl ?_
  refine go_cs (as := [.int _]) 1 dX8_odds_1 rfl rfl mt_8_191 (Nat.le_of_ble_eq_true rfl) rfl rfl (Nat.le_of_ble_eq_true rfl) (Nat.le_of_ble_eq_true rfl) (Nat.le_of_ble_eq_true rfl) (Nat.le_of_ble_eq_true rfl) ?_
  refine me_X8_isThing ?_
  show bw_go _ _ _ _ _ _ _ 4 [(0, .ref _), (1, .int _), (2, .int _)] ((.int _) :: []) _ _
  refine go_ifb_eq (pc' := 19) dX8_odds_4 rfl (fun c_4 => ?_) (fun c_4 => ?_)
  · -- eq at 4: yes
    show bw_go _ _ _ _ _ _ _ 19 [(0, .ref _), (1, .int _), (2, .int _)] ([]) _ _
    refine go_iconst (-1) dX8_odds_19 rfl ?_
    refine go_iret dX8_odds_20 rfl rfl ?_
    refine q_m hQ ?_ hm (frX_r h)
    unfold yOdds
    first
    | (have c16 := of_decide_eq_false c_16; rw [if_neg (fun z => c16 z.2)])
    | rw [if_neg (fun z => Bool.noConfusion ((show isn x 6 = false from c_4).symm.trans z.1))]
  · -- eq at 4: no
    show bw_go _ _ _ _ _ _ _ 7 [(0, .ref _), (1, .int _), (2, .int _)] ([]) _ _
    refine go_iload_n dX8_odds_7 rfl ?_
    refine go_i2l dX8_odds_8 ?_
    refine go_lconst (0) dX8_odds_9 rfl ?_
    refine go_ldc2_w dX8_odds_10 kc_8_242 ?_
    refine go_cs (as := [.long _, .long _, .long _]) 0 dX8_odds_13 rfl rfl mt_8_69 (Nat.le_of_ble_eq_true rfl) rfl rfl (Nat.le_of_ble_eq_true rfl) (Nat.le_of_ble_eq_true rfl) (Nat.le_of_ble_eq_true rfl) (Nat.le_of_ble_eq_true rfl) ?_
    refine me_X8_in ?_
    rw [in_12]
    show bw_go _ _ _ _ _ _ _ 16 [(0, .ref _), (1, .int _), (2, .int _)] ((.int _) :: []) _ _
    refine go_ifb_ne (pc' := 21) dX8_odds_16 rfl (fun c_16 => ?_) (fun c_16 => ?_)
    · -- ne at 16: yes
      show bw_go _ _ _ _ _ _ _ 21 [(0, .ref _), (1, .int _), (2, .int _)] ([]) _ _
      obtain ⟨y, hy, rfl⟩ := isn_ex (r := x) (num := 6) c_4 (by decide)
      have hp12 := of_decide_eq_true c_16
      obtain ⟨w, hw, rfl⟩ := isn_ex (r := p) (num := 13) (decide_eq_true (by omega)) (by decide)
      refine go_aload_n dX8_odds_21 rfl ?_
      refine go_gfr dX8_odds_22 fl_8_7 rfl (ms_lt hm.1 (by decide)) hm.1.1.2 hm.1.2.1.1 ?_
      refine go_iconst (0) dX8_odds_25 rfl ?_
      refine go_ia dX8_odds_26 hm.1.2.2.1 (ms_lt hm.1 (by decide)) (by decide) ?_
      rw [show (0 : Int32).toNatClampNeg = 0 from rfl, hv.1]
      refine go_if_ne (pc' := 33) dX8_odds_27 rfl (fun c_27 => ?_) (fun c_27 => ?_)
      · -- ne at 27: yes
        show bw_go _ _ _ _ _ _ _ 33 [(0, .ref _), (1, .int _), (2, .int _)] ([]) _ _
        have h0 : ¬ cN (nowC S) = 0 := fun z => c_27 ((nI_eq (a := cN (nowC S)) (b := 0) (by omega) (by omega)).mpr z)
        refine go_aload_n dX8_odds_33 rfl ?_
        refine go_iconst (1) dX8_odds_34 rfl ?_
        refine go_iload_n dX8_odds_35 rfl ?_
        refine go_ishl dX8_odds_36 ?_
        rw [sh_t y (by omega)]
        refine go_iload_n dX8_odds_37 rfl ?_
        refine go_cv (as := [.int _, .int _]) 7 dX8_odds_38 mt_8_248 (Or.inl rfl) rfl rfl (ms_lt hm.1 (by decide)) hm.1.1.2 (Nat.le_of_ble_eq_true rfl) (Nat.le_of_ble_eq_true rfl) (Nat.le_of_ble_eq_true rfl) (Nat.le_of_ble_eq_true rfl) (Nat.le_of_ble_eq_true rfl) ?_
        refine me_X8_goOdds hm (p2_lt y hy) (by omega) (fun g hg hf => ?_)
        rw [goS_od hy] at hg
        show bw_go _ _ _ _ _ _ _ 41 [(0, .ref _), (1, .int _), (2, .int _)] ([]) _ _
        refine go_iconst (1) dX8_odds_41 rfl ?_
        refine go_iret dX8_odds_42 rfl rfl ?_
        refine q_m hQ ?_ hg hf
        unfold yOdds
        rw [if_pos ⟨show isn (nI y) 6 = true from c_4, hp12⟩, if_neg h0, rn_n (by omega), rn_n (by omega)]
      · -- ne at 27: no
        show bw_go _ _ _ _ _ _ _ 30 [(0, .ref _), (1, .int _), (2, .int _)] ([]) _ _
        refine go_bipush (-4) dX8_odds_30 rfl ?_
        refine go_iret dX8_odds_32 rfl rfl ?_
        refine q_m hQ ?_ hm (frX_r h)
        unfold yOdds
        rw [if_pos ⟨show isn (nI y) 6 = true from c_4, hp12⟩, if_pos ((nI_eq (a := cN (nowC S)) (b := 0) (by omega) (by omega)).mp (Decidable.of_not_not c_27))]
    · -- ne at 16: no
      show bw_go _ _ _ _ _ _ _ 19 [(0, .ref _), (1, .int _), (2, .int _)] ([]) _ _
      refine go_iconst (-1) dX8_odds_19 rfl ?_
      refine go_iret dX8_odds_20 rfl rfl ?_
      refine q_m hQ ?_ hm (frX_r h)
      unfold yOdds
      first
      | (have c16 := of_decide_eq_false c_16; rw [if_neg (fun z => c16 z.2)])
      | rw [if_neg (fun z => Bool.noConfusion ((show isn x 6 = false from c_4).symm.trans z.1))]
set_option maxRecDepth 100000 in
set_option maxHeartbeats 4000000 in
theorem me_X8_mid {X : Nat × (Nat → Int32)} {Q : Option Value → bw_H → Prop} {h : bw_H} {S : ST} {p : Int32} (hm : MR h S) (hQ : PM h Q (yMid p S)) : bw_me X 8 bm_X8_mid false [.ref 60, .int p] h Q := by
  have hv := mr_v hm
  have hk := mr_k hm
  have k1 := hk.1
  have hkC := hk
  have h2N := p2N k1
  have hp0 : 0 < 2 ^ cN (nowC S) := Nat.two_pow_pos _
  show bw_go _ 8 8 2 false (some .int) cX8_mid 0 [(0, .ref _), (1, .int _)] [] _ _
  refine go_iload_n dX8_mid_0 rfl ?_
  refine go_i2l dX8_mid_1 ?_
  refine go_lconst (0) dX8_mid_2 rfl ?_
  refine go_ldc2_w dX8_mid_3 kc_8_242 ?_
  refine go_cs (as := [.long _, .long _, .long _]) 0 dX8_mid_6 rfl rfl mt_8_69 (Nat.le_of_ble_eq_true rfl) rfl rfl (Nat.le_of_ble_eq_true rfl) (Nat.le_of_ble_eq_true rfl) (Nat.le_of_ble_eq_true rfl) (Nat.le_of_ble_eq_true rfl) ?_
  refine me_X8_in ?_
  rw [in_12]
  show bw_go _ _ _ _ _ _ _ 9 [(0, .ref _), (1, .int _)] ((.int _) :: []) _ _
  refine go_ifb_ne (pc' := 14) dX8_mid_9 rfl (fun c_9 => ?_) (fun c_9 => ?_)
  · -- ne at 9: yes
    show bw_go _ _ _ _ _ _ _ 14 [(0, .ref _), (1, .int _)] ([]) _ _
    have hp12 := of_decide_eq_true c_9
    obtain ⟨w, hw, rfl⟩ := isn_ex (r := p) (num := 13) (decide_eq_true (by omega)) (by decide)
    refine go_aload_n dX8_mid_14 rfl ?_
    refine go_gfr dX8_mid_15 fl_8_7 rfl (ms_lt hm.1 (by decide)) hm.1.1.2 hm.1.2.1.1 ?_
    refine go_iconst (0) dX8_mid_18 rfl ?_
    refine go_ia dX8_mid_19 hm.1.2.2.1 (ms_lt hm.1 (by decide)) (by decide) ?_
    rw [show (0 : Int32).toNatClampNeg = 0 from rfl, hv.1]
    refine go_if_ne (pc' := 26) dX8_mid_20 rfl (fun c_20 => ?_) (fun c_20 => ?_)
    · -- ne at 20: yes
      show bw_go _ _ _ _ _ _ _ 26 [(0, .ref _), (1, .int _)] ([]) _ _
      have h0 : ¬ cN (nowC S) = 0 := fun z => c_20 ((nI_eq (a := cN (nowC S)) (b := 0) (by omega) (by omega)).mpr z)
      refine go_aload_n dX8_mid_26 rfl ?_
      refine go_bipush (63) dX8_mid_27 rfl ?_
      refine go_iload_n dX8_mid_29 rfl ?_
      refine go_cv (as := [.int _, .int _]) 7 dX8_mid_30 mt_8_248 (Or.inl rfl) rfl rfl (ms_lt hm.1 (by decide)) hm.1.1.2 (Nat.le_of_ble_eq_true rfl) (Nat.le_of_ble_eq_true rfl) (Nat.le_of_ble_eq_true rfl) (Nat.le_of_ble_eq_true rfl) (Nat.le_of_ble_eq_true rfl) ?_
      rw [show (63 : Int32) = nI 63 from rfl]
      refine me_X8_goOdds hm (by decide) (by omega) (fun g hg hf => ?_)
      rw [goS_mi] at hg
      show bw_go _ _ _ _ _ _ _ 33 [(0, .ref _), (1, .int _)] ([]) _ _
      refine go_iconst (1) dX8_mid_33 rfl ?_
      refine go_iret dX8_mid_34 rfl rfl ?_
      refine q_m hQ ?_ hg hf
      unfold yMid
      rw [if_pos hp12, if_neg h0, rn_n (by omega)]
    · -- ne at 20: no
      show bw_go _ _ _ _ _ _ _ 23 [(0, .ref _), (1, .int _)] ([]) _ _
      refine go_bipush (-4) dX8_mid_23 rfl ?_
      refine go_iret dX8_mid_25 rfl rfl ?_
      refine q_m hQ ?_ hm (frX_r h)
      unfold yMid
      rw [if_pos hp12, if_pos ((nI_eq (a := cN (nowC S)) (b := 0) (by omega) (by omega)).mp (Decidable.of_not_not c_20))]
  · -- ne at 9: no
    show bw_go _ _ _ _ _ _ _ 12 [(0, .ref _), (1, .int _)] ([]) _ _
    refine go_iconst (-1) dX8_mid_12 rfl ?_
    refine go_iret dX8_mid_13 rfl rfl ?_
    refine q_m hQ ?_ hm (frX_r h)
    unfold yMid
    rw [if_neg (of_decide_eq_false c_9)]
