/-! BearWitness: whom to call -/
def cst (S : ST) (s : Nat) : Nat := 8 * bc s + bc (sho (taC (nowC S)) s)
def cal (S : ST) (x : Nat) : Nat → Nat × Nat
  | 0 => (0, 1000)
  | k + 1 => if (sho (taC (nowC S)) (k + 1)).testBit x = true ∧ cst S (k + 1) < (cal S x k).2 then (k + 1, cst S (k + 1)) else cal S x k
def yCall (x : Int32) (S : ST) : Int32 × ST := if isn x 6 = true then (if cN (nowC S) = 0 then (-4, S) else (if (cal S (rn x) (2 ^ cN (nowC S) - 1)).1 = 0 then (-9, S) else (nI (bc (cal S (rn x) (2 ^ cN (nowC S) - 1)).1), wQ S (nI (cal S (rn x) (2 ^ cN (nowC S) - 1)).1)))) else (-1, S)
theorem cst_lt (S : ST) (s : Nat) : cst S s < 64 := by
  have h1 := bc_lt s
  have h2 := bc_lt (sho (taC (nowC S)) s)
  unfold cst; omega
theorem cal_lt (S : ST) (x : Nat) : ∀ k, (cal S x k).1 ≤ k ∧ (cal S x k).2 ≤ 1000
  | 0 => ⟨Nat.le_refl _, Nat.le_refl _⟩
  | k + 1 => by
    have h1 := cal_lt S x k
    have h2 := cst_lt S (k + 1)
    show (if (sho (taC (nowC S)) (k + 1)).testBit x = true ∧ cst S (k + 1) < (cal S x k).2 then (k + 1, cst S (k + 1)) else cal S x k).1 ≤ k + 1 ∧ (if (sho (taC (nowC S)) (k + 1)).testBit x = true ∧ cst S (k + 1) < (cal S x k).2 then (k + 1, cst S (k + 1)) else cal S x k).2 ≤ 1000
    split
    · exact ⟨Nat.le_refl _, by show cst S (k + 1) ≤ 1000; omega⟩
    · exact ⟨by omega, h1.2⟩
set_option maxRecDepth 100000 in
set_option maxHeartbeats 4000000 in
theorem me_X7_call {X : Nat × (Nat → Int32)} {Q : Option Value → bw_H → Prop} {h : bw_H} {S : ST} {x : Int32} (hx : XR h S) (hQ : PX h Q (yCall x S)) : bw_me X 4 bm_X7_call false [.ref 0, .int x] h Q := by
  have hc : bw_ct h 11 (nowC S) := hx.2.2.2.1.1.1
  have hN := hc.2.2.1
  show bw_go _ 4 7 7 false (some .int) cX7_call 0 [(0, .ref _), (1, .int _)] [] _ _
  refine go_iload_n dX7_call_0 rfl ?_
  refine go_cs (as := [.int _]) 0 dX7_call_1 rfl rfl mt_7_175 (Nat.le_of_ble_eq_true rfl) rfl rfl (Nat.le_of_ble_eq_true rfl) (Nat.le_of_ble_eq_true rfl) (Nat.le_of_ble_eq_true rfl) (Nat.le_of_ble_eq_true rfl) ?_
  refine me_X7_isThing ?_
  show bw_go _ _ _ _ _ _ _ 4 [(0, .ref _), (1, .int _)] ((.int _) :: []) _ _
  refine go_ifb_ne (pc' := 9) dX7_call_4 rfl (fun c_4 => ?_) (fun c_4 => ?_)
  · -- ne at 4: yes
    show bw_go _ _ _ _ _ _ _ 9 [(0, .ref _), (1, .int _)] ([]) _ _
    obtain ⟨y, hy, rfl⟩ := isn_ex (r := x) (num := 6) c_4 (by decide)
    refine go_aload_n dX7_call_9 rfl ?_
    refine go_gfr dX7_call_10 fl_7_24 rfl hx.1.1.1 hx.1.1.2.1 hx.1.1.2.2.2.2.1 ?_
    refine go_gfi dX7_call_13 fl_7_141 rfl hc.1.1.1 hc.1.1.2.1 ?_
    rw [hc.2.1.1]
    refine go_if_ne (pc' := 22) dX7_call_16 rfl (fun c_16 => ?_) (fun c_16 => ?_)
    · -- ne at 16: yes
      show bw_go _ _ _ _ _ _ _ 22 [(0, .ref _), (1, .int _)] ([]) _ _
      refine go_aload_n dX7_call_22 rfl ?_
      refine go_gfr dX7_call_23 fl_7_52 rfl hx.1.1.1 hx.1.1.2.1 hx.1.1.2.2.2.2.2.2.2.2.2.1 ?_
      refine go_aload_n dX7_call_26 rfl ?_
      refine go_gfr dX7_call_27 fl_7_24 rfl hx.1.1.1 hx.1.1.2.1 hx.1.1.2.2.2.2.1 ?_
      refine go_cv (as := [.ref _]) 3 dX7_call_30 mt_7_184 (Or.inr rfl) rfl rfl hx.1.2.2.2.2.2.1.1.1 hx.1.2.2.2.2.2.1.1.2.1 (Nat.le_of_ble_eq_true rfl) (Nat.le_of_ble_eq_true rfl) (Nat.le_of_ble_eq_true rfl) (Nat.le_of_ble_eq_true rfl) (Nat.le_of_ble_eq_true rfl) ?_
      refine me_X5_hear hx.1.2.2.2.2.2.1 hc (Or.inr (by decide)) (fun I hI => ?_)
      have hx2 : XR (bw_wi h I) S := xr_sc hx (fun q hq => hI.2 q (by omega) (by omega) (by omega))
      have hf2 : frM h (bw_wi h I) := frM_wi rfl (fun q h1 h2 => hI.2 q (by omega) (by omega) (by omega))
      have ht : bw_ta (bw_wi h I) 46 (taC (nowC S)) := hI.1
      have h2N := p2N hN
      have hc2 : bw_ct (bw_wi h I) 11 (nowC S) := hx2.2.2.2.1.1.1
      have h0 : ¬ cN (nowC S) = 0 := fun z => c_16 ((nI_eq (a := cN (nowC S)) (b := 0) (by omega) (by omega)).mpr z)
      show bw_go _ _ _ _ _ _ _ 33 [(0, .ref _), (1, .int _)] ([]) _ _
      refine go_iconst (0) dX7_call_33 rfl ?_
      refine go_istore_n dX7_call_34 (Nat.lt_of_lt_of_le (Nat.lt_succ_self _) (Nat.le_of_ble_eq_true rfl)) ?_
      show bw_go _ _ _ _ _ _ _ 35 [(2, .int _), (0, .ref _), (1, .int _)] ([]) _ _
      refine go_sipush (1000) dX7_call_35 rfl ?_
      refine go_istore_n dX7_call_38 (Nat.lt_of_lt_of_le (Nat.lt_succ_self _) (Nat.le_of_ble_eq_true rfl)) ?_
      show bw_go _ _ _ _ _ _ _ 39 [(3, .int _), (2, .int _), (0, .ref _), (1, .int _)] ([]) _ _
      refine go_iconst (1) dX7_call_39 rfl ?_
      refine go_istore dX7_call_40 (Nat.lt_of_lt_of_le (Nat.lt_succ_self _) (Nat.le_of_ble_eq_true rfl)) ?_
      show bw_go _ _ _ _ _ _ _ 42 [(4, .int _), (3, .int _), (2, .int _), (0, .ref _), (1, .int _)] ([]) _ _
      refine go_for (P := fun k => bw_go X 4 7 7 false (some .int) cX7_call 42 [(4, .int (nI (k + 1))), (3, .int (nI (cal S y k).2)), (2, .int (nI (cal S y k).1)), (0, .ref (0)), (1, .int (nI y))] [] (bw_wi h I) Q) (N := 2 ^ cN (nowC S) - 1) (fun k hk K => ?_) ?_ (0) (Nat.zero_le _)
      · -- a turn
        have k1 := cst_lt S (k + 1)
        have k2 := cal_lt S y k
        show bw_go _ _ _ _ _ _ _ 42 [(4, .int _), (3, .int _), (2, .int _), (0, .ref _), (1, .int _)] ([]) _ _
        refine go_iload dX7_call_42 rfl ?_
        refine go_aload_n dX7_call_44 rfl ?_
        refine go_gfr dX7_call_45 fl_7_24 rfl hx.1.1.1 hx.1.1.2.1 hx.1.1.2.2.2.2.1 ?_
        refine go_cv (as := []) 0 dX7_call_48 mt_7_193 (Or.inr rfl) rfl rfl hc.1.1.1 hc.1.1.2.1 (Nat.le_of_ble_eq_true rfl) (Nat.le_of_ble_eq_true rfl) (Nat.le_of_ble_eq_true rfl) (Nat.le_of_ble_eq_true rfl) (Nat.le_of_ble_eq_true rfl) ?_
        refine me_X1_allBears hc2 ?_
        show bw_go _ _ _ _ _ _ _ 51 [(4, .int _), (3, .int _), (2, .int _), (0, .ref _), (1, .int _)] ((.int _) :: (.int _) :: []) _ _
        refine go_icmp_gt (pc' := 108) dX7_call_51 rfl (fun c_51 => ?_) (fun c_51 => ?_)
        · -- gt at 51: yes
          exfalso; have t_0 := nI_toInt (n := k + 1) (by omega); have t_1 := nI_toInt (n := 2 ^ cN (nowC S) - 1) (by omega); simp only [i_le, i_lt, i_eq, bi_eq] at c_51; omega
        · -- gt at 51: no
          show bw_go _ _ _ _ _ _ _ 54 [(4, .int _), (3, .int _), (2, .int _), (0, .ref _), (1, .int _)] ([]) _ _
          refine go_aload_n dX7_call_54 rfl ?_
          refine go_gfr dX7_call_55 fl_7_52 rfl hx.1.1.1 hx.1.1.2.1 hx.1.1.2.2.2.2.2.2.2.2.2.1 ?_
          refine go_iload dX7_call_58 rfl ?_
          refine go_cv (as := [.int _]) 2 dX7_call_60 mt_7_190 (Or.inr rfl) rfl rfl hx.1.2.2.2.2.2.1.1.1 hx.1.2.2.2.2.2.1.1.2.1 (Nat.le_of_ble_eq_true rfl) (Nat.le_of_ble_eq_true rfl) (Nat.le_of_ble_eq_true rfl) (Nat.le_of_ble_eq_true rfl) (Nat.le_of_ble_eq_true rfl) ?_
          refine me_X5_shownBy ht (by omega) ?_
          show bw_go _ _ _ _ _ _ _ 63 [(4, .int _), (3, .int _), (2, .int _), (0, .ref _), (1, .int _)] ((.int _) :: []) _ _
          refine go_istore dX7_call_63 (Nat.lt_of_lt_of_le (Nat.lt_succ_self _) (Nat.le_of_ble_eq_true rfl)) ?_
          show bw_go _ _ _ _ _ _ _ 65 [(5, .int _), (4, .int _), (3, .int _), (2, .int _), (0, .ref _), (1, .int _)] ([]) _ _
          refine go_bipush (8) dX7_call_65 rfl ?_
          refine go_iload dX7_call_67 rfl ?_
          refine go_cs (as := [.int _]) 0 dX7_call_69 rfl rfl mt_7_197 (Nat.le_of_ble_eq_true rfl) rfl rfl (Nat.le_of_ble_eq_true rfl) (Nat.le_of_ble_eq_true rfl) (Nat.le_of_ble_eq_true rfl) (Nat.le_of_ble_eq_true rfl) ?_
          refine me_bitCount (by omega) ?_
          show bw_go _ _ _ _ _ _ _ 72 [(5, .int _), (4, .int _), (3, .int _), (2, .int _), (0, .ref _), (1, .int _)] ((.int _) :: (.int _) :: []) _ _
          rw [show (8 : Int32) = nI 8 from rfl]
          refine go_imul dX7_call_72 ?_
          rw [nmul]
          refine go_iload dX7_call_73 rfl ?_
          refine go_cs (as := [.int _]) 0 dX7_call_75 rfl rfl mt_7_197 (Nat.le_of_ble_eq_true rfl) rfl rfl (Nat.le_of_ble_eq_true rfl) (Nat.le_of_ble_eq_true rfl) (Nat.le_of_ble_eq_true rfl) (Nat.le_of_ble_eq_true rfl) ?_
          refine me_bitCount (sho_lt _ _) ?_
          show bw_go _ _ _ _ _ _ _ 78 [(5, .int _), (4, .int _), (3, .int _), (2, .int _), (0, .ref _), (1, .int _)] ((.int _) :: (.int _) :: []) _ _
          refine go_iadd dX7_call_78 ?_
          rw [nI_add, show 8 * bc (k + 1) + bc (sho (taC (nowC S)) (k + 1)) = cst S (k + 1) from rfl]
          refine go_istore dX7_call_79 (Nat.lt_of_lt_of_le (Nat.lt_succ_self _) (Nat.le_of_ble_eq_true rfl)) ?_
          show bw_go _ _ _ _ _ _ _ 81 [(6, .int _), (5, .int _), (4, .int _), (3, .int _), (2, .int _), (0, .ref _), (1, .int _)] ([]) _ _
          refine go_iload dX7_call_81 rfl ?_
          refine go_iload_n dX7_call_83 rfl ?_
          refine go_cs (as := [.int _, .int _]) 0 dX7_call_84 rfl rfl mt_7_202 (Nat.le_of_ble_eq_true rfl) rfl rfl (Nat.le_of_ble_eq_true rfl) (Nat.le_of_ble_eq_true rfl) (Nat.le_of_ble_eq_true rfl) (Nat.le_of_ble_eq_true rfl) ?_
          refine me_X7_isIn (sho_lt _ _) (by omega) ?_
          show bw_go _ _ _ _ _ _ _ 87 [(6, .int _), (5, .int _), (4, .int _), (3, .int _), (2, .int _), (0, .ref _), (1, .int _)] ((.int _) :: []) _ _
          refine go_ifb_eq (pc' := 102) dX7_call_87 rfl (fun c_87 => ?_) (fun c_87 => ?_)
          · -- eq at 87: yes
            show bw_go _ _ _ _ _ _ _ 102 [(6, .int _), (5, .int _), (4, .int _), (3, .int _), (2, .int _), (0, .ref _), (1, .int _)] ([]) _ _
            refine go_iinc dX7_call_102 rfl (nI_1 (k + 1)) (Nat.lt_of_lt_of_le (Nat.lt_succ_self _) (Nat.le_of_ble_eq_true rfl)) ?_
            show bw_go _ _ _ _ _ _ _ 105 [(4, .int _), (6, .int _), (5, .int _), (3, .int _), (2, .int _), (0, .ref _), (1, .int _)] ([]) _ _
            refine go_goto (pc' := 42) dX7_call_105 rfl ?_
            refine go_ls [(4, .int _), (3, .int _), (2, .int _), (0, .ref _), (1, .int _)] (by show List.Nodup ([4, 3, 2, 0, 1] : List Nat); decide) (by show List.Nodup ([4, 6, 5, 3, 2, 0, 1] : List Nat); decide) (le_cons rfl (le_cons rfl (le_cons rfl (le_cons rfl (le_cons rfl (le_nil _)))))) ?_
            have e0 : cal S y (k + 1) = if (sho (taC (nowC S)) (k + 1)).testBit y = true ∧ cst S (k + 1) < (cal S y k).2 then (k + 1, cst S (k + 1)) else cal S y k := rfl
            have e1 : cal S y (k + 1) = cal S y k := by
              rw [e0]
              exact if_neg (fun z => Bool.noConfusion (c_87.symm.trans z.1))
            rw [e1] at K
            exact K
          · -- eq at 87: no
            show bw_go _ _ _ _ _ _ _ 90 [(6, .int _), (5, .int _), (4, .int _), (3, .int _), (2, .int _), (0, .ref _), (1, .int _)] ([]) _ _
            refine go_iload dX7_call_90 rfl ?_
            refine go_iload_n dX7_call_92 rfl ?_
            refine go_icmp_ge (pc' := 102) dX7_call_93 rfl (fun c_93 => ?_) (fun c_93 => ?_)
            · -- ge at 93: yes
              show bw_go _ _ _ _ _ _ _ 102 [(6, .int _), (5, .int _), (4, .int _), (3, .int _), (2, .int _), (0, .ref _), (1, .int _)] ([]) _ _
              refine go_iinc dX7_call_102 rfl (nI_1 (k + 1)) (Nat.lt_of_lt_of_le (Nat.lt_succ_self _) (Nat.le_of_ble_eq_true rfl)) ?_
              show bw_go _ _ _ _ _ _ _ 105 [(4, .int _), (6, .int _), (5, .int _), (3, .int _), (2, .int _), (0, .ref _), (1, .int _)] ([]) _ _
              refine go_goto (pc' := 42) dX7_call_105 rfl ?_
              refine go_ls [(4, .int _), (3, .int _), (2, .int _), (0, .ref _), (1, .int _)] (by show List.Nodup ([4, 3, 2, 0, 1] : List Nat); decide) (by show List.Nodup ([4, 6, 5, 3, 2, 0, 1] : List Nat); decide) (le_cons rfl (le_cons rfl (le_cons rfl (le_cons rfl (le_cons rfl (le_nil _)))))) ?_
              have e0 : cal S y (k + 1) = if (sho (taC (nowC S)) (k + 1)).testBit y = true ∧ cst S (k + 1) < (cal S y k).2 then (k + 1, cst S (k + 1)) else cal S y k := rfl
              have e1 : cal S y (k + 1) = cal S y k := by
                rw [e0]
                have t_0 := nI_toInt (n := cst S (k + 1)) (by omega)
                have t_1 := nI_toInt (n := (cal S y k).2) (by omega)
                simp only [i_le] at c_93
                exact if_neg (fun z => by omega)
              rw [e1] at K
              exact K
            · -- ge at 93: no
              show bw_go _ _ _ _ _ _ _ 96 [(6, .int _), (5, .int _), (4, .int _), (3, .int _), (2, .int _), (0, .ref _), (1, .int _)] ([]) _ _
              refine go_iload dX7_call_96 rfl ?_
              refine go_istore_n dX7_call_98 (Nat.lt_of_lt_of_le (Nat.lt_succ_self _) (Nat.le_of_ble_eq_true rfl)) ?_
              show bw_go _ _ _ _ _ _ _ 99 [(2, .int _), (6, .int _), (5, .int _), (4, .int _), (3, .int _), (0, .ref _), (1, .int _)] ([]) _ _
              refine go_iload dX7_call_99 rfl ?_
              refine go_istore_n dX7_call_101 (Nat.lt_of_lt_of_le (Nat.lt_succ_self _) (Nat.le_of_ble_eq_true rfl)) ?_
              show bw_go _ _ _ _ _ _ _ 102 [(3, .int _), (2, .int _), (6, .int _), (5, .int _), (4, .int _), (0, .ref _), (1, .int _)] ([]) _ _
              refine go_iinc dX7_call_102 rfl (nI_1 (k + 1)) (Nat.lt_of_lt_of_le (Nat.lt_succ_self _) (Nat.le_of_ble_eq_true rfl)) ?_
              show bw_go _ _ _ _ _ _ _ 105 [(4, .int _), (3, .int _), (2, .int _), (6, .int _), (5, .int _), (0, .ref _), (1, .int _)] ([]) _ _
              refine go_goto (pc' := 42) dX7_call_105 rfl ?_
              refine go_ls [(4, .int _), (3, .int _), (2, .int _), (0, .ref _), (1, .int _)] (by show List.Nodup ([4, 3, 2, 0, 1] : List Nat); decide) (by show List.Nodup ([4, 3, 2, 6, 5, 0, 1] : List Nat); decide) (le_cons rfl (le_cons rfl (le_cons rfl (le_cons rfl (le_cons rfl (le_nil _)))))) ?_
              have e0 : cal S y (k + 1) = if (sho (taC (nowC S)) (k + 1)).testBit y = true ∧ cst S (k + 1) < (cal S y k).2 then (k + 1, cst S (k + 1)) else cal S y k := rfl
              have e1 : cal S y (k + 1) = (k + 1, cst S (k + 1)) := by
                rw [e0]
                have t_0 := nI_toInt (n := cst S (k + 1)) (by omega)
                have t_1 := nI_toInt (n := (cal S y k).2) (by omega)
                simp only [i_le] at c_93
                exact if_pos ⟨c_87, by omega⟩
              rw [e1] at K
              exact K
      · -- behind the last
        have k2 := cal_lt S y (2 ^ cN (nowC S) - 1)
        have hz : nI (cal S y (2 ^ cN (nowC S) - 1)).1 = 0 ↔ (cal S y (2 ^ cN (nowC S) - 1)).1 = 0 := nI_eq (b := 0) (by omega) (by omega)
        show bw_go _ _ _ _ _ _ _ 42 [(4, .int _), (3, .int _), (2, .int _), (0, .ref _), (1, .int _)] ([]) _ _
        refine go_iload dX7_call_42 rfl ?_
        refine go_aload_n dX7_call_44 rfl ?_
        refine go_gfr dX7_call_45 fl_7_24 rfl hx.1.1.1 hx.1.1.2.1 hx.1.1.2.2.2.2.1 ?_
        refine go_cv (as := []) 0 dX7_call_48 mt_7_193 (Or.inr rfl) rfl rfl hc.1.1.1 hc.1.1.2.1 (Nat.le_of_ble_eq_true rfl) (Nat.le_of_ble_eq_true rfl) (Nat.le_of_ble_eq_true rfl) (Nat.le_of_ble_eq_true rfl) (Nat.le_of_ble_eq_true rfl) ?_
        refine me_X1_allBears hc2 ?_
        show bw_go _ _ _ _ _ _ _ 51 [(4, .int _), (3, .int _), (2, .int _), (0, .ref _), (1, .int _)] ((.int _) :: (.int _) :: []) _ _
        refine go_icmp_gt (pc' := 108) dX7_call_51 rfl (fun c_51 => ?_) (fun c_51 => ?_)
        · -- gt at 51: yes
          show bw_go _ _ _ _ _ _ _ 108 [(4, .int _), (3, .int _), (2, .int _), (0, .ref _), (1, .int _)] ([]) _ _
          refine go_iload_n dX7_call_108 rfl ?_
          refine go_if_ne (pc' := 115) dX7_call_109 rfl (fun c_109 => ?_) (fun c_109 => ?_)
          · -- ne at 109: yes
            show bw_go _ _ _ _ _ _ _ 115 [(4, .int _), (3, .int _), (2, .int _), (0, .ref _), (1, .int _)] ([]) _ _
            refine go_aload_n dX7_call_115 rfl ?_
            refine go_iload_n dX7_call_116 rfl ?_
            refine go_pfi dX7_call_117 fl_7_76 rfl hx.1.1.1 hx.1.1.2.1 (Nat.le_of_ble_eq_true rfl) (Or.inl rfl) ?_
            show bw_go _ _ _ _ _ _ _ 120 [(4, .int _), (3, .int _), (2, .int _), (0, .ref _), (1, .int _)] ([]) _ _
            refine go_iload_n dX7_call_120 rfl ?_
            refine go_cs (as := [.int _]) 0 dX7_call_121 rfl rfl mt_7_197 (Nat.le_of_ble_eq_true rfl) rfl rfl (Nat.le_of_ble_eq_true rfl) (Nat.le_of_ble_eq_true rfl) (Nat.le_of_ble_eq_true rfl) (Nat.le_of_ble_eq_true rfl) ?_
            refine me_bitCount (by omega) ?_
            show bw_go _ _ _ _ _ _ _ 124 [(4, .int _), (3, .int _), (2, .int _), (0, .ref _), (1, .int _)] ((.int _) :: []) _ _
            refine go_iret dX7_call_124 rfl rfl ?_
            refine q_x hQ ?_ (xr_la hx2 _) (frM_t hf2 (frM_wi rfl (fun q h1 h2 => ?_)))
            · unfold yCall
              rw [if_pos (show isn (nI y) 6 = true from c_4), if_neg h0, rn_n (by omega), if_neg (fun z => c_109 (hz.mpr z))]
            · rw [i_si_o (by omega)]
          · -- ne at 109: no
            show bw_go _ _ _ _ _ _ _ 112 [(4, .int _), (3, .int _), (2, .int _), (0, .ref _), (1, .int _)] ([]) _ _
            refine go_bipush (-9) dX7_call_112 rfl ?_
            refine go_iret dX7_call_114 rfl rfl ?_
            refine q_x hQ ?_ hx2 hf2
            unfold yCall
            rw [if_pos (show isn (nI y) 6 = true from c_4), if_neg h0, rn_n (by omega), if_pos (hz.mp (Decidable.of_not_not c_109))]
        · -- gt at 51: no
          exfalso; have t_0 := nI_toInt (n := 2 ^ cN (nowC S) - 1 + 1) (by omega); have t_1 := nI_toInt (n := 2 ^ cN (nowC S) - 1) (by omega); simp only [i_le, i_lt, i_eq, bi_eq] at c_51; omega
    · -- ne at 16: no
      show bw_go _ _ _ _ _ _ _ 19 [(0, .ref _), (1, .int _)] ([]) _ _
      refine go_bipush (-4) dX7_call_19 rfl ?_
      refine go_iret dX7_call_21 rfl rfl ?_
      refine q_x hQ ?_ hx (frM_r h)
      unfold yCall
      rw [if_pos (show isn (nI y) 6 = true from c_4), if_pos ((nI_eq (a := cN (nowC S)) (b := 0) (by omega) (by omega)).mp (Decidable.of_not_not c_16))]
  · -- ne at 4: no
    show bw_go _ _ _ _ _ _ _ 7 [(0, .ref _), (1, .int _)] ([]) _ _
    refine go_iconst (-1) dX7_call_7 rfl ?_
    refine go_iret dX7_call_8 rfl rfl ?_
    refine q_x hQ ?_ hx (frM_r h)
    unfold yCall
    rw [if_neg (fun z => Bool.noConfusion ((show isn x 6 = false from c_4).symm.trans z))]
