/-! the reference: apart -/
set_option maxRecDepth 100000 in
set_option maxHeartbeats 4000000 in
theorem me_X8_apart {X : Nat × (Nat → Int32)} {Q : Option Value → bw_H → Prop} {h : bw_H} {S : ST} (hm : MR h S) (hQ : PM h Q (yApart S)) : bw_me X 7 bm_X8_apart false [.ref 60] h Q := by
  have hv := mr_v hm
  have hk := mr_k hm
  have k1 := hk.1
  have hkC := hk
  have h2N := p2N k1
  have hp0 : 0 < 2 ^ cN (nowC S) := Nat.two_pow_pos _
  show bw_go _ 7 8 6 false (some .int) cX8_apart 0 [(0, .ref _)] [] _ _
  refine go_aload_n dX8_apart_0 rfl ?_
  refine go_gfr dX8_apart_1 fl_8_7 rfl (ms_lt hm.1 (by decide)) hm.1.1.2 hm.1.2.1.1 ?_
  refine go_iconst (0) dX8_apart_4 rfl ?_
  refine go_ia dX8_apart_5 hm.1.2.2.1 (ms_lt hm.1 (by decide)) (by decide) ?_
  rw [show (0 : Int32).toNatClampNeg = 0 from rfl, hv.1]
  refine go_if_ne (pc' := 12) dX8_apart_6 rfl (fun c_6 => ?_) (fun c_6 => ?_)
  · -- ne at 6: yes
    show bw_go _ _ _ _ _ _ _ 12 [(0, .ref _)] ([]) _ _
    have h0 : ¬ cN (nowC S) = 0 := fun z => c_6 ((nI_eq (a := cN (nowC S)) (b := 0) (by omega) (by omega)).mpr z)
    refine go_bipush (-9) dX8_apart_12 rfl ?_
    refine go_istore_n dX8_apart_14 (Nat.lt_of_lt_of_le (Nat.lt_succ_self _) (Nat.le_of_ble_eq_true rfl)) ?_
    show bw_go _ _ _ _ _ _ _ 15 [(1, .int _), (0, .ref _)] ([]) _ _
    refine go_iconst (0) dX8_apart_15 rfl ?_
    refine go_istore_n dX8_apart_16 (Nat.lt_of_lt_of_le (Nat.lt_succ_self _) (Nat.le_of_ble_eq_true rfl)) ?_
    show bw_go _ _ _ _ _ _ _ 17 [(2, .int _), (1, .int _), (0, .ref _)] ([]) _ _
    refine go_for (P := fun k => bw_go X 7 8 6 false (some .int) cX8_apart 17 [(2, .int (nI k)), (1, .int (mtI (bst (apP S) k))), (0, .ref (60))] [] h Q) (N := 2 ^ cN (nowC S)) (fun k hk K => ?_) ?_ (0) (Nat.zero_le _)
    · skip
      show bw_go _ _ _ _ _ _ _ 17 [(2, .int _), (1, .int _), (0, .ref _)] ([]) _ _
      refine go_iload_n dX8_apart_17 rfl ?_
      refine go_aload_n dX8_apart_18 rfl ?_
      refine go_cv (as := []) 0 dX8_apart_19 mt_8_194 (Or.inl rfl) rfl rfl (ms_lt hm.1 (by decide)) hm.1.1.2 (Nat.le_of_ble_eq_true rfl) (Nat.le_of_ble_eq_true rfl) (Nat.le_of_ble_eq_true rfl) (Nat.le_of_ble_eq_true rfl) (Nat.le_of_ble_eq_true rfl) ?_
      refine me_X8_allBears hm ?_
      show bw_go _ _ _ _ _ _ _ 22 [(2, .int _), (1, .int _), (0, .ref _)] ((.int _) :: (.int _) :: []) _ _
      refine go_icmp_gt (pc' := 135) dX8_apart_22 rfl (fun c_22 => ?_) (fun c_22 => ?_)
      · -- gt at 22: yes
        exfalso; have t_0 := nI_toInt (n := k) (by omega); have t_1 := nI_toInt (n := 2 ^ cN (nowC S) - 1) (by omega); simp only [i_le, i_lt, i_eq, bi_eq] at c_22; omega
      · -- gt at 22: no
        show bw_go _ _ _ _ _ _ _ 25 [(2, .int _), (1, .int _), (0, .ref _)] ([]) _ _
        refine go_iconst (1) dX8_apart_25 rfl ?_
        refine go_istore_n dX8_apart_26 (Nat.lt_of_lt_of_le (Nat.lt_succ_self _) (Nat.le_of_ble_eq_true rfl)) ?_
        show bw_go _ _ _ _ _ _ _ 27 [(3, .int _), (2, .int _), (1, .int _), (0, .ref _)] ([]) _ _
        refine go_iconst (0) dX8_apart_27 rfl ?_
        refine go_istore dX8_apart_28 (Nat.lt_of_lt_of_le (Nat.lt_succ_self _) (Nat.le_of_ble_eq_true rfl)) ?_
        show bw_go _ _ _ _ _ _ _ 30 [(4, .int _), (3, .int _), (2, .int _), (1, .int _), (0, .ref _)] ([]) _ _
        refine go_for (P := fun i => bw_go X 7 8 6 false (some .int) cX8_apart 30 [(4, .int (nI i)), (3, .int (bi (prO (nowC S) k i))), (2, .int (nI k)), (1, .int (mtI (bst (apP S) k))), (0, .ref (60))] [] h Q) (N := cN (nowC S)) (fun i hi K => ?_) ?_ (0) (Nat.zero_le _)
        · skip
          show bw_go _ _ _ _ _ _ _ 30 [(4, .int _), (3, .int _), (2, .int _), (1, .int _), (0, .ref _)] ([]) _ _
          refine go_iload dX8_apart_30 rfl ?_
          refine go_aload_n dX8_apart_32 rfl ?_
          refine go_gfr dX8_apart_33 fl_8_7 rfl (ms_lt hm.1 (by decide)) hm.1.1.2 hm.1.2.1.1 ?_
          refine go_iconst (0) dX8_apart_36 rfl ?_
          refine go_ia dX8_apart_37 hm.1.2.2.1 (ms_lt hm.1 (by decide)) (by decide) ?_
          rw [show (0 : Int32).toNatClampNeg = 0 from rfl, hv.1]
          refine go_icmp_ge (pc' := 102) dX8_apart_38 rfl (fun c_38 => ?_) (fun c_38 => ?_)
          · -- ge at 38: yes
            exfalso; have t_0 := nI_toInt (n := i) (by omega); have t_1 := nI_toInt (n := cN (nowC S)) (by omega); simp only [i_le, i_lt, i_eq, bi_eq] at c_38; omega
          · -- ge at 38: no
            show bw_go _ _ _ _ _ _ _ 41 [(4, .int _), (3, .int _), (2, .int _), (1, .int _), (0, .ref _)] ([]) _ _
            refine go_iconst (0) dX8_apart_41 rfl ?_
            refine go_istore dX8_apart_42 (Nat.lt_of_lt_of_le (Nat.lt_succ_self _) (Nat.le_of_ble_eq_true rfl)) ?_
            show bw_go _ _ _ _ _ _ _ 44 [(5, .int _), (4, .int _), (3, .int _), (2, .int _), (1, .int _), (0, .ref _)] ([]) _ _
            rw [← Bool.and_true (prO (nowC S) k i)]
            refine go_for (P := fun j => bw_go X 7 8 6 false (some .int) cX8_apart 44 [(5, .int (nI j)), (4, .int (nI i)), (3, .int (bi (prO (nowC S) k i && prI (nowC S) k i j))), (2, .int (nI k)), (1, .int (mtI (bst (apP S) k))), (0, .ref (60))] [] h Q) (N := i) (fun j hj K => ?_) ?_ (0) (Nat.zero_le _)
            · skip
              have hjn : j < cN (nowC S) := by omega
              show bw_go _ _ _ _ _ _ _ 44 [(5, .int _), (4, .int _), (3, .int _), (2, .int _), (1, .int _), (0, .ref _)] ([]) _ _
              refine go_iload dX8_apart_44 rfl ?_
              refine go_iload dX8_apart_46 rfl ?_
              refine go_icmp_ge (pc' := 96) dX8_apart_48 rfl (fun c_48 => ?_) (fun c_48 => ?_)
              · -- ge at 48: yes
                exfalso; have t_0 := nI_toInt (n := i) (by omega); have t_1 := nI_toInt (n := j) (by omega); simp only [i_le, i_lt, i_eq, bi_eq] at c_48; omega
              · -- ge at 48: no
                show bw_go _ _ _ _ _ _ _ 51 [(5, .int _), (4, .int _), (3, .int _), (2, .int _), (1, .int _), (0, .ref _)] ([]) _ _
                refine go_iload_n dX8_apart_51 rfl ?_
                refine go_ifb_eq (pc' := 88) dX8_apart_52 rfl (fun c_52 => ?_) (fun c_52 => ?_)
                · -- eq at 52: yes
                  show bw_go _ _ _ _ _ _ _ 88 [(5, .int _), (4, .int _), (3, .int _), (2, .int _), (1, .int _), (0, .ref _)] ([]) _ _
                  refine go_iconst (0) dX8_apart_88 rfl ?_
                  refine go_istore_n dX8_apart_89 (Nat.lt_of_lt_of_le (Nat.lt_succ_self _) (Nat.le_of_ble_eq_true rfl)) ?_
                  show bw_go _ _ _ _ _ _ _ 90 [(3, .int _), (5, .int _), (4, .int _), (2, .int _), (1, .int _), (0, .ref _)] ([]) _ _
                  refine go_iinc dX8_apart_90 rfl (nI_1 j) (Nat.lt_of_lt_of_le (Nat.lt_succ_self _) (Nat.le_of_ble_eq_true rfl)) ?_
                  show bw_go _ _ _ _ _ _ _ 93 [(5, .int _), (3, .int _), (4, .int _), (2, .int _), (1, .int _), (0, .ref _)] ([]) _ _
                  refine go_goto (pc' := 44) dX8_apart_93 rfl ?_
                  refine go_ls [(5, .int _), (4, .int _), (3, .int _), (2, .int _), (1, .int _), (0, .ref _)] (by show List.Nodup ([5, 4, 3, 2, 1, 0] : List Nat); decide) (by show List.Nodup ([5, 3, 4, 2, 1, 0] : List Nat); decide) (le_cons rfl (le_cons rfl (le_cons rfl (le_cons rfl (le_cons rfl (le_cons rfl (le_nil _))))))) ?_
                  have e1 : (prO (nowC S) k i && prI (nowC S) k i (j + 1)) = ((prO (nowC S) k i && prI (nowC S) k i j) && (k.testBit i || (k.testBit j || decide (cla (taC (nowC S)) i j = 0)))) := (Bool.and_assoc _ _ _).symm
                  first
                  | (have hb : (prO (nowC S) k i && prI (nowC S) k i (j + 1)) = false := by rw [e1, c_52]; rfl
                     rw [hb] at K; exact K)
                  | (have hb : (prO (nowC S) k i && prI (nowC S) k i (j + 1)) = true := by rw [e1, c_52, c_61]; rfl
                     rw [hb] at K; exact K)
                  | (have hb : (prO (nowC S) k i && prI (nowC S) k i (j + 1)) = true := by rw [e1, c_52, c_61, c_70]; rfl
                     rw [hb] at K; exact K)
                  | (have hb : (prO (nowC S) k i && prI (nowC S) k i (j + 1)) = false := by rw [e1, c_52, c_61, c_70, decide_eq_false (fun z => c_81 (by rw [z]; rfl))]; rfl
                     rw [hb] at K; exact K)
                  | (have hb : (prO (nowC S) k i && prI (nowC S) k i (j + 1)) = true := by rw [e1, c_52, c_61, c_70, decide_eq_true ((nI_eq (b := 0) (by have := cla_lt hkC hi hjn; omega) (by decide)).mp (Decidable.of_not_not c_81))]; rfl
                     rw [hb] at K; exact K)
                · -- eq at 52: no
                  show bw_go _ _ _ _ _ _ _ 55 [(5, .int _), (4, .int _), (3, .int _), (2, .int _), (1, .int _), (0, .ref _)] ([]) _ _
                  refine go_iload_n dX8_apart_55 rfl ?_
                  refine go_iload dX8_apart_56 rfl ?_
                  refine go_cs (as := [.int _, .int _]) 0 dX8_apart_58 rfl rfl mt_8_129 (Nat.le_of_ble_eq_true rfl) rfl rfl (Nat.le_of_ble_eq_true rfl) (Nat.le_of_ble_eq_true rfl) (Nat.le_of_ble_eq_true rfl) (Nat.le_of_ble_eq_true rfl) ?_
                  refine me_X8_has (by omega) (by omega) ?_
                  show bw_go _ _ _ _ _ _ _ 61 [(5, .int _), (4, .int _), (3, .int _), (2, .int _), (1, .int _), (0, .ref _)] ((.int _) :: []) _ _
                  refine go_ifb_ne (pc' := 84) dX8_apart_61 rfl (fun c_61 => ?_) (fun c_61 => ?_)
                  · -- ne at 61: yes
                    show bw_go _ _ _ _ _ _ _ 84 [(5, .int _), (4, .int _), (3, .int _), (2, .int _), (1, .int _), (0, .ref _)] ([]) _ _
                    refine go_iconst (1) dX8_apart_84 rfl ?_
                    refine go_goto (pc' := 89) dX8_apart_85 rfl ?_
                    show bw_go _ _ _ _ _ _ _ 89 [(5, .int _), (4, .int _), (3, .int _), (2, .int _), (1, .int _), (0, .ref _)] ((.int _) :: []) _ _
                    refine go_istore_n dX8_apart_89 (Nat.lt_of_lt_of_le (Nat.lt_succ_self _) (Nat.le_of_ble_eq_true rfl)) ?_
                    show bw_go _ _ _ _ _ _ _ 90 [(3, .int _), (5, .int _), (4, .int _), (2, .int _), (1, .int _), (0, .ref _)] ([]) _ _
                    refine go_iinc dX8_apart_90 rfl (nI_1 j) (Nat.lt_of_lt_of_le (Nat.lt_succ_self _) (Nat.le_of_ble_eq_true rfl)) ?_
                    show bw_go _ _ _ _ _ _ _ 93 [(5, .int _), (3, .int _), (4, .int _), (2, .int _), (1, .int _), (0, .ref _)] ([]) _ _
                    refine go_goto (pc' := 44) dX8_apart_93 rfl ?_
                    refine go_ls [(5, .int _), (4, .int _), (3, .int _), (2, .int _), (1, .int _), (0, .ref _)] (by show List.Nodup ([5, 4, 3, 2, 1, 0] : List Nat); decide) (by show List.Nodup ([5, 3, 4, 2, 1, 0] : List Nat); decide) (le_cons rfl (le_cons rfl (le_cons rfl (le_cons rfl (le_cons rfl (le_cons rfl (le_nil _))))))) ?_
                    have e1 : (prO (nowC S) k i && prI (nowC S) k i (j + 1)) = ((prO (nowC S) k i && prI (nowC S) k i j) && (k.testBit i || (k.testBit j || decide (cla (taC (nowC S)) i j = 0)))) := (Bool.and_assoc _ _ _).symm
                    first
                    | (have hb : (prO (nowC S) k i && prI (nowC S) k i (j + 1)) = false := by rw [e1, c_52]; rfl
                       rw [hb] at K; exact K)
                    | (have hb : (prO (nowC S) k i && prI (nowC S) k i (j + 1)) = true := by rw [e1, c_52, c_61]; rfl
                       rw [hb] at K; exact K)
                    | (have hb : (prO (nowC S) k i && prI (nowC S) k i (j + 1)) = true := by rw [e1, c_52, c_61, c_70]; rfl
                       rw [hb] at K; exact K)
                    | (have hb : (prO (nowC S) k i && prI (nowC S) k i (j + 1)) = false := by rw [e1, c_52, c_61, c_70, decide_eq_false (fun z => c_81 (by rw [z]; rfl))]; rfl
                       rw [hb] at K; exact K)
                    | (have hb : (prO (nowC S) k i && prI (nowC S) k i (j + 1)) = true := by rw [e1, c_52, c_61, c_70, decide_eq_true ((nI_eq (b := 0) (by have := cla_lt hkC hi hjn; omega) (by decide)).mp (Decidable.of_not_not c_81))]; rfl
                       rw [hb] at K; exact K)
                  · -- ne at 61: no
                    show bw_go _ _ _ _ _ _ _ 64 [(5, .int _), (4, .int _), (3, .int _), (2, .int _), (1, .int _), (0, .ref _)] ([]) _ _
                    refine go_iload_n dX8_apart_64 rfl ?_
                    refine go_iload dX8_apart_65 rfl ?_
                    refine go_cs (as := [.int _, .int _]) 0 dX8_apart_67 rfl rfl mt_8_129 (Nat.le_of_ble_eq_true rfl) rfl rfl (Nat.le_of_ble_eq_true rfl) (Nat.le_of_ble_eq_true rfl) (Nat.le_of_ble_eq_true rfl) (Nat.le_of_ble_eq_true rfl) ?_
                    refine me_X8_has (by omega) (by omega) ?_
                    show bw_go _ _ _ _ _ _ _ 70 [(5, .int _), (4, .int _), (3, .int _), (2, .int _), (1, .int _), (0, .ref _)] ((.int _) :: []) _ _
                    refine go_ifb_ne (pc' := 84) dX8_apart_70 rfl (fun c_70 => ?_) (fun c_70 => ?_)
                    · -- ne at 70: yes
                      show bw_go _ _ _ _ _ _ _ 84 [(5, .int _), (4, .int _), (3, .int _), (2, .int _), (1, .int _), (0, .ref _)] ([]) _ _
                      refine go_iconst (1) dX8_apart_84 rfl ?_
                      refine go_goto (pc' := 89) dX8_apart_85 rfl ?_
                      show bw_go _ _ _ _ _ _ _ 89 [(5, .int _), (4, .int _), (3, .int _), (2, .int _), (1, .int _), (0, .ref _)] ((.int _) :: []) _ _
                      refine go_istore_n dX8_apart_89 (Nat.lt_of_lt_of_le (Nat.lt_succ_self _) (Nat.le_of_ble_eq_true rfl)) ?_
                      show bw_go _ _ _ _ _ _ _ 90 [(3, .int _), (5, .int _), (4, .int _), (2, .int _), (1, .int _), (0, .ref _)] ([]) _ _
                      refine go_iinc dX8_apart_90 rfl (nI_1 j) (Nat.lt_of_lt_of_le (Nat.lt_succ_self _) (Nat.le_of_ble_eq_true rfl)) ?_
                      show bw_go _ _ _ _ _ _ _ 93 [(5, .int _), (3, .int _), (4, .int _), (2, .int _), (1, .int _), (0, .ref _)] ([]) _ _
                      refine go_goto (pc' := 44) dX8_apart_93 rfl ?_
                      refine go_ls [(5, .int _), (4, .int _), (3, .int _), (2, .int _), (1, .int _), (0, .ref _)] (by show List.Nodup ([5, 4, 3, 2, 1, 0] : List Nat); decide) (by show List.Nodup ([5, 3, 4, 2, 1, 0] : List Nat); decide) (le_cons rfl (le_cons rfl (le_cons rfl (le_cons rfl (le_cons rfl (le_cons rfl (le_nil _))))))) ?_
                      have e1 : (prO (nowC S) k i && prI (nowC S) k i (j + 1)) = ((prO (nowC S) k i && prI (nowC S) k i j) && (k.testBit i || (k.testBit j || decide (cla (taC (nowC S)) i j = 0)))) := (Bool.and_assoc _ _ _).symm
                      first
                      | (have hb : (prO (nowC S) k i && prI (nowC S) k i (j + 1)) = false := by rw [e1, c_52]; rfl
                         rw [hb] at K; exact K)
                      | (have hb : (prO (nowC S) k i && prI (nowC S) k i (j + 1)) = true := by rw [e1, c_52, c_61]; rfl
                         rw [hb] at K; exact K)
                      | (have hb : (prO (nowC S) k i && prI (nowC S) k i (j + 1)) = true := by rw [e1, c_52, c_61, c_70]; rfl
                         rw [hb] at K; exact K)
                      | (have hb : (prO (nowC S) k i && prI (nowC S) k i (j + 1)) = false := by rw [e1, c_52, c_61, c_70, decide_eq_false (fun z => c_81 (by rw [z]; rfl))]; rfl
                         rw [hb] at K; exact K)
                      | (have hb : (prO (nowC S) k i && prI (nowC S) k i (j + 1)) = true := by rw [e1, c_52, c_61, c_70, decide_eq_true ((nI_eq (b := 0) (by have := cla_lt hkC hi hjn; omega) (by decide)).mp (Decidable.of_not_not c_81))]; rfl
                         rw [hb] at K; exact K)
                    · -- ne at 70: no
                      show bw_go _ _ _ _ _ _ _ 73 [(5, .int _), (4, .int _), (3, .int _), (2, .int _), (1, .int _), (0, .ref _)] ([]) _ _
                      refine go_aload_n dX8_apart_73 rfl ?_
                      refine go_iload dX8_apart_74 rfl ?_
                      refine go_iload dX8_apart_76 rfl ?_
                      refine go_cv (as := [.int _, .int _]) 6 dX8_apart_78 mt_8_211 (Or.inl rfl) rfl rfl (ms_lt hm.1 (by decide)) hm.1.1.2 (Nat.le_of_ble_eq_true rfl) (Nat.le_of_ble_eq_true rfl) (Nat.le_of_ble_eq_true rfl) (Nat.le_of_ble_eq_true rfl) (Nat.le_of_ble_eq_true rfl) ?_
                      refine me_X8_rivalThings hm hi hjn ?_
                      show bw_go _ _ _ _ _ _ _ 81 [(5, .int _), (4, .int _), (3, .int _), (2, .int _), (1, .int _), (0, .ref _)] ((.int _) :: []) _ _
                      refine go_if_ne (pc' := 88) dX8_apart_81 rfl (fun c_81 => ?_) (fun c_81 => ?_)
                      · -- ne at 81: yes
                        show bw_go _ _ _ _ _ _ _ 88 [(5, .int _), (4, .int _), (3, .int _), (2, .int _), (1, .int _), (0, .ref _)] ([]) _ _
                        refine go_iconst (0) dX8_apart_88 rfl ?_
                        refine go_istore_n dX8_apart_89 (Nat.lt_of_lt_of_le (Nat.lt_succ_self _) (Nat.le_of_ble_eq_true rfl)) ?_
                        show bw_go _ _ _ _ _ _ _ 90 [(3, .int _), (5, .int _), (4, .int _), (2, .int _), (1, .int _), (0, .ref _)] ([]) _ _
                        refine go_iinc dX8_apart_90 rfl (nI_1 j) (Nat.lt_of_lt_of_le (Nat.lt_succ_self _) (Nat.le_of_ble_eq_true rfl)) ?_
                        show bw_go _ _ _ _ _ _ _ 93 [(5, .int _), (3, .int _), (4, .int _), (2, .int _), (1, .int _), (0, .ref _)] ([]) _ _
                        refine go_goto (pc' := 44) dX8_apart_93 rfl ?_
                        refine go_ls [(5, .int _), (4, .int _), (3, .int _), (2, .int _), (1, .int _), (0, .ref _)] (by show List.Nodup ([5, 4, 3, 2, 1, 0] : List Nat); decide) (by show List.Nodup ([5, 3, 4, 2, 1, 0] : List Nat); decide) (le_cons rfl (le_cons rfl (le_cons rfl (le_cons rfl (le_cons rfl (le_cons rfl (le_nil _))))))) ?_
                        have e1 : (prO (nowC S) k i && prI (nowC S) k i (j + 1)) = ((prO (nowC S) k i && prI (nowC S) k i j) && (k.testBit i || (k.testBit j || decide (cla (taC (nowC S)) i j = 0)))) := (Bool.and_assoc _ _ _).symm
                        first
                        | (have hb : (prO (nowC S) k i && prI (nowC S) k i (j + 1)) = false := by rw [e1, c_52]; rfl
                           rw [hb] at K; exact K)
                        | (have hb : (prO (nowC S) k i && prI (nowC S) k i (j + 1)) = true := by rw [e1, c_52, c_61]; rfl
                           rw [hb] at K; exact K)
                        | (have hb : (prO (nowC S) k i && prI (nowC S) k i (j + 1)) = true := by rw [e1, c_52, c_61, c_70]; rfl
                           rw [hb] at K; exact K)
                        | (have hb : (prO (nowC S) k i && prI (nowC S) k i (j + 1)) = false := by rw [e1, c_52, c_61, c_70, decide_eq_false (fun z => c_81 (by rw [z]; rfl))]; rfl
                           rw [hb] at K; exact K)
                        | (have hb : (prO (nowC S) k i && prI (nowC S) k i (j + 1)) = true := by rw [e1, c_52, c_61, c_70, decide_eq_true ((nI_eq (b := 0) (by have := cla_lt hkC hi hjn; omega) (by decide)).mp (Decidable.of_not_not c_81))]; rfl
                           rw [hb] at K; exact K)
                      · -- ne at 81: no
                        show bw_go _ _ _ _ _ _ _ 84 [(5, .int _), (4, .int _), (3, .int _), (2, .int _), (1, .int _), (0, .ref _)] ([]) _ _
                        refine go_iconst (1) dX8_apart_84 rfl ?_
                        refine go_goto (pc' := 89) dX8_apart_85 rfl ?_
                        show bw_go _ _ _ _ _ _ _ 89 [(5, .int _), (4, .int _), (3, .int _), (2, .int _), (1, .int _), (0, .ref _)] ((.int _) :: []) _ _
                        refine go_istore_n dX8_apart_89 (Nat.lt_of_lt_of_le (Nat.lt_succ_self _) (Nat.le_of_ble_eq_true rfl)) ?_
                        show bw_go _ _ _ _ _ _ _ 90 [(3, .int _), (5, .int _), (4, .int _), (2, .int _), (1, .int _), (0, .ref _)] ([]) _ _
                        refine go_iinc dX8_apart_90 rfl (nI_1 j) (Nat.lt_of_lt_of_le (Nat.lt_succ_self _) (Nat.le_of_ble_eq_true rfl)) ?_
                        show bw_go _ _ _ _ _ _ _ 93 [(5, .int _), (3, .int _), (4, .int _), (2, .int _), (1, .int _), (0, .ref _)] ([]) _ _
                        refine go_goto (pc' := 44) dX8_apart_93 rfl ?_
                        refine go_ls [(5, .int _), (4, .int _), (3, .int _), (2, .int _), (1, .int _), (0, .ref _)] (by show List.Nodup ([5, 4, 3, 2, 1, 0] : List Nat); decide) (by show List.Nodup ([5, 3, 4, 2, 1, 0] : List Nat); decide) (le_cons rfl (le_cons rfl (le_cons rfl (le_cons rfl (le_cons rfl (le_cons rfl (le_nil _))))))) ?_
                        have e1 : (prO (nowC S) k i && prI (nowC S) k i (j + 1)) = ((prO (nowC S) k i && prI (nowC S) k i j) && (k.testBit i || (k.testBit j || decide (cla (taC (nowC S)) i j = 0)))) := (Bool.and_assoc _ _ _).symm
                        first
                        | (have hb : (prO (nowC S) k i && prI (nowC S) k i (j + 1)) = false := by rw [e1, c_52]; rfl
                           rw [hb] at K; exact K)
                        | (have hb : (prO (nowC S) k i && prI (nowC S) k i (j + 1)) = true := by rw [e1, c_52, c_61]; rfl
                           rw [hb] at K; exact K)
                        | (have hb : (prO (nowC S) k i && prI (nowC S) k i (j + 1)) = true := by rw [e1, c_52, c_61, c_70]; rfl
                           rw [hb] at K; exact K)
                        | (have hb : (prO (nowC S) k i && prI (nowC S) k i (j + 1)) = false := by rw [e1, c_52, c_61, c_70, decide_eq_false (fun z => c_81 (by rw [z]; rfl))]; rfl
                           rw [hb] at K; exact K)
                        | (have hb : (prO (nowC S) k i && prI (nowC S) k i (j + 1)) = true := by rw [e1, c_52, c_61, c_70, decide_eq_true ((nI_eq (b := 0) (by have := cla_lt hkC hi hjn; omega) (by decide)).mp (Decidable.of_not_not c_81))]; rfl
                           rw [hb] at K; exact K)
            · skip
              show bw_go _ _ _ _ _ _ _ 44 [(5, .int _), (4, .int _), (3, .int _), (2, .int _), (1, .int _), (0, .ref _)] ([]) _ _
              refine go_iload dX8_apart_44 rfl ?_
              refine go_iload dX8_apart_46 rfl ?_
              refine go_icmp_ge (pc' := 96) dX8_apart_48 rfl (fun c_48 => ?_) (fun c_48 => ?_)
              · -- ge at 48: yes
                show bw_go _ _ _ _ _ _ _ 96 [(5, .int _), (4, .int _), (3, .int _), (2, .int _), (1, .int _), (0, .ref _)] ([]) _ _
                refine go_iinc dX8_apart_96 rfl (nI_1 i) (Nat.lt_of_lt_of_le (Nat.lt_succ_self _) (Nat.le_of_ble_eq_true rfl)) ?_
                show bw_go _ _ _ _ _ _ _ 99 [(4, .int _), (5, .int _), (3, .int _), (2, .int _), (1, .int _), (0, .ref _)] ([]) _ _
                refine go_goto (pc' := 30) dX8_apart_99 rfl ?_
                refine go_ls [(4, .int _), (3, .int _), (2, .int _), (1, .int _), (0, .ref _)] (by show List.Nodup ([4, 3, 2, 1, 0] : List Nat); decide) (by show List.Nodup ([4, 5, 3, 2, 1, 0] : List Nat); decide) (le_cons rfl (le_cons rfl (le_cons rfl (le_cons rfl (le_cons rfl (le_nil _)))))) ?_
                exact K
              · -- ge at 48: no
                exfalso; have t_0 := nI_toInt (n := i) (by omega); simp only [i_le, i_lt, i_eq, bi_eq] at c_48; omega
        · skip
          show bw_go _ _ _ _ _ _ _ 30 [(4, .int _), (3, .int _), (2, .int _), (1, .int _), (0, .ref _)] ([]) _ _
          refine go_iload dX8_apart_30 rfl ?_
          refine go_aload_n dX8_apart_32 rfl ?_
          refine go_gfr dX8_apart_33 fl_8_7 rfl (ms_lt hm.1 (by decide)) hm.1.1.2 hm.1.2.1.1 ?_
          refine go_iconst (0) dX8_apart_36 rfl ?_
          refine go_ia dX8_apart_37 hm.1.2.2.1 (ms_lt hm.1 (by decide)) (by decide) ?_
          rw [show (0 : Int32).toNatClampNeg = 0 from rfl, hv.1]
          refine go_icmp_ge (pc' := 102) dX8_apart_38 rfl (fun c_38 => ?_) (fun c_38 => ?_)
          · -- ge at 38: yes
            show bw_go _ _ _ _ _ _ _ 102 [(4, .int _), (3, .int _), (2, .int _), (1, .int _), (0, .ref _)] ([]) _ _
            refine go_iload_n dX8_apart_102 rfl ?_
            rw [ap_e hkC]
            refine go_ifb_eq (pc' := 127) dX8_apart_103 rfl (fun c_103 => ?_) (fun c_103 => ?_)
            · -- eq at 103: yes
              show bw_go _ _ _ _ _ _ _ 127 [(4, .int _), (3, .int _), (2, .int _), (1, .int _), (0, .ref _)] ([]) _ _
              refine go_iload_n dX8_apart_127 rfl ?_
              refine go_istore_n dX8_apart_128 (Nat.lt_of_lt_of_le (Nat.lt_succ_self _) (Nat.le_of_ble_eq_true rfl)) ?_
              show bw_go _ _ _ _ _ _ _ 129 [(1, .int _), (4, .int _), (3, .int _), (2, .int _), (0, .ref _)] ([]) _ _
              refine go_iinc dX8_apart_129 rfl (nI_1 k) (Nat.lt_of_lt_of_le (Nat.lt_succ_self _) (Nat.le_of_ble_eq_true rfl)) ?_
              show bw_go _ _ _ _ _ _ _ 132 [(2, .int _), (1, .int _), (4, .int _), (3, .int _), (0, .ref _)] ([]) _ _
              refine go_goto (pc' := 17) dX8_apart_132 rfl ?_
              refine go_ls [(2, .int _), (1, .int _), (0, .ref _)] (by show List.Nodup ([2, 1, 0] : List Nat); decide) (by show List.Nodup ([2, 1, 4, 3, 0] : List Nat); decide) (le_cons rfl (le_cons rfl (le_cons rfl (le_nil _)))) ?_
              have e0 : bst (apP S) (k + 1) = if apP S k = true ∧ fw k (bst (apP S) k) = true then some k else bst (apP S) k := rfl
              first
              | (rw [if_neg (fun z => Bool.noConfusion (c_103.symm.trans z.1))] at e0; rw [e0] at K; exact K)
              | (have hn := (fw_n (P := apP S) (k := k) (by omega)).mp c_109
                 rw [if_pos ⟨c_103, by rw [hn]; rfl⟩] at e0; rw [e0] at K; exact K)
              | (have b1 := bc_lt k
                 have b2 := bc_lt x
                 have t_0 := nI_toInt (n := bc k) (by omega)
                 have t_1 := nI_toInt (n := bc x) (by omega)
                 simp only [i_le] at c_120
                 rw [hx1] at e0
                 first
                 | (rw [if_pos ⟨c_103, decide_eq_true (by omega)⟩] at e0; rw [e0] at K; exact K)
                 | (rw [if_neg (fun z => by have z2 : bc k < bc x := of_decide_eq_true z.2; omega)] at e0; rw [e0] at K; exact K))
            · -- eq at 103: no
              show bw_go _ _ _ _ _ _ _ 106 [(4, .int _), (3, .int _), (2, .int _), (1, .int _), (0, .ref _)] ([]) _ _
              refine go_iload_n dX8_apart_106 rfl ?_
              refine go_bipush (-9) dX8_apart_107 rfl ?_
              refine go_icmp_eq (pc' := 123) dX8_apart_109 rfl (fun c_109 => ?_) (fun c_109 => ?_)
              · -- eq at 109: yes
                show bw_go _ _ _ _ _ _ _ 123 [(4, .int _), (3, .int _), (2, .int _), (1, .int _), (0, .ref _)] ([]) _ _
                refine go_iload_n dX8_apart_123 rfl ?_
                refine go_goto (pc' := 128) dX8_apart_124 rfl ?_
                show bw_go _ _ _ _ _ _ _ 128 [(4, .int _), (3, .int _), (2, .int _), (1, .int _), (0, .ref _)] ((.int _) :: []) _ _
                refine go_istore_n dX8_apart_128 (Nat.lt_of_lt_of_le (Nat.lt_succ_self _) (Nat.le_of_ble_eq_true rfl)) ?_
                show bw_go _ _ _ _ _ _ _ 129 [(1, .int _), (4, .int _), (3, .int _), (2, .int _), (0, .ref _)] ([]) _ _
                refine go_iinc dX8_apart_129 rfl (nI_1 k) (Nat.lt_of_lt_of_le (Nat.lt_succ_self _) (Nat.le_of_ble_eq_true rfl)) ?_
                show bw_go _ _ _ _ _ _ _ 132 [(2, .int _), (1, .int _), (4, .int _), (3, .int _), (0, .ref _)] ([]) _ _
                refine go_goto (pc' := 17) dX8_apart_132 rfl ?_
                refine go_ls [(2, .int _), (1, .int _), (0, .ref _)] (by show List.Nodup ([2, 1, 0] : List Nat); decide) (by show List.Nodup ([2, 1, 4, 3, 0] : List Nat); decide) (le_cons rfl (le_cons rfl (le_cons rfl (le_nil _)))) ?_
                have e0 : bst (apP S) (k + 1) = if apP S k = true ∧ fw k (bst (apP S) k) = true then some k else bst (apP S) k := rfl
                first
                | (rw [if_neg (fun z => Bool.noConfusion (c_103.symm.trans z.1))] at e0; rw [e0] at K; exact K)
                | (have hn := (fw_n (P := apP S) (k := k) (by omega)).mp c_109
                   rw [if_pos ⟨c_103, by rw [hn]; rfl⟩] at e0; rw [e0] at K; exact K)
                | (have b1 := bc_lt k
                   have b2 := bc_lt x
                   have t_0 := nI_toInt (n := bc k) (by omega)
                   have t_1 := nI_toInt (n := bc x) (by omega)
                   simp only [i_le] at c_120
                   rw [hx1] at e0
                   first
                   | (rw [if_pos ⟨c_103, decide_eq_true (by omega)⟩] at e0; rw [e0] at K; exact K)
                   | (rw [if_neg (fun z => by have z2 : bc k < bc x := of_decide_eq_true z.2; omega)] at e0; rw [e0] at K; exact K))
              · -- eq at 109: no
                show bw_go _ _ _ _ _ _ _ 112 [(4, .int _), (3, .int _), (2, .int _), (1, .int _), (0, .ref _)] ([]) _ _
                refine go_iload_n dX8_apart_112 rfl ?_
                refine go_cs (as := [.int _]) 0 dX8_apart_113 rfl rfl mt_8_166 (Nat.le_of_ble_eq_true rfl) rfl rfl (Nat.le_of_ble_eq_true rfl) (Nat.le_of_ble_eq_true rfl) (Nat.le_of_ble_eq_true rfl) (Nat.le_of_ble_eq_true rfl) ?_
                refine me_X8_bits (by omega) ?_
                show bw_go _ _ _ _ _ _ _ 116 [(4, .int _), (3, .int _), (2, .int _), (1, .int _), (0, .ref _)] ((.int _) :: []) _ _
                refine go_iload_n dX8_apart_116 rfl ?_
                refine go_cs (as := [.int _]) 0 dX8_apart_117 rfl rfl mt_8_166 (Nat.le_of_ble_eq_true rfl) rfl rfl (Nat.le_of_ble_eq_true rfl) (Nat.le_of_ble_eq_true rfl) (Nat.le_of_ble_eq_true rfl) (Nat.le_of_ble_eq_true rfl) ?_
                obtain ⟨x, hx1⟩ : ∃ x, bst (apP S) k = some x := by
                  cases e : bst (apP S) k with
                  | none => rw [e] at c_109; exact absurd rfl c_109
                  | some x => exact ⟨x, rfl⟩
                have hxl := bst_lt hx1
                rw [hx1, show mtI (some x) = nI x from rfl]
                refine me_X8_bits (by omega) ?_
                show bw_go _ _ _ _ _ _ _ 120 [(4, .int _), (3, .int _), (2, .int _), (1, .int _), (0, .ref _)] ((.int _) :: (.int _) :: []) _ _
                refine go_icmp_ge (pc' := 127) dX8_apart_120 rfl (fun c_120 => ?_) (fun c_120 => ?_)
                · -- ge at 120: yes
                  show bw_go _ _ _ _ _ _ _ 127 [(4, .int _), (3, .int _), (2, .int _), (1, .int _), (0, .ref _)] ([]) _ _
                  refine go_iload_n dX8_apart_127 rfl ?_
                  refine go_istore_n dX8_apart_128 (Nat.lt_of_lt_of_le (Nat.lt_succ_self _) (Nat.le_of_ble_eq_true rfl)) ?_
                  show bw_go _ _ _ _ _ _ _ 129 [(1, .int _), (4, .int _), (3, .int _), (2, .int _), (0, .ref _)] ([]) _ _
                  refine go_iinc dX8_apart_129 rfl (nI_1 k) (Nat.lt_of_lt_of_le (Nat.lt_succ_self _) (Nat.le_of_ble_eq_true rfl)) ?_
                  show bw_go _ _ _ _ _ _ _ 132 [(2, .int _), (1, .int _), (4, .int _), (3, .int _), (0, .ref _)] ([]) _ _
                  refine go_goto (pc' := 17) dX8_apart_132 rfl ?_
                  refine go_ls [(2, .int _), (1, .int _), (0, .ref _)] (by show List.Nodup ([2, 1, 0] : List Nat); decide) (by show List.Nodup ([2, 1, 4, 3, 0] : List Nat); decide) (le_cons rfl (le_cons rfl (le_cons rfl (le_nil _)))) ?_
                  have e0 : bst (apP S) (k + 1) = if apP S k = true ∧ fw k (bst (apP S) k) = true then some k else bst (apP S) k := rfl
                  first
                  | (rw [if_neg (fun z => Bool.noConfusion (c_103.symm.trans z.1))] at e0; rw [e0] at K; exact K)
                  | (have hn := (fw_n (P := apP S) (k := k) (by omega)).mp c_109
                     rw [if_pos ⟨c_103, by rw [hn]; rfl⟩] at e0; rw [e0] at K; exact K)
                  | (have b1 := bc_lt k
                     have b2 := bc_lt x
                     have t_0 := nI_toInt (n := bc k) (by omega)
                     have t_1 := nI_toInt (n := bc x) (by omega)
                     simp only [i_le] at c_120
                     rw [hx1] at e0
                     first
                     | (rw [if_pos ⟨c_103, decide_eq_true (by omega)⟩] at e0; rw [e0] at K; exact K)
                     | (rw [if_neg (fun z => by have z2 : bc k < bc x := of_decide_eq_true z.2; omega)] at e0; rw [e0] at K; exact K))
                · -- ge at 120: no
                  show bw_go _ _ _ _ _ _ _ 123 [(4, .int _), (3, .int _), (2, .int _), (1, .int _), (0, .ref _)] ([]) _ _
                  refine go_iload_n dX8_apart_123 rfl ?_
                  refine go_goto (pc' := 128) dX8_apart_124 rfl ?_
                  show bw_go _ _ _ _ _ _ _ 128 [(4, .int _), (3, .int _), (2, .int _), (1, .int _), (0, .ref _)] ((.int _) :: []) _ _
                  refine go_istore_n dX8_apart_128 (Nat.lt_of_lt_of_le (Nat.lt_succ_self _) (Nat.le_of_ble_eq_true rfl)) ?_
                  show bw_go _ _ _ _ _ _ _ 129 [(1, .int _), (4, .int _), (3, .int _), (2, .int _), (0, .ref _)] ([]) _ _
                  refine go_iinc dX8_apart_129 rfl (nI_1 k) (Nat.lt_of_lt_of_le (Nat.lt_succ_self _) (Nat.le_of_ble_eq_true rfl)) ?_
                  show bw_go _ _ _ _ _ _ _ 132 [(2, .int _), (1, .int _), (4, .int _), (3, .int _), (0, .ref _)] ([]) _ _
                  refine go_goto (pc' := 17) dX8_apart_132 rfl ?_
                  refine go_ls [(2, .int _), (1, .int _), (0, .ref _)] (by show List.Nodup ([2, 1, 0] : List Nat); decide) (by show List.Nodup ([2, 1, 4, 3, 0] : List Nat); decide) (le_cons rfl (le_cons rfl (le_cons rfl (le_nil _)))) ?_
                  have e0 : bst (apP S) (k + 1) = if apP S k = true ∧ fw k (bst (apP S) k) = true then some k else bst (apP S) k := rfl
                  first
                  | (rw [if_neg (fun z => Bool.noConfusion (c_103.symm.trans z.1))] at e0; rw [e0] at K; exact K)
                  | (have hn := (fw_n (P := apP S) (k := k) (by omega)).mp c_109
                     rw [if_pos ⟨c_103, by rw [hn]; rfl⟩] at e0; rw [e0] at K; exact K)
                  | (have b1 := bc_lt k
                     have b2 := bc_lt x
                     have t_0 := nI_toInt (n := bc k) (by omega)
                     have t_1 := nI_toInt (n := bc x) (by omega)
                     simp only [i_le] at c_120
                     rw [hx1] at e0
                     first
                     | (rw [if_pos ⟨c_103, decide_eq_true (by omega)⟩] at e0; rw [e0] at K; exact K)
                     | (rw [if_neg (fun z => by have z2 : bc k < bc x := of_decide_eq_true z.2; omega)] at e0; rw [e0] at K; exact K))
          · -- ge at 38: no
            exfalso; have t_0 := nI_toInt (n := cN (nowC S)) (by omega); simp only [i_le, i_lt, i_eq, bi_eq] at c_38; omega
    · skip
      show bw_go _ _ _ _ _ _ _ 17 [(2, .int _), (1, .int _), (0, .ref _)] ([]) _ _
      refine go_iload_n dX8_apart_17 rfl ?_
      refine go_aload_n dX8_apart_18 rfl ?_
      refine go_cv (as := []) 0 dX8_apart_19 mt_8_194 (Or.inl rfl) rfl rfl (ms_lt hm.1 (by decide)) hm.1.1.2 (Nat.le_of_ble_eq_true rfl) (Nat.le_of_ble_eq_true rfl) (Nat.le_of_ble_eq_true rfl) (Nat.le_of_ble_eq_true rfl) (Nat.le_of_ble_eq_true rfl) ?_
      refine me_X8_allBears hm ?_
      show bw_go _ _ _ _ _ _ _ 22 [(2, .int _), (1, .int _), (0, .ref _)] ((.int _) :: (.int _) :: []) _ _
      refine go_icmp_gt (pc' := 135) dX8_apart_22 rfl (fun c_22 => ?_) (fun c_22 => ?_)
      · -- gt at 22: yes
        show bw_go _ _ _ _ _ _ _ 135 [(2, .int _), (1, .int _), (0, .ref _)] ([]) _ _
        have hP : apP S (2 ^ cN (nowC S) - 1) = true := by
          show (!riv (taC (nowC S)) ((2 ^ cN (nowC S) - 1) &&& (63 ^^^ (2 ^ cN (nowC S) - 1)))) = true
          rw [ap_last _ k1, riv_0]; rfl
        obtain ⟨x, hx1⟩ : ∃ x, bst (apP S) (2 ^ cN (nowC S)) = some x := by
          cases e : bst (apP S) (2 ^ cN (nowC S)) with
          | none => exact absurd e (bst_s hP (by omega))
          | some x => exact ⟨x, rfl⟩
        have hxl := bst_lt hx1
        rw [hx1, show mtI (some x) = nI x from rfl]
        refine go_aload_n dX8_apart_135 rfl ?_
        refine go_iload_n dX8_apart_136 rfl ?_
        refine go_cv (as := [.int _]) 0 dX8_apart_137 mt_8_87 (Or.inl rfl) rfl rfl (ms_lt hm.1 (by decide)) hm.1.1.2 (Nat.le_of_ble_eq_true rfl) (Nat.le_of_ble_eq_true rfl) (Nat.le_of_ble_eq_true rfl) (Nat.le_of_ble_eq_true rfl) (Nat.le_of_ble_eq_true rfl) ?_
        refine me_X8_asks hm (fun g hg hf => ?_)
        show bw_go _ _ _ _ _ _ _ 140 [(2, .int _), (1, .int _), (0, .ref _)] ((.int _) :: []) _ _
        refine go_istore_n dX8_apart_140 (Nat.lt_of_lt_of_le (Nat.lt_succ_self _) (Nat.le_of_ble_eq_true rfl)) ?_
        show bw_go _ _ _ _ _ _ _ 141 [(2, .int _), (1, .int _), (0, .ref _)] ([]) _ _
        refine go_iload_n dX8_apart_141 rfl ?_
        refine go_cs (as := [.int _]) 0 dX8_apart_142 rfl rfl mt_8_166 (Nat.le_of_ble_eq_true rfl) rfl rfl (Nat.le_of_ble_eq_true rfl) (Nat.le_of_ble_eq_true rfl) (Nat.le_of_ble_eq_true rfl) (Nat.le_of_ble_eq_true rfl) ?_
        refine me_X8_bits (by omega) ?_
        show bw_go _ _ _ _ _ _ _ 145 [(2, .int _), (1, .int _), (0, .ref _)] ((.int _) :: []) _ _
        refine go_iret dX8_apart_145 rfl rfl ?_
        refine q_m hQ ?_ hg hf
        unfold yApart
        rw [if_neg h0, hx1]
      · -- gt at 22: no
        exfalso; have t_0 := nI_toInt (n := 2 ^ cN (nowC S)) (by omega); have t_1 := nI_toInt (n := 2 ^ cN (nowC S) - 1) (by omega); simp only [i_le, i_lt, i_eq, bi_eq] at c_22; omega
  · -- ne at 6: no
    show bw_go _ _ _ _ _ _ _ 9 [(0, .ref _)] ([]) _ _
    refine go_bipush (-4) dX8_apart_9 rfl ?_
    refine go_iret dX8_apart_11 rfl rfl ?_
    refine q_m hQ ?_ hm (frX_r h)
    unfold yApart
    rw [if_pos ((nI_eq (a := cN (nowC S)) (b := 0) (by omega) (by omega)).mp (Decidable.of_not_not c_6))]
