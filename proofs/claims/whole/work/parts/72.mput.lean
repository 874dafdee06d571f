/-! the reference: put, mean, copy -/
theorem byte_v (v : Int32) : v &&& 255 = nI (v.toBitVec.toNat % 256) := pk_and v 8 rfl
theorem byte_t (v : Int32) : v.toInt8.toInt32.toInt = if v.toBitVec.toNat % 256 < 128 then ((v.toBitVec.toNat % 256 : Nat) : Int) else ((v.toBitVec.toNat % 256 : Nat) : Int) - 256 := by
  rw [Int8.toInt_toInt32, Int32.toInt_toInt8]
  have e : v.toInt = if 2 * v.toBitVec.toNat < 2 ^ 32 then (v.toBitVec.toNat : Int) else (v.toBitVec.toNat : Int) - ((2 ^ 32 : Nat) : Int) := BitVec.toInt_eq_toNat_cond v.toBitVec
  have hl : v.toBitVec.toNat < 4294967296 := v.toBitVec.isLt
  generalize v.toBitVec.toNat = z at e hl
  unfold Int.bmod
  simp only
  split at e <;> split <;> split <;> omega
theorem byte_a {v : Int32} (h : ¬ v &&& 255 ≤ 127) : (v &&& 255) - 256 = v.toInt8.toInt32 := by
  apply Int32.toInt_inj.mp
  rw [byte_t]
  have hl : v.toBitVec.toNat % 256 < 256 := Nat.mod_lt _ (by decide)
  rw [byte_v] at h ⊢
  rw [i_le, nI_toInt (by omega), show (127 : Int32).toInt = 127 from rfl] at h
  rw [show (256 : Int32) = nI 256 from rfl, pk_sub_toInt (by omega) (by decide), if_neg (by omega)]
  rfl
theorem byte_b {v : Int32} (h : v &&& 255 ≤ 127) : v &&& 255 = v.toInt8.toInt32 := by
  apply Int32.toInt_inj.mp
  rw [byte_t]
  have hl : v.toBitVec.toNat % 256 < 256 := Nat.mod_lt _ (by decide)
  rw [byte_v] at h ⊢
  rw [i_le, nI_toInt (by omega), show (127 : Int32).toInt = 127 from rfl] at h
  rw [nI_toInt (by omega), if_pos (by omega)]
theorem cpy_0 {α : Type} (f g : Nat → α) (a b : Nat) : va_cpy f g a b 0 = g := by
  funext x
  exact cpy_o (by omega)
theorem cpy_s {f g : Nat → Int32} {a b i : Nat} : bw_up (va_cpy f g a b i) (b + i) (f (a + i)) = va_cpy f g a b (i + 1) := by
  funext x
  by_cases e : x = b + i
  · subst e
    rw [bw_up_s, cpy_i (by omega) (by omega), show a + (b + i - b) = a + i by omega]
  · rw [bw_up_o e]
    by_cases hin : b ≤ x ∧ x < b + i
    · rw [cpy_i hin.1 hin.2, cpy_i (by omega) (by omega)]
    · rw [cpy_o hin, cpy_o (by omega)]
theorem cpy_s0 {f g : Nat → Int32} {a i : Nat} : bw_up (va_cpy f g a 0 i) i (f (a + i)) = va_cpy f g a 0 (i + 1) := by
  have z := cpy_s (f := f) (g := g) (a := a) (b := 0) (i := i)
  rw [Nat.zero_add] at z
  exact z
set_option maxRecDepth 100000 in
set_option maxHeartbeats 4000000 in
theorem me_X8_put {X : Nat × (Nat → Int32)} {Q : Option Value → bw_H → Prop} {h : bw_H} {S : ST} {r i v : Int32} (hm : MR h S) (hQ : PM h Q (yPut r i v S)) : bw_me X 2 bm_X8_put false [.ref 60, .int r, .int i, .int v] h Q := by
  show bw_go _ 2 8 6 false (some .int) cX8_put 0 [(0, .ref _), (1, .int _), (2, .int _), (3, .int _)] [] _ _
  refine go_iload_n dX8_put_0 rfl ?_
  refine go_cs (as := [.int _]) 1 dX8_put_1 rfl rfl mt_8_90 (Nat.le_of_ble_eq_true rfl) rfl rfl (Nat.le_of_ble_eq_true rfl) (Nat.le_of_ble_eq_true rfl) (Nat.le_of_ble_eq_true rfl) (Nat.le_of_ble_eq_true rfl) ?_
  refine me_X8_isText ?_
  show bw_go _ _ _ _ _ _ _ 4 [(0, .ref _), (1, .int _), (2, .int _), (3, .int _)] ((.int _) :: []) _ _
  refine go_ifb_ne (pc' := 9) dX8_put_4 rfl (fun c_4 => ?_) (fun c_4 => ?_)
  · -- ne at 4: yes
    show bw_go _ _ _ _ _ _ _ 9 [(0, .ref _), (1, .int _), (2, .int _), (3, .int _)] ([]) _ _
    obtain ⟨j, hj, rfl⟩ := isn_ex (r := r) (num := 4) c_4 (by decide)
    refine go_aload_n dX8_put_9 rfl ?_
    refine go_gfr dX8_put_10 fl_8_29 rfl (ms_lt hm.1 (by decide)) hm.1.1.2 hm.1.2.1.2.2.2.2.2.2.1 ?_
    refine go_iload_n dX8_put_13 rfl ?_
    refine go_ia dX8_put_14 hm.1.2.2.2.2.2.2.2.2.1 (ms_lt hm.1 (by decide)) (n_in (N := 4) hj (by decide)) ?_
    rw [nI_clamp (by omega), (hm.2.2.2.2.1 j hj).1]
    refine go_if_ge (pc' := 24) dX8_put_15 rfl (fun c_15 => ?_) (fun c_15 => ?_)
    · -- ge at 15: yes
      show bw_go _ _ _ _ _ _ _ 24 [(0, .ref _), (1, .int _), (2, .int _), (3, .int _)] ([]) _ _
      obtain ⟨m, em, hml⟩ := oz_some (hm.2.2.2.2.1 j hj).2.1 (by decide) c_15
      have em2 : bw_i h 67 j = nI m := by rw [(hm.2.2.2.2.1 j hj).1, em]; rfl
      refine go_iload_n dX8_put_24 rfl ?_
      refine go_i2l dX8_put_25 ?_
      refine go_lconst (0) dX8_put_26 rfl ?_
      refine go_aload_n dX8_put_27 rfl ?_
      refine go_gfr dX8_put_28 fl_8_29 rfl (ms_lt hm.1 (by decide)) hm.1.1.2 hm.1.2.1.2.2.2.2.2.2.1 ?_
      refine go_iload_n dX8_put_31 rfl ?_
      refine go_ia dX8_put_32 hm.1.2.2.2.2.2.2.2.2.1 (ms_lt hm.1 (by decide)) (n_in (N := 4) hj (by decide)) ?_
      rw [nI_clamp (by omega), em2]
      refine go_iconst (1) dX8_put_33 rfl ?_
      refine go_isub dX8_put_34 ?_
      refine go_i2l dX8_put_35 ?_
      refine go_cs (as := [.long _, .long _, .long _]) 0 dX8_put_36 rfl rfl mt_8_69 (Nat.le_of_ble_eq_true rfl) rfl rfl (Nat.le_of_ble_eq_true rfl) (Nat.le_of_ble_eq_true rfl) (Nat.le_of_ble_eq_true rfl) (Nat.le_of_ble_eq_true rfl) ?_
      refine me_X8_in ?_
      rw [in_pin (by omega)]
      show bw_go _ _ _ _ _ _ _ 39 [(0, .ref _), (1, .int _), (2, .int _), (3, .int _)] ((.int _) :: []) _ _
      refine go_ifb_ne (pc' := 48) dX8_put_39 rfl (fun c_39 => ?_) (fun c_39 => ?_)
      · -- ne at 39: yes
        show bw_go _ _ _ _ _ _ _ 48 [(0, .ref _), (1, .int _), (2, .int _), (3, .int _)] ([]) _ _
        obtain ⟨b, hb, rfl⟩ := isn_ex (r := i) (num := m) c_39 (by omega)
        refine go_aload_n dX8_put_48 rfl ?_
        refine go_gfr dX8_put_49 fl_8_26 rfl (ms_lt hm.1 (by decide)) hm.1.1.2 hm.1.2.1.2.2.2.2.2.1 ?_
        refine go_bipush (60) dX8_put_52 rfl ?_
        refine go_iload_n dX8_put_54 rfl ?_
        refine go_imul dX8_put_55 ?_
        rw [show (60 : Int32) = nI 60 from rfl, nmul]
        refine go_iload_n dX8_put_56 rfl ?_
        refine go_iadd dX8_put_57 ?_
        rw [nI_add]
        refine go_ia dX8_put_58 hm.1.2.2.2.2.2.2.2.1 (ms_lt hm.1 (by decide)) (n_in (N := 240) (by omega) (by decide)) ?_
        rw [nI_clamp (by omega), (hm.2.2.2.2.1 j hj).2.2 m em b hb]
        refine go_istore dX8_put_59 (Nat.lt_of_lt_of_le (Nat.lt_succ_self _) (Nat.le_of_ble_eq_true rfl)) ?_
        show bw_go _ _ _ _ _ _ _ 61 [(4, .int _), (0, .ref _), (1, .int _), (2, .int _), (3, .int _)] ([]) _ _
        refine go_iload_n dX8_put_61 rfl ?_
        refine go_sipush (255) dX8_put_62 rfl ?_
        refine go_iand dX8_put_65 ?_
        refine go_istore dX8_put_66 (Nat.lt_of_lt_of_le (Nat.lt_succ_self _) (Nat.le_of_ble_eq_true rfl)) ?_
        show bw_go _ _ _ _ _ _ _ 68 [(5, .int _), (4, .int _), (0, .ref _), (1, .int _), (2, .int _), (3, .int _)] ([]) _ _
        refine go_aload_n dX8_put_68 rfl ?_
        refine go_gfr dX8_put_69 fl_8_26 rfl (ms_lt hm.1 (by decide)) hm.1.1.2 hm.1.2.1.2.2.2.2.2.1 ?_
        refine go_bipush (60) dX8_put_72 rfl ?_
        refine go_iload_n dX8_put_74 rfl ?_
        refine go_imul dX8_put_75 ?_
        rw [show (60 : Int32) = nI 60 from rfl, nmul]
        refine go_iload_n dX8_put_76 rfl ?_
        refine go_iadd dX8_put_77 ?_
        rw [nI_add]
        refine go_iload dX8_put_78 rfl ?_
        refine go_bipush (127) dX8_put_80 rfl ?_
        refine go_icmp_le (pc' := 94) dX8_put_82 rfl (fun c_82 => ?_) (fun c_82 => ?_)
        · -- le at 82: yes
          show bw_go _ _ _ _ _ _ _ 94 [(5, .int _), (4, .int _), (0, .ref _), (1, .int _), (2, .int _), (3, .int _)] ((.int _) :: (.ref _) :: []) _ _
          refine go_iload dX8_put_94 rfl ?_
          refine go_ist dX8_put_96 hm.1.2.2.2.2.2.2.2.1 (ms_lt hm.1 (by decide)) (n_in (N := 240) (by omega) (by decide)) ?_
          show bw_go _ _ _ _ _ _ _ 97 [(5, .int _), (4, .int _), (0, .ref _), (1, .int _), (2, .int _), (3, .int _)] ([]) _ _
          rw [nI_clamp (by omega)]
          refine go_iload dX8_put_97 rfl ?_
          refine go_sipush (1000) dX8_put_99 rfl ?_
          refine go_iadd dX8_put_102 ?_
          refine go_iret dX8_put_103 rfl rfl ?_
          first | rw [byte_a c_82] | rw [byte_b c_82]
          have e5 : mis (sT S j) (nI b) = 0 := by rw [mis_s em]; exact if_pos c_39
          refine q_m hQ ?_ (mr_txts hm (frX_si (by decide)) (fun q h1 h2 h3 h4 => i_si_o h3) ?_ (mrow_set (j := j) (k := b) (v := v.toInt8.toInt32) hm.2.2.2.2.1 (by omega) (i_si_o (by decide)) (i_si_s _ _ _ _))) (frX_si (by decide))
          · unfold yPut
            rw [if_pos (show isn (nI j) 4 = true from c_4), rn_n (by omega), if_pos e5, rn_n (by omega)]
          · unfold mFlg; rw [i_si_o (by decide)]; exact hm.2.2.2.2.2.2.1
        · -- le at 82: no
          show bw_go _ _ _ _ _ _ _ 85 [(5, .int _), (4, .int _), (0, .ref _), (1, .int _), (2, .int _), (3, .int _)] ((.int _) :: (.ref _) :: []) _ _
          refine go_iload dX8_put_85 rfl ?_
          refine go_sipush (256) dX8_put_87 rfl ?_
          refine go_isub dX8_put_90 ?_
          refine go_goto (pc' := 96) dX8_put_91 rfl ?_
          show bw_go _ _ _ _ _ _ _ 96 [(5, .int _), (4, .int _), (0, .ref _), (1, .int _), (2, .int _), (3, .int _)] ((.int _) :: (.int _) :: (.ref _) :: []) _ _
          refine go_ist dX8_put_96 hm.1.2.2.2.2.2.2.2.1 (ms_lt hm.1 (by decide)) (n_in (N := 240) (by omega) (by decide)) ?_
          show bw_go _ _ _ _ _ _ _ 97 [(5, .int _), (4, .int _), (0, .ref _), (1, .int _), (2, .int _), (3, .int _)] ([]) _ _
          rw [nI_clamp (by omega)]
          refine go_iload dX8_put_97 rfl ?_
          refine go_sipush (1000) dX8_put_99 rfl ?_
          refine go_iadd dX8_put_102 ?_
          refine go_iret dX8_put_103 rfl rfl ?_
          first | rw [byte_a c_82] | rw [byte_b c_82]
          have e5 : mis (sT S j) (nI b) = 0 := by rw [mis_s em]; exact if_pos c_39
          refine q_m hQ ?_ (mr_txts hm (frX_si (by decide)) (fun q h1 h2 h3 h4 => i_si_o h3) ?_ (mrow_set (j := j) (k := b) (v := v.toInt8.toInt32) hm.2.2.2.2.1 (by omega) (i_si_o (by decide)) (i_si_s _ _ _ _))) (frX_si (by decide))
          · unfold yPut
            rw [if_pos (show isn (nI j) 4 = true from c_4), rn_n (by omega), if_pos e5, rn_n (by omega)]
          · unfold mFlg; rw [i_si_o (by decide)]; exact hm.2.2.2.2.2.2.1
      · -- ne at 39: no
        show bw_go _ _ _ _ _ _ _ 42 [(0, .ref _), (1, .int _), (2, .int _), (3, .int _)] ([]) _ _
        refine go_aload_n dX8_put_42 rfl ?_
        refine go_iconst (2) dX8_put_43 rfl ?_
        refine go_cv (as := [.int _]) 0 dX8_put_44 mt_8_79 (Or.inl rfl) rfl rfl (ms_lt hm.1 (by decide)) hm.1.1.2 (Nat.le_of_ble_eq_true rfl) (Nat.le_of_ble_eq_true rfl) (Nat.le_of_ble_eq_true rfl) (Nat.le_of_ble_eq_true rfl) (Nat.le_of_ble_eq_true rfl) ?_
        rw [show (2 : Int32) = nI 2 from rfl]
        refine me_X8_finds hm (f := 2) (by decide) (fun g hg hf => ?_)
        show bw_go _ _ _ _ _ _ _ 47 [(0, .ref _), (1, .int _), (2, .int _), (3, .int _)] ((.int _) :: []) _ _
        refine go_iret dX8_put_47 rfl rfl ?_
        have e5 : mis (sT S j) i = 2 := by rw [mis_s em]; exact if_neg (by rw [c_39]; decide)
        refine q_m hQ ?_ hg hf
        unfold yPut
        rw [if_pos (show isn (nI j) 4 = true from c_4), rn_n (by omega), if_neg (by rw [e5]; decide), e5]
    · -- ge at 15: no
      show bw_go _ _ _ _ _ _ _ 18 [(0, .ref _), (1, .int _), (2, .int _), (3, .int _)] ([]) _ _
      refine go_aload_n dX8_put_18 rfl ?_
      refine go_iconst (1) dX8_put_19 rfl ?_
      refine go_cv (as := [.int _]) 0 dX8_put_20 mt_8_79 (Or.inl rfl) rfl rfl (ms_lt hm.1 (by decide)) hm.1.1.2 (Nat.le_of_ble_eq_true rfl) (Nat.le_of_ble_eq_true rfl) (Nat.le_of_ble_eq_true rfl) (Nat.le_of_ble_eq_true rfl) (Nat.le_of_ble_eq_true rfl) ?_
      rw [show (1 : Int32) = nI 1 from rfl]
      refine me_X8_finds hm (f := 1) (by decide) (fun g hg hf => ?_)
      show bw_go _ _ _ _ _ _ _ 23 [(0, .ref _), (1, .int _), (2, .int _), (3, .int _)] ((.int _) :: []) _ _
      refine go_iret dX8_put_23 rfl rfl ?_
      refine q_m hQ ?_ hg hf
      unfold yPut
      rw [if_pos (show isn (nI j) 4 = true from c_4), rn_n (by omega), oz_none (hm.2.2.2.2.1 j hj).2.1 (by decide) c_15]
      rfl
  · -- ne at 4: no
    show bw_go _ _ _ _ _ _ _ 7 [(0, .ref _), (1, .int _), (2, .int _), (3, .int _)] ([]) _ _
    refine go_iconst (-1) dX8_put_7 rfl ?_
    refine go_iret dX8_put_8 rfl rfl ?_
    refine q_m hQ ?_ hm (frX_r h)
    unfold yPut
    rw [if_neg (fun z => Bool.noConfusion ((show isn r 4 = false from c_4).symm.trans z))]
set_option maxRecDepth 100000 in
set_option maxHeartbeats 4000000 in
theorem me_X8_mean {X : Nat × (Nat → Int32)} {Q : Option Value → bw_H → Prop} {h : bw_H} {S : ST} {r : Int32} (hm : MR h S) (hQ : PM h Q (yMean r S)) : bw_me X 2 bm_X8_mean false [.ref 60, .int r] h Q := by
  show bw_go _ 2 8 5 false (some .int) cX8_mean 0 [(0, .ref _), (1, .int _)] [] _ _
  refine go_iload_n dX8_mean_0 rfl ?_
  refine go_cs (as := [.int _]) 1 dX8_mean_1 rfl rfl mt_8_75 (Nat.le_of_ble_eq_true rfl) rfl rfl (Nat.le_of_ble_eq_true rfl) (Nat.le_of_ble_eq_true rfl) (Nat.le_of_ble_eq_true rfl) (Nat.le_of_ble_eq_true rfl) ?_
  refine me_X8_isRow ?_
  show bw_go _ _ _ _ _ _ _ 4 [(0, .ref _), (1, .int _)] ((.int _) :: []) _ _
  refine go_ifb_ne (pc' := 9) dX8_mean_4 rfl (fun c_4 => ?_) (fun c_4 => ?_)
  · -- ne at 4: yes
    show bw_go _ _ _ _ _ _ _ 9 [(0, .ref _), (1, .int _)] ([]) _ _
    obtain ⟨j, hj, rfl⟩ := isn_ex (r := r) (num := 6) c_4 (by decide)
    refine go_aload_n dX8_mean_9 rfl ?_
    refine go_gfr dX8_mean_10 fl_8_23 rfl (ms_lt hm.1 (by decide)) hm.1.1.2 hm.1.2.1.2.2.2.2.1 ?_
    refine go_iload_n dX8_mean_13 rfl ?_
    refine go_ia dX8_mean_14 hm.1.2.2.2.2.2.2.1 (ms_lt hm.1 (by decide)) (n_in (N := 6) hj (by decide)) ?_
    rw [nI_clamp (by omega), (hm.2.2.2.1 j hj).1]
    refine go_if_ge (pc' := 24) dX8_mean_15 rfl (fun c_15 => ?_) (fun c_15 => ?_)
    · -- ge at 15: yes
      show bw_go _ _ _ _ _ _ _ 24 [(0, .ref _), (1, .int _)] ([]) _ _
      obtain ⟨m, em, hml⟩ := oz_some (hm.2.2.2.1 j hj).2.1 (by decide) c_15
      have em2 : bw_i h 65 j = nI m := by rw [(hm.2.2.2.1 j hj).1, em]; rfl
      refine go_aload_n dX8_mean_24 rfl ?_
      refine go_gfr dX8_mean_25 fl_8_23 rfl (ms_lt hm.1 (by decide)) hm.1.1.2 hm.1.2.1.2.2.2.2.1 ?_
      refine go_iload_n dX8_mean_28 rfl ?_
      refine go_ia dX8_mean_29 hm.1.2.2.2.2.2.2.1 (ms_lt hm.1 (by decide)) (n_in (N := 6) hj (by decide)) ?_
      rw [nI_clamp (by omega), em2]
      refine go_if_ne (pc' := 39) dX8_mean_30 rfl (fun c_30 => ?_) (fun c_30 => ?_)
      · -- ne at 30: yes
        show bw_go _ _ _ _ _ _ _ 39 [(0, .ref _), (1, .int _)] ([]) _ _
        have hm0 : ¬ m = 0 := fun z => c_30 (by rw [z]; rfl)
        refine go_lconst (0) dX8_mean_39 rfl ?_
        refine go_lstore_n dX8_mean_40 (Nat.lt_of_lt_of_le (Nat.lt_succ_self _) (Nat.le_of_ble_eq_true rfl)) ?_
        show bw_go _ _ _ _ _ _ _ 41 [(2, .long _), (0, .ref _), (1, .int _)] ([]) _ _
        refine go_iconst (0) dX8_mean_41 rfl ?_
        refine go_istore dX8_mean_42 (Nat.lt_of_lt_of_le (Nat.lt_succ_self _) (Nat.le_of_ble_eq_true rfl)) ?_
        show bw_go _ _ _ _ _ _ _ 44 [(4, .int _), (2, .long _), (0, .ref _), (1, .int _)] ([]) _ _
        refine go_for (P := fun k => bw_go X 2 8 5 false (some .int) cX8_mean 44 [(4, .int (nI k)), (2, .long (sml (sRc S j) 0 k)), (0, .ref (60)), (1, .int (nI j))] [] h Q) (N := m) (fun k hk K => ?_) ?_ (0) (Nat.zero_le _)
        · -- a turn
          show bw_go _ _ _ _ _ _ _ 44 [(4, .int _), (2, .long _), (0, .ref _), (1, .int _)] ([]) _ _
          refine go_iload dX8_mean_44 rfl ?_
          refine go_aload_n dX8_mean_46 rfl ?_
          refine go_gfr dX8_mean_47 fl_8_23 rfl (ms_lt hm.1 (by decide)) hm.1.1.2 hm.1.2.1.2.2.2.2.1 ?_
          refine go_iload_n dX8_mean_50 rfl ?_
          refine go_ia dX8_mean_51 hm.1.2.2.2.2.2.2.1 (ms_lt hm.1 (by decide)) (n_in (N := 6) hj (by decide)) ?_
          rw [nI_clamp (by omega), em2]
          refine go_icmp_ge (pc' := 77) dX8_mean_52 rfl (fun c_52 => ?_) (fun c_52 => ?_)
          · -- ge at 52: yes
            exfalso; have t_0 := nI_toInt (n := k) (by omega); have t_1 := nI_toInt (n := m) (by omega); simp only [i_le, i_lt, i_eq, bi_eq] at c_52; omega
          · -- ge at 52: no
            show bw_go _ _ _ _ _ _ _ 55 [(4, .int _), (2, .long _), (0, .ref _), (1, .int _)] ([]) _ _
            refine go_lload_n dX8_mean_55 rfl ?_
            refine go_aload_n dX8_mean_56 rfl ?_
            refine go_gfr dX8_mean_57 fl_8_20 rfl (ms_lt hm.1 (by decide)) hm.1.1.2 hm.1.2.1.2.2.2.1 ?_
            refine go_bipush (40) dX8_mean_60 rfl ?_
            refine go_iload_n dX8_mean_62 rfl ?_
            refine go_imul dX8_mean_63 ?_
            rw [show (40 : Int32) = nI 40 from rfl, nmul]
            refine go_iload dX8_mean_64 rfl ?_
            refine go_iadd dX8_mean_66 ?_
            rw [nI_add]
            refine go_ia dX8_mean_67 hm.1.2.2.2.2.2.1 (ms_lt hm.1 (by decide)) (n_in (N := 240) (by omega) (by decide)) ?_
            rw [nI_clamp (by omega), (hm.2.2.2.1 j hj).2.2 m em k hk]
            refine go_i2l dX8_mean_68 ?_
            refine go_ladd dX8_mean_69 ?_
            refine go_lstore_n dX8_mean_70 (Nat.lt_of_lt_of_le (Nat.lt_succ_self _) (Nat.le_of_ble_eq_true rfl)) ?_
            show bw_go _ _ _ _ _ _ _ 71 [(2, .long _), (4, .int _), (0, .ref _), (1, .int _)] ([]) _ _
            refine go_iinc dX8_mean_71 rfl (nI_1 k) (Nat.lt_of_lt_of_le (Nat.lt_succ_self _) (Nat.le_of_ble_eq_true rfl)) ?_
            show bw_go _ _ _ _ _ _ _ 74 [(4, .int _), (2, .long _), (0, .ref _), (1, .int _)] ([]) _ _
            refine go_goto (pc' := 44) dX8_mean_74 rfl ?_
            rw [show sml (sRc S j) 0 (k + 1) = sml (sRc S j) 0 k + (sRc S j (0 + k)).toInt64 from rfl, Nat.zero_add] at K
            exact K
        · -- behind the last
          show bw_go _ _ _ _ _ _ _ 44 [(4, .int _), (2, .long _), (0, .ref _), (1, .int _)] ([]) _ _
          refine go_iload dX8_mean_44 rfl ?_
          refine go_aload_n dX8_mean_46 rfl ?_
          refine go_gfr dX8_mean_47 fl_8_23 rfl (ms_lt hm.1 (by decide)) hm.1.1.2 hm.1.2.1.2.2.2.2.1 ?_
          refine go_iload_n dX8_mean_50 rfl ?_
          refine go_ia dX8_mean_51 hm.1.2.2.2.2.2.2.1 (ms_lt hm.1 (by decide)) (n_in (N := 6) hj (by decide)) ?_
          rw [nI_clamp (by omega), em2]
          refine go_icmp_ge (pc' := 77) dX8_mean_52 rfl (fun c_52 => ?_) (fun c_52 => ?_)
          · -- ge at 52: yes
            show bw_go _ _ _ _ _ _ _ 77 [(4, .int _), (2, .long _), (0, .ref _), (1, .int _)] ([]) _ _
            refine go_aload_n dX8_mean_77 rfl ?_
            refine go_lload_n dX8_mean_78 rfl ?_
            refine go_aload_n dX8_mean_79 rfl ?_
            refine go_gfr dX8_mean_80 fl_8_23 rfl (ms_lt hm.1 (by decide)) hm.1.1.2 hm.1.2.1.2.2.2.2.1 ?_
            refine go_iload_n dX8_mean_83 rfl ?_
            refine go_ia dX8_mean_84 hm.1.2.2.2.2.2.2.1 (ms_lt hm.1 (by decide)) (n_in (N := 6) hj (by decide)) ?_
            rw [nI_clamp (by omega), em2]
            refine go_i2l dX8_mean_85 ?_
            refine go_ldiv dX8_mean_86 (nI_l0 hm0 (by omega)) ?_
            refine go_l2i dX8_mean_87 ?_
            refine go_cv (as := [.int _]) 0 dX8_mean_88 mt_8_87 (Or.inl rfl) rfl rfl (ms_lt hm.1 (by decide)) hm.1.1.2 (Nat.le_of_ble_eq_true rfl) (Nat.le_of_ble_eq_true rfl) (Nat.le_of_ble_eq_true rfl) (Nat.le_of_ble_eq_true rfl) (Nat.le_of_ble_eq_true rfl) ?_
            refine me_X8_asks hm (fun g hg hf => ?_)
            show bw_go _ _ _ _ _ _ _ 91 [(4, .int _), (2, .long _), (0, .ref _), (1, .int _)] ((.int _) :: []) _ _
            refine go_iret dX8_mean_91 rfl rfl ?_
            refine q_m hQ ?_ hg hf
            unfold yMean
            rw [if_pos (show isn (nI j) 6 = true from c_4), rn_n (by omega), em]
            simp only
            rw [if_neg hm0]
          · -- ge at 52: no
            exfalso; have t_0 := nI_toInt (n := m) (by omega); simp only [i_le, i_lt, i_eq, bi_eq] at c_52; omega
      · -- ne at 30: no
        show bw_go _ _ _ _ _ _ _ 33 [(0, .ref _), (1, .int _)] ([]) _ _
        refine go_aload_n dX8_mean_33 rfl ?_
        refine go_iconst (4) dX8_mean_34 rfl ?_
        refine go_cv (as := [.int _]) 0 dX8_mean_35 mt_8_79 (Or.inl rfl) rfl rfl (ms_lt hm.1 (by decide)) hm.1.1.2 (Nat.le_of_ble_eq_true rfl) (Nat.le_of_ble_eq_true rfl) (Nat.le_of_ble_eq_true rfl) (Nat.le_of_ble_eq_true rfl) (Nat.le_of_ble_eq_true rfl) ?_
        rw [show (4 : Int32) = nI 4 from rfl]
        refine me_X8_finds hm (f := 4) (by decide) (fun g hg hf => ?_)
        show bw_go _ _ _ _ _ _ _ 38 [(0, .ref _), (1, .int _)] ((.int _) :: []) _ _
        refine go_iret dX8_mean_38 rfl rfl ?_
        have hm0 : m = 0 := (nI_eq (b := 0) (by omega) (by omega)).mp (Decidable.of_not_not c_30)
        refine q_m hQ ?_ hg hf
        unfold yMean
        rw [if_pos (show isn (nI j) 6 = true from c_4), rn_n (by omega), em]
        simp only
        rw [if_pos hm0]
    · -- ge at 15: no
      show bw_go _ _ _ _ _ _ _ 18 [(0, .ref _), (1, .int _)] ([]) _ _
      refine go_aload_n dX8_mean_18 rfl ?_
      refine go_iconst (1) dX8_mean_19 rfl ?_
      refine go_cv (as := [.int _]) 0 dX8_mean_20 mt_8_79 (Or.inl rfl) rfl rfl (ms_lt hm.1 (by decide)) hm.1.1.2 (Nat.le_of_ble_eq_true rfl) (Nat.le_of_ble_eq_true rfl) (Nat.le_of_ble_eq_true rfl) (Nat.le_of_ble_eq_true rfl) (Nat.le_of_ble_eq_true rfl) ?_
      rw [show (1 : Int32) = nI 1 from rfl]
      refine me_X8_finds hm (f := 1) (by decide) (fun g hg hf => ?_)
      show bw_go _ _ _ _ _ _ _ 23 [(0, .ref _), (1, .int _)] ((.int _) :: []) _ _
      refine go_iret dX8_mean_23 rfl rfl ?_
      refine q_m hQ ?_ hg hf
      unfold yMean
      rw [if_pos (show isn (nI j) 6 = true from c_4), rn_n (by omega), oz_none (hm.2.2.2.1 j hj).2.1 (by decide) c_15]
  · -- ne at 4: no
    show bw_go _ _ _ _ _ _ _ 7 [(0, .ref _), (1, .int _)] ([]) _ _
    refine go_iconst (-1) dX8_mean_7 rfl ?_
    refine go_iret dX8_mean_8 rfl rfl ?_
    refine q_m hQ ?_ hm (frX_r h)
    unfold yMean
    rw [if_neg (fun z => Bool.noConfusion ((show isn r 6 = false from c_4).symm.trans z))]
set_option maxRecDepth 100000 in
set_option maxHeartbeats 4000000 in
theorem me_X8_copy {X : Nat × (Nat → Int32)} {Q : Option Value → bw_H → Prop} {h : bw_H} {S : ST} {r i q j n : Int32} (hm : MR h S) (hQ : PM h Q (yCopy r i q j n S)) : bw_me X 2 bm_X8_copy false [.ref 60, .int r, .int i, .int q, .int j, .int n] h Q := by
  show bw_go _ 2 8 7 false (some .int) cX8_copy 0 [(0, .ref _), (1, .int _), (2, .int _), (3, .int _), (4, .int _), (5, .int _)] [] _ _
  refine go_iload_n dX8_copy_0 rfl ?_
  refine go_cs (as := [.int _]) 1 dX8_copy_1 rfl rfl mt_8_75 (Nat.le_of_ble_eq_true rfl) rfl rfl (Nat.le_of_ble_eq_true rfl) (Nat.le_of_ble_eq_true rfl) (Nat.le_of_ble_eq_true rfl) (Nat.le_of_ble_eq_true rfl) ?_
  refine me_X8_isRow ?_
  show bw_go _ _ _ _ _ _ _ 4 [(0, .ref _), (1, .int _), (2, .int _), (3, .int _), (4, .int _), (5, .int _)] ((.int _) :: []) _ _
  refine go_ifb_eq (pc' := 14) dX8_copy_4 rfl (fun c_4 => ?_) (fun c_4 => ?_)
  · -- eq at 4: yes
    show bw_go _ _ _ _ _ _ _ 14 [(0, .ref _), (1, .int _), (2, .int _), (3, .int _), (4, .int _), (5, .int _)] ([]) _ _
    refine go_iconst (-1) dX8_copy_14 rfl ?_
    refine go_iret dX8_copy_15 rfl rfl ?_
    refine q_m hQ ?_ hm (frX_r h)
    unfold yCopy
    rw [if_neg (fun z => Bool.noConfusion ((show isn r 6 = false from c_4).symm.trans z.1))]
  · -- eq at 4: no
    show bw_go _ _ _ _ _ _ _ 7 [(0, .ref _), (1, .int _), (2, .int _), (3, .int _), (4, .int _), (5, .int _)] ([]) _ _
    refine go_iload_n dX8_copy_7 rfl ?_
    refine go_cs (as := [.int _]) 1 dX8_copy_8 rfl rfl mt_8_75 (Nat.le_of_ble_eq_true rfl) rfl rfl (Nat.le_of_ble_eq_true rfl) (Nat.le_of_ble_eq_true rfl) (Nat.le_of_ble_eq_true rfl) (Nat.le_of_ble_eq_true rfl) ?_
    refine me_X8_isRow ?_
    show bw_go _ _ _ _ _ _ _ 11 [(0, .ref _), (1, .int _), (2, .int _), (3, .int _), (4, .int _), (5, .int _)] ((.int _) :: []) _ _
    refine go_ifb_ne (pc' := 16) dX8_copy_11 rfl (fun c_11 => ?_) (fun c_11 => ?_)
    · -- ne at 11: yes
      show bw_go _ _ _ _ _ _ _ 16 [(0, .ref _), (1, .int _), (2, .int _), (3, .int _), (4, .int _), (5, .int _)] ([]) _ _
      obtain ⟨a, ha, rfl⟩ := isn_ex (r := r) (num := 6) c_4 (by decide)
      obtain ⟨b, hb, rfl⟩ := isn_ex (r := q) (num := 6) c_11 (by decide)
      refine go_iload dX8_copy_16 rfl ?_
      refine go_if_ge (pc' := 27) dX8_copy_18 rfl (fun c_18 => ?_) (fun c_18 => ?_)
      · -- ge at 18: yes
        show bw_go _ _ _ _ _ _ _ 27 [(0, .ref _), (1, .int _), (2, .int _), (3, .int _), (4, .int _), (5, .int _)] ([]) _ _
        have hn0 : ¬ n.toInt < 0 := by have l_0 := i_0; simp only [i_le] at c_18; omega
        refine go_aload_n dX8_copy_27 rfl ?_
        refine go_gfr dX8_copy_28 fl_8_23 rfl (ms_lt hm.1 (by decide)) hm.1.1.2 hm.1.2.1.2.2.2.2.1 ?_
        refine go_iload_n dX8_copy_31 rfl ?_
        refine go_ia dX8_copy_32 hm.1.2.2.2.2.2.2.1 (ms_lt hm.1 (by decide)) (n_in (N := 6) ha (by decide)) ?_
        rw [nI_clamp (by omega), (hm.2.2.2.1 a ha).1]
        refine go_if_lt (pc' := 45) dX8_copy_33 rfl (fun c_33 => ?_) (fun c_33 => ?_)
        · -- lt at 33: yes
          show bw_go _ _ _ _ _ _ _ 45 [(0, .ref _), (1, .int _), (2, .int _), (3, .int _), (4, .int _), (5, .int _)] ([]) _ _
          refine go_aload_n dX8_copy_45 rfl ?_
          refine go_iconst (1) dX8_copy_46 rfl ?_
          refine go_cv (as := [.int _]) 0 dX8_copy_47 mt_8_79 (Or.inl rfl) rfl rfl (ms_lt hm.1 (by decide)) hm.1.1.2 (Nat.le_of_ble_eq_true rfl) (Nat.le_of_ble_eq_true rfl) (Nat.le_of_ble_eq_true rfl) (Nat.le_of_ble_eq_true rfl) (Nat.le_of_ble_eq_true rfl) ?_
          rw [show (1 : Int32) = nI 1 from rfl]
          refine me_X8_finds hm (f := 1) (by decide) (fun g hg hf => ?_)
          show bw_go _ _ _ _ _ _ _ 50 [(0, .ref _), (1, .int _), (2, .int _), (3, .int _), (4, .int _), (5, .int _)] ((.int _) :: []) _ _
          refine go_iret dX8_copy_50 rfl rfl ?_
          refine q_m hQ ?_ hg hf
          unfold yCopy
          rw [if_pos ⟨show isn (nI a) 6 = true from c_4, show isn (nI b) 6 = true from c_11⟩, if_neg hn0, rn_n (j := a) (by omega), rn_n (j := b) (by omega), if_neg (fun z => ?_)]
          rw [i_lt, i_0] at c_33
          have z2 := (oz_0 (wid := 40) (hm.2.2.2.1 a ha).2.1 (by decide)).mpr z.1
          rw [i_le, i_0] at z2
          omega
        · -- lt at 33: no
          show bw_go _ _ _ _ _ _ _ 36 [(0, .ref _), (1, .int _), (2, .int _), (3, .int _), (4, .int _), (5, .int _)] ([]) _ _
          refine go_aload_n dX8_copy_36 rfl ?_
          refine go_gfr dX8_copy_37 fl_8_23 rfl (ms_lt hm.1 (by decide)) hm.1.1.2 hm.1.2.1.2.2.2.2.1 ?_
          refine go_iload_n dX8_copy_40 rfl ?_
          refine go_ia dX8_copy_41 hm.1.2.2.2.2.2.2.1 (ms_lt hm.1 (by decide)) (n_in (N := 6) hb (by decide)) ?_
          rw [nI_clamp (by omega), (hm.2.2.2.1 b hb).1]
          refine go_if_ge (pc' := 51) dX8_copy_42 rfl (fun c_42 => ?_) (fun c_42 => ?_)
          · -- ge at 42: yes
            show bw_go _ _ _ _ _ _ _ 51 [(0, .ref _), (1, .int _), (2, .int _), (3, .int _), (4, .int _), (5, .int _)] ([]) _ _
            obtain ⟨ma, ea, hma⟩ := oz_some (hm.2.2.2.1 a ha).2.1 (by decide) (by rw [i_le, i_0]; rw [i_lt, i_0] at c_33; omega)
            obtain ⟨mb, eb, hmb⟩ := oz_some (hm.2.2.2.1 b hb).2.1 (by decide) c_42
            have ea2 : bw_i h 65 a = nI ma := by rw [(hm.2.2.2.1 a ha).1, ea]; rfl
            have eb2 : bw_i h 65 b = nI mb := by rw [(hm.2.2.2.1 b hb).1, eb]; rfl
            refine go_iload_n dX8_copy_51 rfl ?_
            refine go_i2l dX8_copy_52 ?_
            refine go_lconst (0) dX8_copy_53 rfl ?_
            refine go_aload_n dX8_copy_54 rfl ?_
            refine go_gfr dX8_copy_55 fl_8_23 rfl (ms_lt hm.1 (by decide)) hm.1.1.2 hm.1.2.1.2.2.2.2.1 ?_
            refine go_iload_n dX8_copy_58 rfl ?_
            refine go_ia dX8_copy_59 hm.1.2.2.2.2.2.2.1 (ms_lt hm.1 (by decide)) (n_in (N := 6) ha (by decide)) ?_
            rw [nI_clamp (by omega), ea2]
            refine go_i2l dX8_copy_60 ?_
            refine go_iload dX8_copy_61 rfl ?_
            refine go_i2l dX8_copy_63 ?_
            refine go_lsub dX8_copy_64 ?_
            refine go_cs (as := [.long _, .long _, .long _]) 0 dX8_copy_65 rfl rfl mt_8_69 (Nat.le_of_ble_eq_true rfl) rfl rfl (Nat.le_of_ble_eq_true rfl) (Nat.le_of_ble_eq_true rfl) (Nat.le_of_ble_eq_true rfl) (Nat.le_of_ble_eq_true rfl) ?_
            refine me_X8_in ?_
            rw [in_spn (by omega) hn0]
            show bw_go _ _ _ _ _ _ _ 68 [(0, .ref _), (1, .int _), (2, .int _), (3, .int _), (4, .int _), (5, .int _)] ((.int _) :: []) _ _
            refine go_ifb_eq (pc' := 92) dX8_copy_68 rfl (fun c_68 => ?_) (fun c_68 => ?_)
            · -- eq at 68: yes
              show bw_go _ _ _ _ _ _ _ 92 [(0, .ref _), (1, .int _), (2, .int _), (3, .int _), (4, .int _), (5, .int _)] ([]) _ _
              refine go_aload_n dX8_copy_92 rfl ?_
              refine go_iconst (2) dX8_copy_93 rfl ?_
              refine go_cv (as := [.int _]) 0 dX8_copy_94 mt_8_79 (Or.inl rfl) rfl rfl (ms_lt hm.1 (by decide)) hm.1.1.2 (Nat.le_of_ble_eq_true rfl) (Nat.le_of_ble_eq_true rfl) (Nat.le_of_ble_eq_true rfl) (Nat.le_of_ble_eq_true rfl) (Nat.le_of_ble_eq_true rfl) ?_
              rw [show (2 : Int32) = nI 2 from rfl]
              refine me_X8_finds hm (f := 2) (by decide) (fun g hg hf => ?_)
              show bw_go _ _ _ _ _ _ _ 97 [(0, .ref _), (1, .int _), (2, .int _), (3, .int _), (4, .int _), (5, .int _)] ((.int _) :: []) _ _
              refine go_iret dX8_copy_97 rfl rfl ?_
              refine q_m hQ ?_ hg hf
              unfold yCopy
              rw [if_pos ⟨show isn (nI a) 6 = true from c_4, show isn (nI b) 6 = true from c_11⟩, if_neg hn0, rn_n (j := a) (by omega), rn_n (j := b) (by omega), if_pos ⟨by rw [ea]; rfl, by rw [eb]; rfl⟩, ea, eb, if_neg (fun z => Bool.noConfusion (c_68.symm.trans z.1))]
            · -- eq at 68: no
              show bw_go _ _ _ _ _ _ _ 71 [(0, .ref _), (1, .int _), (2, .int _), (3, .int _), (4, .int _), (5, .int _)] ([]) _ _
              refine go_iload dX8_copy_71 rfl ?_
              refine go_i2l dX8_copy_73 ?_
              refine go_lconst (0) dX8_copy_74 rfl ?_
              refine go_aload_n dX8_copy_75 rfl ?_
              refine go_gfr dX8_copy_76 fl_8_23 rfl (ms_lt hm.1 (by decide)) hm.1.1.2 hm.1.2.1.2.2.2.2.1 ?_
              refine go_iload_n dX8_copy_79 rfl ?_
              refine go_ia dX8_copy_80 hm.1.2.2.2.2.2.2.1 (ms_lt hm.1 (by decide)) (n_in (N := 6) hb (by decide)) ?_
              rw [nI_clamp (by omega), eb2]
              refine go_i2l dX8_copy_81 ?_
              refine go_iload dX8_copy_82 rfl ?_
              refine go_i2l dX8_copy_84 ?_
              refine go_lsub dX8_copy_85 ?_
              refine go_cs (as := [.long _, .long _, .long _]) 0 dX8_copy_86 rfl rfl mt_8_69 (Nat.le_of_ble_eq_true rfl) rfl rfl (Nat.le_of_ble_eq_true rfl) (Nat.le_of_ble_eq_true rfl) (Nat.le_of_ble_eq_true rfl) (Nat.le_of_ble_eq_true rfl) ?_
              refine me_X8_in ?_
              rw [in_spn (by omega) hn0]
              show bw_go _ _ _ _ _ _ _ 89 [(0, .ref _), (1, .int _), (2, .int _), (3, .int _), (4, .int _), (5, .int _)] ((.int _) :: []) _ _
              refine go_ifb_ne (pc' := 98) dX8_copy_89 rfl (fun c_89 => ?_) (fun c_89 => ?_)
              · -- ne at 89: yes
                show bw_go _ _ _ _ _ _ _ 98 [(0, .ref _), (1, .int _), (2, .int _), (3, .int _), (4, .int _), (5, .int _)] ([]) _ _
                obtain ⟨x1, z1, m1, rfl, rfl, e1, f1, f2⟩ := spn_ex (s := sR S a) (by rw [ea]; exact c_68) (hm.2.2.2.1 _ ha).2.1 (by decide)
                obtain ⟨x2, z2, m2, rfl, e3, e2, f3, f4⟩ := spn_ex (s := sR S b) (by rw [eb]; exact c_89) (hm.2.2.2.1 _ hb).2.1 (by decide)
                have e4 : z1 = z2 := (nI_eq (by omega) (by omega)).mp e3
                subst e4
                refine go_iconst (0) dX8_copy_98 rfl ?_
                refine go_istore dX8_copy_99 (Nat.lt_of_lt_of_le (Nat.lt_succ_self _) (Nat.le_of_ble_eq_true rfl)) ?_
                show bw_go _ _ _ _ _ _ _ 101 [(6, .int _), (0, .ref _), (1, .int _), (2, .int _), (3, .int _), (4, .int _), (5, .int _)] ([]) _ _
                have eh0 : h = (bw_sa h 69 (va_cpy (sRc S a) (bw_i h 69) x1 0 0)) := by rw [cpy_0]; exact (sa_id _ _).symm
                rw [eh0]
                refine go_for (P := fun k => bw_go X 2 8 7 false (some .int) cX8_copy 101 [(6, .int (nI k)), (0, .ref (60)), (1, .int (nI a)), (2, .int (nI x1)), (3, .int (nI b)), (4, .int (nI x2)), (5, .int (nI z1))] [] (bw_sa h 69 (va_cpy (sRc S a) (bw_i h 69) x1 0 k)) Q) (N := z1) (fun k hk K => ?_) ?_ (0) (Nat.zero_le _)
                · -- a turn
                  show bw_go _ _ _ _ _ _ _ 101 [(6, .int _), (0, .ref _), (1, .int _), (2, .int _), (3, .int _), (4, .int _), (5, .int _)] ([]) _ _
                  refine go_iload dX8_copy_101 rfl ?_
                  refine go_iload dX8_copy_103 rfl ?_
                  refine go_icmp_ge (pc' := 135) dX8_copy_105 rfl (fun c_105 => ?_) (fun c_105 => ?_)
                  · -- ge at 105: yes
                    exfalso; have t_0 := nI_toInt (n := k) (by omega); have t_1 := nI_toInt (n := z1) (by omega); simp only [i_le, i_lt, i_eq, bi_eq] at c_105; omega
                  · -- ge at 105: no
                    show bw_go _ _ _ _ _ _ _ 108 [(6, .int _), (0, .ref _), (1, .int _), (2, .int _), (3, .int _), (4, .int _), (5, .int _)] ([]) _ _
                    refine go_aload_n dX8_copy_108 rfl ?_
                    refine go_gfr dX8_copy_109 fl_8_39 rfl (ms_lt hm.1 (by decide)) hm.1.1.2 hm.1.2.1.2.2.2.2.2.2.2.2.1 ?_
                    refine go_iload dX8_copy_112 rfl ?_
                    refine go_aload_n dX8_copy_114 rfl ?_
                    refine go_gfr dX8_copy_115 fl_8_20 rfl (ms_lt hm.1 (by decide)) hm.1.1.2 hm.1.2.1.2.2.2.1 ?_
                    refine go_bipush (40) dX8_copy_118 rfl ?_
                    refine go_iload_n dX8_copy_120 rfl ?_
                    refine go_imul dX8_copy_121 ?_
                    rw [show (40 : Int32) = nI 40 from rfl, nmul]
                    refine go_iload_n dX8_copy_122 rfl ?_
                    refine go_iadd dX8_copy_123 ?_
                    rw [nI_add]
                    refine go_iload dX8_copy_124 rfl ?_
                    refine go_iadd dX8_copy_126 ?_
                    rw [nI_add]
                    refine go_ia dX8_copy_127 hm.1.2.2.2.2.2.1 (ms_lt hm.1 (by decide)) (n_in (N := 240) (by omega) (by decide)) ?_
                    rw [nI_clamp (by omega), i_sa_o (by decide), show 40 * a + x1 + k = 40 * a + (x1 + k) from Nat.add_assoc _ _ _, (hm.2.2.2.1 a ha).2.2 m1 e1 (x1 + k) (by omega)]
                    refine go_ist dX8_copy_128 hm.1.2.2.2.2.2.2.2.2.2.2.1 (ms_lt hm.1 (by decide)) (n_in (N := 40) (by omega) (by decide)) ?_
                    show bw_go _ _ _ _ _ _ _ 129 [(6, .int _), (0, .ref _), (1, .int _), (2, .int _), (3, .int _), (4, .int _), (5, .int _)] ([]) _ _
                    rw [nI_clamp (by omega), si_sa, i_sa_s, sa_sa, cpy_s0]
                    refine go_iinc dX8_copy_129 rfl (nI_1 k) (Nat.lt_of_lt_of_le (Nat.lt_succ_self _) (Nat.le_of_ble_eq_true rfl)) ?_
                    show bw_go _ _ _ _ _ _ _ 132 [(6, .int _), (0, .ref _), (1, .int _), (2, .int _), (3, .int _), (4, .int _), (5, .int _)] ([]) _ _
                    refine go_goto (pc' := 101) dX8_copy_132 rfl ?_
                    exact K
                · -- behind the last
                  show bw_go _ _ _ _ _ _ _ 101 [(6, .int _), (0, .ref _), (1, .int _), (2, .int _), (3, .int _), (4, .int _), (5, .int _)] ([]) _ _
                  refine go_iload dX8_copy_101 rfl ?_
                  refine go_iload dX8_copy_103 rfl ?_
                  refine go_icmp_ge (pc' := 135) dX8_copy_105 rfl (fun c_105 => ?_) (fun c_105 => ?_)
                  · -- ge at 105: yes
                    show bw_go _ _ _ _ _ _ _ 135 [(6, .int _), (0, .ref _), (1, .int _), (2, .int _), (3, .int _), (4, .int _), (5, .int _)] ([]) _ _
                    refine go_iconst (0) dX8_copy_135 rfl ?_
                    refine go_istore dX8_copy_136 (Nat.lt_of_lt_of_le (Nat.lt_succ_self _) (Nat.le_of_ble_eq_true rfl)) ?_
                    show bw_go _ _ _ _ _ _ _ 138 [(6, .int _), (0, .ref _), (1, .int _), (2, .int _), (3, .int _), (4, .int _), (5, .int _)] ([]) _ _
                    rw [show (bw_sa h 69 (va_cpy (sRc S a) (bw_i h 69) x1 0 z1)) = (bw_sa (bw_sa h 69 (va_cpy (sRc S a) (bw_i h 69) x1 0 z1)) 64 (va_cpy (sRc S a) (bw_i h 64) x1 (40 * b + x2) 0)) from by rw [cpy_0, ← i_sa_o (h := h) (p := 64) (q := 69) (F := (va_cpy (sRc S a) (bw_i h 69) x1 0 z1)) (by decide)]; exact (sa_id _ _).symm]
                    refine go_for (P := fun k => bw_go X 2 8 7 false (some .int) cX8_copy 138 [(6, .int (nI k)), (0, .ref (60)), (1, .int (nI a)), (2, .int (nI x1)), (3, .int (nI b)), (4, .int (nI x2)), (5, .int (nI z1))] [] (bw_sa (bw_sa h 69 (va_cpy (sRc S a) (bw_i h 69) x1 0 z1)) 64 (va_cpy (sRc S a) (bw_i h 64) x1 (40 * b + x2) k)) Q) (N := z1) (fun k hk K => ?_) ?_ (0) (Nat.zero_le _)
                    · -- a turn
                      show bw_go _ _ _ _ _ _ _ 138 [(6, .int _), (0, .ref _), (1, .int _), (2, .int _), (3, .int _), (4, .int _), (5, .int _)] ([]) _ _
                      refine go_iload dX8_copy_138 rfl ?_
                      refine go_iload dX8_copy_140 rfl ?_
                      refine go_icmp_ge (pc' := 173) dX8_copy_142 rfl (fun c_142 => ?_) (fun c_142 => ?_)
                      · -- ge at 142: yes
                        exfalso; have t_0 := nI_toInt (n := k) (by omega); have t_1 := nI_toInt (n := z1) (by omega); simp only [i_le, i_lt, i_eq, bi_eq] at c_142; omega
                      · -- ge at 142: no
                        show bw_go _ _ _ _ _ _ _ 145 [(6, .int _), (0, .ref _), (1, .int _), (2, .int _), (3, .int _), (4, .int _), (5, .int _)] ([]) _ _
                        refine go_aload_n dX8_copy_145 rfl ?_
                        refine go_gfr dX8_copy_146 fl_8_20 rfl (ms_lt hm.1 (by decide)) hm.1.1.2 hm.1.2.1.2.2.2.1 ?_
                        refine go_bipush (40) dX8_copy_149 rfl ?_
                        refine go_iload_n dX8_copy_151 rfl ?_
                        refine go_imul dX8_copy_152 ?_
                        rw [show (40 : Int32) = nI 40 from rfl, nmul]
                        refine go_iload dX8_copy_153 rfl ?_
                        refine go_iadd dX8_copy_155 ?_
                        rw [nI_add]
                        refine go_iload dX8_copy_156 rfl ?_
                        refine go_iadd dX8_copy_158 ?_
                        rw [nI_add]
                        refine go_aload_n dX8_copy_159 rfl ?_
                        refine go_gfr dX8_copy_160 fl_8_39 rfl (ms_lt hm.1 (by decide)) hm.1.1.2 hm.1.2.1.2.2.2.2.2.2.2.2.1 ?_
                        refine go_iload dX8_copy_163 rfl ?_
                        refine go_ia dX8_copy_165 hm.1.2.2.2.2.2.2.2.2.2.2.1 (ms_lt hm.1 (by decide)) (n_in (N := 40) (by omega) (by decide)) ?_
                        rw [nI_clamp (by omega), i_sa_o (by decide), i_sa_s, cpy_i (by omega) (by omega), show x1 + (k - 0) = x1 + k by omega]
                        refine go_ist dX8_copy_166 hm.1.2.2.2.2.2.1 (ms_lt hm.1 (by decide)) (n_in (N := 240) (by omega) (by decide)) ?_
                        show bw_go _ _ _ _ _ _ _ 167 [(6, .int _), (0, .ref _), (1, .int _), (2, .int _), (3, .int _), (4, .int _), (5, .int _)] ([]) _ _
                        rw [nI_clamp (by omega), si_sa, i_sa_s, sa_sa, cpy_s]
                        refine go_iinc dX8_copy_167 rfl (nI_1 k) (Nat.lt_of_lt_of_le (Nat.lt_succ_self _) (Nat.le_of_ble_eq_true rfl)) ?_
                        show bw_go _ _ _ _ _ _ _ 170 [(6, .int _), (0, .ref _), (1, .int _), (2, .int _), (3, .int _), (4, .int _), (5, .int _)] ([]) _ _
                        refine go_goto (pc' := 138) dX8_copy_170 rfl ?_
                        exact K
                    · -- behind the last
                      show bw_go _ _ _ _ _ _ _ 138 [(6, .int _), (0, .ref _), (1, .int _), (2, .int _), (3, .int _), (4, .int _), (5, .int _)] ([]) _ _
                      refine go_iload dX8_copy_138 rfl ?_
                      refine go_iload dX8_copy_140 rfl ?_
                      refine go_icmp_ge (pc' := 173) dX8_copy_142 rfl (fun c_142 => ?_) (fun c_142 => ?_)
                      · -- ge at 142: yes
                        show bw_go _ _ _ _ _ _ _ 173 [(6, .int _), (0, .ref _), (1, .int _), (2, .int _), (3, .int _), (4, .int _), (5, .int _)] ([]) _ _
                        refine go_iconst (1) dX8_copy_173 rfl ?_
                        refine go_iret dX8_copy_174 rfl rfl ?_
                        refine q_m hQ ?_ (mr_rows hm (frX_t (frX_sa (by decide)) (frX_sa (by decide))) (fun q h1 h2 h3 h4 => ?_) ?_ (mrow_cpy (j := a) (r2 := b) (a := x1) (b := x2) (n := z1) hm.2.2.2.1 ha (by omega) ?_ ?_)) (frX_t (frX_sa (by decide)) (frX_sa (by decide)))
                        · unfold yCopy
                          have t_0 := nI_toInt (n := z1) (by omega)
                          rw [if_pos ⟨show isn (nI a) 6 = true from c_4, show isn (nI b) 6 = true from c_11⟩, if_neg (by omega), rn_n (j := a) (by omega), rn_n (j := b) (by omega), if_pos ⟨by rw [ea]; rfl, by rw [eb]; rfl⟩, if_pos ⟨by rw [ea]; exact c_68, by rw [eb]; exact c_89⟩, rn_n (by omega), rn_n (by omega), rn_n (by omega)]
                        · rw [i_sa_o (by omega), i_sa_o (by omega)]
                        · unfold mFlg; rw [i_sa_o (by decide), i_sa_o (by decide)]; exact hm.2.2.2.2.2.2.1
                        · rw [i_sa_o (by decide), i_sa_o (by decide)]
                        · rw [i_sa_s]
                      · -- ge at 142: no
                        exfalso; have t_0 := nI_toInt (n := z1) (by omega); simp only [i_le, i_lt, i_eq, bi_eq] at c_142; omega
                  · -- ge at 105: no
                    exfalso; have t_0 := nI_toInt (n := z1) (by omega); simp only [i_le, i_lt, i_eq, bi_eq] at c_105; omega
              · -- ne at 89: no
                show bw_go _ _ _ _ _ _ _ 92 [(0, .ref _), (1, .int _), (2, .int _), (3, .int _), (4, .int _), (5, .int _)] ([]) _ _
                refine go_aload_n dX8_copy_92 rfl ?_
                refine go_iconst (2) dX8_copy_93 rfl ?_
                refine go_cv (as := [.int _]) 0 dX8_copy_94 mt_8_79 (Or.inl rfl) rfl rfl (ms_lt hm.1 (by decide)) hm.1.1.2 (Nat.le_of_ble_eq_true rfl) (Nat.le_of_ble_eq_true rfl) (Nat.le_of_ble_eq_true rfl) (Nat.le_of_ble_eq_true rfl) (Nat.le_of_ble_eq_true rfl) ?_
                rw [show (2 : Int32) = nI 2 from rfl]
                refine me_X8_finds hm (f := 2) (by decide) (fun g hg hf => ?_)
                show bw_go _ _ _ _ _ _ _ 97 [(0, .ref _), (1, .int _), (2, .int _), (3, .int _), (4, .int _), (5, .int _)] ((.int _) :: []) _ _
                refine go_iret dX8_copy_97 rfl rfl ?_
                refine q_m hQ ?_ hg hf
                unfold yCopy
                rw [if_pos ⟨show isn (nI a) 6 = true from c_4, show isn (nI b) 6 = true from c_11⟩, if_neg hn0, rn_n (j := a) (by omega), rn_n (j := b) (by omega), if_pos ⟨by rw [ea]; rfl, by rw [eb]; rfl⟩, ea, eb, if_neg (fun z => Bool.noConfusion (c_89.symm.trans z.2))]
          · -- ge at 42: no
            show bw_go _ _ _ _ _ _ _ 45 [(0, .ref _), (1, .int _), (2, .int _), (3, .int _), (4, .int _), (5, .int _)] ([]) _ _
            refine go_aload_n dX8_copy_45 rfl ?_
            refine go_iconst (1) dX8_copy_46 rfl ?_
            refine go_cv (as := [.int _]) 0 dX8_copy_47 mt_8_79 (Or.inl rfl) rfl rfl (ms_lt hm.1 (by decide)) hm.1.1.2 (Nat.le_of_ble_eq_true rfl) (Nat.le_of_ble_eq_true rfl) (Nat.le_of_ble_eq_true rfl) (Nat.le_of_ble_eq_true rfl) (Nat.le_of_ble_eq_true rfl) ?_
            rw [show (1 : Int32) = nI 1 from rfl]
            refine me_X8_finds hm (f := 1) (by decide) (fun g hg hf => ?_)
            show bw_go _ _ _ _ _ _ _ 50 [(0, .ref _), (1, .int _), (2, .int _), (3, .int _), (4, .int _), (5, .int _)] ((.int _) :: []) _ _
            refine go_iret dX8_copy_50 rfl rfl ?_
            refine q_m hQ ?_ hg hf
            unfold yCopy
            rw [if_pos ⟨show isn (nI a) 6 = true from c_4, show isn (nI b) 6 = true from c_11⟩, if_neg hn0, rn_n (j := a) (by omega), rn_n (j := b) (by omega), if_neg (fun z => ?_)]
            exact c_42 ((oz_0 (wid := 40) (hm.2.2.2.1 b hb).2.1 (by decide)).mpr z.2)
      · -- ge at 18: no
        show bw_go _ _ _ _ _ _ _ 21 [(0, .ref _), (1, .int _), (2, .int _), (3, .int _), (4, .int _), (5, .int _)] ([]) _ _
        refine go_aload_n dX8_copy_21 rfl ?_
        refine go_iconst (5) dX8_copy_22 rfl ?_
        refine go_cv (as := [.int _]) 0 dX8_copy_23 mt_8_79 (Or.inl rfl) rfl rfl (ms_lt hm.1 (by decide)) hm.1.1.2 (Nat.le_of_ble_eq_true rfl) (Nat.le_of_ble_eq_true rfl) (Nat.le_of_ble_eq_true rfl) (Nat.le_of_ble_eq_true rfl) (Nat.le_of_ble_eq_true rfl) ?_
        rw [show (5 : Int32) = nI 5 from rfl]
        refine me_X8_finds hm (f := 5) (by decide) (fun g hg hf => ?_)
        show bw_go _ _ _ _ _ _ _ 26 [(0, .ref _), (1, .int _), (2, .int _), (3, .int _), (4, .int _), (5, .int _)] ((.int _) :: []) _ _
        refine go_iret dX8_copy_26 rfl rfl ?_
        refine q_m hQ ?_ hg hf
        unfold yCopy
        have l_0 := i_0
        simp only [i_le] at c_18
        rw [if_pos ⟨show isn (nI a) 6 = true from c_4, show isn (nI b) 6 = true from c_11⟩, if_pos (by omega)]
    · -- ne at 11: no
      show bw_go _ _ _ _ _ _ _ 14 [(0, .ref _), (1, .int _), (2, .int _), (3, .int _), (4, .int _), (5, .int _)] ([]) _ _
      refine go_iconst (-1) dX8_copy_14 rfl ?_
      refine go_iret dX8_copy_15 rfl rfl ?_
      refine q_m hQ ?_ hm (frX_r h)
      unfold yCopy
      rw [if_neg (fun z => Bool.noConfusion ((show isn q 6 = false from c_11).symm.trans z.2))]
