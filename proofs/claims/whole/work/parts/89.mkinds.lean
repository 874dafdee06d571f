/-! the reference: kinds by looks; what to ask next -/
theorem sya_3 (k e w v t dn : Nat) : sya k e w v t dn = -9 ∨ sya k e w v t dn = 0 ∨ sya k e w v t dn = 1 := by
  unfold sya
  by_cases h1 : (see k w v e).testBit t = true
  · rw [if_pos h1]
    by_cases h2 : k = 4
    · rw [if_pos h2]; exact Or.inr (Or.inr rfl)
    · rw [if_neg h2]
      cases dn.testBit t with
      | true =>
        by_cases h3 : (k = 3 ∨ k = 5) ∧ 5 ≤ w
        · rw [if_pos h3]; exact Or.inr (Or.inl rfl)
        · rw [if_neg h3]; exact Or.inr (Or.inr rfl)
      | false =>
        by_cases h3 : (k = 3 ∨ k = 5) ∧ 5 ≤ w
        · rw [if_pos h3]; exact Or.inr (Or.inr rfl)
        · rw [if_neg h3]; exact Or.inr (Or.inl rfl)
  · rw [if_neg h1]; exact Or.inl rfl
theorem tl_3 {p : Bool} {x : Int32} (h : x = -9 ∨ x = 0 ∨ x = 1) : (if p = true then -9 else x) = -9 ∨ (if p = true then -9 else x) = 0 ∨ (if p = true then -9 else x) = 1 := by
  cases p with
  | true => exact Or.inl rfl
  | false => exact h
set_option maxRecDepth 100000 in
set_option maxHeartbeats 4000000 in
theorem me_X8_kinds {X : Nat × (Nat → Int32)} {Q : Option Value → bw_H → Prop} {h : bw_H} {S : ST} {i r : Int32} (hm : MR h S) (hQ : PM h Q (yKinds i r S)) : bw_me X 3 bm_X8_kinds false [.ref 60, .int i, .int r] h Q := by
  have hv := mr_v hm
  have hk := mr_k hm
  have k1 := hk.1
  have hkC := hk
  have h2N := p2N k1
  have hp0 : 0 < 2 ^ cN (nowC S) := Nat.two_pow_pos _
  show bw_go _ 3 8 10 false (some .int) cX8_kinds 0 [(0, .ref _), (1, .int _), (2, .int _)] [] _ _
  refine go_aload_n dX8_kinds_0 rfl ?_
  refine go_iload_n dX8_kinds_1 rfl ?_
  refine go_cv (as := [.int _]) 1 dX8_kinds_2 mt_8_157 (Or.inl rfl) rfl rfl (ms_lt hm.1 (by decide)) hm.1.1.2 (Nat.le_of_ble_eq_true rfl) (Nat.le_of_ble_eq_true rfl) (Nat.le_of_ble_eq_true rfl) (Nat.le_of_ble_eq_true rfl) (Nat.le_of_ble_eq_true rfl) ?_
  refine me_X8_isBear hm ?_
  show bw_go _ _ _ _ _ _ _ 5 [(0, .ref _), (1, .int _), (2, .int _)] ((.int _) :: []) _ _
  refine go_ifb_eq (pc' := 15) dX8_kinds_5 rfl (fun c_5 => ?_) (fun c_5 => ?_)
  · -- eq at 5: yes
    show bw_go _ _ _ _ _ _ _ 15 [(0, .ref _), (1, .int _), (2, .int _)] ([]) _ _
    refine go_iconst (-1) dX8_kinds_15 rfl ?_
    refine go_iret dX8_kinds_16 rfl rfl ?_
    refine q_m hQ ?_ hm (frX_r h)
    unfold yKinds
    first
    | (have c5 : isn i (cN (nowC S)) = false := c_5
       rw [if_neg (fun z => Bool.noConfusion (c5.symm.trans z))])
    | (have c5 : isn i (cN (nowC S)) = true := c_5
       have c12 : isn r 6 = false := c_12
       have e1 : yRL r S = (-1, S) := by unfold yRL; rw [if_neg (fun z => Bool.noConfusion (c12.symm.trans z))]
       rw [if_pos c5, e1, if_neg (show ¬ (((-1 : Int32), S) : Int32 × ST).1 = 0 from (by decide : ¬ (-1 : Int32) = 0))])
  · -- eq at 5: no
    show bw_go _ _ _ _ _ _ _ 8 [(0, .ref _), (1, .int _), (2, .int _)] ([]) _ _
    refine go_iload_n dX8_kinds_8 rfl ?_
    refine go_cs (as := [.int _]) 1 dX8_kinds_9 rfl rfl mt_8_75 (Nat.le_of_ble_eq_true rfl) rfl rfl (Nat.le_of_ble_eq_true rfl) (Nat.le_of_ble_eq_true rfl) (Nat.le_of_ble_eq_true rfl) (Nat.le_of_ble_eq_true rfl) ?_
    refine me_X8_isRow ?_
    show bw_go _ _ _ _ _ _ _ 12 [(0, .ref _), (1, .int _), (2, .int _)] ((.int _) :: []) _ _
    refine go_ifb_ne (pc' := 17) dX8_kinds_12 rfl (fun c_12 => ?_) (fun c_12 => ?_)
    · -- ne at 12: yes
      show bw_go _ _ _ _ _ _ _ 17 [(0, .ref _), (1, .int _), (2, .int _)] ([]) _ _
      obtain ⟨a, ha0, rfl⟩ := isn_ex (r := i) (num := cN (nowC S)) c_5 (by omega)
      obtain ⟨j, hj, rfl⟩ := isn_ex (r := r) (num := 6) c_12 (by decide)
      have e9 : yRL (nI j) S = yRP (nI j) S := by
        unfold yRL yRP
        rw [if_pos (show isn (nI j) 6 = true from c_12), if_neg (by omega)]
      refine go_aload_n dX8_kinds_17 rfl ?_
      refine go_iload_n dX8_kinds_18 rfl ?_
      refine go_cv (as := [.int _]) 2 dX8_kinds_19 mt_8_219 (Or.inl rfl) rfl rfl (ms_lt hm.1 (by decide)) hm.1.1.2 (Nat.le_of_ble_eq_true rfl) (Nat.le_of_ble_eq_true rfl) (Nat.le_of_ble_eq_true rfl) (Nat.le_of_ble_eq_true rfl) (Nat.le_of_ble_eq_true rfl) ?_
      refine me_X8_refusesPairs hm hj (fun g hg hf => ?_)
      have hm00 := hm
      have hm := hg
      show bw_go _ _ _ _ _ _ _ 22 [(0, .ref _), (1, .int _), (2, .int _)] ((.int _) :: []) _ _
      refine go_istore_n dX8_kinds_22 (Nat.lt_of_lt_of_le (Nat.lt_succ_self _) (Nat.le_of_ble_eq_true rfl)) ?_
      show bw_go _ _ _ _ _ _ _ 23 [(3, .int _), (0, .ref _), (1, .int _), (2, .int _)] ([]) _ _
      refine go_iload_n dX8_kinds_23 rfl ?_
      refine go_if_eq (pc' := 29) dX8_kinds_24 rfl (fun c_24 => ?_) (fun c_24 => ?_)
      · -- eq at 24: yes
        show bw_go _ _ _ _ _ _ _ 29 [(3, .int _), (0, .ref _), (1, .int _), (2, .int _)] ([]) _ _
        have e0 : yRP (nI j) S = (0, S) := by
          unfold yRP at c_24 ⊢
          split at c_24
          · rename_i z; rw [if_pos z]
          · exact absurd (show (-3 : Int32) = 0 from c_24) (by decide)
        rw [e0] at hg
        obtain ⟨j2, m, ej, hl, hpos, e2⟩ := yRL_0 k1 (show (yRL (nI j) S).1 = 0 from by rw [e9]; exact c_24)
        have ejj : j = j2 := (nI_eq (by omega) (by have := hl.1; omega)).mp ej
        subst ejj
        have hm : MR g S := hg
        have hv := mr_v hm
        have hkC := mr_k hm
        have k2 := hkC.2.2.2.2 a ha0
        obtain ⟨hj, em, hm2, hm16, hl5⟩ := hl
        have hl : lkf S j m := ⟨hj, em, hm2, hm16, hl5⟩
        have em2 : bw_i g 65 j = nI m := by rw [(hm.2.2.2.1 j hj).1, em]; rfl
        refine go_iconst (0) dX8_kinds_29 rfl ?_
        refine go_istore dX8_kinds_30 (Nat.lt_of_lt_of_le (Nat.lt_succ_self _) (Nat.le_of_ble_eq_true rfl)) ?_
        show bw_go _ _ _ _ _ _ _ 32 [(4, .int _), (3, .int _), (0, .ref _), (1, .int _), (2, .int _)] ([]) _ _
        refine go_iconst (0) dX8_kinds_32 rfl ?_
        refine go_istore dX8_kinds_33 (Nat.lt_of_lt_of_le (Nat.lt_succ_self _) (Nat.le_of_ble_eq_true rfl)) ?_
        show bw_go _ _ _ _ _ _ _ 35 [(5, .int _), (4, .int _), (3, .int _), (0, .ref _), (1, .int _), (2, .int _)] ([]) _ _
        refine go_ls [(5, .int _), (4, .int _), (0, .ref _), (1, .int _), (2, .int _), (3, .int _)] (by show List.Nodup ([5, 4, 0, 1, 2, 3] : List Nat); decide) (by show List.Nodup ([5, 4, 3, 0, 1, 2] : List Nat); decide) (le_cons rfl (le_cons rfl (le_cons rfl (le_cons rfl (le_cons rfl (le_cons rfl (le_nil _))))))) ?_
        refine go_for (P := fun k => bw_go X 3 8 10 false (some .int) cX8_kinds 35 [(5, .int (nI k)), (4, .int (nI (orf (fun k => if fkk (nowC S) (rdA (sRc S j) 0 m) a k (m / 2) = true then 2 ^ k else 0) k))), (0, .ref (60)), (1, .int (nI a)), (2, .int (nI j)), (3, .int ((yRP (nI j) S).1))] [] g Q) (N := 6) (fun k hk K => ?_) ?_ (0) (Nat.zero_le _)
        · skip
          have hk6 : k < 6 := hk
          show bw_go _ _ _ _ _ _ _ 35 [(5, .int _), (4, .int _), (0, .ref _), (1, .int _), (2, .int _), (3, .int _)] ([]) _ _
          refine go_iload dX8_kinds_35 rfl ?_
          refine go_bipush (6) dX8_kinds_37 rfl ?_
          refine go_icmp_ge (pc' := 222) dX8_kinds_39 rfl (fun c_39 => ?_) (fun c_39 => ?_)
          · -- ge at 39: yes
            exfalso; have t_0 := nI_toInt (n := k) (by omega); have l_0 : (6 : Int32).toInt = 6 := rfl; simp only [i_le, i_lt, i_eq, bi_eq] at c_39; omega
          · -- ge at 39: no
            show bw_go _ _ _ _ _ _ _ 42 [(5, .int _), (4, .int _), (0, .ref _), (1, .int _), (2, .int _), (3, .int _)] ([]) _ _
            refine go_iconst (1) dX8_kinds_42 rfl ?_
            refine go_istore dX8_kinds_43 (Nat.lt_of_lt_of_le (Nat.lt_succ_self _) (Nat.le_of_ble_eq_true rfl)) ?_
            show bw_go _ _ _ _ _ _ _ 45 [(6, .int _), (5, .int _), (4, .int _), (0, .ref _), (1, .int _), (2, .int _), (3, .int _)] ([]) _ _
            refine go_iconst (0) dX8_kinds_45 rfl ?_
            refine go_istore dX8_kinds_46 (Nat.lt_of_lt_of_le (Nat.lt_succ_self _) (Nat.le_of_ble_eq_true rfl)) ?_
            show bw_go _ _ _ _ _ _ _ 48 [(7, .int _), (6, .int _), (5, .int _), (4, .int _), (0, .ref _), (1, .int _), (2, .int _), (3, .int _)] ([]) _ _
            refine go_for (P := fun q => bw_go X 3 8 10 false (some .int) cX8_kinds 48 [(7, .int (nI (2 * q))), (6, .int (bi (fkk (nowC S) (rdA (sRc S j) 0 m) a k q))), (5, .int (nI k)), (4, .int (nI (orf (fun k => if fkk (nowC S) (rdA (sRc S j) 0 m) a k (m / 2) = true then 2 ^ k else 0) k))), (0, .ref (60)), (1, .int (nI a)), (2, .int (nI j)), (3, .int ((yRP (nI j) S).1))] [] g Q) (N := m / 2) (fun q hq K => ?_) ?_ (0) (Nat.zero_le _)
            · skip
              obtain ⟨b, v, eb, ev, f1, f2, f3, b1, b2, b3, b4⟩ := lk_at hl hq
              show bw_go _ _ _ _ _ _ _ 48 [(7, .int _), (6, .int _), (5, .int _), (4, .int _), (0, .ref _), (1, .int _), (2, .int _), (3, .int _)] ([]) _ _
              refine go_iload dX8_kinds_48 rfl ?_
              refine go_iconst (1) dX8_kinds_50 rfl ?_
              refine go_iadd dX8_kinds_51 ?_
              rw [nI_1]
              refine go_aload_n dX8_kinds_52 rfl ?_
              refine go_gfr dX8_kinds_53 fl_8_23 rfl (ms_lt hm.1 (by decide)) hm.1.1.2 hm.1.2.1.2.2.2.2.1 ?_
              refine go_iload_n dX8_kinds_56 rfl ?_
              refine go_ia dX8_kinds_57 hm.1.2.2.2.2.2.2.1 (ms_lt hm.1 (by decide)) (n_in (N := 6) hj (by decide)) ?_
              rw [nI_clamp (by omega), em2]
              refine go_icmp_ge (pc' := 198) dX8_kinds_58 rfl (fun c_58 => ?_) (fun c_58 => ?_)
              · -- ge at 58: yes
                exfalso; have t_0 := nI_toInt (n := 2 * q + 1) (by omega); have t_1 := nI_toInt (n := m) (by omega); simp only [i_le, i_lt, i_eq, bi_eq] at c_58; omega
              · -- ge at 58: no
                show bw_go _ _ _ _ _ _ _ 61 [(7, .int _), (6, .int _), (5, .int _), (4, .int _), (0, .ref _), (1, .int _), (2, .int _), (3, .int _)] ([]) _ _
                refine go_aload_n dX8_kinds_61 rfl ?_
                refine go_gfr dX8_kinds_62 fl_8_20 rfl (ms_lt hm.1 (by decide)) hm.1.1.2 hm.1.2.1.2.2.2.1 ?_
                refine go_bipush (40) dX8_kinds_65 rfl ?_
                refine go_iload_n dX8_kinds_67 rfl ?_
                refine go_imul dX8_kinds_68 ?_
                rw [show (40 : Int32) = nI 40 from rfl, nmul]
                refine go_iload dX8_kinds_69 rfl ?_
                refine go_iadd dX8_kinds_71 ?_
                rw [nI_add]
                refine go_ia dX8_kinds_72 hm.1.2.2.2.2.2.1 (ms_lt hm.1 (by decide)) (n_in (N := 240) (by omega) (by decide)) ?_
                rw [nI_clamp (by omega), (hm.2.2.2.1 j hj).2.2 m em (2 * q) (by omega), eb]
                refine go_bipush (8) dX8_kinds_73 rfl ?_
                rw [show (8 : Int32) = nI 8 from rfl]
                refine go_irem dX8_kinds_75 (by decide) ?_
                rw [nI_rem (by omega) (by decide) (by decide)]
                refine go_istore dX8_kinds_76 (Nat.lt_of_lt_of_le (Nat.lt_succ_self _) (Nat.le_of_ble_eq_true rfl)) ?_
                show bw_go _ _ _ _ _ _ _ 78 [(8, .int _), (7, .int _), (6, .int _), (5, .int _), (4, .int _), (0, .ref _), (1, .int _), (2, .int _), (3, .int _)] ([]) _ _
                refine go_aload_n dX8_kinds_78 rfl ?_
                refine go_gfr dX8_kinds_79 fl_8_7 rfl (ms_lt hm.1 (by decide)) hm.1.1.2 hm.1.2.1.1 ?_
                refine go_bipush (79) dX8_kinds_82 rfl ?_
                refine go_ia dX8_kinds_84 hm.1.2.2.1 (ms_lt hm.1 (by decide)) (by decide) ?_
                rw [show (79 : Int32).toNatClampNeg = 79 from rfl, hv.2.2.1]
                refine go_iload_n dX8_kinds_85 rfl ?_
                refine go_cs (as := [.int _, .int _]) 0 dX8_kinds_86 rfl rfl mt_8_129 (Nat.le_of_ble_eq_true rfl) rfl rfl (Nat.le_of_ble_eq_true rfl) (Nat.le_of_ble_eq_true rfl) (Nat.le_of_ble_eq_true rfl) (Nat.le_of_ble_eq_true rfl) ?_
                refine me_X8_has hkC.2.2.1 (by omega) ?_
                show bw_go _ _ _ _ _ _ _ 89 [(8, .int _), (7, .int _), (6, .int _), (5, .int _), (4, .int _), (0, .ref _), (1, .int _), (2, .int _), (3, .int _)] ((.int _) :: []) _ _
                refine go_ifb_eq (pc' := 97) dX8_kinds_89 rfl (fun c_89 => ?_) (fun c_89 => ?_)
                · -- eq at 89: yes
                  show bw_go _ _ _ _ _ _ _ 97 [(8, .int _), (7, .int _), (6, .int _), (5, .int _), (4, .int _), (0, .ref _), (1, .int _), (2, .int _), (3, .int _)] ([]) _ _
                  refine go_iload dX8_kinds_97 rfl ?_
                  refine go_aload_n dX8_kinds_99 rfl ?_
                  refine go_gfr dX8_kinds_100 fl_8_7 rfl (ms_lt hm.1 (by decide)) hm.1.1.2 hm.1.2.1.1 ?_
                  refine go_bipush (67) dX8_kinds_103 rfl ?_
                  refine go_iload_n dX8_kinds_105 rfl ?_
                  refine go_iadd dX8_kinds_106 ?_
                  rw [show (67 : Int32) = nI 67 from rfl, nI_add]
                  refine go_ia dX8_kinds_107 hm.1.2.2.1 (ms_lt hm.1 (by decide)) (n_in (N := 80) (by omega) (by decide)) ?_
                  rw [nI_clamp (by omega), (hv.2.2.2 a ha0).2.1]
                  refine go_aload_n dX8_kinds_108 rfl ?_
                  refine go_gfr dX8_kinds_109 fl_8_7 rfl (ms_lt hm.1 (by decide)) hm.1.1.2 hm.1.2.1.1 ?_
                  refine go_bipush (73) dX8_kinds_112 rfl ?_
                  refine go_iload_n dX8_kinds_114 rfl ?_
                  refine go_iadd dX8_kinds_115 ?_
                  rw [show (73 : Int32) = nI 73 from rfl, nI_add]
                  refine go_ia dX8_kinds_116 hm.1.2.2.1 (ms_lt hm.1 (by decide)) (n_in (N := 80) (by omega) (by decide)) ?_
                  rw [nI_clamp (by omega), (hv.2.2.2 a ha0).2.2.1]
                  refine go_aload_n dX8_kinds_117 rfl ?_
                  refine go_gfr dX8_kinds_118 fl_8_7 rfl (ms_lt hm.1 (by decide)) hm.1.1.2 hm.1.2.1.1 ?_
                  refine go_bipush (20) dX8_kinds_121 rfl ?_
                  refine go_iload_n dX8_kinds_123 rfl ?_
                  refine go_iadd dX8_kinds_124 ?_
                  rw [show (20 : Int32) = nI 20 from rfl, nI_add]
                  refine go_ia dX8_kinds_125 hm.1.2.2.1 (ms_lt hm.1 (by decide)) (n_in (N := 80) (by omega) (by decide)) ?_
                  rw [nI_clamp (by omega), (hv.2.2.2 a ha0).2.2.2]
                  refine go_iload dX8_kinds_126 rfl ?_
                  refine go_aload_n dX8_kinds_128 rfl ?_
                  refine go_gfr dX8_kinds_129 fl_8_7 rfl (ms_lt hm.1 (by decide)) hm.1.1.2 hm.1.2.1.1 ?_
                  refine go_iconst (1) dX8_kinds_132 rfl ?_
                  refine go_ia dX8_kinds_133 hm.1.2.2.1 (ms_lt hm.1 (by decide)) (by decide) ?_
                  rw [show (1 : Int32).toNatClampNeg = 1 from rfl, hv.2.1]
                  refine go_cs (as := [.int _, .int _, .int _, .int _, .int _, .int _]) 2 dX8_kinds_134 rfl rfl mt_8_136 (Nat.le_of_ble_eq_true rfl) rfl rfl (Nat.le_of_ble_eq_true rfl) (Nat.le_of_ble_eq_true rfl) (Nat.le_of_ble_eq_true rfl) (Nat.le_of_ble_eq_true rfl) ?_
                  refine me_X8_tellsAs hk6 k2.2.1 k2.2.2.1 k2.2.2.2 b2 hkC.2.1 ?_
                  show bw_go _ _ _ _ _ _ _ 137 [(8, .int _), (7, .int _), (6, .int _), (5, .int _), (4, .int _), (0, .ref _), (1, .int _), (2, .int _), (3, .int _)] ((.int _) :: []) _ _
                  first | rw [show (-9 : Int32) = (if (cW (nowC S)).testBit a = true then (-9 : Int32) else sya k (cE (nowC S) a) (cR (nowC S) a) (cV (nowC S) a) (b % 8) (cD (nowC S))) from (if_pos c_89).symm] | rw [show sya k (cE (nowC S) a) (cR (nowC S) a) (cV (nowC S) a) (b % 8) (cD (nowC S)) = (if (cW (nowC S)).testBit a = true then (-9 : Int32) else sya k (cE (nowC S) a) (cR (nowC S) a) (cV (nowC S) a) (b % 8) (cD (nowC S))) from (if_neg (fun z => Bool.noConfusion (c_89.symm.trans z))).symm]
                  refine go_istore dX8_kinds_137 (Nat.lt_of_lt_of_le (Nat.lt_succ_self _) (Nat.le_of_ble_eq_true rfl)) ?_
                  show bw_go _ _ _ _ _ _ _ 139 [(9, .int _), (8, .int _), (7, .int _), (6, .int _), (5, .int _), (4, .int _), (0, .ref _), (1, .int _), (2, .int _), (3, .int _)] ([]) _ _
                  refine go_iload dX8_kinds_139 rfl ?_
                  refine go_ifb_eq (pc' := 189) dX8_kinds_141 rfl (fun c_141 => ?_) (fun c_141 => ?_)
                  · -- eq at 141: yes
                    show bw_go _ _ _ _ _ _ _ 189 [(9, .int _), (8, .int _), (7, .int _), (6, .int _), (5, .int _), (4, .int _), (0, .ref _), (1, .int _), (2, .int _), (3, .int _)] ([]) _ _
                    refine go_iconst (0) dX8_kinds_189 rfl ?_
                    refine go_istore dX8_kinds_190 (Nat.lt_of_lt_of_le (Nat.lt_succ_self _) (Nat.le_of_ble_eq_true rfl)) ?_
                    show bw_go _ _ _ _ _ _ _ 192 [(6, .int _), (9, .int _), (8, .int _), (7, .int _), (5, .int _), (4, .int _), (0, .ref _), (1, .int _), (2, .int _), (3, .int _)] ([]) _ _
                    refine go_iinc dX8_kinds_192 rfl (show nI (2 * q) + Int32.ofInt 2 = nI (2 * (q + 1)) from nI_add _ 2) (Nat.lt_of_lt_of_le (Nat.lt_succ_self _) (Nat.le_of_ble_eq_true rfl)) ?_
                    show bw_go _ _ _ _ _ _ _ 195 [(7, .int _), (6, .int _), (9, .int _), (8, .int _), (5, .int _), (4, .int _), (0, .ref _), (1, .int _), (2, .int _), (3, .int _)] ([]) _ _
                    refine go_goto (pc' := 48) dX8_kinds_195 rfl ?_
                    refine go_ls [(7, .int _), (6, .int _), (5, .int _), (4, .int _), (0, .ref _), (1, .int _), (2, .int _), (3, .int _)] (by show List.Nodup ([7, 6, 5, 4, 0, 1, 2, 3] : List Nat); decide) (by show List.Nodup ([7, 6, 9, 8, 5, 4, 0, 1, 2, 3] : List Nat); decide) (le_cons rfl (le_cons rfl (le_cons rfl (le_cons rfl (le_cons rfl (le_cons rfl (le_cons rfl (le_cons rfl (le_nil _))))))))) ?_
                    have e0 : fkk (nowC S) (rdA (sRc S j) 0 m) a k (q + 1) = (fkk (nowC S) (rdA (sRc S j) 0 m) a k q && (decide ((rdA (sRc S j) 0 m).2.1 q ≠ a) || fit (nowC S) (rdA (sRc S j) 0 m) q k (cD (nowC S)))) := rfl
                    have hne : (nI (b / 8) = nI a) ↔ b / 8 = a := nI_eq (by omega) (by omega)
                    have ef : b / 8 = a → fit (nowC S) (rdA (sRc S j) 0 m) q k (cD (nowC S)) = decide ((if (cW (nowC S)).testBit a = true then (-9 : Int32) else sya k (cE (nowC S) a) (cR (nowC S) a) (cV (nowC S) a) (b % 8) (cD (nowC S))) = tvI v) := fun z => by unfold fit; rw [f1, f2, f3, z, ans_sya b2]
                    have h3 := tl_3 (p := (cW (nowC S)).testBit a) (sya_3 k (cE (nowC S) a) (cR (nowC S) a) (cV (nowC S) a) (b % 8) (cD (nowC S)))
                    have hpt := pr_tv (v := v) b4 h3
                    first
                    | (have hb : fkk (nowC S) (rdA (sRc S j) 0 m) a k (q + 1) = false := by rw [e0, c_141]; rfl
                       rw [hb] at K; exact K)
                    | (have hb : fkk (nowC S) (rdA (sRc S j) 0 m) a k (q + 1) = true := by rw [e0, c_141, f1, decide_eq_true (show b / 8 ≠ a from fun z => c_160 (hne.mpr z))]; rfl
                       rw [hb] at K; exact K)
                    | (have z1 : b / 8 = a := hne.mp (Decidable.of_not_not c_160)
                       have hb : fkk (nowC S) (rdA (sRc S j) 0 m) a k (q + 1) = false := by rw [e0, c_141, f1, decide_eq_false (show ¬ (b / 8 ≠ a) from fun z => z z1), ef z1, decide_eq_false (fun z => c_182 (hpt.mpr z))]; rfl
                       rw [hb] at K; exact K)
                    | (have z1 : b / 8 = a := hne.mp (Decidable.of_not_not c_160)
                       have hb : fkk (nowC S) (rdA (sRc S j) 0 m) a k (q + 1) = true := by rw [e0, c_141, f1, decide_eq_false (show ¬ (b / 8 ≠ a) from fun z => z z1), ef z1, decide_eq_true (hpt.mp (Decidable.of_not_not c_182))]; rfl
                       rw [hb] at K; exact K)
                  · -- eq at 141: no
                    show bw_go _ _ _ _ _ _ _ 144 [(9, .int _), (8, .int _), (7, .int _), (6, .int _), (5, .int _), (4, .int _), (0, .ref _), (1, .int _), (2, .int _), (3, .int _)] ([]) _ _
                    refine go_aload_n dX8_kinds_144 rfl ?_
                    refine go_gfr dX8_kinds_145 fl_8_20 rfl (ms_lt hm.1 (by decide)) hm.1.1.2 hm.1.2.1.2.2.2.1 ?_
                    refine go_bipush (40) dX8_kinds_148 rfl ?_
                    refine go_iload_n dX8_kinds_150 rfl ?_
                    refine go_imul dX8_kinds_151 ?_
                    rw [show (40 : Int32) = nI 40 from rfl, nmul]
                    refine go_iload dX8_kinds_152 rfl ?_
                    refine go_iadd dX8_kinds_154 ?_
                    rw [nI_add]
                    refine go_ia dX8_kinds_155 hm.1.2.2.2.2.2.1 (ms_lt hm.1 (by decide)) (n_in (N := 240) (by omega) (by decide)) ?_
                    rw [nI_clamp (by omega), (hm.2.2.2.1 j hj).2.2 m em (2 * q) (by omega), eb]
                    refine go_bipush (8) dX8_kinds_156 rfl ?_
                    rw [show (8 : Int32) = nI 8 from rfl]
                    refine go_idiv dX8_kinds_158 (by decide) ?_
                    rw [nI_div (by omega) (by decide) (by decide)]
                    refine go_iload_n dX8_kinds_159 rfl ?_
                    refine go_icmp_ne (pc' := 185) dX8_kinds_160 rfl (fun c_160 => ?_) (fun c_160 => ?_)
                    · -- ne at 160: yes
                      show bw_go _ _ _ _ _ _ _ 185 [(9, .int _), (8, .int _), (7, .int _), (6, .int _), (5, .int _), (4, .int _), (0, .ref _), (1, .int _), (2, .int _), (3, .int _)] ([]) _ _
                      refine go_iconst (1) dX8_kinds_185 rfl ?_
                      refine go_goto (pc' := 190) dX8_kinds_186 rfl ?_
                      show bw_go _ _ _ _ _ _ _ 190 [(9, .int _), (8, .int _), (7, .int _), (6, .int _), (5, .int _), (4, .int _), (0, .ref _), (1, .int _), (2, .int _), (3, .int _)] ((.int _) :: []) _ _
                      refine go_istore dX8_kinds_190 (Nat.lt_of_lt_of_le (Nat.lt_succ_self _) (Nat.le_of_ble_eq_true rfl)) ?_
                      show bw_go _ _ _ _ _ _ _ 192 [(6, .int _), (9, .int _), (8, .int _), (7, .int _), (5, .int _), (4, .int _), (0, .ref _), (1, .int _), (2, .int _), (3, .int _)] ([]) _ _
                      refine go_iinc dX8_kinds_192 rfl (show nI (2 * q) + Int32.ofInt 2 = nI (2 * (q + 1)) from nI_add _ 2) (Nat.lt_of_lt_of_le (Nat.lt_succ_self _) (Nat.le_of_ble_eq_true rfl)) ?_
                      show bw_go _ _ _ _ _ _ _ 195 [(7, .int _), (6, .int _), (9, .int _), (8, .int _), (5, .int _), (4, .int _), (0, .ref _), (1, .int _), (2, .int _), (3, .int _)] ([]) _ _
                      refine go_goto (pc' := 48) dX8_kinds_195 rfl ?_
                      refine go_ls [(7, .int _), (6, .int _), (5, .int _), (4, .int _), (0, .ref _), (1, .int _), (2, .int _), (3, .int _)] (by show List.Nodup ([7, 6, 5, 4, 0, 1, 2, 3] : List Nat); decide) (by show List.Nodup ([7, 6, 9, 8, 5, 4, 0, 1, 2, 3] : List Nat); decide) (le_cons rfl (le_cons rfl (le_cons rfl (le_cons rfl (le_cons rfl (le_cons rfl (le_cons rfl (le_cons rfl (le_nil _))))))))) ?_
                      have e0 : fkk (nowC S) (rdA (sRc S j) 0 m) a k (q + 1) = (fkk (nowC S) (rdA (sRc S j) 0 m) a k q && (decide ((rdA (sRc S j) 0 m).2.1 q ≠ a) || fit (nowC S) (rdA (sRc S j) 0 m) q k (cD (nowC S)))) := rfl
                      have hne : (nI (b / 8) = nI a) ↔ b / 8 = a := nI_eq (by omega) (by omega)
                      have ef : b / 8 = a → fit (nowC S) (rdA (sRc S j) 0 m) q k (cD (nowC S)) = decide ((if (cW (nowC S)).testBit a = true then (-9 : Int32) else sya k (cE (nowC S) a) (cR (nowC S) a) (cV (nowC S) a) (b % 8) (cD (nowC S))) = tvI v) := fun z => by unfold fit; rw [f1, f2, f3, z, ans_sya b2]
                      have h3 := tl_3 (p := (cW (nowC S)).testBit a) (sya_3 k (cE (nowC S) a) (cR (nowC S) a) (cV (nowC S) a) (b % 8) (cD (nowC S)))
                      have hpt := pr_tv (v := v) b4 h3
                      first
                      | (have hb : fkk (nowC S) (rdA (sRc S j) 0 m) a k (q + 1) = false := by rw [e0, c_141]; rfl
                         rw [hb] at K; exact K)
                      | (have hb : fkk (nowC S) (rdA (sRc S j) 0 m) a k (q + 1) = true := by rw [e0, c_141, f1, decide_eq_true (show b / 8 ≠ a from fun z => c_160 (hne.mpr z))]; rfl
                         rw [hb] at K; exact K)
                      | (have z1 : b / 8 = a := hne.mp (Decidable.of_not_not c_160)
                         have hb : fkk (nowC S) (rdA (sRc S j) 0 m) a k (q + 1) = false := by rw [e0, c_141, f1, decide_eq_false (show ¬ (b / 8 ≠ a) from fun z => z z1), ef z1, decide_eq_false (fun z => c_182 (hpt.mpr z))]; rfl
                         rw [hb] at K; exact K)
                      | (have z1 : b / 8 = a := hne.mp (Decidable.of_not_not c_160)
                         have hb : fkk (nowC S) (rdA (sRc S j) 0 m) a k (q + 1) = true := by rw [e0, c_141, f1, decide_eq_false (show ¬ (b / 8 ≠ a) from fun z => z z1), ef z1, decide_eq_true (hpt.mp (Decidable.of_not_not c_182))]; rfl
                         rw [hb] at K; exact K)
                    · -- ne at 160: no
                      show bw_go _ _ _ _ _ _ _ 163 [(9, .int _), (8, .int _), (7, .int _), (6, .int _), (5, .int _), (4, .int _), (0, .ref _), (1, .int _), (2, .int _), (3, .int _)] ([]) _ _
                      refine go_iload dX8_kinds_163 rfl ?_
                      refine go_cs (as := [.int _]) 0 dX8_kinds_165 rfl rfl mt_8_216 (Nat.le_of_ble_eq_true rfl) rfl rfl (Nat.le_of_ble_eq_true rfl) (Nat.le_of_ble_eq_true rfl) (Nat.le_of_ble_eq_true rfl) (Nat.le_of_ble_eq_true rfl) ?_
                      refine me_X8_pairOf ?_
                      show bw_go _ _ _ _ _ _ _ 168 [(9, .int _), (8, .int _), (7, .int _), (6, .int _), (5, .int _), (4, .int _), (0, .ref _), (1, .int _), (2, .int _), (3, .int _)] ((.int _) :: []) _ _
                      refine go_aload_n dX8_kinds_168 rfl ?_
                      refine go_gfr dX8_kinds_169 fl_8_20 rfl (ms_lt hm.1 (by decide)) hm.1.1.2 hm.1.2.1.2.2.2.1 ?_
                      refine go_bipush (40) dX8_kinds_172 rfl ?_
                      refine go_iload_n dX8_kinds_174 rfl ?_
                      refine go_imul dX8_kinds_175 ?_
                      rw [show (40 : Int32) = nI 40 from rfl, nmul]
                      refine go_iload dX8_kinds_176 rfl ?_
                      refine go_iadd dX8_kinds_178 ?_
                      rw [nI_add]
                      refine go_iconst (1) dX8_kinds_179 rfl ?_
                      refine go_iadd dX8_kinds_180 ?_
                      rw [nI_1]
                      refine go_ia dX8_kinds_181 hm.1.2.2.2.2.2.1 (ms_lt hm.1 (by decide)) (n_in (N := 240) (by omega) (by decide)) ?_
                      rw [nI_clamp (by omega), show 40 * j + 2 * q + 1 = 40 * j + (2 * q + 1) from rfl, (hm.2.2.2.1 j hj).2.2 m em (2 * q + 1) (by omega), ev]
                      refine go_icmp_ne (pc' := 189) dX8_kinds_182 rfl (fun c_182 => ?_) (fun c_182 => ?_)
                      · -- ne at 182: yes
                        show bw_go _ _ _ _ _ _ _ 189 [(9, .int _), (8, .int _), (7, .int _), (6, .int _), (5, .int _), (4, .int _), (0, .ref _), (1, .int _), (2, .int _), (3, .int _)] ([]) _ _
                        refine go_iconst (0) dX8_kinds_189 rfl ?_
                        refine go_istore dX8_kinds_190 (Nat.lt_of_lt_of_le (Nat.lt_succ_self _) (Nat.le_of_ble_eq_true rfl)) ?_
                        show bw_go _ _ _ _ _ _ _ 192 [(6, .int _), (9, .int _), (8, .int _), (7, .int _), (5, .int _), (4, .int _), (0, .ref _), (1, .int _), (2, .int _), (3, .int _)] ([]) _ _
                        refine go_iinc dX8_kinds_192 rfl (show nI (2 * q) + Int32.ofInt 2 = nI (2 * (q + 1)) from nI_add _ 2) (Nat.lt_of_lt_of_le (Nat.lt_succ_self _) (Nat.le_of_ble_eq_true rfl)) ?_
                        show bw_go _ _ _ _ _ _ _ 195 [(7, .int _), (6, .int _), (9, .int _), (8, .int _), (5, .int _), (4, .int _), (0, .ref _), (1, .int _), (2, .int _), (3, .int _)] ([]) _ _
                        refine go_goto (pc' := 48) dX8_kinds_195 rfl ?_
                        refine go_ls [(7, .int _), (6, .int _), (5, .int _), (4, .int _), (0, .ref _), (1, .int _), (2, .int _), (3, .int _)] (by show List.Nodup ([7, 6, 5, 4, 0, 1, 2, 3] : List Nat); decide) (by show List.Nodup ([7, 6, 9, 8, 5, 4, 0, 1, 2, 3] : List Nat); decide) (le_cons rfl (le_cons rfl (le_cons rfl (le_cons rfl (le_cons rfl (le_cons rfl (le_cons rfl (le_cons rfl (le_nil _))))))))) ?_
                        have e0 : fkk (nowC S) (rdA (sRc S j) 0 m) a k (q + 1) = (fkk (nowC S) (rdA (sRc S j) 0 m) a k q && (decide ((rdA (sRc S j) 0 m).2.1 q ≠ a) || fit (nowC S) (rdA (sRc S j) 0 m) q k (cD (nowC S)))) := rfl
                        have hne : (nI (b / 8) = nI a) ↔ b / 8 = a := nI_eq (by omega) (by omega)
                        have ef : b / 8 = a → fit (nowC S) (rdA (sRc S j) 0 m) q k (cD (nowC S)) = decide ((if (cW (nowC S)).testBit a = true then (-9 : Int32) else sya k (cE (nowC S) a) (cR (nowC S) a) (cV (nowC S) a) (b % 8) (cD (nowC S))) = tvI v) := fun z => by unfold fit; rw [f1, f2, f3, z, ans_sya b2]
                        have h3 := tl_3 (p := (cW (nowC S)).testBit a) (sya_3 k (cE (nowC S) a) (cR (nowC S) a) (cV (nowC S) a) (b % 8) (cD (nowC S)))
                        have hpt := pr_tv (v := v) b4 h3
                        first
                        | (have hb : fkk (nowC S) (rdA (sRc S j) 0 m) a k (q + 1) = false := by rw [e0, c_141]; rfl
                           rw [hb] at K; exact K)
                        | (have hb : fkk (nowC S) (rdA (sRc S j) 0 m) a k (q + 1) = true := by rw [e0, c_141, f1, decide_eq_true (show b / 8 ≠ a from fun z => c_160 (hne.mpr z))]; rfl
                           rw [hb] at K; exact K)
                        | (have z1 : b / 8 = a := hne.mp (Decidable.of_not_not c_160)
                           have hb : fkk (nowC S) (rdA (sRc S j) 0 m) a k (q + 1) = false := by rw [e0, c_141, f1, decide_eq_false (show ¬ (b / 8 ≠ a) from fun z => z z1), ef z1, decide_eq_false (fun z => c_182 (hpt.mpr z))]; rfl
                           rw [hb] at K; exact K)
                        | (have z1 : b / 8 = a := hne.mp (Decidable.of_not_not c_160)
                           have hb : fkk (nowC S) (rdA (sRc S j) 0 m) a k (q + 1) = true := by rw [e0, c_141, f1, decide_eq_false (show ¬ (b / 8 ≠ a) from fun z => z z1), ef z1, decide_eq_true (hpt.mp (Decidable.of_not_not c_182))]; rfl
                           rw [hb] at K; exact K)
                      · -- ne at 182: no
                        show bw_go _ _ _ _ _ _ _ 185 [(9, .int _), (8, .int _), (7, .int _), (6, .int _), (5, .int _), (4, .int _), (0, .ref _), (1, .int _), (2, .int _), (3, .int _)] ([]) _ _
                        refine go_iconst (1) dX8_kinds_185 rfl ?_
                        refine go_goto (pc' := 190) dX8_kinds_186 rfl ?_
                        show bw_go _ _ _ _ _ _ _ 190 [(9, .int _), (8, .int _), (7, .int _), (6, .int _), (5, .int _), (4, .int _), (0, .ref _), (1, .int _), (2, .int _), (3, .int _)] ((.int _) :: []) _ _
                        refine go_istore dX8_kinds_190 (Nat.lt_of_lt_of_le (Nat.lt_succ_self _) (Nat.le_of_ble_eq_true rfl)) ?_
                        show bw_go _ _ _ _ _ _ _ 192 [(6, .int _), (9, .int _), (8, .int _), (7, .int _), (5, .int _), (4, .int _), (0, .ref _), (1, .int _), (2, .int _), (3, .int _)] ([]) _ _
                        refine go_iinc dX8_kinds_192 rfl (show nI (2 * q) + Int32.ofInt 2 = nI (2 * (q + 1)) from nI_add _ 2) (Nat.lt_of_lt_of_le (Nat.lt_succ_self _) (Nat.le_of_ble_eq_true rfl)) ?_
                        show bw_go _ _ _ _ _ _ _ 195 [(7, .int _), (6, .int _), (9, .int _), (8, .int _), (5, .int _), (4, .int _), (0, .ref _), (1, .int _), (2, .int _), (3, .int _)] ([]) _ _
                        refine go_goto (pc' := 48) dX8_kinds_195 rfl ?_
                        refine go_ls [(7, .int _), (6, .int _), (5, .int _), (4, .int _), (0, .ref _), (1, .int _), (2, .int _), (3, .int _)] (by show List.Nodup ([7, 6, 5, 4, 0, 1, 2, 3] : List Nat); decide) (by show List.Nodup ([7, 6, 9, 8, 5, 4, 0, 1, 2, 3] : List Nat); decide) (le_cons rfl (le_cons rfl (le_cons rfl (le_cons rfl (le_cons rfl (le_cons rfl (le_cons rfl (le_cons rfl (le_nil _))))))))) ?_
                        have e0 : fkk (nowC S) (rdA (sRc S j) 0 m) a k (q + 1) = (fkk (nowC S) (rdA (sRc S j) 0 m) a k q && (decide ((rdA (sRc S j) 0 m).2.1 q ≠ a) || fit (nowC S) (rdA (sRc S j) 0 m) q k (cD (nowC S)))) := rfl
                        have hne : (nI (b / 8) = nI a) ↔ b / 8 = a := nI_eq (by omega) (by omega)
                        have ef : b / 8 = a → fit (nowC S) (rdA (sRc S j) 0 m) q k (cD (nowC S)) = decide ((if (cW (nowC S)).testBit a = true then (-9 : Int32) else sya k (cE (nowC S) a) (cR (nowC S) a) (cV (nowC S) a) (b % 8) (cD (nowC S))) = tvI v) := fun z => by unfold fit; rw [f1, f2, f3, z, ans_sya b2]
                        have h3 := tl_3 (p := (cW (nowC S)).testBit a) (sya_3 k (cE (nowC S) a) (cR (nowC S) a) (cV (nowC S) a) (b % 8) (cD (nowC S)))
                        have hpt := pr_tv (v := v) b4 h3
                        first
                        | (have hb : fkk (nowC S) (rdA (sRc S j) 0 m) a k (q + 1) = false := by rw [e0, c_141]; rfl
                           rw [hb] at K; exact K)
                        | (have hb : fkk (nowC S) (rdA (sRc S j) 0 m) a k (q + 1) = true := by rw [e0, c_141, f1, decide_eq_true (show b / 8 ≠ a from fun z => c_160 (hne.mpr z))]; rfl
                           rw [hb] at K; exact K)
                        | (have z1 : b / 8 = a := hne.mp (Decidable.of_not_not c_160)
                           have hb : fkk (nowC S) (rdA (sRc S j) 0 m) a k (q + 1) = false := by rw [e0, c_141, f1, decide_eq_false (show ¬ (b / 8 ≠ a) from fun z => z z1), ef z1, decide_eq_false (fun z => c_182 (hpt.mpr z))]; rfl
                           rw [hb] at K; exact K)
                        | (have z1 : b / 8 = a := hne.mp (Decidable.of_not_not c_160)
                           have hb : fkk (nowC S) (rdA (sRc S j) 0 m) a k (q + 1) = true := by rw [e0, c_141, f1, decide_eq_false (show ¬ (b / 8 ≠ a) from fun z => z z1), ef z1, decide_eq_true (hpt.mp (Decidable.of_not_not c_182))]; rfl
                           rw [hb] at K; exact K)
                · -- eq at 89: no
                  show bw_go _ _ _ _ _ _ _ 92 [(8, .int _), (7, .int _), (6, .int _), (5, .int _), (4, .int _), (0, .ref _), (1, .int _), (2, .int _), (3, .int _)] ([]) _ _
                  refine go_bipush (-9) dX8_kinds_92 rfl ?_
                  refine go_goto (pc' := 137) dX8_kinds_94 rfl ?_
                  show bw_go _ _ _ _ _ _ _ 137 [(8, .int _), (7, .int _), (6, .int _), (5, .int _), (4, .int _), (0, .ref _), (1, .int _), (2, .int _), (3, .int _)] ((.int _) :: []) _ _
                  first | rw [show (-9 : Int32) = (if (cW (nowC S)).testBit a = true then (-9 : Int32) else sya k (cE (nowC S) a) (cR (nowC S) a) (cV (nowC S) a) (b % 8) (cD (nowC S))) from (if_pos c_89).symm] | rw [show sya k (cE (nowC S) a) (cR (nowC S) a) (cV (nowC S) a) (b % 8) (cD (nowC S)) = (if (cW (nowC S)).testBit a = true then (-9 : Int32) else sya k (cE (nowC S) a) (cR (nowC S) a) (cV (nowC S) a) (b % 8) (cD (nowC S))) from (if_neg (fun z => Bool.noConfusion (c_89.symm.trans z))).symm]
                  refine go_istore dX8_kinds_137 (Nat.lt_of_lt_of_le (Nat.lt_succ_self _) (Nat.le_of_ble_eq_true rfl)) ?_
                  show bw_go _ _ _ _ _ _ _ 139 [(9, .int _), (8, .int _), (7, .int _), (6, .int _), (5, .int _), (4, .int _), (0, .ref _), (1, .int _), (2, .int _), (3, .int _)] ([]) _ _
                  refine go_iload dX8_kinds_139 rfl ?_
                  refine go_ifb_eq (pc' := 189) dX8_kinds_141 rfl (fun c_141 => ?_) (fun c_141 => ?_)
                  · -- eq at 141: yes
                    show bw_go _ _ _ _ _ _ _ 189 [(9, .int _), (8, .int _), (7, .int _), (6, .int _), (5, .int _), (4, .int _), (0, .ref _), (1, .int _), (2, .int _), (3, .int _)] ([]) _ _
                    refine go_iconst (0) dX8_kinds_189 rfl ?_
                    refine go_istore dX8_kinds_190 (Nat.lt_of_lt_of_le (Nat.lt_succ_self _) (Nat.le_of_ble_eq_true rfl)) ?_
                    show bw_go _ _ _ _ _ _ _ 192 [(6, .int _), (9, .int _), (8, .int _), (7, .int _), (5, .int _), (4, .int _), (0, .ref _), (1, .int _), (2, .int _), (3, .int _)] ([]) _ _
                    refine go_iinc dX8_kinds_192 rfl (show nI (2 * q) + Int32.ofInt 2 = nI (2 * (q + 1)) from nI_add _ 2) (Nat.lt_of_lt_of_le (Nat.lt_succ_self _) (Nat.le_of_ble_eq_true rfl)) ?_
                    show bw_go _ _ _ _ _ _ _ 195 [(7, .int _), (6, .int _), (9, .int _), (8, .int _), (5, .int _), (4, .int _), (0, .ref _), (1, .int _), (2, .int _), (3, .int _)] ([]) _ _
                    refine go_goto (pc' := 48) dX8_kinds_195 rfl ?_
                    refine go_ls [(7, .int _), (6, .int _), (5, .int _), (4, .int _), (0, .ref _), (1, .int _), (2, .int _), (3, .int _)] (by show List.Nodup ([7, 6, 5, 4, 0, 1, 2, 3] : List Nat); decide) (by show List.Nodup ([7, 6, 9, 8, 5, 4, 0, 1, 2, 3] : List Nat); decide) (le_cons rfl (le_cons rfl (le_cons rfl (le_cons rfl (le_cons rfl (le_cons rfl (le_cons rfl (le_cons rfl (le_nil _))))))))) ?_
                    have e0 : fkk (nowC S) (rdA (sRc S j) 0 m) a k (q + 1) = (fkk (nowC S) (rdA (sRc S j) 0 m) a k q && (decide ((rdA (sRc S j) 0 m).2.1 q ≠ a) || fit (nowC S) (rdA (sRc S j) 0 m) q k (cD (nowC S)))) := rfl
                    have hne : (nI (b / 8) = nI a) ↔ b / 8 = a := nI_eq (by omega) (by omega)
                    have ef : b / 8 = a → fit (nowC S) (rdA (sRc S j) 0 m) q k (cD (nowC S)) = decide ((if (cW (nowC S)).testBit a = true then (-9 : Int32) else sya k (cE (nowC S) a) (cR (nowC S) a) (cV (nowC S) a) (b % 8) (cD (nowC S))) = tvI v) := fun z => by unfold fit; rw [f1, f2, f3, z, ans_sya b2]
                    have h3 := tl_3 (p := (cW (nowC S)).testBit a) (sya_3 k (cE (nowC S) a) (cR (nowC S) a) (cV (nowC S) a) (b % 8) (cD (nowC S)))
                    have hpt := pr_tv (v := v) b4 h3
                    first
                    | (have hb : fkk (nowC S) (rdA (sRc S j) 0 m) a k (q + 1) = false := by rw [e0, c_141]; rfl
                       rw [hb] at K; exact K)
                    | (have hb : fkk (nowC S) (rdA (sRc S j) 0 m) a k (q + 1) = true := by rw [e0, c_141, f1, decide_eq_true (show b / 8 ≠ a from fun z => c_160 (hne.mpr z))]; rfl
                       rw [hb] at K; exact K)
                    | (have z1 : b / 8 = a := hne.mp (Decidable.of_not_not c_160)
                       have hb : fkk (nowC S) (rdA (sRc S j) 0 m) a k (q + 1) = false := by rw [e0, c_141, f1, decide_eq_false (show ¬ (b / 8 ≠ a) from fun z => z z1), ef z1, decide_eq_false (fun z => c_182 (hpt.mpr z))]; rfl
                       rw [hb] at K; exact K)
                    | (have z1 : b / 8 = a := hne.mp (Decidable.of_not_not c_160)
                       have hb : fkk (nowC S) (rdA (sRc S j) 0 m) a k (q + 1) = true := by rw [e0, c_141, f1, decide_eq_false (show ¬ (b / 8 ≠ a) from fun z => z z1), ef z1, decide_eq_true (hpt.mp (Decidable.of_not_not c_182))]; rfl
                       rw [hb] at K; exact K)
                  · -- eq at 141: no
                    show bw_go _ _ _ _ _ _ _ 144 [(9, .int _), (8, .int _), (7, .int _), (6, .int _), (5, .int _), (4, .int _), (0, .ref _), (1, .int _), (2, .int _), (3, .int _)] ([]) _ _
                    refine go_aload_n dX8_kinds_144 rfl ?_
                    refine go_gfr dX8_kinds_145 fl_8_20 rfl (ms_lt hm.1 (by decide)) hm.1.1.2 hm.1.2.1.2.2.2.1 ?_
                    refine go_bipush (40) dX8_kinds_148 rfl ?_
                    refine go_iload_n dX8_kinds_150 rfl ?_
                    refine go_imul dX8_kinds_151 ?_
                    rw [show (40 : Int32) = nI 40 from rfl, nmul]
                    refine go_iload dX8_kinds_152 rfl ?_
                    refine go_iadd dX8_kinds_154 ?_
                    rw [nI_add]
                    refine go_ia dX8_kinds_155 hm.1.2.2.2.2.2.1 (ms_lt hm.1 (by decide)) (n_in (N := 240) (by omega) (by decide)) ?_
                    rw [nI_clamp (by omega), (hm.2.2.2.1 j hj).2.2 m em (2 * q) (by omega), eb]
                    refine go_bipush (8) dX8_kinds_156 rfl ?_
                    rw [show (8 : Int32) = nI 8 from rfl]
                    refine go_idiv dX8_kinds_158 (by decide) ?_
                    rw [nI_div (by omega) (by decide) (by decide)]
                    refine go_iload_n dX8_kinds_159 rfl ?_
                    refine go_icmp_ne (pc' := 185) dX8_kinds_160 rfl (fun c_160 => ?_) (fun c_160 => ?_)
                    · -- ne at 160: yes
                      show bw_go _ _ _ _ _ _ _ 185 [(9, .int _), (8, .int _), (7, .int _), (6, .int _), (5, .int _), (4, .int _), (0, .ref _), (1, .int _), (2, .int _), (3, .int _)] ([]) _ _
                      refine go_iconst (1) dX8_kinds_185 rfl ?_
                      refine go_goto (pc' := 190) dX8_kinds_186 rfl ?_
                      show bw_go _ _ _ _ _ _ _ 190 [(9, .int _), (8, .int _), (7, .int _), (6, .int _), (5, .int _), (4, .int _), (0, .ref _), (1, .int _), (2, .int _), (3, .int _)] ((.int _) :: []) _ _
                      refine go_istore dX8_kinds_190 (Nat.lt_of_lt_of_le (Nat.lt_succ_self _) (Nat.le_of_ble_eq_true rfl)) ?_
                      show bw_go _ _ _ _ _ _ _ 192 [(6, .int _), (9, .int _), (8, .int _), (7, .int _), (5, .int _), (4, .int _), (0, .ref _), (1, .int _), (2, .int _), (3, .int _)] ([]) _ _
                      refine go_iinc dX8_kinds_192 rfl (show nI (2 * q) + Int32.ofInt 2 = nI (2 * (q + 1)) from nI_add _ 2) (Nat.lt_of_lt_of_le (Nat.lt_succ_self _) (Nat.le_of_ble_eq_true rfl)) ?_
                      show bw_go _ _ _ _ _ _ _ 195 [(7, .int _), (6, .int _), (9, .int _), (8, .int _), (5, .int _), (4, .int _), (0, .ref _), (1, .int _), (2, .int _), (3, .int _)] ([]) _ _
                      refine go_goto (pc' := 48) dX8_kinds_195 rfl ?_
                      refine go_ls [(7, .int _), (6, .int _), (5, .int _), (4, .int _), (0, .ref _), (1, .int _), (2, .int _), (3, .int _)] (by show List.Nodup ([7, 6, 5, 4, 0, 1, 2, 3] : List Nat); decide) (by show List.Nodup ([7, 6, 9, 8, 5, 4, 0, 1, 2, 3] : List Nat); decide) (le_cons rfl (le_cons rfl (le_cons rfl (le_cons rfl (le_cons rfl (le_cons rfl (le_cons rfl (le_cons rfl (le_nil _))))))))) ?_
                      have e0 : fkk (nowC S) (rdA (sRc S j) 0 m) a k (q + 1) = (fkk (nowC S) (rdA (sRc S j) 0 m) a k q && (decide ((rdA (sRc S j) 0 m).2.1 q ≠ a) || fit (nowC S) (rdA (sRc S j) 0 m) q k (cD (nowC S)))) := rfl
                      have hne : (nI (b / 8) = nI a) ↔ b / 8 = a := nI_eq (by omega) (by omega)
                      have ef : b / 8 = a → fit (nowC S) (rdA (sRc S j) 0 m) q k (cD (nowC S)) = decide ((if (cW (nowC S)).testBit a = true then (-9 : Int32) else sya k (cE (nowC S) a) (cR (nowC S) a) (cV (nowC S) a) (b % 8) (cD (nowC S))) = tvI v) := fun z => by unfold fit; rw [f1, f2, f3, z, ans_sya b2]
                      have h3 := tl_3 (p := (cW (nowC S)).testBit a) (sya_3 k (cE (nowC S) a) (cR (nowC S) a) (cV (nowC S) a) (b % 8) (cD (nowC S)))
                      have hpt := pr_tv (v := v) b4 h3
                      first
                      | (have hb : fkk (nowC S) (rdA (sRc S j) 0 m) a k (q + 1) = false := by rw [e0, c_141]; rfl
                         rw [hb] at K; exact K)
                      | (have hb : fkk (nowC S) (rdA (sRc S j) 0 m) a k (q + 1) = true := by rw [e0, c_141, f1, decide_eq_true (show b / 8 ≠ a from fun z => c_160 (hne.mpr z))]; rfl
                         rw [hb] at K; exact K)
                      | (have z1 : b / 8 = a := hne.mp (Decidable.of_not_not c_160)
                         have hb : fkk (nowC S) (rdA (sRc S j) 0 m) a k (q + 1) = false := by rw [e0, c_141, f1, decide_eq_false (show ¬ (b / 8 ≠ a) from fun z => z z1), ef z1, decide_eq_false (fun z => c_182 (hpt.mpr z))]; rfl
                         rw [hb] at K; exact K)
                      | (have z1 : b / 8 = a := hne.mp (Decidable.of_not_not c_160)
                         have hb : fkk (nowC S) (rdA (sRc S j) 0 m) a k (q + 1) = true := by rw [e0, c_141, f1, decide_eq_false (show ¬ (b / 8 ≠ a) from fun z => z z1), ef z1, decide_eq_true (hpt.mp (Decidable.of_not_not c_182))]; rfl
                         rw [hb] at K; exact K)
                    · -- ne at 160: no
                      show bw_go _ _ _ _ _ _ _ 163 [(9, .int _), (8, .int _), (7, .int _), (6, .int _), (5, .int _), (4, .int _), (0, .ref _), (1, .int _), (2, .int _), (3, .int _)] ([]) _ _
                      refine go_iload dX8_kinds_163 rfl ?_
                      refine go_cs (as := [.int _]) 0 dX8_kinds_165 rfl rfl mt_8_216 (Nat.le_of_ble_eq_true rfl) rfl rfl (Nat.le_of_ble_eq_true rfl) (Nat.le_of_ble_eq_true rfl) (Nat.le_of_ble_eq_true rfl) (Nat.le_of_ble_eq_true rfl) ?_
                      refine me_X8_pairOf ?_
                      show bw_go _ _ _ _ _ _ _ 168 [(9, .int _), (8, .int _), (7, .int _), (6, .int _), (5, .int _), (4, .int _), (0, .ref _), (1, .int _), (2, .int _), (3, .int _)] ((.int _) :: []) _ _
                      refine go_aload_n dX8_kinds_168 rfl ?_
                      refine go_gfr dX8_kinds_169 fl_8_20 rfl (ms_lt hm.1 (by decide)) hm.1.1.2 hm.1.2.1.2.2.2.1 ?_
                      refine go_bipush (40) dX8_kinds_172 rfl ?_
                      refine go_iload_n dX8_kinds_174 rfl ?_
                      refine go_imul dX8_kinds_175 ?_
                      rw [show (40 : Int32) = nI 40 from rfl, nmul]
                      refine go_iload dX8_kinds_176 rfl ?_
                      refine go_iadd dX8_kinds_178 ?_
                      rw [nI_add]
                      refine go_iconst (1) dX8_kinds_179 rfl ?_
                      refine go_iadd dX8_kinds_180 ?_
                      rw [nI_1]
                      refine go_ia dX8_kinds_181 hm.1.2.2.2.2.2.1 (ms_lt hm.1 (by decide)) (n_in (N := 240) (by omega) (by decide)) ?_
                      rw [nI_clamp (by omega), show 40 * j + 2 * q + 1 = 40 * j + (2 * q + 1) from rfl, (hm.2.2.2.1 j hj).2.2 m em (2 * q + 1) (by omega), ev]
                      refine go_icmp_ne (pc' := 189) dX8_kinds_182 rfl (fun c_182 => ?_) (fun c_182 => ?_)
                      · -- ne at 182: yes
                        show bw_go _ _ _ _ _ _ _ 189 [(9, .int _), (8, .int _), (7, .int _), (6, .int _), (5, .int _), (4, .int _), (0, .ref _), (1, .int _), (2, .int _), (3, .int _)] ([]) _ _
                        refine go_iconst (0) dX8_kinds_189 rfl ?_
                        refine go_istore dX8_kinds_190 (Nat.lt_of_lt_of_le (Nat.lt_succ_self _) (Nat.le_of_ble_eq_true rfl)) ?_
                        show bw_go _ _ _ _ _ _ _ 192 [(6, .int _), (9, .int _), (8, .int _), (7, .int _), (5, .int _), (4, .int _), (0, .ref _), (1, .int _), (2, .int _), (3, .int _)] ([]) _ _
                        refine go_iinc dX8_kinds_192 rfl (show nI (2 * q) + Int32.ofInt 2 = nI (2 * (q + 1)) from nI_add _ 2) (Nat.lt_of_lt_of_le (Nat.lt_succ_self _) (Nat.le_of_ble_eq_true rfl)) ?_
                        show bw_go _ _ _ _ _ _ _ 195 [(7, .int _), (6, .int _), (9, .int _), (8, .int _), (5, .int _), (4, .int _), (0, .ref _), (1, .int _), (2, .int _), (3, .int _)] ([]) _ _
                        refine go_goto (pc' := 48) dX8_kinds_195 rfl ?_
                        refine go_ls [(7, .int _), (6, .int _), (5, .int _), (4, .int _), (0, .ref _), (1, .int _), (2, .int _), (3, .int _)] (by show List.Nodup ([7, 6, 5, 4, 0, 1, 2, 3] : List Nat); decide) (by show List.Nodup ([7, 6, 9, 8, 5, 4, 0, 1, 2, 3] : List Nat); decide) (le_cons rfl (le_cons rfl (le_cons rfl (le_cons rfl (le_cons rfl (le_cons rfl (le_cons rfl (le_cons rfl (le_nil _))))))))) ?_
                        have e0 : fkk (nowC S) (rdA (sRc S j) 0 m) a k (q + 1) = (fkk (nowC S) (rdA (sRc S j) 0 m) a k q && (decide ((rdA (sRc S j) 0 m).2.1 q ≠ a) || fit (nowC S) (rdA (sRc S j) 0 m) q k (cD (nowC S)))) := rfl
                        have hne : (nI (b / 8) = nI a) ↔ b / 8 = a := nI_eq (by omega) (by omega)
                        have ef : b / 8 = a → fit (nowC S) (rdA (sRc S j) 0 m) q k (cD (nowC S)) = decide ((if (cW (nowC S)).testBit a = true then (-9 : Int32) else sya k (cE (nowC S) a) (cR (nowC S) a) (cV (nowC S) a) (b % 8) (cD (nowC S))) = tvI v) := fun z => by unfold fit; rw [f1, f2, f3, z, ans_sya b2]
                        have h3 := tl_3 (p := (cW (nowC S)).testBit a) (sya_3 k (cE (nowC S) a) (cR (nowC S) a) (cV (nowC S) a) (b % 8) (cD (nowC S)))
                        have hpt := pr_tv (v := v) b4 h3
                        first
                        | (have hb : fkk (nowC S) (rdA (sRc S j) 0 m) a k (q + 1) = false := by rw [e0, c_141]; rfl
                           rw [hb] at K; exact K)
                        | (have hb : fkk (nowC S) (rdA (sRc S j) 0 m) a k (q + 1) = true := by rw [e0, c_141, f1, decide_eq_true (show b / 8 ≠ a from fun z => c_160 (hne.mpr z))]; rfl
                           rw [hb] at K; exact K)
                        | (have z1 : b / 8 = a := hne.mp (Decidable.of_not_not c_160)
                           have hb : fkk (nowC S) (rdA (sRc S j) 0 m) a k (q + 1) = false := by rw [e0, c_141, f1, decide_eq_false (show ¬ (b / 8 ≠ a) from fun z => z z1), ef z1, decide_eq_false (fun z => c_182 (hpt.mpr z))]; rfl
                           rw [hb] at K; exact K)
                        | (have z1 : b / 8 = a := hne.mp (Decidable.of_not_not c_160)
                           have hb : fkk (nowC S) (rdA (sRc S j) 0 m) a k (q + 1) = true := by rw [e0, c_141, f1, decide_eq_false (show ¬ (b / 8 ≠ a) from fun z => z z1), ef z1, decide_eq_true (hpt.mp (Decidable.of_not_not c_182))]; rfl
                           rw [hb] at K; exact K)
                      · -- ne at 182: no
                        show bw_go _ _ _ _ _ _ _ 185 [(9, .int _), (8, .int _), (7, .int _), (6, .int _), (5, .int _), (4, .int _), (0, .ref _), (1, .int _), (2, .int _), (3, .int _)] ([]) _ _
                        refine go_iconst (1) dX8_kinds_185 rfl ?_
                        refine go_goto (pc' := 190) dX8_kinds_186 rfl ?_
                        show bw_go _ _ _ _ _ _ _ 190 [(9, .int _), (8, .int _), (7, .int _), (6, .int _), (5, .int _), (4, .int _), (0, .ref _), (1, .int _), (2, .int _), (3, .int _)] ((.int _) :: []) _ _
                        refine go_istore dX8_kinds_190 (Nat.lt_of_lt_of_le (Nat.lt_succ_self _) (Nat.le_of_ble_eq_true rfl)) ?_
                        show bw_go _ _ _ _ _ _ _ 192 [(6, .int _), (9, .int _), (8, .int _), (7, .int _), (5, .int _), (4, .int _), (0, .ref _), (1, .int _), (2, .int _), (3, .int _)] ([]) _ _
                        refine go_iinc dX8_kinds_192 rfl (show nI (2 * q) + Int32.ofInt 2 = nI (2 * (q + 1)) from nI_add _ 2) (Nat.lt_of_lt_of_le (Nat.lt_succ_self _) (Nat.le_of_ble_eq_true rfl)) ?_
                        show bw_go _ _ _ _ _ _ _ 195 [(7, .int _), (6, .int _), (9, .int _), (8, .int _), (5, .int _), (4, .int _), (0, .ref _), (1, .int _), (2, .int _), (3, .int _)] ([]) _ _
                        refine go_goto (pc' := 48) dX8_kinds_195 rfl ?_
                        refine go_ls [(7, .int _), (6, .int _), (5, .int _), (4, .int _), (0, .ref _), (1, .int _), (2, .int _), (3, .int _)] (by show List.Nodup ([7, 6, 5, 4, 0, 1, 2, 3] : List Nat); decide) (by show List.Nodup ([7, 6, 9, 8, 5, 4, 0, 1, 2, 3] : List Nat); decide) (le_cons rfl (le_cons rfl (le_cons rfl (le_cons rfl (le_cons rfl (le_cons rfl (le_cons rfl (le_cons rfl (le_nil _))))))))) ?_
                        have e0 : fkk (nowC S) (rdA (sRc S j) 0 m) a k (q + 1) = (fkk (nowC S) (rdA (sRc S j) 0 m) a k q && (decide ((rdA (sRc S j) 0 m).2.1 q ≠ a) || fit (nowC S) (rdA (sRc S j) 0 m) q k (cD (nowC S)))) := rfl
                        have hne : (nI (b / 8) = nI a) ↔ b / 8 = a := nI_eq (by omega) (by omega)
                        have ef : b / 8 = a → fit (nowC S) (rdA (sRc S j) 0 m) q k (cD (nowC S)) = decide ((if (cW (nowC S)).testBit a = true then (-9 : Int32) else sya k (cE (nowC S) a) (cR (nowC S) a) (cV (nowC S) a) (b % 8) (cD (nowC S))) = tvI v) := fun z => by unfold fit; rw [f1, f2, f3, z, ans_sya b2]
                        have h3 := tl_3 (p := (cW (nowC S)).testBit a) (sya_3 k (cE (nowC S) a) (cR (nowC S) a) (cV (nowC S) a) (b % 8) (cD (nowC S)))
                        have hpt := pr_tv (v := v) b4 h3
                        first
                        | (have hb : fkk (nowC S) (rdA (sRc S j) 0 m) a k (q + 1) = false := by rw [e0, c_141]; rfl
                           rw [hb] at K; exact K)
                        | (have hb : fkk (nowC S) (rdA (sRc S j) 0 m) a k (q + 1) = true := by rw [e0, c_141, f1, decide_eq_true (show b / 8 ≠ a from fun z => c_160 (hne.mpr z))]; rfl
                           rw [hb] at K; exact K)
                        | (have z1 : b / 8 = a := hne.mp (Decidable.of_not_not c_160)
                           have hb : fkk (nowC S) (rdA (sRc S j) 0 m) a k (q + 1) = false := by rw [e0, c_141, f1, decide_eq_false (show ¬ (b / 8 ≠ a) from fun z => z z1), ef z1, decide_eq_false (fun z => c_182 (hpt.mpr z))]; rfl
                           rw [hb] at K; exact K)
                        | (have z1 : b / 8 = a := hne.mp (Decidable.of_not_not c_160)
                           have hb : fkk (nowC S) (rdA (sRc S j) 0 m) a k (q + 1) = true := by rw [e0, c_141, f1, decide_eq_false (show ¬ (b / 8 ≠ a) from fun z => z z1), ef z1, decide_eq_true (hpt.mp (Decidable.of_not_not c_182))]; rfl
                           rw [hb] at K; exact K)
            · skip
              show bw_go _ _ _ _ _ _ _ 48 [(7, .int _), (6, .int _), (5, .int _), (4, .int _), (0, .ref _), (1, .int _), (2, .int _), (3, .int _)] ([]) _ _
              refine go_iload dX8_kinds_48 rfl ?_
              refine go_iconst (1) dX8_kinds_50 rfl ?_
              refine go_iadd dX8_kinds_51 ?_
              rw [nI_1]
              refine go_aload_n dX8_kinds_52 rfl ?_
              refine go_gfr dX8_kinds_53 fl_8_23 rfl (ms_lt hm.1 (by decide)) hm.1.1.2 hm.1.2.1.2.2.2.2.1 ?_
              refine go_iload_n dX8_kinds_56 rfl ?_
              refine go_ia dX8_kinds_57 hm.1.2.2.2.2.2.2.1 (ms_lt hm.1 (by decide)) (n_in (N := 6) hj (by decide)) ?_
              rw [nI_clamp (by omega), em2]
              refine go_icmp_ge (pc' := 198) dX8_kinds_58 rfl (fun c_58 => ?_) (fun c_58 => ?_)
              · -- ge at 58: yes
                show bw_go _ _ _ _ _ _ _ 198 [(7, .int _), (6, .int _), (5, .int _), (4, .int _), (0, .ref _), (1, .int _), (2, .int _), (3, .int _)] ([]) _ _
                refine go_iload dX8_kinds_198 rfl ?_
                refine go_iload dX8_kinds_200 rfl ?_
                refine go_ifb_eq (pc' := 212) dX8_kinds_202 rfl (fun c_202 => ?_) (fun c_202 => ?_)
                · -- eq at 202: yes
                  show bw_go _ _ _ _ _ _ _ 212 [(7, .int _), (6, .int _), (5, .int _), (4, .int _), (0, .ref _), (1, .int _), (2, .int _), (3, .int _)] ((.int _) :: []) _ _
                  refine go_iconst (0) dX8_kinds_212 rfl ?_
                  refine go_ior dX8_kinds_213 ?_
                  first | rw [or_n] | rw [show (0 : Int32) = nI 0 from rfl, or_n, Nat.or_zero]
                  refine go_istore dX8_kinds_214 (Nat.lt_of_lt_of_le (Nat.lt_succ_self _) (Nat.le_of_ble_eq_true rfl)) ?_
                  show bw_go _ _ _ _ _ _ _ 216 [(4, .int _), (7, .int _), (6, .int _), (5, .int _), (0, .ref _), (1, .int _), (2, .int _), (3, .int _)] ([]) _ _
                  refine go_iinc dX8_kinds_216 rfl (nI_1 k) (Nat.lt_of_lt_of_le (Nat.lt_succ_self _) (Nat.le_of_ble_eq_true rfl)) ?_
                  show bw_go _ _ _ _ _ _ _ 219 [(5, .int _), (4, .int _), (7, .int _), (6, .int _), (0, .ref _), (1, .int _), (2, .int _), (3, .int _)] ([]) _ _
                  refine go_goto (pc' := 35) dX8_kinds_219 rfl ?_
                  refine go_ls [(5, .int _), (4, .int _), (0, .ref _), (1, .int _), (2, .int _), (3, .int _)] (by show List.Nodup ([5, 4, 0, 1, 2, 3] : List Nat); decide) (by show List.Nodup ([5, 4, 7, 6, 0, 1, 2, 3] : List Nat); decide) (le_cons rfl (le_cons rfl (le_cons rfl (le_cons rfl (le_cons rfl (le_cons rfl (le_nil _))))))) ?_
                  have e1 : orf (fun k => if fkk (nowC S) (rdA (sRc S j) 0 m) a k (m / 2) = true then 2 ^ k else 0) (k + 1) = orf (fun k => if fkk (nowC S) (rdA (sRc S j) 0 m) a k (m / 2) = true then 2 ^ k else 0) k ||| (if fkk (nowC S) (rdA (sRc S j) 0 m) a k (m / 2) = true then 2 ^ k else 0) := rfl
                  first | (rw [if_pos c_202] at e1; rw [e1] at K; exact K) | (rw [if_neg (fun z => Bool.noConfusion (c_202.symm.trans z)), Nat.or_zero] at e1; rw [e1] at K; exact K)
                · -- eq at 202: no
                  show bw_go _ _ _ _ _ _ _ 205 [(7, .int _), (6, .int _), (5, .int _), (4, .int _), (0, .ref _), (1, .int _), (2, .int _), (3, .int _)] ((.int _) :: []) _ _
                  refine go_iconst (1) dX8_kinds_205 rfl ?_
                  refine go_iload dX8_kinds_206 rfl ?_
                  refine go_ishl dX8_kinds_208 ?_
                  rw [sh_t k (by omega)]
                  refine go_goto (pc' := 213) dX8_kinds_209 rfl ?_
                  show bw_go _ _ _ _ _ _ _ 213 [(7, .int _), (6, .int _), (5, .int _), (4, .int _), (0, .ref _), (1, .int _), (2, .int _), (3, .int _)] ((.int _) :: (.int _) :: []) _ _
                  refine go_ior dX8_kinds_213 ?_
                  first | rw [or_n] | rw [show (0 : Int32) = nI 0 from rfl, or_n, Nat.or_zero]
                  refine go_istore dX8_kinds_214 (Nat.lt_of_lt_of_le (Nat.lt_succ_self _) (Nat.le_of_ble_eq_true rfl)) ?_
                  show bw_go _ _ _ _ _ _ _ 216 [(4, .int _), (7, .int _), (6, .int _), (5, .int _), (0, .ref _), (1, .int _), (2, .int _), (3, .int _)] ([]) _ _
                  refine go_iinc dX8_kinds_216 rfl (nI_1 k) (Nat.lt_of_lt_of_le (Nat.lt_succ_self _) (Nat.le_of_ble_eq_true rfl)) ?_
                  show bw_go _ _ _ _ _ _ _ 219 [(5, .int _), (4, .int _), (7, .int _), (6, .int _), (0, .ref _), (1, .int _), (2, .int _), (3, .int _)] ([]) _ _
                  refine go_goto (pc' := 35) dX8_kinds_219 rfl ?_
                  refine go_ls [(5, .int _), (4, .int _), (0, .ref _), (1, .int _), (2, .int _), (3, .int _)] (by show List.Nodup ([5, 4, 0, 1, 2, 3] : List Nat); decide) (by show List.Nodup ([5, 4, 7, 6, 0, 1, 2, 3] : List Nat); decide) (le_cons rfl (le_cons rfl (le_cons rfl (le_cons rfl (le_cons rfl (le_cons rfl (le_nil _))))))) ?_
                  have e1 : orf (fun k => if fkk (nowC S) (rdA (sRc S j) 0 m) a k (m / 2) = true then 2 ^ k else 0) (k + 1) = orf (fun k => if fkk (nowC S) (rdA (sRc S j) 0 m) a k (m / 2) = true then 2 ^ k else 0) k ||| (if fkk (nowC S) (rdA (sRc S j) 0 m) a k (m / 2) = true then 2 ^ k else 0) := rfl
                  first | (rw [if_pos c_202] at e1; rw [e1] at K; exact K) | (rw [if_neg (fun z => Bool.noConfusion (c_202.symm.trans z)), Nat.or_zero] at e1; rw [e1] at K; exact K)
              · -- ge at 58: no
                exfalso; have t_0 := nI_toInt (n := 2 * (m / 2) + 1) (by omega); have t_1 := nI_toInt (n := m) (by omega); simp only [i_le, i_lt, i_eq, bi_eq] at c_58; omega
        · skip
          show bw_go _ _ _ _ _ _ _ 35 [(5, .int _), (4, .int _), (0, .ref _), (1, .int _), (2, .int _), (3, .int _)] ([]) _ _
          refine go_iload dX8_kinds_35 rfl ?_
          refine go_bipush (6) dX8_kinds_37 rfl ?_
          refine go_icmp_ge (pc' := 222) dX8_kinds_39 rfl (fun c_39 => ?_) (fun c_39 => ?_)
          · -- ge at 39: yes
            show bw_go _ _ _ _ _ _ _ 222 [(5, .int _), (4, .int _), (0, .ref _), (1, .int _), (2, .int _), (3, .int _)] ([]) _ _
            refine go_iload dX8_kinds_222 rfl ?_
            refine go_iret dX8_kinds_224 rfl rfl ?_
            refine q_m hQ ?_ hg hf
            unfold yKinds kis
            rw [if_pos (show isn (nI a) (cN (nowC S)) = true from c_5), show (yRL (nI j) S).1 = 0 from by rw [e9]; exact c_24, if_pos rfl, rn_n (by omega), lk_v1 hl]
            rfl
          · -- ge at 39: no
            exfalso; have t_0 := nI_toInt (n := 6) (by omega); have l_0 : (6 : Int32).toInt = 6 := rfl; simp only [i_le, i_lt, i_eq, bi_eq] at c_39; omega
      · -- eq at 24: no
        show bw_go _ _ _ _ _ _ _ 27 [(3, .int _), (0, .ref _), (1, .int _), (2, .int _)] ([]) _ _
        refine go_iload_n dX8_kinds_27 rfl ?_
        refine go_iret dX8_kinds_28 rfl rfl ?_
        refine q_m hQ ?_ hg hf
        unfold yKinds
        rw [if_pos (show isn (nI a) (cN (nowC S)) = true from c_5), e9, if_neg c_24]
    · -- ne at 12: no
      show bw_go _ _ _ _ _ _ _ 15 [(0, .ref _), (1, .int _), (2, .int _)] ([]) _ _
      refine go_iconst (-1) dX8_kinds_15 rfl ?_
      refine go_iret dX8_kinds_16 rfl rfl ?_
      refine q_m hQ ?_ hm (frX_r h)
      unfold yKinds
      first
      | (have c5 : isn i (cN (nowC S)) = false := c_5
         rw [if_neg (fun z => Bool.noConfusion (c5.symm.trans z))])
      | (have c5 : isn i (cN (nowC S)) = true := c_5
         have c12 : isn r 6 = false := c_12
         have e1 : yRL r S = (-1, S) := by unfold yRL; rw [if_neg (fun z => Bool.noConfusion (c12.symm.trans z))]
         rw [if_pos c5, e1, if_neg (show ¬ (((-1 : Int32), S) : Int32 × ST).1 = 0 from (by decide : ¬ (-1 : Int32) = 0))])
