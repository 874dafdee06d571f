/-! the reference: what to ask next -/
theorem pr_3 (C : CT) (i x d : Nat) : ∃ v, v < 3 ∧ prF (anC C i x d) = nI v := by
  rcases anC_3 C i x d with z | z | z <;> rw [z]
  · exact ⟨2, by decide, rfl⟩
  · exact ⟨0, by decide, rfl⟩
  · exact ⟨1, by decide, rfl⟩
theorem pcv_s {C : CT} {P : Nat → Bool} {i x v d : Nat} : pcv C P i x v (d + 1) = pcv C P i x v d + (if P d = true ∧ prF (anC C i x d) = nI v then 1 else 0) := by
  show pcv C P i x v d + (if (P d && decide (prF (anC C i x d) = nI v)) = true then 1 else 0) = _
  congr 1
  by_cases z : P d = true ∧ prF (anC C i x d) = nI v
  · rw [if_pos z, if_pos (by rw [z.1, decide_eq_true z.2]; rfl)]
  · rw [if_neg z, if_neg (fun y => z ?_)]
    rw [Bool.and_eq_true, decide_eq_true_eq] at y
    exact y
theorem pcv_le {C : CT} {P : Nat → Bool} {i x v : Nat} (d : Nat) : pcv C P i x v d ≤ d := cnt_le6 _ d
def p3 (F : Nat → Int32) (C : CT) (P : Nat → Bool) (i x d : Nat) : Prop := F 0 = nI (pcv C P i x 0 d) ∧ F 1 = nI (pcv C P i x 1 d) ∧ F 2 = nI (pcv C P i x 2 d)
theorem p3_n {F : Nat → Int32} {C : CT} {P : Nat → Bool} {i x d : Nat} (h : p3 F C P i x d) (hp : P d = false) : p3 F C P i x (d + 1) := by
  unfold p3
  rw [pcv_s, pcv_s, pcv_s, hp, if_neg (by simp), if_neg (by simp), if_neg (by simp)]
  exact h
theorem nIq : ∀ a, a < 3 → ∀ b, b < 3 → (nI a = nI b ↔ a = b) := by decide
theorem p3_y {F : Nat → Int32} {C : CT} {P : Nat → Bool} {i x d v : Nat} (h : p3 F C P i x d) (hp : P d = true) (hv : v < 3) (he : prF (anC C i x d) = nI v) : p3 (bw_up F v (F v + 1)) C P i x (d + 1) := by
  obtain ⟨h0, h1, h2⟩ := h
  unfold p3
  rw [pcv_s, pcv_s, pcv_s, hp, he]
  rcases (show v = 0 ∨ v = 1 ∨ v = 2 by omega) with rfl | rfl | rfl
  · rw [bw_up_s, bw_up_o (by decide), bw_up_o (by decide), if_pos ⟨rfl, rfl⟩, if_neg (by decide), if_neg (by decide), h0, nI_1]; exact ⟨rfl, h1, h2⟩
  · rw [bw_up_s, bw_up_o (by decide), bw_up_o (by decide), if_neg (by decide), if_pos ⟨rfl, rfl⟩, if_neg (by decide), h1, nI_1]; exact ⟨h0, rfl, h2⟩
  · rw [bw_up_s, bw_up_o (by decide), bw_up_o (by decide), if_neg (by decide), if_neg (by decide), if_pos ⟨rfl, rfl⟩, h2, nI_1]; exact ⟨h0, h1, rfl⟩
set_option maxRecDepth 100000 in
set_option maxHeartbeats 4000000 in
theorem me_X8_next {X : Nat × (Nat → Int32)} {Q : Option Value → bw_H → Prop} {h : bw_H} {S : ST} {r : Int32} (hm : MR h S) (hQ : PM h Q (yNext r S)) : bw_me X 6 bm_X8_next false [.ref 60, .int r] h Q := by
  have hv := mr_v hm
  have hk := mr_k hm
  have k1 := hk.1
  have hkC := hk
  have h2N := p2N k1
  have hp0 : 0 < 2 ^ cN (nowC S) := Nat.two_pow_pos _
  show bw_go _ 6 8 8 false (some .int) cX8_next 0 [(0, .ref _), (1, .int _)] [] _ _
  refine go_aload_n dX8_next_0 rfl ?_
  refine go_iload_n dX8_next_1 rfl ?_
  refine go_cv (as := [.int _]) 3 dX8_next_2 mt_8_222 (Or.inl rfl) rfl rfl (ms_lt hm.1 (by decide)) hm.1.1.2 (Nat.le_of_ble_eq_true rfl) (Nat.le_of_ble_eq_true rfl) (Nat.le_of_ble_eq_true rfl) (Nat.le_of_ble_eq_true rfl) (Nat.le_of_ble_eq_true rfl) ?_
  refine me_X8_refusesLooks hm (fun g hg hf => ?_)
  have hm00 := hm
  have hm := hg
  show bw_go _ _ _ _ _ _ _ 5 [(0, .ref _), (1, .int _)] ((.int _) :: []) _ _
  refine go_istore_n dX8_next_5 (Nat.lt_of_lt_of_le (Nat.lt_succ_self _) (Nat.le_of_ble_eq_true rfl)) ?_
  show bw_go _ _ _ _ _ _ _ 6 [(2, .int _), (0, .ref _), (1, .int _)] ([]) _ _
  refine go_iload_n dX8_next_6 rfl ?_
  refine go_if_eq (pc' := 12) dX8_next_7 rfl (fun c_7 => ?_) (fun c_7 => ?_)
  · -- eq at 7: yes
    show bw_go _ _ _ _ _ _ _ 12 [(2, .int _), (0, .ref _), (1, .int _)] ([]) _ _
    obtain ⟨j, m, rfl, hl, hpos, e2⟩ := yRL_0 k1 c_7
    rw [e2] at hg
    have hm := hg
    have ha := lkf_a hl
    have hb := lkf_b hl
    have hv := mr_v hm
    have hkC := mr_k hm
    refine go_bipush (-9) dX8_next_12 rfl ?_
    refine go_istore_n dX8_next_14 (Nat.lt_of_lt_of_le (Nat.lt_succ_self _) (Nat.le_of_ble_eq_true rfl)) ?_
    show bw_go _ _ _ _ _ _ _ 15 [(3, .int _), (2, .int _), (0, .ref _), (1, .int _)] ([]) _ _
    refine go_ldc dX8_next_15 kc_8_201 ?_
    refine go_istore dX8_next_17 (Nat.lt_of_lt_of_le (Nat.lt_succ_self _) (Nat.le_of_ble_eq_true rfl)) ?_
    show bw_go _ _ _ _ _ _ _ 19 [(4, .int _), (3, .int _), (2, .int _), (0, .ref _), (1, .int _)] ([]) _ _
    refine go_iconst (0) dX8_next_19 rfl ?_
    refine go_istore dX8_next_20 (Nat.lt_of_lt_of_le (Nat.lt_succ_self _) (Nat.le_of_ble_eq_true rfl)) ?_
    show bw_go _ _ _ _ _ _ _ 22 [(5, .int _), (4, .int _), (3, .int _), (2, .int _), (0, .ref _), (1, .int _)] ([]) _ _
    refine go_ls [(5, .int _), (4, .int _), (3, .int _), (0, .ref _), (1, .int _), (2, .int _)] (by show List.Nodup ([5, 4, 3, 0, 1, 2] : List Nat); decide) (by show List.Nodup ([5, 4, 3, 2, 0, 1] : List Nat); decide) (le_cons rfl (le_cons rfl (le_cons rfl (le_cons rfl (le_cons rfl (le_cons rfl (le_nil _))))))) ?_
    refine go_for (P := fun k => ∀ (g : bw_H), (MR g S ∧ frX h g) → bw_go X 6 8 8 false (some .int) cX8_next 22 [(5, .int (nI k)), (4, .int (nI (mnx (nowC S) (lA S (nI j)) (lB S (nI j)) k).2)), (3, .int (mtI (mnx (nowC S) (lA S (nI j)) (lB S (nI j)) k).1)), (0, .ref (60)), (1, .int (nI j)), (2, .int ((yRL (nI j) S).1))] [] g Q) (N := 8 * cN (nowC S)) (fun k hk K => ?_) ?_ (0) (Nat.zero_le _) g ⟨hm, hf⟩
    · -- a turn
      intro g hv0
      obtain ⟨hm, hf⟩ := hv0
      have hv := mr_v hm
      have hm73 : ∀ F, MR (bw_sa g 73 F) S := fun F => mr_sc hm (frX_sa (by decide)) (fun q h1 h2 => i_sa_o (by omega)) (mr_flg hm (i_sa_o (by decide)) rfl)
      have hi8 : k / 8 < cN (nowC S) := by omega
      show bw_go _ _ _ _ _ _ _ 22 [(5, .int _), (4, .int _), (3, .int _), (0, .ref _), (1, .int _), (2, .int _)] ([]) _ _
      refine go_iload dX8_next_22 rfl ?_
      refine go_bipush (8) dX8_next_24 rfl ?_
      refine go_aload_n dX8_next_26 rfl ?_
      refine go_gfr dX8_next_27 fl_8_7 rfl (ms_lt hm.1 (by decide)) hm.1.1.2 hm.1.2.1.1 ?_
      refine go_iconst (0) dX8_next_30 rfl ?_
      refine go_ia dX8_next_31 hm.1.2.2.1 (ms_lt hm.1 (by decide)) (by decide) ?_
      rw [show (0 : Int32).toNatClampNeg = 0 from rfl, hv.1, show (8 : Int32) = nI 8 from rfl]
      refine go_imul dX8_next_32 ?_
      rw [nmul]
      refine go_icmp_ge (pc' := 236) dX8_next_33 rfl (fun c_33 => ?_) (fun c_33 => ?_)
      · -- ge at 33: yes
        exfalso; have t_0 := nI_toInt (n := k) (by omega); have t_1 := nI_toInt (n := 8 * cN (nowC S)) (by omega); simp only [i_le, i_lt, i_eq, bi_eq] at c_33; omega
      · -- ge at 33: no
        show bw_go _ _ _ _ _ _ _ 36 [(5, .int _), (4, .int _), (3, .int _), (0, .ref _), (1, .int _), (2, .int _)] ([]) _ _
        refine go_iconst (0) dX8_next_36 rfl ?_
        refine go_istore dX8_next_37 (Nat.lt_of_lt_of_le (Nat.lt_succ_self _) (Nat.le_of_ble_eq_true rfl)) ?_
        show bw_go _ _ _ _ _ _ _ 39 [(6, .int _), (5, .int _), (4, .int _), (3, .int _), (0, .ref _), (1, .int _), (2, .int _)] ([]) _ _
        refine go_iconst (0) dX8_next_39 rfl ?_
        refine go_istore dX8_next_40 (Nat.lt_of_lt_of_le (Nat.lt_succ_self _) (Nat.le_of_ble_eq_true rfl)) ?_
        show bw_go _ _ _ _ _ _ _ 42 [(7, .int _), (6, .int _), (5, .int _), (4, .int _), (3, .int _), (0, .ref _), (1, .int _), (2, .int _)] ([]) _ _
        rw [show g = (bw_sa g 73 (mix (fun _ => 0) (bw_i g 73) 0)) from by rw [mix_0]; exact (sa_id _ _).symm]
        refine go_for (P := fun v => bw_go X 6 8 8 false (some .int) cX8_next 42 [(7, .int (nI v)), (6, .int (0)), (5, .int (nI k)), (4, .int (nI (mnx (nowC S) (lA S (nI j)) (lB S (nI j)) k).2)), (3, .int (mtI (mnx (nowC S) (lA S (nI j)) (lB S (nI j)) k).1)), (0, .ref (60)), (1, .int (nI j)), (2, .int ((yRL (nI j) S).1))] [] (bw_sa g 73 (mix (fun _ => 0) (bw_i g 73) v)) Q) (N := 3) (fun v hv K3 => ?_) ?_ (0) (Nat.zero_le _)
        · skip
          show bw_go _ _ _ _ _ _ _ 42 [(7, .int _), (6, .int _), (5, .int _), (4, .int _), (3, .int _), (0, .ref _), (1, .int _), (2, .int _)] ([]) _ _
          refine go_iload dX8_next_42 rfl ?_
          refine go_iconst (3) dX8_next_44 rfl ?_
          refine go_icmp_ge (pc' := 62) dX8_next_45 rfl (fun c_45 => ?_) (fun c_45 => ?_)
          · -- ge at 45: yes
            exfalso; have t_0 := nI_toInt (n := v) (by omega); have l_0 : (3 : Int32).toInt = 3 := rfl; simp only [i_le, i_lt, i_eq, bi_eq] at c_45; omega
          · -- ge at 45: no
            show bw_go _ _ _ _ _ _ _ 48 [(7, .int _), (6, .int _), (5, .int _), (4, .int _), (3, .int _), (0, .ref _), (1, .int _), (2, .int _)] ([]) _ _
            refine go_aload_n dX8_next_48 rfl ?_
            refine go_gfr dX8_next_49 fl_8_51 rfl (ms_lt hm.1 (by decide)) hm.1.1.2 hm.1.2.1.2.2.2.2.2.2.2.2.2.2.2.2.1 ?_
            refine go_iload dX8_next_52 rfl ?_
            refine go_iconst (0) dX8_next_54 rfl ?_
            refine go_ist dX8_next_55 hm.1.2.2.2.2.2.2.2.2.2.2.2.2.2.2.1 (ms_lt hm.1 (by decide)) (n_in (N := 3) hv (by decide)) ?_
            show bw_go _ _ _ _ _ _ _ 56 [(7, .int _), (6, .int _), (5, .int _), (4, .int _), (3, .int _), (0, .ref _), (1, .int _), (2, .int _)] ([]) _ _
            rw [nI_clamp (by omega), si_sa, i_sa_s, sa_sa, mix_s (fun _ => 0)]
            refine go_iinc dX8_next_56 rfl (nI_1 v) (Nat.lt_of_lt_of_le (Nat.lt_succ_self _) (Nat.le_of_ble_eq_true rfl)) ?_
            show bw_go _ _ _ _ _ _ _ 59 [(7, .int _), (6, .int _), (5, .int _), (4, .int _), (3, .int _), (0, .ref _), (1, .int _), (2, .int _)] ([]) _ _
            refine go_goto (pc' := 42) dX8_next_59 rfl ?_
            exact K3
        · skip
          show bw_go _ _ _ _ _ _ _ 42 [(7, .int _), (6, .int _), (5, .int _), (4, .int _), (3, .int _), (0, .ref _), (1, .int _), (2, .int _)] ([]) _ _
          refine go_iload dX8_next_42 rfl ?_
          refine go_iconst (3) dX8_next_44 rfl ?_
          refine go_icmp_ge (pc' := 62) dX8_next_45 rfl (fun c_45 => ?_) (fun c_45 => ?_)
          · -- ge at 45: yes
            show bw_go _ _ _ _ _ _ _ 62 [(7, .int _), (6, .int _), (5, .int _), (4, .int _), (3, .int _), (0, .ref _), (1, .int _), (2, .int _)] ([]) _ _
            refine go_iconst (0) dX8_next_62 rfl ?_
            refine go_istore dX8_next_63 (Nat.lt_of_lt_of_le (Nat.lt_succ_self _) (Nat.le_of_ble_eq_true rfl)) ?_
            show bw_go _ _ _ _ _ _ _ 65 [(7, .int _), (6, .int _), (5, .int _), (4, .int _), (3, .int _), (0, .ref _), (1, .int _), (2, .int _)] ([]) _ _
            by_cases hx6 : k % 8 < 6
            · skip
              refine go_for (P := fun d => ∀ F : Nat → Int32, p3 F (nowC S) (tq (lA S (nI j)) (lB S (nI j))) (k / 8) (k % 8) d → bw_go X 6 8 8 false (some .int) cX8_next 65 [(7, .int (nI d)), (6, .int (nI (cnt (tq (lA S (nI j)) (lB S (nI j))) d))), (5, .int (nI k)), (4, .int (nI (mnx (nowC S) (lA S (nI j)) (lB S (nI j)) k).2)), (3, .int (mtI (mnx (nowC S) (lA S (nI j)) (lB S (nI j)) k).1)), (0, .ref (60)), (1, .int (nI j)), (2, .int ((yRL (nI j) S).1))] [] (bw_sa g 73 F) Q) (N := 64) (fun d hd K2 => ?_) ?_ (0) (Nat.zero_le _) (mix (fun _ => 0) (bw_i g 73) 3) ⟨rfl, rfl, rfl⟩
              · intro F hF
                show bw_go _ _ _ _ _ _ _ 65 [(7, .int _), (6, .int _), (5, .int _), (4, .int _), (3, .int _), (0, .ref _), (1, .int _), (2, .int _)] ([]) _ _
                refine go_iload dX8_next_65 rfl ?_
                refine go_bipush (64) dX8_next_67 rfl ?_
                refine go_icmp_ge (pc' := 134) dX8_next_69 rfl (fun c_69 => ?_) (fun c_69 => ?_)
                · -- ge at 69: yes
                  exfalso; have t_0 := nI_toInt (n := d) (by omega); have l_0 : (64 : Int32).toInt = 64 := rfl; simp only [i_le, i_lt, i_eq, bi_eq] at c_69; omega
                · -- ge at 69: no
                  show bw_go _ _ _ _ _ _ _ 72 [(7, .int _), (6, .int _), (5, .int _), (4, .int _), (3, .int _), (0, .ref _), (1, .int _), (2, .int _)] ([]) _ _
                  refine go_iload dX8_next_72 rfl ?_
                  refine go_bipush (8) dX8_next_74 rfl ?_
                  rw [show (8 : Int32) = nI 8 from rfl]
                  refine go_irem dX8_next_76 (by decide) ?_
                  rw [nI_rem (by omega) (by decide) (by decide)]
                  refine go_cs (as := [.int _]) 1 dX8_next_77 rfl rfl mt_8_191 (Nat.le_of_ble_eq_true rfl) rfl rfl (Nat.le_of_ble_eq_true rfl) (Nat.le_of_ble_eq_true rfl) (Nat.le_of_ble_eq_true rfl) (Nat.le_of_ble_eq_true rfl) ?_
                  refine me_X8_isThing ?_
                  show bw_go _ _ _ _ _ _ _ 80 [(7, .int _), (6, .int _), (5, .int _), (4, .int _), (3, .int _), (0, .ref _), (1, .int _), (2, .int _)] ((.int _) :: []) _ _
                  refine go_ifb_eq (pc' := 134) dX8_next_80 rfl (fun c_80 => ?_) (fun c_80 => ?_)
                  · -- eq at 80: yes
                    exact absurd hx6 (fun z => by have z2 := of_decide_eq_false (show decide (0 ≤ (nI (k % 8)).toInt ∧ (nI (k % 8)).toInt < (6 : Nat)) = false from c_80); rw [nI_toInt (by omega)] at z2; omega)
                  · -- eq at 80: no
                    show bw_go _ _ _ _ _ _ _ 83 [(7, .int _), (6, .int _), (5, .int _), (4, .int _), (3, .int _), (0, .ref _), (1, .int _), (2, .int _)] ([]) _ _
                    refine go_aload_n dX8_next_83 rfl ?_
                    refine go_iload dX8_next_84 rfl ?_
                    refine go_iload_n dX8_next_86 rfl ?_
                    refine go_cv (as := [.int _, .int _]) 5 dX8_next_87 mt_8_225 (Or.inl rfl) rfl rfl (ms_lt hm.1 (by decide)) hm.1.1.2 (Nat.le_of_ble_eq_true rfl) (Nat.le_of_ble_eq_true rfl) (Nat.le_of_ble_eq_true rfl) (Nat.le_of_ble_eq_true rfl) (Nat.le_of_ble_eq_true rfl) ?_
                    refine me_X8_isTruth (hm73 F) hl hd ?_
                    rw [tru_l hl hd]
                    show bw_go _ _ _ _ _ _ _ 90 [(7, .int _), (6, .int _), (5, .int _), (4, .int _), (3, .int _), (0, .ref _), (1, .int _), (2, .int _)] ((.int _) :: []) _ _
                    refine go_ifb_eq (pc' := 128) dX8_next_90 rfl (fun c_90 => ?_) (fun c_90 => ?_)
                    · -- eq at 90: yes
                      show bw_go _ _ _ _ _ _ _ 128 [(7, .int _), (6, .int _), (5, .int _), (4, .int _), (3, .int _), (0, .ref _), (1, .int _), (2, .int _)] ([]) _ _
                      refine go_iinc dX8_next_128 rfl (nI_1 d) (Nat.lt_of_lt_of_le (Nat.lt_succ_self _) (Nat.le_of_ble_eq_true rfl)) ?_
                      show bw_go _ _ _ _ _ _ _ 131 [(7, .int _), (6, .int _), (5, .int _), (4, .int _), (3, .int _), (0, .ref _), (1, .int _), (2, .int _)] ([]) _ _
                      refine go_goto (pc' := 65) dX8_next_131 rfl ?_
                      have ec : cnt (tq (lA S (nI j)) (lB S (nI j))) (d + 1) = cnt (tq (lA S (nI j)) (lB S (nI j))) d + (if (tq (lA S (nI j)) (lB S (nI j))) d = true then 1 else 0) := rfl
                      first
                      | (rw [if_neg (fun z => Bool.noConfusion (c_90.symm.trans z)), Nat.add_zero] at ec; rw [ec] at K2; exact K2 F (p3_n hF c_90))
                      | (rw [if_pos c_90] at ec; rw [ec] at K2; exact K2 _ (p3_y hF c_90 hv3 hpv))
                    · -- eq at 90: no
                      show bw_go _ _ _ _ _ _ _ 93 [(7, .int _), (6, .int _), (5, .int _), (4, .int _), (3, .int _), (0, .ref _), (1, .int _), (2, .int _)] ([]) _ _
                      refine go_aload_n dX8_next_93 rfl ?_
                      refine go_gfr dX8_next_94 fl_8_51 rfl (ms_lt hm.1 (by decide)) hm.1.1.2 hm.1.2.1.2.2.2.2.2.2.2.2.2.2.2.2.1 ?_
                      refine go_aload_n dX8_next_97 rfl ?_
                      refine go_aload_n dX8_next_98 rfl ?_
                      refine go_gfr dX8_next_99 fl_8_7 rfl (ms_lt hm.1 (by decide)) hm.1.1.2 hm.1.2.1.1 ?_
                      refine go_iload dX8_next_102 rfl ?_
                      refine go_bipush (8) dX8_next_104 rfl ?_
                      rw [show (8 : Int32) = nI 8 from rfl]
                      refine go_idiv dX8_next_106 (by decide) ?_
                      rw [nI_div (by omega) (by decide) (by decide)]
                      refine go_iload dX8_next_107 rfl ?_
                      refine go_bipush (8) dX8_next_109 rfl ?_
                      rw [show (8 : Int32) = nI 8 from rfl]
                      refine go_irem dX8_next_111 (by decide) ?_
                      rw [nI_rem (by omega) (by decide) (by decide)]
                      refine go_iload dX8_next_112 rfl ?_
                      refine go_cv (as := [.ref _, .int _, .int _, .int _]) 4 dX8_next_114 mt_8_144 (Or.inl rfl) rfl rfl (ms_lt hm.1 (by decide)) hm.1.1.2 (Nat.le_of_ble_eq_true rfl) (Nat.le_of_ble_eq_true rfl) (Nat.le_of_ble_eq_true rfl) (Nat.le_of_ble_eq_true rfl) (Nat.le_of_ble_eq_true rfl) ?_
                      refine me_X8_tellOf (hm73 F).1 (ms_lt (hm73 F).1 (by decide)) (hm73 F).1.2.2.1 (mr_v (hm73 F)) hkC hi8 hx6 hd ?_
                      show bw_go _ _ _ _ _ _ _ 117 [(7, .int _), (6, .int _), (5, .int _), (4, .int _), (3, .int _), (0, .ref _), (1, .int _), (2, .int _)] ((.int _) :: (.ref _) :: []) _ _
                      refine go_cs (as := [.int _]) 0 dX8_next_117 rfl rfl mt_8_216 (Nat.le_of_ble_eq_true rfl) rfl rfl (Nat.le_of_ble_eq_true rfl) (Nat.le_of_ble_eq_true rfl) (Nat.le_of_ble_eq_true rfl) (Nat.le_of_ble_eq_true rfl) ?_
                      refine me_X8_pairOf ?_
                      show bw_go _ _ _ _ _ _ _ 120 [(7, .int _), (6, .int _), (5, .int _), (4, .int _), (3, .int _), (0, .ref _), (1, .int _), (2, .int _)] ((.int _) :: (.ref _) :: []) _ _
                      obtain ⟨v, hv3, hpv⟩ := pr_3 (nowC S) (k / 8) (k % 8) d
                      rw [hpv]
                      refine go_dup2 dX8_next_120 ?_
                      refine go_ia dX8_next_121 hm.1.2.2.2.2.2.2.2.2.2.2.2.2.2.2.1 (ms_lt hm.1 (by decide)) (n_in (N := 3) hv3 (by decide)) ?_
                      rw [i_sa_s, nI_clamp (by omega)]
                      refine go_iconst (1) dX8_next_122 rfl ?_
                      refine go_iadd dX8_next_123 ?_
                      refine go_ist dX8_next_124 hm.1.2.2.2.2.2.2.2.2.2.2.2.2.2.2.1 (ms_lt hm.1 (by decide)) (n_in (N := 3) hv3 (by decide)) ?_
                      show bw_go _ _ _ _ _ _ _ 125 [(7, .int _), (6, .int _), (5, .int _), (4, .int _), (3, .int _), (0, .ref _), (1, .int _), (2, .int _)] ([]) _ _
                      rw [nI_clamp (by omega), si_sa, i_sa_s, sa_sa]
                      refine go_iinc dX8_next_125 rfl (nI_1 _) (Nat.lt_of_lt_of_le (Nat.lt_succ_self _) (Nat.le_of_ble_eq_true rfl)) ?_
                      show bw_go _ _ _ _ _ _ _ 128 [(6, .int _), (7, .int _), (5, .int _), (4, .int _), (3, .int _), (0, .ref _), (1, .int _), (2, .int _)] ([]) _ _
                      refine go_iinc dX8_next_128 rfl (nI_1 d) (Nat.lt_of_lt_of_le (Nat.lt_succ_self _) (Nat.le_of_ble_eq_true rfl)) ?_
                      show bw_go _ _ _ _ _ _ _ 131 [(7, .int _), (6, .int _), (5, .int _), (4, .int _), (3, .int _), (0, .ref _), (1, .int _), (2, .int _)] ([]) _ _
                      refine go_goto (pc' := 65) dX8_next_131 rfl ?_
                      have ec : cnt (tq (lA S (nI j)) (lB S (nI j))) (d + 1) = cnt (tq (lA S (nI j)) (lB S (nI j))) d + (if (tq (lA S (nI j)) (lB S (nI j))) d = true then 1 else 0) := rfl
                      first
                      | (rw [if_neg (fun z => Bool.noConfusion (c_90.symm.trans z)), Nat.add_zero] at ec; rw [ec] at K2; exact K2 F (p3_n hF c_90))
                      | (rw [if_pos c_90] at ec; rw [ec] at K2; exact K2 _ (p3_y hF c_90 hv3 hpv))
              · intro F hF
                show bw_go _ _ _ _ _ _ _ 65 [(7, .int _), (6, .int _), (5, .int _), (4, .int _), (3, .int _), (0, .ref _), (1, .int _), (2, .int _)] ([]) _ _
                refine go_iload dX8_next_65 rfl ?_
                refine go_bipush (64) dX8_next_67 rfl ?_
                refine go_icmp_ge (pc' := 134) dX8_next_69 rfl (fun c_69 => ?_) (fun c_69 => ?_)
                · -- ge at 69: yes
                  show bw_go _ _ _ _ _ _ _ 134 [(7, .int _), (6, .int _), (5, .int _), (4, .int _), (3, .int _), (0, .ref _), (1, .int _), (2, .int _)] ([]) _ _
                  refine go_aload_n dX8_next_134 rfl ?_
                  refine go_gfr dX8_next_135 fl_8_51 rfl (ms_lt hm.1 (by decide)) hm.1.1.2 hm.1.2.1.2.2.2.2.2.2.2.2.2.2.2.2.1 ?_
                  refine go_iconst (0) dX8_next_138 rfl ?_
                  refine go_ia dX8_next_139 hm.1.2.2.2.2.2.2.2.2.2.2.2.2.2.2.1 (ms_lt hm.1 (by decide)) (by decide) ?_
                  rw [show (0 : Int32).toNatClampNeg = 0 from rfl, i_sa_s, hF.1]
                  refine go_aload_n dX8_next_140 rfl ?_
                  refine go_gfr dX8_next_141 fl_8_51 rfl (ms_lt hm.1 (by decide)) hm.1.1.2 hm.1.2.1.2.2.2.2.2.2.2.2.2.2.2.2.1 ?_
                  refine go_iconst (1) dX8_next_144 rfl ?_
                  refine go_ia dX8_next_145 hm.1.2.2.2.2.2.2.2.2.2.2.2.2.2.2.1 (ms_lt hm.1 (by decide)) (by decide) ?_
                  rw [show (1 : Int32).toNatClampNeg = 1 from rfl, i_sa_s, hF.2.1]
                  refine go_icmp_le (pc' := 158) dX8_next_146 rfl (fun c_146 => ?_) (fun c_146 => ?_)
                  · -- le at 146: yes
                    show bw_go _ _ _ _ _ _ _ 158 [(7, .int _), (6, .int _), (5, .int _), (4, .int _), (3, .int _), (0, .ref _), (1, .int _), (2, .int _)] ([]) _ _
                    refine go_aload_n dX8_next_158 rfl ?_
                    refine go_gfr dX8_next_159 fl_8_51 rfl (ms_lt hm.1 (by decide)) hm.1.1.2 hm.1.2.1.2.2.2.2.2.2.2.2.2.2.2.2.1 ?_
                    refine go_iconst (1) dX8_next_162 rfl ?_
                    refine go_ia dX8_next_163 hm.1.2.2.2.2.2.2.2.2.2.2.2.2.2.2.1 (ms_lt hm.1 (by decide)) (by decide) ?_
                    first | rw [show (1 : Int32).toNatClampNeg = 1 from rfl, i_sa_s, hF.2.1] | skip
                    refine go_istore dX8_next_164 (Nat.lt_of_lt_of_le (Nat.lt_succ_self _) (Nat.le_of_ble_eq_true rfl)) ?_
                    show bw_go _ _ _ _ _ _ _ 166 [(7, .int _), (6, .int _), (5, .int _), (4, .int _), (3, .int _), (0, .ref _), (1, .int _), (2, .int _)] ([]) _ _
                    refine go_aload_n dX8_next_166 rfl ?_
                    refine go_gfr dX8_next_167 fl_8_51 rfl (ms_lt hm.1 (by decide)) hm.1.1.2 hm.1.2.1.2.2.2.2.2.2.2.2.2.2.2.2.1 ?_
                    refine go_iconst (2) dX8_next_170 rfl ?_
                    refine go_ia dX8_next_171 hm.1.2.2.2.2.2.2.2.2.2.2.2.2.2.2.1 (ms_lt hm.1 (by decide)) (by decide) ?_
                    rw [show (2 : Int32).toNatClampNeg = 2 from rfl, i_sa_s, hF.2.2]
                    refine go_iload dX8_next_172 rfl ?_
                    refine go_icmp_le (pc' := 186) dX8_next_174 rfl (fun c_174 => ?_) (fun c_174 => ?_)
                    · -- le at 174: yes
                      show bw_go _ _ _ _ _ _ _ 186 [(7, .int _), (6, .int _), (5, .int _), (4, .int _), (3, .int _), (0, .ref _), (1, .int _), (2, .int _)] ([]) _ _
                      refine go_iload dX8_next_186 rfl ?_
                      refine go_istore dX8_next_188 (Nat.lt_of_lt_of_le (Nat.lt_succ_self _) (Nat.le_of_ble_eq_true rfl)) ?_
                      show bw_go _ _ _ _ _ _ _ 190 [(7, .int _), (6, .int _), (5, .int _), (4, .int _), (3, .int _), (0, .ref _), (1, .int _), (2, .int _)] ([]) _ _
                      refine go_iload dX8_next_190 rfl ?_
                      refine go_if_le (pc' := 207) dX8_next_192 rfl (fun c_192 => ?_) (fun c_192 => ?_)
                      · -- le at 192: yes
                        show bw_go _ _ _ _ _ _ _ 207 [(7, .int _), (6, .int _), (5, .int _), (4, .int _), (3, .int _), (0, .ref _), (1, .int _), (2, .int _)] ([]) _ _
                        refine go_iload_n dX8_next_207 rfl ?_
                        refine go_istore_n dX8_next_208 (Nat.lt_of_lt_of_le (Nat.lt_succ_self _) (Nat.le_of_ble_eq_true rfl)) ?_
                        show bw_go _ _ _ _ _ _ _ 209 [(3, .int _), (7, .int _), (6, .int _), (5, .int _), (4, .int _), (0, .ref _), (1, .int _), (2, .int _)] ([]) _ _
                        refine go_iload dX8_next_209 rfl ?_
                        refine go_if_le (pc' := 226) dX8_next_211 rfl (fun c_211 => ?_) (fun c_211 => ?_)
                        · -- le at 211: yes
                          show bw_go _ _ _ _ _ _ _ 226 [(3, .int _), (7, .int _), (6, .int _), (5, .int _), (4, .int _), (0, .ref _), (1, .int _), (2, .int _)] ([]) _ _
                          refine go_iload dX8_next_226 rfl ?_
                          refine go_istore dX8_next_228 (Nat.lt_of_lt_of_le (Nat.lt_succ_self _) (Nat.le_of_ble_eq_true rfl)) ?_
                          show bw_go _ _ _ _ _ _ _ 230 [(4, .int _), (3, .int _), (7, .int _), (6, .int _), (5, .int _), (0, .ref _), (1, .int _), (2, .int _)] ([]) _ _
                          refine go_iinc dX8_next_230 rfl (nI_1 k) (Nat.lt_of_lt_of_le (Nat.lt_succ_self _) (Nat.le_of_ble_eq_true rfl)) ?_
                          show bw_go _ _ _ _ _ _ _ 233 [(5, .int _), (4, .int _), (3, .int _), (7, .int _), (6, .int _), (0, .ref _), (1, .int _), (2, .int _)] ([]) _ _
                          refine go_goto (pc' := 22) dX8_next_233 rfl ?_
                          refine go_ls [(5, .int _), (4, .int _), (3, .int _), (0, .ref _), (1, .int _), (2, .int _)] (by show List.Nodup ([5, 4, 3, 0, 1, 2] : List Nat); decide) (by show List.Nodup ([5, 4, 3, 7, 6, 0, 1, 2] : List Nat); decide) (le_cons rfl (le_cons rfl (le_cons rfl (le_cons rfl (le_cons rfl (le_cons rfl (le_nil _))))))) ?_
                          have e1 : mnx (nowC S) (lA S (nI j)) (lB S (nI j)) (k + 1) = if 0 < trc (lA S (nI j)) (lB S (nI j)) ∧ k % 8 < 6 ∧ gpt (nowC S) (lA S (nI j)) (lB S (nI j)) (k / 8) (k % 8) < (mnx (nowC S) (lA S (nI j)) (lB S (nI j)) k).2 then (some k, gpt (nowC S) (lA S (nI j)) (lB S (nI j)) (k / 8) (k % 8)) else (mnx (nowC S) (lA S (nI j)) (lB S (nI j)) k) := rfl
                          have hg9 : (max (pcv (nowC S) (tq (lA S (nI j)) (lB S (nI j))) (k / 8) (k % 8) 0 64) (pcv (nowC S) (tq (lA S (nI j)) (lB S (nI j))) (k / 8) (k % 8) 1 64) < (pcv (nowC S) (tq (lA S (nI j)) (lB S (nI j))) (k / 8) (k % 8) 2 64) ∧ gpt (nowC S) (lA S (nI j)) (lB S (nI j)) (k / 8) (k % 8) = (pcv (nowC S) (tq (lA S (nI j)) (lB S (nI j))) (k / 8) (k % 8) 2 64)) ∨ (¬ max (pcv (nowC S) (tq (lA S (nI j)) (lB S (nI j))) (k / 8) (k % 8) 0 64) (pcv (nowC S) (tq (lA S (nI j)) (lB S (nI j))) (k / 8) (k % 8) 1 64) < (pcv (nowC S) (tq (lA S (nI j)) (lB S (nI j))) (k / 8) (k % 8) 2 64) ∧ gpt (nowC S) (lA S (nI j)) (lB S (nI j)) (k / 8) (k % 8) = max (pcv (nowC S) (tq (lA S (nI j)) (lB S (nI j))) (k / 8) (k % 8) 0 64) (pcv (nowC S) (tq (lA S (nI j)) (lB S (nI j))) (k / 8) (k % 8) 1 64)) := by
                            rw [← mx3_e ha hx6]
                            unfold mx3
                            by_cases z : max (pcv (nowC S) (tq (lA S (nI j)) (lB S (nI j))) (k / 8) (k % 8) 0 64) (pcv (nowC S) (tq (lA S (nI j)) (lB S (nI j))) (k / 8) (k % 8) 1 64) < (pcv (nowC S) (tq (lA S (nI j)) (lB S (nI j))) (k / 8) (k % 8) 2 64)
                            · exact Or.inl ⟨z, if_pos z⟩
                            · exact Or.inr ⟨z, if_neg z⟩
                          have q0 := pcv_le (C := nowC S) (P := (tq (lA S (nI j)) (lB S (nI j)))) (i := k / 8) (x := k % 8) (v := 0) 64
                          have q1 := pcv_le (C := nowC S) (P := (tq (lA S (nI j)) (lB S (nI j)))) (i := k / 8) (x := k % 8) (v := 1) 64
                          have q2 := pcv_le (C := nowC S) (P := (tq (lA S (nI j)) (lB S (nI j)))) (i := k / 8) (x := k % 8) (v := 2) 64
                          have qc : cnt (tq (lA S (nI j)) (lB S (nI j))) 64 = trc (lA S (nI j)) (lB S (nI j)) := rfl
                          have qt := trc_le (lA S (nI j)) (lB S (nI j))
                          have qb := (mnx_b (C := nowC S) (b := lB S (nI j)) ha k).1
                          generalize gpt (nowC S) (lA S (nI j)) (lB S (nI j)) (k / 8) (k % 8) = G at *
                          generalize (pcv (nowC S) (tq (lA S (nI j)) (lB S (nI j))) (k / 8) (k % 8) 0 64) = p0 at *
                          generalize (pcv (nowC S) (tq (lA S (nI j)) (lB S (nI j))) (k / 8) (k % 8) 1 64) = p1 at *
                          generalize (pcv (nowC S) (tq (lA S (nI j)) (lB S (nI j))) (k / 8) (k % 8) 2 64) = p2 at *
                          have t_0 := nI_toInt (n := p0) (by omega)
                          have t_1 := nI_toInt (n := p1) (by omega)
                          have t_2 := nI_toInt (n := p2) (by omega)
                          have t_3 := nI_toInt (n := cnt (tq (lA S (nI j)) (lB S (nI j))) 64) (by omega)
                          have t_4 := nI_toInt (n := (mnx (nowC S) (lA S (nI j)) (lB S (nI j)) k).2) (by omega)
                          have l_0 := i_0
                          try simp only [i_le] at c_146
                          try simp only [i_le] at c_174
                          try simp only [i_le] at c_192
                          try simp only [i_le] at c_199
                          try simp only [i_le] at c_211
                          try simp only [i_le] at c_218
                          first
                          | (exfalso; omega)
                          | (rw [if_neg (fun z => by omega)] at e1; rw [e1] at K; exact K _ ⟨hm73 _, frX_t hf (frX_sa (by decide))⟩)
                          | (rw [if_pos ⟨by omega, hx6, by omega⟩] at e1
                             rw [e1] at K
                             first
                             | (rw [show G = p0 by omega] at K; exact K _ ⟨hm73 _, frX_t hf (frX_sa (by decide))⟩)
                             | (rw [show G = p1 by omega] at K; exact K _ ⟨hm73 _, frX_t hf (frX_sa (by decide))⟩)
                             | (rw [show G = p2 by omega] at K; exact K _ ⟨hm73 _, frX_t hf (frX_sa (by decide))⟩))
                        · -- le at 211: no
                          show bw_go _ _ _ _ _ _ _ 214 [(3, .int _), (7, .int _), (6, .int _), (5, .int _), (4, .int _), (0, .ref _), (1, .int _), (2, .int _)] ([]) _ _
                          refine go_iload dX8_next_214 rfl ?_
                          refine go_iload dX8_next_216 rfl ?_
                          refine go_icmp_ge (pc' := 226) dX8_next_218 rfl (fun c_218 => ?_) (fun c_218 => ?_)
                          · -- ge at 218: yes
                            show bw_go _ _ _ _ _ _ _ 226 [(3, .int _), (7, .int _), (6, .int _), (5, .int _), (4, .int _), (0, .ref _), (1, .int _), (2, .int _)] ([]) _ _
                            refine go_iload dX8_next_226 rfl ?_
                            refine go_istore dX8_next_228 (Nat.lt_of_lt_of_le (Nat.lt_succ_self _) (Nat.le_of_ble_eq_true rfl)) ?_
                            show bw_go _ _ _ _ _ _ _ 230 [(4, .int _), (3, .int _), (7, .int _), (6, .int _), (5, .int _), (0, .ref _), (1, .int _), (2, .int _)] ([]) _ _
                            refine go_iinc dX8_next_230 rfl (nI_1 k) (Nat.lt_of_lt_of_le (Nat.lt_succ_self _) (Nat.le_of_ble_eq_true rfl)) ?_
                            show bw_go _ _ _ _ _ _ _ 233 [(5, .int _), (4, .int _), (3, .int _), (7, .int _), (6, .int _), (0, .ref _), (1, .int _), (2, .int _)] ([]) _ _
                            refine go_goto (pc' := 22) dX8_next_233 rfl ?_
                            refine go_ls [(5, .int _), (4, .int _), (3, .int _), (0, .ref _), (1, .int _), (2, .int _)] (by show List.Nodup ([5, 4, 3, 0, 1, 2] : List Nat); decide) (by show List.Nodup ([5, 4, 3, 7, 6, 0, 1, 2] : List Nat); decide) (le_cons rfl (le_cons rfl (le_cons rfl (le_cons rfl (le_cons rfl (le_cons rfl (le_nil _))))))) ?_
                            have e1 : mnx (nowC S) (lA S (nI j)) (lB S (nI j)) (k + 1) = if 0 < trc (lA S (nI j)) (lB S (nI j)) ∧ k % 8 < 6 ∧ gpt (nowC S) (lA S (nI j)) (lB S (nI j)) (k / 8) (k % 8) < (mnx (nowC S) (lA S (nI j)) (lB S (nI j)) k).2 then (some k, gpt (nowC S) (lA S (nI j)) (lB S (nI j)) (k / 8) (k % 8)) else (mnx (nowC S) (lA S (nI j)) (lB S (nI j)) k) := rfl
                            have hg9 : (max (pcv (nowC S) (tq (lA S (nI j)) (lB S (nI j))) (k / 8) (k % 8) 0 64) (pcv (nowC S) (tq (lA S (nI j)) (lB S (nI j))) (k / 8) (k % 8) 1 64) < (pcv (nowC S) (tq (lA S (nI j)) (lB S (nI j))) (k / 8) (k % 8) 2 64) ∧ gpt (nowC S) (lA S (nI j)) (lB S (nI j)) (k / 8) (k % 8) = (pcv (nowC S) (tq (lA S (nI j)) (lB S (nI j))) (k / 8) (k % 8) 2 64)) ∨ (¬ max (pcv (nowC S) (tq (lA S (nI j)) (lB S (nI j))) (k / 8) (k % 8) 0 64) (pcv (nowC S) (tq (lA S (nI j)) (lB S (nI j))) (k / 8) (k % 8) 1 64) < (pcv (nowC S) (tq (lA S (nI j)) (lB S (nI j))) (k / 8) (k % 8) 2 64) ∧ gpt (nowC S) (lA S (nI j)) (lB S (nI j)) (k / 8) (k % 8) = max (pcv (nowC S) (tq (lA S (nI j)) (lB S (nI j))) (k / 8) (k % 8) 0 64) (pcv (nowC S) (tq (lA S (nI j)) (lB S (nI j))) (k / 8) (k % 8) 1 64)) := by
                              rw [← mx3_e ha hx6]
                              unfold mx3
                              by_cases z : max (pcv (nowC S) (tq (lA S (nI j)) (lB S (nI j))) (k / 8) (k % 8) 0 64) (pcv (nowC S) (tq (lA S (nI j)) (lB S (nI j))) (k / 8) (k % 8) 1 64) < (pcv (nowC S) (tq (lA S (nI j)) (lB S (nI j))) (k / 8) (k % 8) 2 64)
                              · exact Or.inl ⟨z, if_pos z⟩
                              · exact Or.inr ⟨z, if_neg z⟩
                            have q0 := pcv_le (C := nowC S) (P := (tq (lA S (nI j)) (lB S (nI j)))) (i := k / 8) (x := k % 8) (v := 0) 64
                            have q1 := pcv_le (C := nowC S) (P := (tq (lA S (nI j)) (lB S (nI j)))) (i := k / 8) (x := k % 8) (v := 1) 64
                            have q2 := pcv_le (C := nowC S) (P := (tq (lA S (nI j)) (lB S (nI j)))) (i := k / 8) (x := k % 8) (v := 2) 64
                            have qc : cnt (tq (lA S (nI j)) (lB S (nI j))) 64 = trc (lA S (nI j)) (lB S (nI j)) := rfl
                            have qt := trc_le (lA S (nI j)) (lB S (nI j))
                            have qb := (mnx_b (C := nowC S) (b := lB S (nI j)) ha k).1
                            generalize gpt (nowC S) (lA S (nI j)) (lB S (nI j)) (k / 8) (k % 8) = G at *
                            generalize (pcv (nowC S) (tq (lA S (nI j)) (lB S (nI j))) (k / 8) (k % 8) 0 64) = p0 at *
                            generalize (pcv (nowC S) (tq (lA S (nI j)) (lB S (nI j))) (k / 8) (k % 8) 1 64) = p1 at *
                            generalize (pcv (nowC S) (tq (lA S (nI j)) (lB S (nI j))) (k / 8) (k % 8) 2 64) = p2 at *
                            have t_0 := nI_toInt (n := p0) (by omega)
                            have t_1 := nI_toInt (n := p1) (by omega)
                            have t_2 := nI_toInt (n := p2) (by omega)
                            have t_3 := nI_toInt (n := cnt (tq (lA S (nI j)) (lB S (nI j))) 64) (by omega)
                            have t_4 := nI_toInt (n := (mnx (nowC S) (lA S (nI j)) (lB S (nI j)) k).2) (by omega)
                            have l_0 := i_0
                            try simp only [i_le] at c_146
                            try simp only [i_le] at c_174
                            try simp only [i_le] at c_192
                            try simp only [i_le] at c_199
                            try simp only [i_le] at c_211
                            try simp only [i_le] at c_218
                            first
                            | (exfalso; omega)
                            | (rw [if_neg (fun z => by omega)] at e1; rw [e1] at K; exact K _ ⟨hm73 _, frX_t hf (frX_sa (by decide))⟩)
                            | (rw [if_pos ⟨by omega, hx6, by omega⟩] at e1
                               rw [e1] at K
                               first
                               | (rw [show G = p0 by omega] at K; exact K _ ⟨hm73 _, frX_t hf (frX_sa (by decide))⟩)
                               | (rw [show G = p1 by omega] at K; exact K _ ⟨hm73 _, frX_t hf (frX_sa (by decide))⟩)
                               | (rw [show G = p2 by omega] at K; exact K _ ⟨hm73 _, frX_t hf (frX_sa (by decide))⟩))
                          · -- ge at 218: no
                            show bw_go _ _ _ _ _ _ _ 221 [(3, .int _), (7, .int _), (6, .int _), (5, .int _), (4, .int _), (0, .ref _), (1, .int _), (2, .int _)] ([]) _ _
                            refine go_iload dX8_next_221 rfl ?_
                            refine go_goto (pc' := 228) dX8_next_223 rfl ?_
                            show bw_go _ _ _ _ _ _ _ 228 [(3, .int _), (7, .int _), (6, .int _), (5, .int _), (4, .int _), (0, .ref _), (1, .int _), (2, .int _)] ((.int _) :: []) _ _
                            refine go_istore dX8_next_228 (Nat.lt_of_lt_of_le (Nat.lt_succ_self _) (Nat.le_of_ble_eq_true rfl)) ?_
                            show bw_go _ _ _ _ _ _ _ 230 [(4, .int _), (3, .int _), (7, .int _), (6, .int _), (5, .int _), (0, .ref _), (1, .int _), (2, .int _)] ([]) _ _
                            refine go_iinc dX8_next_230 rfl (nI_1 k) (Nat.lt_of_lt_of_le (Nat.lt_succ_self _) (Nat.le_of_ble_eq_true rfl)) ?_
                            show bw_go _ _ _ _ _ _ _ 233 [(5, .int _), (4, .int _), (3, .int _), (7, .int _), (6, .int _), (0, .ref _), (1, .int _), (2, .int _)] ([]) _ _
                            refine go_goto (pc' := 22) dX8_next_233 rfl ?_
                            refine go_ls [(5, .int _), (4, .int _), (3, .int _), (0, .ref _), (1, .int _), (2, .int _)] (by show List.Nodup ([5, 4, 3, 0, 1, 2] : List Nat); decide) (by show List.Nodup ([5, 4, 3, 7, 6, 0, 1, 2] : List Nat); decide) (le_cons rfl (le_cons rfl (le_cons rfl (le_cons rfl (le_cons rfl (le_cons rfl (le_nil _))))))) ?_
                            have e1 : mnx (nowC S) (lA S (nI j)) (lB S (nI j)) (k + 1) = if 0 < trc (lA S (nI j)) (lB S (nI j)) ∧ k % 8 < 6 ∧ gpt (nowC S) (lA S (nI j)) (lB S (nI j)) (k / 8) (k % 8) < (mnx (nowC S) (lA S (nI j)) (lB S (nI j)) k).2 then (some k, gpt (nowC S) (lA S (nI j)) (lB S (nI j)) (k / 8) (k % 8)) else (mnx (nowC S) (lA S (nI j)) (lB S (nI j)) k) := rfl
                            have hg9 : (max (pcv (nowC S) (tq (lA S (nI j)) (lB S (nI j))) (k / 8) (k % 8) 0 64) (pcv (nowC S) (tq (lA S (nI j)) (lB S (nI j))) (k / 8) (k % 8) 1 64) < (pcv (nowC S) (tq (lA S (nI j)) (lB S (nI j))) (k / 8) (k % 8) 2 64) ∧ gpt (nowC S) (lA S (nI j)) (lB S (nI j)) (k / 8) (k % 8) = (pcv (nowC S) (tq (lA S (nI j)) (lB S (nI j))) (k / 8) (k % 8) 2 64)) ∨ (¬ max (pcv (nowC S) (tq (lA S (nI j)) (lB S (nI j))) (k / 8) (k % 8) 0 64) (pcv (nowC S) (tq (lA S (nI j)) (lB S (nI j))) (k / 8) (k % 8) 1 64) < (pcv (nowC S) (tq (lA S (nI j)) (lB S (nI j))) (k / 8) (k % 8) 2 64) ∧ gpt (nowC S) (lA S (nI j)) (lB S (nI j)) (k / 8) (k % 8) = max (pcv (nowC S) (tq (lA S (nI j)) (lB S (nI j))) (k / 8) (k % 8) 0 64) (pcv (nowC S) (tq (lA S (nI j)) (lB S (nI j))) (k / 8) (k % 8) 1 64)) := by
                              rw [← mx3_e ha hx6]
                              unfold mx3
                              by_cases z : max (pcv (nowC S) (tq (lA S (nI j)) (lB S (nI j))) (k / 8) (k % 8) 0 64) (pcv (nowC S) (tq (lA S (nI j)) (lB S (nI j))) (k / 8) (k % 8) 1 64) < (pcv (nowC S) (tq (lA S (nI j)) (lB S (nI j))) (k / 8) (k % 8) 2 64)
                              · exact Or.inl ⟨z, if_pos z⟩
                              · exact Or.inr ⟨z, if_neg z⟩
                            have q0 := pcv_le (C := nowC S) (P := (tq (lA S (nI j)) (lB S (nI j)))) (i := k / 8) (x := k % 8) (v := 0) 64
                            have q1 := pcv_le (C := nowC S) (P := (tq (lA S (nI j)) (lB S (nI j)))) (i := k / 8) (x := k % 8) (v := 1) 64
                            have q2 := pcv_le (C := nowC S) (P := (tq (lA S (nI j)) (lB S (nI j)))) (i := k / 8) (x := k % 8) (v := 2) 64
                            have qc : cnt (tq (lA S (nI j)) (lB S (nI j))) 64 = trc (lA S (nI j)) (lB S (nI j)) := rfl
                            have qt := trc_le (lA S (nI j)) (lB S (nI j))
                            have qb := (mnx_b (C := nowC S) (b := lB S (nI j)) ha k).1
                            generalize gpt (nowC S) (lA S (nI j)) (lB S (nI j)) (k / 8) (k % 8) = G at *
                            generalize (pcv (nowC S) (tq (lA S (nI j)) (lB S (nI j))) (k / 8) (k % 8) 0 64) = p0 at *
                            generalize (pcv (nowC S) (tq (lA S (nI j)) (lB S (nI j))) (k / 8) (k % 8) 1 64) = p1 at *
                            generalize (pcv (nowC S) (tq (lA S (nI j)) (lB S (nI j))) (k / 8) (k % 8) 2 64) = p2 at *
                            have t_0 := nI_toInt (n := p0) (by omega)
                            have t_1 := nI_toInt (n := p1) (by omega)
                            have t_2 := nI_toInt (n := p2) (by omega)
                            have t_3 := nI_toInt (n := cnt (tq (lA S (nI j)) (lB S (nI j))) 64) (by omega)
                            have t_4 := nI_toInt (n := (mnx (nowC S) (lA S (nI j)) (lB S (nI j)) k).2) (by omega)
                            have l_0 := i_0
                            try simp only [i_le] at c_146
                            try simp only [i_le] at c_174
                            try simp only [i_le] at c_192
                            try simp only [i_le] at c_199
                            try simp only [i_le] at c_211
                            try simp only [i_le] at c_218
                            first
                            | (exfalso; omega)
                            | (rw [if_neg (fun z => by omega)] at e1; rw [e1] at K; exact K _ ⟨hm73 _, frX_t hf (frX_sa (by decide))⟩)
                            | (rw [if_pos ⟨by omega, hx6, by omega⟩] at e1
                               rw [e1] at K
                               first
                               | (rw [show G = p0 by omega] at K; exact K _ ⟨hm73 _, frX_t hf (frX_sa (by decide))⟩)
                               | (rw [show G = p1 by omega] at K; exact K _ ⟨hm73 _, frX_t hf (frX_sa (by decide))⟩)
                               | (rw [show G = p2 by omega] at K; exact K _ ⟨hm73 _, frX_t hf (frX_sa (by decide))⟩))
                      · -- le at 192: no
                        show bw_go _ _ _ _ _ _ _ 195 [(7, .int _), (6, .int _), (5, .int _), (4, .int _), (3, .int _), (0, .ref _), (1, .int _), (2, .int _)] ([]) _ _
                        refine go_iload dX8_next_195 rfl ?_
                        refine go_iload dX8_next_197 rfl ?_
                        refine go_icmp_ge (pc' := 207) dX8_next_199 rfl (fun c_199 => ?_) (fun c_199 => ?_)
                        · -- ge at 199: yes
                          show bw_go _ _ _ _ _ _ _ 207 [(7, .int _), (6, .int _), (5, .int _), (4, .int _), (3, .int _), (0, .ref _), (1, .int _), (2, .int _)] ([]) _ _
                          refine go_iload_n dX8_next_207 rfl ?_
                          refine go_istore_n dX8_next_208 (Nat.lt_of_lt_of_le (Nat.lt_succ_self _) (Nat.le_of_ble_eq_true rfl)) ?_
                          show bw_go _ _ _ _ _ _ _ 209 [(3, .int _), (7, .int _), (6, .int _), (5, .int _), (4, .int _), (0, .ref _), (1, .int _), (2, .int _)] ([]) _ _
                          refine go_iload dX8_next_209 rfl ?_
                          refine go_if_le (pc' := 226) dX8_next_211 rfl (fun c_211 => ?_) (fun c_211 => ?_)
                          · -- le at 211: yes
                            show bw_go _ _ _ _ _ _ _ 226 [(3, .int _), (7, .int _), (6, .int _), (5, .int _), (4, .int _), (0, .ref _), (1, .int _), (2, .int _)] ([]) _ _
                            refine go_iload dX8_next_226 rfl ?_
                            refine go_istore dX8_next_228 (Nat.lt_of_lt_of_le (Nat.lt_succ_self _) (Nat.le_of_ble_eq_true rfl)) ?_
                            show bw_go _ _ _ _ _ _ _ 230 [(4, .int _), (3, .int _), (7, .int _), (6, .int _), (5, .int _), (0, .ref _), (1, .int _), (2, .int _)] ([]) _ _
                            refine go_iinc dX8_next_230 rfl (nI_1 k) (Nat.lt_of_lt_of_le (Nat.lt_succ_self _) (Nat.le_of_ble_eq_true rfl)) ?_
                            show bw_go _ _ _ _ _ _ _ 233 [(5, .int _), (4, .int _), (3, .int _), (7, .int _), (6, .int _), (0, .ref _), (1, .int _), (2, .int _)] ([]) _ _
                            refine go_goto (pc' := 22) dX8_next_233 rfl ?_
                            refine go_ls [(5, .int _), (4, .int _), (3, .int _), (0, .ref _), (1, .int _), (2, .int _)] (by show List.Nodup ([5, 4, 3, 0, 1, 2] : List Nat); decide) (by show List.Nodup ([5, 4, 3, 7, 6, 0, 1, 2] : List Nat); decide) (le_cons rfl (le_cons rfl (le_cons rfl (le_cons rfl (le_cons rfl (le_cons rfl (le_nil _))))))) ?_
                            have e1 : mnx (nowC S) (lA S (nI j)) (lB S (nI j)) (k + 1) = if 0 < trc (lA S (nI j)) (lB S (nI j)) ∧ k % 8 < 6 ∧ gpt (nowC S) (lA S (nI j)) (lB S (nI j)) (k / 8) (k % 8) < (mnx (nowC S) (lA S (nI j)) (lB S (nI j)) k).2 then (some k, gpt (nowC S) (lA S (nI j)) (lB S (nI j)) (k / 8) (k % 8)) else (mnx (nowC S) (lA S (nI j)) (lB S (nI j)) k) := rfl
                            have hg9 : (max (pcv (nowC S) (tq (lA S (nI j)) (lB S (nI j))) (k / 8) (k % 8) 0 64) (pcv (nowC S) (tq (lA S (nI j)) (lB S (nI j))) (k / 8) (k % 8) 1 64) < (pcv (nowC S) (tq (lA S (nI j)) (lB S (nI j))) (k / 8) (k % 8) 2 64) ∧ gpt (nowC S) (lA S (nI j)) (lB S (nI j)) (k / 8) (k % 8) = (pcv (nowC S) (tq (lA S (nI j)) (lB S (nI j))) (k / 8) (k % 8) 2 64)) ∨ (¬ max (pcv (nowC S) (tq (lA S (nI j)) (lB S (nI j))) (k / 8) (k % 8) 0 64) (pcv (nowC S) (tq (lA S (nI j)) (lB S (nI j))) (k / 8) (k % 8) 1 64) < (pcv (nowC S) (tq (lA S (nI j)) (lB S (nI j))) (k / 8) (k % 8) 2 64) ∧ gpt (nowC S) (lA S (nI j)) (lB S (nI j)) (k / 8) (k % 8) = max (pcv (nowC S) (tq (lA S (nI j)) (lB S (nI j))) (k / 8) (k % 8) 0 64) (pcv (nowC S) (tq (lA S (nI j)) (lB S (nI j))) (k / 8) (k % 8) 1 64)) := by
                              rw [← mx3_e ha hx6]
                              unfold mx3
                              by_cases z : max (pcv (nowC S) (tq (lA S (nI j)) (lB S (nI j))) (k / 8) (k % 8) 0 64) (pcv (nowC S) (tq (lA S (nI j)) (lB S (nI j))) (k / 8) (k % 8) 1 64) < (pcv (nowC S) (tq (lA S (nI j)) (lB S (nI j))) (k / 8) (k % 8) 2 64)
                              · exact Or.inl ⟨z, if_pos z⟩
                              · exact Or.inr ⟨z, if_neg z⟩
                            have q0 := pcv_le (C := nowC S) (P := (tq (lA S (nI j)) (lB S (nI j)))) (i := k / 8) (x := k % 8) (v := 0) 64
                            have q1 := pcv_le (C := nowC S) (P := (tq (lA S (nI j)) (lB S (nI j)))) (i := k / 8) (x := k % 8) (v := 1) 64
                            have q2 := pcv_le (C := nowC S) (P := (tq (lA S (nI j)) (lB S (nI j)))) (i := k / 8) (x := k % 8) (v := 2) 64
                            have qc : cnt (tq (lA S (nI j)) (lB S (nI j))) 64 = trc (lA S (nI j)) (lB S (nI j)) := rfl
                            have qt := trc_le (lA S (nI j)) (lB S (nI j))
                            have qb := (mnx_b (C := nowC S) (b := lB S (nI j)) ha k).1
                            generalize gpt (nowC S) (lA S (nI j)) (lB S (nI j)) (k / 8) (k % 8) = G at *
                            generalize (pcv (nowC S) (tq (lA S (nI j)) (lB S (nI j))) (k / 8) (k % 8) 0 64) = p0 at *
                            generalize (pcv (nowC S) (tq (lA S (nI j)) (lB S (nI j))) (k / 8) (k % 8) 1 64) = p1 at *
                            generalize (pcv (nowC S) (tq (lA S (nI j)) (lB S (nI j))) (k / 8) (k % 8) 2 64) = p2 at *
                            have t_0 := nI_toInt (n := p0) (by omega)
                            have t_1 := nI_toInt (n := p1) (by omega)
                            have t_2 := nI_toInt (n := p2) (by omega)
                            have t_3 := nI_toInt (n := cnt (tq (lA S (nI j)) (lB S (nI j))) 64) (by omega)
                            have t_4 := nI_toInt (n := (mnx (nowC S) (lA S (nI j)) (lB S (nI j)) k).2) (by omega)
                            have l_0 := i_0
                            try simp only [i_le] at c_146
                            try simp only [i_le] at c_174
                            try simp only [i_le] at c_192
                            try simp only [i_le] at c_199
                            try simp only [i_le] at c_211
                            try simp only [i_le] at c_218
                            first
                            | (exfalso; omega)
                            | (rw [if_neg (fun z => by omega)] at e1; rw [e1] at K; exact K _ ⟨hm73 _, frX_t hf (frX_sa (by decide))⟩)
                            | (rw [if_pos ⟨by omega, hx6, by omega⟩] at e1
                               rw [e1] at K
                               first
                               | (rw [show G = p0 by omega] at K; exact K _ ⟨hm73 _, frX_t hf (frX_sa (by decide))⟩)
                               | (rw [show G = p1 by omega] at K; exact K _ ⟨hm73 _, frX_t hf (frX_sa (by decide))⟩)
                               | (rw [show G = p2 by omega] at K; exact K _ ⟨hm73 _, frX_t hf (frX_sa (by decide))⟩))
                          · -- le at 211: no
                            show bw_go _ _ _ _ _ _ _ 214 [(3, .int _), (7, .int _), (6, .int _), (5, .int _), (4, .int _), (0, .ref _), (1, .int _), (2, .int _)] ([]) _ _
                            refine go_iload dX8_next_214 rfl ?_
                            refine go_iload dX8_next_216 rfl ?_
                            refine go_icmp_ge (pc' := 226) dX8_next_218 rfl (fun c_218 => ?_) (fun c_218 => ?_)
                            · -- ge at 218: yes
                              show bw_go _ _ _ _ _ _ _ 226 [(3, .int _), (7, .int _), (6, .int _), (5, .int _), (4, .int _), (0, .ref _), (1, .int _), (2, .int _)] ([]) _ _
                              refine go_iload dX8_next_226 rfl ?_
                              refine go_istore dX8_next_228 (Nat.lt_of_lt_of_le (Nat.lt_succ_self _) (Nat.le_of_ble_eq_true rfl)) ?_
                              show bw_go _ _ _ _ _ _ _ 230 [(4, .int _), (3, .int _), (7, .int _), (6, .int _), (5, .int _), (0, .ref _), (1, .int _), (2, .int _)] ([]) _ _
                              refine go_iinc dX8_next_230 rfl (nI_1 k) (Nat.lt_of_lt_of_le (Nat.lt_succ_self _) (Nat.le_of_ble_eq_true rfl)) ?_
                              show bw_go _ _ _ _ _ _ _ 233 [(5, .int _), (4, .int _), (3, .int _), (7, .int _), (6, .int _), (0, .ref _), (1, .int _), (2, .int _)] ([]) _ _
                              refine go_goto (pc' := 22) dX8_next_233 rfl ?_
                              refine go_ls [(5, .int _), (4, .int _), (3, .int _), (0, .ref _), (1, .int _), (2, .int _)] (by show List.Nodup ([5, 4, 3, 0, 1, 2] : List Nat); decide) (by show List.Nodup ([5, 4, 3, 7, 6, 0, 1, 2] : List Nat); decide) (le_cons rfl (le_cons rfl (le_cons rfl (le_cons rfl (le_cons rfl (le_cons rfl (le_nil _))))))) ?_
                              have e1 : mnx (nowC S) (lA S (nI j)) (lB S (nI j)) (k + 1) = if 0 < trc (lA S (nI j)) (lB S (nI j)) ∧ k % 8 < 6 ∧ gpt (nowC S) (lA S (nI j)) (lB S (nI j)) (k / 8) (k % 8) < (mnx (nowC S) (lA S (nI j)) (lB S (nI j)) k).2 then (some k, gpt (nowC S) (lA S (nI j)) (lB S (nI j)) (k / 8) (k % 8)) else (mnx (nowC S) (lA S (nI j)) (lB S (nI j)) k) := rfl
                              have hg9 : (max (pcv (nowC S) (tq (lA S (nI j)) (lB S (nI j))) (k / 8) (k % 8) 0 64) (pcv (nowC S) (tq (lA S (nI j)) (lB S (nI j))) (k / 8) (k % 8) 1 64) < (pcv (nowC S) (tq (lA S (nI j)) (lB S (nI j))) (k / 8) (k % 8) 2 64) ∧ gpt (nowC S) (lA S (nI j)) (lB S (nI j)) (k / 8) (k % 8) = (pcv (nowC S) (tq (lA S (nI j)) (lB S (nI j))) (k / 8) (k % 8) 2 64)) ∨ (¬ max (pcv (nowC S) (tq (lA S (nI j)) (lB S (nI j))) (k / 8) (k % 8) 0 64) (pcv (nowC S) (tq (lA S (nI j)) (lB S (nI j))) (k / 8) (k % 8) 1 64) < (pcv (nowC S) (tq (lA S (nI j)) (lB S (nI j))) (k / 8) (k % 8) 2 64) ∧ gpt (nowC S) (lA S (nI j)) (lB S (nI j)) (k / 8) (k % 8) = max (pcv (nowC S) (tq (lA S (nI j)) (lB S (nI j))) (k / 8) (k % 8) 0 64) (pcv (nowC S) (tq (lA S (nI j)) (lB S (nI j))) (k / 8) (k % 8) 1 64)) := by
                                rw [← mx3_e ha hx6]
                                unfold mx3
                                by_cases z : max (pcv (nowC S) (tq (lA S (nI j)) (lB S (nI j))) (k / 8) (k % 8) 0 64) (pcv (nowC S) (tq (lA S (nI j)) (lB S (nI j))) (k / 8) (k % 8) 1 64) < (pcv (nowC S) (tq (lA S (nI j)) (lB S (nI j))) (k / 8) (k % 8) 2 64)
                                · exact Or.inl ⟨z, if_pos z⟩
                                · exact Or.inr ⟨z, if_neg z⟩
                              have q0 := pcv_le (C := nowC S) (P := (tq (lA S (nI j)) (lB S (nI j)))) (i := k / 8) (x := k % 8) (v := 0) 64
                              have q1 := pcv_le (C := nowC S) (P := (tq (lA S (nI j)) (lB S (nI j)))) (i := k / 8) (x := k % 8) (v := 1) 64
                              have q2 := pcv_le (C := nowC S) (P := (tq (lA S (nI j)) (lB S (nI j)))) (i := k / 8) (x := k % 8) (v := 2) 64
                              have qc : cnt (tq (lA S (nI j)) (lB S (nI j))) 64 = trc (lA S (nI j)) (lB S (nI j)) := rfl
                              have qt := trc_le (lA S (nI j)) (lB S (nI j))
                              have qb := (mnx_b (C := nowC S) (b := lB S (nI j)) ha k).1
                              generalize gpt (nowC S) (lA S (nI j)) (lB S (nI j)) (k / 8) (k % 8) = G at *
                              generalize (pcv (nowC S) (tq (lA S (nI j)) (lB S (nI j))) (k / 8) (k % 8) 0 64) = p0 at *
                              generalize (pcv (nowC S) (tq (lA S (nI j)) (lB S (nI j))) (k / 8) (k % 8) 1 64) = p1 at *
                              generalize (pcv (nowC S) (tq (lA S (nI j)) (lB S (nI j))) (k / 8) (k % 8) 2 64) = p2 at *
                              have t_0 := nI_toInt (n := p0) (by omega)
                              have t_1 := nI_toInt (n := p1) (by omega)
                              have t_2 := nI_toInt (n := p2) (by omega)
                              have t_3 := nI_toInt (n := cnt (tq (lA S (nI j)) (lB S (nI j))) 64) (by omega)
                              have t_4 := nI_toInt (n := (mnx (nowC S) (lA S (nI j)) (lB S (nI j)) k).2) (by omega)
                              have l_0 := i_0
                              try simp only [i_le] at c_146
                              try simp only [i_le] at c_174
                              try simp only [i_le] at c_192
                              try simp only [i_le] at c_199
                              try simp only [i_le] at c_211
                              try simp only [i_le] at c_218
                              first
                              | (exfalso; omega)
                              | (rw [if_neg (fun z => by omega)] at e1; rw [e1] at K; exact K _ ⟨hm73 _, frX_t hf (frX_sa (by decide))⟩)
                              | (rw [if_pos ⟨by omega, hx6, by omega⟩] at e1
                                 rw [e1] at K
                                 first
                                 | (rw [show G = p0 by omega] at K; exact K _ ⟨hm73 _, frX_t hf (frX_sa (by decide))⟩)
                                 | (rw [show G = p1 by omega] at K; exact K _ ⟨hm73 _, frX_t hf (frX_sa (by decide))⟩)
                                 | (rw [show G = p2 by omega] at K; exact K _ ⟨hm73 _, frX_t hf (frX_sa (by decide))⟩))
                            · -- ge at 218: no
                              show bw_go _ _ _ _ _ _ _ 221 [(3, .int _), (7, .int _), (6, .int _), (5, .int _), (4, .int _), (0, .ref _), (1, .int _), (2, .int _)] ([]) _ _
                              refine go_iload dX8_next_221 rfl ?_
                              refine go_goto (pc' := 228) dX8_next_223 rfl ?_
                              show bw_go _ _ _ _ _ _ _ 228 [(3, .int _), (7, .int _), (6, .int _), (5, .int _), (4, .int _), (0, .ref _), (1, .int _), (2, .int _)] ((.int _) :: []) _ _
                              refine go_istore dX8_next_228 (Nat.lt_of_lt_of_le (Nat.lt_succ_self _) (Nat.le_of_ble_eq_true rfl)) ?_
                              show bw_go _ _ _ _ _ _ _ 230 [(4, .int _), (3, .int _), (7, .int _), (6, .int _), (5, .int _), (0, .ref _), (1, .int _), (2, .int _)] ([]) _ _
                              refine go_iinc dX8_next_230 rfl (nI_1 k) (Nat.lt_of_lt_of_le (Nat.lt_succ_self _) (Nat.le_of_ble_eq_true rfl)) ?_
                              show bw_go _ _ _ _ _ _ _ 233 [(5, .int _), (4, .int _), (3, .int _), (7, .int _), (6, .int _), (0, .ref _), (1, .int _), (2, .int _)] ([]) _ _
                              refine go_goto (pc' := 22) dX8_next_233 rfl ?_
                              refine go_ls [(5, .int _), (4, .int _), (3, .int _), (0, .ref _), (1, .int _), (2, .int _)] (by show List.Nodup ([5, 4, 3, 0, 1, 2] : List Nat); decide) (by show List.Nodup ([5, 4, 3, 7, 6, 0, 1, 2] : List Nat); decide) (le_cons rfl (le_cons rfl (le_cons rfl (le_cons rfl (le_cons rfl (le_cons rfl (le_nil _))))))) ?_
                              have e1 : mnx (nowC S) (lA S (nI j)) (lB S (nI j)) (k + 1) = if 0 < trc (lA S (nI j)) (lB S (nI j)) ∧ k % 8 < 6 ∧ gpt (nowC S) (lA S (nI j)) (lB S (nI j)) (k / 8) (k % 8) < (mnx (nowC S) (lA S (nI j)) (lB S (nI j)) k).2 then (some k, gpt (nowC S) (lA S (nI j)) (lB S (nI j)) (k / 8) (k % 8)) else (mnx (nowC S) (lA S (nI j)) (lB S (nI j)) k) := rfl
                              have hg9 : (max (pcv (nowC S) (tq (lA S (nI j)) (lB S (nI j))) (k / 8) (k % 8) 0 64) (pcv (nowC S) (tq (lA S (nI j)) (lB S (nI j))) (k / 8) (k % 8) 1 64) < (pcv (nowC S) (tq (lA S (nI j)) (lB S (nI j))) (k / 8) (k % 8) 2 64) ∧ gpt (nowC S) (lA S (nI j)) (lB S (nI j)) (k / 8) (k % 8) = (pcv (nowC S) (tq (lA S (nI j)) (lB S (nI j))) (k / 8) (k % 8) 2 64)) ∨ (¬ max (pcv (nowC S) (tq (lA S (nI j)) (lB S (nI j))) (k / 8) (k % 8) 0 64) (pcv (nowC S) (tq (lA S (nI j)) (lB S (nI j))) (k / 8) (k % 8) 1 64) < (pcv (nowC S) (tq (lA S (nI j)) (lB S (nI j))) (k / 8) (k % 8) 2 64) ∧ gpt (nowC S) (lA S (nI j)) (lB S (nI j)) (k / 8) (k % 8) = max (pcv (nowC S) (tq (lA S (nI j)) (lB S (nI j))) (k / 8) (k % 8) 0 64) (pcv (nowC S) (tq (lA S (nI j)) (lB S (nI j))) (k / 8) (k % 8) 1 64)) := by
                                rw [← mx3_e ha hx6]
                                unfold mx3
                                by_cases z : max (pcv (nowC S) (tq (lA S (nI j)) (lB S (nI j))) (k / 8) (k % 8) 0 64) (pcv (nowC S) (tq (lA S (nI j)) (lB S (nI j))) (k / 8) (k % 8) 1 64) < (pcv (nowC S) (tq (lA S (nI j)) (lB S (nI j))) (k / 8) (k % 8) 2 64)
                                · exact Or.inl ⟨z, if_pos z⟩
                                · exact Or.inr ⟨z, if_neg z⟩
                              have q0 := pcv_le (C := nowC S) (P := (tq (lA S (nI j)) (lB S (nI j)))) (i := k / 8) (x := k % 8) (v := 0) 64
                              have q1 := pcv_le (C := nowC S) (P := (tq (lA S (nI j)) (lB S (nI j)))) (i := k / 8) (x := k % 8) (v := 1) 64
                              have q2 := pcv_le (C := nowC S) (P := (tq (lA S (nI j)) (lB S (nI j)))) (i := k / 8) (x := k % 8) (v := 2) 64
                              have qc : cnt (tq (lA S (nI j)) (lB S (nI j))) 64 = trc (lA S (nI j)) (lB S (nI j)) := rfl
                              have qt := trc_le (lA S (nI j)) (lB S (nI j))
                              have qb := (mnx_b (C := nowC S) (b := lB S (nI j)) ha k).1
                              generalize gpt (nowC S) (lA S (nI j)) (lB S (nI j)) (k / 8) (k % 8) = G at *
                              generalize (pcv (nowC S) (tq (lA S (nI j)) (lB S (nI j))) (k / 8) (k % 8) 0 64) = p0 at *
                              generalize (pcv (nowC S) (tq (lA S (nI j)) (lB S (nI j))) (k / 8) (k % 8) 1 64) = p1 at *
                              generalize (pcv (nowC S) (tq (lA S (nI j)) (lB S (nI j))) (k / 8) (k % 8) 2 64) = p2 at *
                              have t_0 := nI_toInt (n := p0) (by omega)
                              have t_1 := nI_toInt (n := p1) (by omega)
                              have t_2 := nI_toInt (n := p2) (by omega)
                              have t_3 := nI_toInt (n := cnt (tq (lA S (nI j)) (lB S (nI j))) 64) (by omega)
                              have t_4 := nI_toInt (n := (mnx (nowC S) (lA S (nI j)) (lB S (nI j)) k).2) (by omega)
                              have l_0 := i_0
                              try simp only [i_le] at c_146
                              try simp only [i_le] at c_174
                              try simp only [i_le] at c_192
                              try simp only [i_le] at c_199
                              try simp only [i_le] at c_211
                              try simp only [i_le] at c_218
                              first
                              | (exfalso; omega)
                              | (rw [if_neg (fun z => by omega)] at e1; rw [e1] at K; exact K _ ⟨hm73 _, frX_t hf (frX_sa (by decide))⟩)
                              | (rw [if_pos ⟨by omega, hx6, by omega⟩] at e1
                                 rw [e1] at K
                                 first
                                 | (rw [show G = p0 by omega] at K; exact K _ ⟨hm73 _, frX_t hf (frX_sa (by decide))⟩)
                                 | (rw [show G = p1 by omega] at K; exact K _ ⟨hm73 _, frX_t hf (frX_sa (by decide))⟩)
                                 | (rw [show G = p2 by omega] at K; exact K _ ⟨hm73 _, frX_t hf (frX_sa (by decide))⟩))
                        · -- ge at 199: no
                          show bw_go _ _ _ _ _ _ _ 202 [(7, .int _), (6, .int _), (5, .int _), (4, .int _), (3, .int _), (0, .ref _), (1, .int _), (2, .int _)] ([]) _ _
                          refine go_iload dX8_next_202 rfl ?_
                          refine go_goto (pc' := 208) dX8_next_204 rfl ?_
                          show bw_go _ _ _ _ _ _ _ 208 [(7, .int _), (6, .int _), (5, .int _), (4, .int _), (3, .int _), (0, .ref _), (1, .int _), (2, .int _)] ((.int _) :: []) _ _
                          refine go_istore_n dX8_next_208 (Nat.lt_of_lt_of_le (Nat.lt_succ_self _) (Nat.le_of_ble_eq_true rfl)) ?_
                          show bw_go _ _ _ _ _ _ _ 209 [(3, .int _), (7, .int _), (6, .int _), (5, .int _), (4, .int _), (0, .ref _), (1, .int _), (2, .int _)] ([]) _ _
                          refine go_iload dX8_next_209 rfl ?_
                          refine go_if_le (pc' := 226) dX8_next_211 rfl (fun c_211 => ?_) (fun c_211 => ?_)
                          · -- le at 211: yes
                            show bw_go _ _ _ _ _ _ _ 226 [(3, .int _), (7, .int _), (6, .int _), (5, .int _), (4, .int _), (0, .ref _), (1, .int _), (2, .int _)] ([]) _ _
                            refine go_iload dX8_next_226 rfl ?_
                            refine go_istore dX8_next_228 (Nat.lt_of_lt_of_le (Nat.lt_succ_self _) (Nat.le_of_ble_eq_true rfl)) ?_
                            show bw_go _ _ _ _ _ _ _ 230 [(4, .int _), (3, .int _), (7, .int _), (6, .int _), (5, .int _), (0, .ref _), (1, .int _), (2, .int _)] ([]) _ _
                            refine go_iinc dX8_next_230 rfl (nI_1 k) (Nat.lt_of_lt_of_le (Nat.lt_succ_self _) (Nat.le_of_ble_eq_true rfl)) ?_
                            show bw_go _ _ _ _ _ _ _ 233 [(5, .int _), (4, .int _), (3, .int _), (7, .int _), (6, .int _), (0, .ref _), (1, .int _), (2, .int _)] ([]) _ _
                            refine go_goto (pc' := 22) dX8_next_233 rfl ?_
                            refine go_ls [(5, .int _), (4, .int _), (3, .int _), (0, .ref _), (1, .int _), (2, .int _)] (by show List.Nodup ([5, 4, 3, 0, 1, 2] : List Nat); decide) (by show List.Nodup ([5, 4, 3, 7, 6, 0, 1, 2] : List Nat); decide) (le_cons rfl (le_cons rfl (le_cons rfl (le_cons rfl (le_cons rfl (le_cons rfl (le_nil _))))))) ?_
                            have e1 : mnx (nowC S) (lA S (nI j)) (lB S (nI j)) (k + 1) = if 0 < trc (lA S (nI j)) (lB S (nI j)) ∧ k % 8 < 6 ∧ gpt (nowC S) (lA S (nI j)) (lB S (nI j)) (k / 8) (k % 8) < (mnx (nowC S) (lA S (nI j)) (lB S (nI j)) k).2 then (some k, gpt (nowC S) (lA S (nI j)) (lB S (nI j)) (k / 8) (k % 8)) else (mnx (nowC S) (lA S (nI j)) (lB S (nI j)) k) := rfl
                            have hg9 : (max (pcv (nowC S) (tq (lA S (nI j)) (lB S (nI j))) (k / 8) (k % 8) 0 64) (pcv (nowC S) (tq (lA S (nI j)) (lB S (nI j))) (k / 8) (k % 8) 1 64) < (pcv (nowC S) (tq (lA S (nI j)) (lB S (nI j))) (k / 8) (k % 8) 2 64) ∧ gpt (nowC S) (lA S (nI j)) (lB S (nI j)) (k / 8) (k % 8) = (pcv (nowC S) (tq (lA S (nI j)) (lB S (nI j))) (k / 8) (k % 8) 2 64)) ∨ (¬ max (pcv (nowC S) (tq (lA S (nI j)) (lB S (nI j))) (k / 8) (k % 8) 0 64) (pcv (nowC S) (tq (lA S (nI j)) (lB S (nI j))) (k / 8) (k % 8) 1 64) < (pcv (nowC S) (tq (lA S (nI j)) (lB S (nI j))) (k / 8) (k % 8) 2 64) ∧ gpt (nowC S) (lA S (nI j)) (lB S (nI j)) (k / 8) (k % 8) = max (pcv (nowC S) (tq (lA S (nI j)) (lB S (nI j))) (k / 8) (k % 8) 0 64) (pcv (nowC S) (tq (lA S (nI j)) (lB S (nI j))) (k / 8) (k % 8) 1 64)) := by
                              rw [← mx3_e ha hx6]
                              unfold mx3
                              by_cases z : max (pcv (nowC S) (tq (lA S (nI j)) (lB S (nI j))) (k / 8) (k % 8) 0 64) (pcv (nowC S) (tq (lA S (nI j)) (lB S (nI j))) (k / 8) (k % 8) 1 64) < (pcv (nowC S) (tq (lA S (nI j)) (lB S (nI j))) (k / 8) (k % 8) 2 64)
                              · exact Or.inl ⟨z, if_pos z⟩
                              · exact Or.inr ⟨z, if_neg z⟩
                            have q0 := pcv_le (C := nowC S) (P := (tq (lA S (nI j)) (lB S (nI j)))) (i := k / 8) (x := k % 8) (v := 0) 64
                            have q1 := pcv_le (C := nowC S) (P := (tq (lA S (nI j)) (lB S (nI j)))) (i := k / 8) (x := k % 8) (v := 1) 64
                            have q2 := pcv_le (C := nowC S) (P := (tq (lA S (nI j)) (lB S (nI j)))) (i := k / 8) (x := k % 8) (v := 2) 64
                            have qc : cnt (tq (lA S (nI j)) (lB S (nI j))) 64 = trc (lA S (nI j)) (lB S (nI j)) := rfl
                            have qt := trc_le (lA S (nI j)) (lB S (nI j))
                            have qb := (mnx_b (C := nowC S) (b := lB S (nI j)) ha k).1
                            generalize gpt (nowC S) (lA S (nI j)) (lB S (nI j)) (k / 8) (k % 8) = G at *
                            generalize (pcv (nowC S) (tq (lA S (nI j)) (lB S (nI j))) (k / 8) (k % 8) 0 64) = p0 at *
                            generalize (pcv (nowC S) (tq (lA S (nI j)) (lB S (nI j))) (k / 8) (k % 8) 1 64) = p1 at *
                            generalize (pcv (nowC S) (tq (lA S (nI j)) (lB S (nI j))) (k / 8) (k % 8) 2 64) = p2 at *
                            have t_0 := nI_toInt (n := p0) (by omega)
                            have t_1 := nI_toInt (n := p1) (by omega)
                            have t_2 := nI_toInt (n := p2) (by omega)
                            have t_3 := nI_toInt (n := cnt (tq (lA S (nI j)) (lB S (nI j))) 64) (by omega)
                            have t_4 := nI_toInt (n := (mnx (nowC S) (lA S (nI j)) (lB S (nI j)) k).2) (by omega)
                            have l_0 := i_0
                            try simp only [i_le] at c_146
                            try simp only [i_le] at c_174
                            try simp only [i_le] at c_192
                            try simp only [i_le] at c_199
                            try simp only [i_le] at c_211
                            try simp only [i_le] at c_218
                            first
                            | (exfalso; omega)
                            | (rw [if_neg (fun z => by omega)] at e1; rw [e1] at K; exact K _ ⟨hm73 _, frX_t hf (frX_sa (by decide))⟩)
                            | (rw [if_pos ⟨by omega, hx6, by omega⟩] at e1
                               rw [e1] at K
                               first
                               | (rw [show G = p0 by omega] at K; exact K _ ⟨hm73 _, frX_t hf (frX_sa (by decide))⟩)
                               | (rw [show G = p1 by omega] at K; exact K _ ⟨hm73 _, frX_t hf (frX_sa (by decide))⟩)
                               | (rw [show G = p2 by omega] at K; exact K _ ⟨hm73 _, frX_t hf (frX_sa (by decide))⟩))
                          · -- le at 211: no
                            show bw_go _ _ _ _ _ _ _ 214 [(3, .int _), (7, .int _), (6, .int _), (5, .int _), (4, .int _), (0, .ref _), (1, .int _), (2, .int _)] ([]) _ _
                            refine go_iload dX8_next_214 rfl ?_
                            refine go_iload dX8_next_216 rfl ?_
                            refine go_icmp_ge (pc' := 226) dX8_next_218 rfl (fun c_218 => ?_) (fun c_218 => ?_)
                            · -- ge at 218: yes
                              show bw_go _ _ _ _ _ _ _ 226 [(3, .int _), (7, .int _), (6, .int _), (5, .int _), (4, .int _), (0, .ref _), (1, .int _), (2, .int _)] ([]) _ _
                              refine go_iload dX8_next_226 rfl ?_
                              refine go_istore dX8_next_228 (Nat.lt_of_lt_of_le (Nat.lt_succ_self _) (Nat.le_of_ble_eq_true rfl)) ?_
                              show bw_go _ _ _ _ _ _ _ 230 [(4, .int _), (3, .int _), (7, .int _), (6, .int _), (5, .int _), (0, .ref _), (1, .int _), (2, .int _)] ([]) _ _
                              refine go_iinc dX8_next_230 rfl (nI_1 k) (Nat.lt_of_lt_of_le (Nat.lt_succ_self _) (Nat.le_of_ble_eq_true rfl)) ?_
                              show bw_go _ _ _ _ _ _ _ 233 [(5, .int _), (4, .int _), (3, .int _), (7, .int _), (6, .int _), (0, .ref _), (1, .int _), (2, .int _)] ([]) _ _
                              refine go_goto (pc' := 22) dX8_next_233 rfl ?_
                              refine go_ls [(5, .int _), (4, .int _), (3, .int _), (0, .ref _), (1, .int _), (2, .int _)] (by show List.Nodup ([5, 4, 3, 0, 1, 2] : List Nat); decide) (by show List.Nodup ([5, 4, 3, 7, 6, 0, 1, 2] : List Nat); decide) (le_cons rfl (le_cons rfl (le_cons rfl (le_cons rfl (le_cons rfl (le_cons rfl (le_nil _))))))) ?_
                              have e1 : mnx (nowC S) (lA S (nI j)) (lB S (nI j)) (k + 1) = if 0 < trc (lA S (nI j)) (lB S (nI j)) ∧ k % 8 < 6 ∧ gpt (nowC S) (lA S (nI j)) (lB S (nI j)) (k / 8) (k % 8) < (mnx (nowC S) (lA S (nI j)) (lB S (nI j)) k).2 then (some k, gpt (nowC S) (lA S (nI j)) (lB S (nI j)) (k / 8) (k % 8)) else (mnx (nowC S) (lA S (nI j)) (lB S (nI j)) k) := rfl
                              have hg9 : (max (pcv (nowC S) (tq (lA S (nI j)) (lB S (nI j))) (k / 8) (k % 8) 0 64) (pcv (nowC S) (tq (lA S (nI j)) (lB S (nI j))) (k / 8) (k % 8) 1 64) < (pcv (nowC S) (tq (lA S (nI j)) (lB S (nI j))) (k / 8) (k % 8) 2 64) ∧ gpt (nowC S) (lA S (nI j)) (lB S (nI j)) (k / 8) (k % 8) = (pcv (nowC S) (tq (lA S (nI j)) (lB S (nI j))) (k / 8) (k % 8) 2 64)) ∨ (¬ max (pcv (nowC S) (tq (lA S (nI j)) (lB S (nI j))) (k / 8) (k % 8) 0 64) (pcv (nowC S) (tq (lA S (nI j)) (lB S (nI j))) (k / 8) (k % 8) 1 64) < (pcv (nowC S) (tq (lA S (nI j)) (lB S (nI j))) (k / 8) (k % 8) 2 64) ∧ gpt (nowC S) (lA S (nI j)) (lB S (nI j)) (k / 8) (k % 8) = max (pcv (nowC S) (tq (lA S (nI j)) (lB S (nI j))) (k / 8) (k % 8) 0 64) (pcv (nowC S) (tq (lA S (nI j)) (lB S (nI j))) (k / 8) (k % 8) 1 64)) := by
                                rw [← mx3_e ha hx6]
                                unfold mx3
                                by_cases z : max (pcv (nowC S) (tq (lA S (nI j)) (lB S (nI j))) (k / 8) (k % 8) 0 64) (pcv (nowC S) (tq (lA S (nI j)) (lB S (nI j))) (k / 8) (k % 8) 1 64) < (pcv (nowC S) (tq (lA S (nI j)) (lB S (nI j))) (k / 8) (k % 8) 2 64)
                                · exact Or.inl ⟨z, if_pos z⟩
                                · exact Or.inr ⟨z, if_neg z⟩
                              have q0 := pcv_le (C := nowC S) (P := (tq (lA S (nI j)) (lB S (nI j)))) (i := k / 8) (x := k % 8) (v := 0) 64
                              have q1 := pcv_le (C := nowC S) (P := (tq (lA S (nI j)) (lB S (nI j)))) (i := k / 8) (x := k % 8) (v := 1) 64
                              have q2 := pcv_le (C := nowC S) (P := (tq (lA S (nI j)) (lB S (nI j)))) (i := k / 8) (x := k % 8) (v := 2) 64
                              have qc : cnt (tq (lA S (nI j)) (lB S (nI j))) 64 = trc (lA S (nI j)) (lB S (nI j)) := rfl
                              have qt := trc_le (lA S (nI j)) (lB S (nI j))
                              have qb := (mnx_b (C := nowC S) (b := lB S (nI j)) ha k).1
                              generalize gpt (nowC S) (lA S (nI j)) (lB S (nI j)) (k / 8) (k % 8) = G at *
                              generalize (pcv (nowC S) (tq (lA S (nI j)) (lB S (nI j))) (k / 8) (k % 8) 0 64) = p0 at *
                              generalize (pcv (nowC S) (tq (lA S (nI j)) (lB S (nI j))) (k / 8) (k % 8) 1 64) = p1 at *
                              generalize (pcv (nowC S) (tq (lA S (nI j)) (lB S (nI j))) (k / 8) (k % 8) 2 64) = p2 at *
                              have t_0 := nI_toInt (n := p0) (by omega)
                              have t_1 := nI_toInt (n := p1) (by omega)
                              have t_2 := nI_toInt (n := p2) (by omega)
                              have t_3 := nI_toInt (n := cnt (tq (lA S (nI j)) (lB S (nI j))) 64) (by omega)
                              have t_4 := nI_toInt (n := (mnx (nowC S) (lA S (nI j)) (lB S (nI j)) k).2) (by omega)
                              have l_0 := i_0
                              try simp only [i_le] at c_146
                              try simp only [i_le] at c_174
                              try simp only [i_le] at c_192
                              try simp only [i_le] at c_199
                              try simp only [i_le] at c_211
                              try simp only [i_le] at c_218
                              first
                              | (exfalso; omega)
                              | (rw [if_neg (fun z => by omega)] at e1; rw [e1] at K; exact K _ ⟨hm73 _, frX_t hf (frX_sa (by decide))⟩)
                              | (rw [if_pos ⟨by omega, hx6, by omega⟩] at e1
                                 rw [e1] at K
                                 first
                                 | (rw [show G = p0 by omega] at K; exact K _ ⟨hm73 _, frX_t hf (frX_sa (by decide))⟩)
                                 | (rw [show G = p1 by omega] at K; exact K _ ⟨hm73 _, frX_t hf (frX_sa (by decide))⟩)
                                 | (rw [show G = p2 by omega] at K; exact K _ ⟨hm73 _, frX_t hf (frX_sa (by decide))⟩))
                            · -- ge at 218: no
                              show bw_go _ _ _ _ _ _ _ 221 [(3, .int _), (7, .int _), (6, .int _), (5, .int _), (4, .int _), (0, .ref _), (1, .int _), (2, .int _)] ([]) _ _
                              refine go_iload dX8_next_221 rfl ?_
                              refine go_goto (pc' := 228) dX8_next_223 rfl ?_
                              show bw_go _ _ _ _ _ _ _ 228 [(3, .int _), (7, .int _), (6, .int _), (5, .int _), (4, .int _), (0, .ref _), (1, .int _), (2, .int _)] ((.int _) :: []) _ _
                              refine go_istore dX8_next_228 (Nat.lt_of_lt_of_le (Nat.lt_succ_self _) (Nat.le_of_ble_eq_true rfl)) ?_
                              show bw_go _ _ _ _ _ _ _ 230 [(4, .int _), (3, .int _), (7, .int _), (6, .int _), (5, .int _), (0, .ref _), (1, .int _), (2, .int _)] ([]) _ _
                              refine go_iinc dX8_next_230 rfl (nI_1 k) (Nat.lt_of_lt_of_le (Nat.lt_succ_self _) (Nat.le_of_ble_eq_true rfl)) ?_
                              show bw_go _ _ _ _ _ _ _ 233 [(5, .int _), (4, .int _), (3, .int _), (7, .int _), (6, .int _), (0, .ref _), (1, .int _), (2, .int _)] ([]) _ _
                              refine go_goto (pc' := 22) dX8_next_233 rfl ?_
                              refine go_ls [(5, .int _), (4, .int _), (3, .int _), (0, .ref _), (1, .int _), (2, .int _)] (by show List.Nodup ([5, 4, 3, 0, 1, 2] : List Nat); decide) (by show List.Nodup ([5, 4, 3, 7, 6, 0, 1, 2] : List Nat); decide) (le_cons rfl (le_cons rfl (le_cons rfl (le_cons rfl (le_cons rfl (le_cons rfl (le_nil _))))))) ?_
                              have e1 : mnx (nowC S) (lA S (nI j)) (lB S (nI j)) (k + 1) = if 0 < trc (lA S (nI j)) (lB S (nI j)) ∧ k % 8 < 6 ∧ gpt (nowC S) (lA S (nI j)) (lB S (nI j)) (k / 8) (k % 8) < (mnx (nowC S) (lA S (nI j)) (lB S (nI j)) k).2 then (some k, gpt (nowC S) (lA S (nI j)) (lB S (nI j)) (k / 8) (k % 8)) else (mnx (nowC S) (lA S (nI j)) (lB S (nI j)) k) := rfl
                              have hg9 : (max (pcv (nowC S) (tq (lA S (nI j)) (lB S (nI j))) (k / 8) (k % 8) 0 64) (pcv (nowC S) (tq (lA S (nI j)) (lB S (nI j))) (k / 8) (k % 8) 1 64) < (pcv (nowC S) (tq (lA S (nI j)) (lB S (nI j))) (k / 8) (k % 8) 2 64) ∧ gpt (nowC S) (lA S (nI j)) (lB S (nI j)) (k / 8) (k % 8) = (pcv (nowC S) (tq (lA S (nI j)) (lB S (nI j))) (k / 8) (k % 8) 2 64)) ∨ (¬ max (pcv (nowC S) (tq (lA S (nI j)) (lB S (nI j))) (k / 8) (k % 8) 0 64) (pcv (nowC S) (tq (lA S (nI j)) (lB S (nI j))) (k / 8) (k % 8) 1 64) < (pcv (nowC S) (tq (lA S (nI j)) (lB S (nI j))) (k / 8) (k % 8) 2 64) ∧ gpt (nowC S) (lA S (nI j)) (lB S (nI j)) (k / 8) (k % 8) = max (pcv (nowC S) (tq (lA S (nI j)) (lB S (nI j))) (k / 8) (k % 8) 0 64) (pcv (nowC S) (tq (lA S (nI j)) (lB S (nI j))) (k / 8) (k % 8) 1 64)) := by
                                rw [← mx3_e ha hx6]
                                unfold mx3
                                by_cases z : max (pcv (nowC S) (tq (lA S (nI j)) (lB S (nI j))) (k / 8) (k % 8) 0 64) (pcv (nowC S) (tq (lA S (nI j)) (lB S (nI j))) (k / 8) (k % 8) 1 64) < (pcv (nowC S) (tq (lA S (nI j)) (lB S (nI j))) (k / 8) (k % 8) 2 64)
                                · exact Or.inl ⟨z, if_pos z⟩
                                · exact Or.inr ⟨z, if_neg z⟩
                              have q0 := pcv_le (C := nowC S) (P := (tq (lA S (nI j)) (lB S (nI j)))) (i := k / 8) (x := k % 8) (v := 0) 64
                              have q1 := pcv_le (C := nowC S) (P := (tq (lA S (nI j)) (lB S (nI j)))) (i := k / 8) (x := k % 8) (v := 1) 64
                              have q2 := pcv_le (C := nowC S) (P := (tq (lA S (nI j)) (lB S (nI j)))) (i := k / 8) (x := k % 8) (v := 2) 64
                              have qc : cnt (tq (lA S (nI j)) (lB S (nI j))) 64 = trc (lA S (nI j)) (lB S (nI j)) := rfl
                              have qt := trc_le (lA S (nI j)) (lB S (nI j))
                              have qb := (mnx_b (C := nowC S) (b := lB S (nI j)) ha k).1
                              generalize gpt (nowC S) (lA S (nI j)) (lB S (nI j)) (k / 8) (k % 8) = G at *
                              generalize (pcv (nowC S) (tq (lA S (nI j)) (lB S (nI j))) (k / 8) (k % 8) 0 64) = p0 at *
                              generalize (pcv (nowC S) (tq (lA S (nI j)) (lB S (nI j))) (k / 8) (k % 8) 1 64) = p1 at *
                              generalize (pcv (nowC S) (tq (lA S (nI j)) (lB S (nI j))) (k / 8) (k % 8) 2 64) = p2 at *
                              have t_0 := nI_toInt (n := p0) (by omega)
                              have t_1 := nI_toInt (n := p1) (by omega)
                              have t_2 := nI_toInt (n := p2) (by omega)
                              have t_3 := nI_toInt (n := cnt (tq (lA S (nI j)) (lB S (nI j))) 64) (by omega)
                              have t_4 := nI_toInt (n := (mnx (nowC S) (lA S (nI j)) (lB S (nI j)) k).2) (by omega)
                              have l_0 := i_0
                              try simp only [i_le] at c_146
                              try simp only [i_le] at c_174
                              try simp only [i_le] at c_192
                              try simp only [i_le] at c_199
                              try simp only [i_le] at c_211
                              try simp only [i_le] at c_218
                              first
                              | (exfalso; omega)
                              | (rw [if_neg (fun z => by omega)] at e1; rw [e1] at K; exact K _ ⟨hm73 _, frX_t hf (frX_sa (by decide))⟩)
                              | (rw [if_pos ⟨by omega, hx6, by omega⟩] at e1
                                 rw [e1] at K
                                 first
                                 | (rw [show G = p0 by omega] at K; exact K _ ⟨hm73 _, frX_t hf (frX_sa (by decide))⟩)
                                 | (rw [show G = p1 by omega] at K; exact K _ ⟨hm73 _, frX_t hf (frX_sa (by decide))⟩)
                                 | (rw [show G = p2 by omega] at K; exact K _ ⟨hm73 _, frX_t hf (frX_sa (by decide))⟩))
                    · -- le at 174: no
                      show bw_go _ _ _ _ _ _ _ 177 [(7, .int _), (6, .int _), (5, .int _), (4, .int _), (3, .int _), (0, .ref _), (1, .int _), (2, .int _)] ([]) _ _
                      refine go_aload_n dX8_next_177 rfl ?_
                      refine go_gfr dX8_next_178 fl_8_51 rfl (ms_lt hm.1 (by decide)) hm.1.1.2 hm.1.2.1.2.2.2.2.2.2.2.2.2.2.2.2.1 ?_
                      refine go_iconst (2) dX8_next_181 rfl ?_
                      refine go_ia dX8_next_182 hm.1.2.2.2.2.2.2.2.2.2.2.2.2.2.2.1 (ms_lt hm.1 (by decide)) (by decide) ?_
                      rw [show (2 : Int32).toNatClampNeg = 2 from rfl, i_sa_s, hF.2.2]
                      refine go_goto (pc' := 188) dX8_next_183 rfl ?_
                      show bw_go _ _ _ _ _ _ _ 188 [(7, .int _), (6, .int _), (5, .int _), (4, .int _), (3, .int _), (0, .ref _), (1, .int _), (2, .int _)] ((.int _) :: []) _ _
                      refine go_istore dX8_next_188 (Nat.lt_of_lt_of_le (Nat.lt_succ_self _) (Nat.le_of_ble_eq_true rfl)) ?_
                      show bw_go _ _ _ _ _ _ _ 190 [(7, .int _), (6, .int _), (5, .int _), (4, .int _), (3, .int _), (0, .ref _), (1, .int _), (2, .int _)] ([]) _ _
                      refine go_iload dX8_next_190 rfl ?_
                      refine go_if_le (pc' := 207) dX8_next_192 rfl (fun c_192 => ?_) (fun c_192 => ?_)
                      · -- le at 192: yes
                        show bw_go _ _ _ _ _ _ _ 207 [(7, .int _), (6, .int _), (5, .int _), (4, .int _), (3, .int _), (0, .ref _), (1, .int _), (2, .int _)] ([]) _ _
                        refine go_iload_n dX8_next_207 rfl ?_
                        refine go_istore_n dX8_next_208 (Nat.lt_of_lt_of_le (Nat.lt_succ_self _) (Nat.le_of_ble_eq_true rfl)) ?_
                        show bw_go _ _ _ _ _ _ _ 209 [(3, .int _), (7, .int _), (6, .int _), (5, .int _), (4, .int _), (0, .ref _), (1, .int _), (2, .int _)] ([]) _ _
                        refine go_iload dX8_next_209 rfl ?_
                        refine go_if_le (pc' := 226) dX8_next_211 rfl (fun c_211 => ?_) (fun c_211 => ?_)
                        · -- le at 211: yes
                          show bw_go _ _ _ _ _ _ _ 226 [(3, .int _), (7, .int _), (6, .int _), (5, .int _), (4, .int _), (0, .ref _), (1, .int _), (2, .int _)] ([]) _ _
                          refine go_iload dX8_next_226 rfl ?_
                          refine go_istore dX8_next_228 (Nat.lt_of_lt_of_le (Nat.lt_succ_self _) (Nat.le_of_ble_eq_true rfl)) ?_
                          show bw_go _ _ _ _ _ _ _ 230 [(4, .int _), (3, .int _), (7, .int _), (6, .int _), (5, .int _), (0, .ref _), (1, .int _), (2, .int _)] ([]) _ _
                          refine go_iinc dX8_next_230 rfl (nI_1 k) (Nat.lt_of_lt_of_le (Nat.lt_succ_self _) (Nat.le_of_ble_eq_true rfl)) ?_
                          show bw_go _ _ _ _ _ _ _ 233 [(5, .int _), (4, .int _), (3, .int _), (7, .int _), (6, .int _), (0, .ref _), (1, .int _), (2, .int _)] ([]) _ _
                          refine go_goto (pc' := 22) dX8_next_233 rfl ?_
                          refine go_ls [(5, .int _), (4, .int _), (3, .int _), (0, .ref _), (1, .int _), (2, .int _)] (by show List.Nodup ([5, 4, 3, 0, 1, 2] : List Nat); decide) (by show List.Nodup ([5, 4, 3, 7, 6, 0, 1, 2] : List Nat); decide) (le_cons rfl (le_cons rfl (le_cons rfl (le_cons rfl (le_cons rfl (le_cons rfl (le_nil _))))))) ?_
                          have e1 : mnx (nowC S) (lA S (nI j)) (lB S (nI j)) (k + 1) = if 0 < trc (lA S (nI j)) (lB S (nI j)) ∧ k % 8 < 6 ∧ gpt (nowC S) (lA S (nI j)) (lB S (nI j)) (k / 8) (k % 8) < (mnx (nowC S) (lA S (nI j)) (lB S (nI j)) k).2 then (some k, gpt (nowC S) (lA S (nI j)) (lB S (nI j)) (k / 8) (k % 8)) else (mnx (nowC S) (lA S (nI j)) (lB S (nI j)) k) := rfl
                          have hg9 : (max (pcv (nowC S) (tq (lA S (nI j)) (lB S (nI j))) (k / 8) (k % 8) 0 64) (pcv (nowC S) (tq (lA S (nI j)) (lB S (nI j))) (k / 8) (k % 8) 1 64) < (pcv (nowC S) (tq (lA S (nI j)) (lB S (nI j))) (k / 8) (k % 8) 2 64) ∧ gpt (nowC S) (lA S (nI j)) (lB S (nI j)) (k / 8) (k % 8) = (pcv (nowC S) (tq (lA S (nI j)) (lB S (nI j))) (k / 8) (k % 8) 2 64)) ∨ (¬ max (pcv (nowC S) (tq (lA S (nI j)) (lB S (nI j))) (k / 8) (k % 8) 0 64) (pcv (nowC S) (tq (lA S (nI j)) (lB S (nI j))) (k / 8) (k % 8) 1 64) < (pcv (nowC S) (tq (lA S (nI j)) (lB S (nI j))) (k / 8) (k % 8) 2 64) ∧ gpt (nowC S) (lA S (nI j)) (lB S (nI j)) (k / 8) (k % 8) = max (pcv (nowC S) (tq (lA S (nI j)) (lB S (nI j))) (k / 8) (k % 8) 0 64) (pcv (nowC S) (tq (lA S (nI j)) (lB S (nI j))) (k / 8) (k % 8) 1 64)) := by
                            rw [← mx3_e ha hx6]
                            unfold mx3
                            by_cases z : max (pcv (nowC S) (tq (lA S (nI j)) (lB S (nI j))) (k / 8) (k % 8) 0 64) (pcv (nowC S) (tq (lA S (nI j)) (lB S (nI j))) (k / 8) (k % 8) 1 64) < (pcv (nowC S) (tq (lA S (nI j)) (lB S (nI j))) (k / 8) (k % 8) 2 64)
                            · exact Or.inl ⟨z, if_pos z⟩
                            · exact Or.inr ⟨z, if_neg z⟩
                          have q0 := pcv_le (C := nowC S) (P := (tq (lA S (nI j)) (lB S (nI j)))) (i := k / 8) (x := k % 8) (v := 0) 64
                          have q1 := pcv_le (C := nowC S) (P := (tq (lA S (nI j)) (lB S (nI j)))) (i := k / 8) (x := k % 8) (v := 1) 64
                          have q2 := pcv_le (C := nowC S) (P := (tq (lA S (nI j)) (lB S (nI j)))) (i := k / 8) (x := k % 8) (v := 2) 64
                          have qc : cnt (tq (lA S (nI j)) (lB S (nI j))) 64 = trc (lA S (nI j)) (lB S (nI j)) := rfl
                          have qt := trc_le (lA S (nI j)) (lB S (nI j))
                          have qb := (mnx_b (C := nowC S) (b := lB S (nI j)) ha k).1
                          generalize gpt (nowC S) (lA S (nI j)) (lB S (nI j)) (k / 8) (k % 8) = G at *
                          generalize (pcv (nowC S) (tq (lA S (nI j)) (lB S (nI j))) (k / 8) (k % 8) 0 64) = p0 at *
                          generalize (pcv (nowC S) (tq (lA S (nI j)) (lB S (nI j))) (k / 8) (k % 8) 1 64) = p1 at *
                          generalize (pcv (nowC S) (tq (lA S (nI j)) (lB S (nI j))) (k / 8) (k % 8) 2 64) = p2 at *
                          have t_0 := nI_toInt (n := p0) (by omega)
                          have t_1 := nI_toInt (n := p1) (by omega)
                          have t_2 := nI_toInt (n := p2) (by omega)
                          have t_3 := nI_toInt (n := cnt (tq (lA S (nI j)) (lB S (nI j))) 64) (by omega)
                          have t_4 := nI_toInt (n := (mnx (nowC S) (lA S (nI j)) (lB S (nI j)) k).2) (by omega)
                          have l_0 := i_0
                          try simp only [i_le] at c_146
                          try simp only [i_le] at c_174
                          try simp only [i_le] at c_192
                          try simp only [i_le] at c_199
                          try simp only [i_le] at c_211
                          try simp only [i_le] at c_218
                          first
                          | (exfalso; omega)
                          | (rw [if_neg (fun z => by omega)] at e1; rw [e1] at K; exact K _ ⟨hm73 _, frX_t hf (frX_sa (by decide))⟩)
                          | (rw [if_pos ⟨by omega, hx6, by omega⟩] at e1
                             rw [e1] at K
                             first
                             | (rw [show G = p0 by omega] at K; exact K _ ⟨hm73 _, frX_t hf (frX_sa (by decide))⟩)
                             | (rw [show G = p1 by omega] at K; exact K _ ⟨hm73 _, frX_t hf (frX_sa (by decide))⟩)
                             | (rw [show G = p2 by omega] at K; exact K _ ⟨hm73 _, frX_t hf (frX_sa (by decide))⟩))
                        · -- le at 211: no
                          show bw_go _ _ _ _ _ _ _ 214 [(3, .int _), (7, .int _), (6, .int _), (5, .int _), (4, .int _), (0, .ref _), (1, .int _), (2, .int _)] ([]) _ _
                          refine go_iload dX8_next_214 rfl ?_
                          refine go_iload dX8_next_216 rfl ?_
                          refine go_icmp_ge (pc' := 226) dX8_next_218 rfl (fun c_218 => ?_) (fun c_218 => ?_)
                          · -- ge at 218: yes
                            show bw_go _ _ _ _ _ _ _ 226 [(3, .int _), (7, .int _), (6, .int _), (5, .int _), (4, .int _), (0, .ref _), (1, .int _), (2, .int _)] ([]) _ _
                            refine go_iload dX8_next_226 rfl ?_
                            refine go_istore dX8_next_228 (Nat.lt_of_lt_of_le (Nat.lt_succ_self _) (Nat.le_of_ble_eq_true rfl)) ?_
                            show bw_go _ _ _ _ _ _ _ 230 [(4, .int _), (3, .int _), (7, .int _), (6, .int _), (5, .int _), (0, .ref _), (1, .int _), (2, .int _)] ([]) _ _
                            refine go_iinc dX8_next_230 rfl (nI_1 k) (Nat.lt_of_lt_of_le (Nat.lt_succ_self _) (Nat.le_of_ble_eq_true rfl)) ?_
                            show bw_go _ _ _ _ _ _ _ 233 [(5, .int _), (4, .int _), (3, .int _), (7, .int _), (6, .int _), (0, .ref _), (1, .int _), (2, .int _)] ([]) _ _
                            refine go_goto (pc' := 22) dX8_next_233 rfl ?_
                            refine go_ls [(5, .int _), (4, .int _), (3, .int _), (0, .ref _), (1, .int _), (2, .int _)] (by show List.Nodup ([5, 4, 3, 0, 1, 2] : List Nat); decide) (by show List.Nodup ([5, 4, 3, 7, 6, 0, 1, 2] : List Nat); decide) (le_cons rfl (le_cons rfl (le_cons rfl (le_cons rfl (le_cons rfl (le_cons rfl (le_nil _))))))) ?_
                            have e1 : mnx (nowC S) (lA S (nI j)) (lB S (nI j)) (k + 1) = if 0 < trc (lA S (nI j)) (lB S (nI j)) ∧ k % 8 < 6 ∧ gpt (nowC S) (lA S (nI j)) (lB S (nI j)) (k / 8) (k % 8) < (mnx (nowC S) (lA S (nI j)) (lB S (nI j)) k).2 then (some k, gpt (nowC S) (lA S (nI j)) (lB S (nI j)) (k / 8) (k % 8)) else (mnx (nowC S) (lA S (nI j)) (lB S (nI j)) k) := rfl
                            have hg9 : (max (pcv (nowC S) (tq (lA S (nI j)) (lB S (nI j))) (k / 8) (k % 8) 0 64) (pcv (nowC S) (tq (lA S (nI j)) (lB S (nI j))) (k / 8) (k % 8) 1 64) < (pcv (nowC S) (tq (lA S (nI j)) (lB S (nI j))) (k / 8) (k % 8) 2 64) ∧ gpt (nowC S) (lA S (nI j)) (lB S (nI j)) (k / 8) (k % 8) = (pcv (nowC S) (tq (lA S (nI j)) (lB S (nI j))) (k / 8) (k % 8) 2 64)) ∨ (¬ max (pcv (nowC S) (tq (lA S (nI j)) (lB S (nI j))) (k / 8) (k % 8) 0 64) (pcv (nowC S) (tq (lA S (nI j)) (lB S (nI j))) (k / 8) (k % 8) 1 64) < (pcv (nowC S) (tq (lA S (nI j)) (lB S (nI j))) (k / 8) (k % 8) 2 64) ∧ gpt (nowC S) (lA S (nI j)) (lB S (nI j)) (k / 8) (k % 8) = max (pcv (nowC S) (tq (lA S (nI j)) (lB S (nI j))) (k / 8) (k % 8) 0 64) (pcv (nowC S) (tq (lA S (nI j)) (lB S (nI j))) (k / 8) (k % 8) 1 64)) := by
                              rw [← mx3_e ha hx6]
                              unfold mx3
                              by_cases z : max (pcv (nowC S) (tq (lA S (nI j)) (lB S (nI j))) (k / 8) (k % 8) 0 64) (pcv (nowC S) (tq (lA S (nI j)) (lB S (nI j))) (k / 8) (k % 8) 1 64) < (pcv (nowC S) (tq (lA S (nI j)) (lB S (nI j))) (k / 8) (k % 8) 2 64)
                              · exact Or.inl ⟨z, if_pos z⟩
                              · exact Or.inr ⟨z, if_neg z⟩
                            have q0 := pcv_le (C := nowC S) (P := (tq (lA S (nI j)) (lB S (nI j)))) (i := k / 8) (x := k % 8) (v := 0) 64
                            have q1 := pcv_le (C := nowC S) (P := (tq (lA S (nI j)) (lB S (nI j)))) (i := k / 8) (x := k % 8) (v := 1) 64
                            have q2 := pcv_le (C := nowC S) (P := (tq (lA S (nI j)) (lB S (nI j)))) (i := k / 8) (x := k % 8) (v := 2) 64
                            have qc : cnt (tq (lA S (nI j)) (lB S (nI j))) 64 = trc (lA S (nI j)) (lB S (nI j)) := rfl
                            have qt := trc_le (lA S (nI j)) (lB S (nI j))
                            have qb := (mnx_b (C := nowC S) (b := lB S (nI j)) ha k).1
                            generalize gpt (nowC S) (lA S (nI j)) (lB S (nI j)) (k / 8) (k % 8) = G at *
                            generalize (pcv (nowC S) (tq (lA S (nI j)) (lB S (nI j))) (k / 8) (k % 8) 0 64) = p0 at *
                            generalize (pcv (nowC S) (tq (lA S (nI j)) (lB S (nI j))) (k / 8) (k % 8) 1 64) = p1 at *
                            generalize (pcv (nowC S) (tq (lA S (nI j)) (lB S (nI j))) (k / 8) (k % 8) 2 64) = p2 at *
                            have t_0 := nI_toInt (n := p0) (by omega)
                            have t_1 := nI_toInt (n := p1) (by omega)
                            have t_2 := nI_toInt (n := p2) (by omega)
                            have t_3 := nI_toInt (n := cnt (tq (lA S (nI j)) (lB S (nI j))) 64) (by omega)
                            have t_4 := nI_toInt (n := (mnx (nowC S) (lA S (nI j)) (lB S (nI j)) k).2) (by omega)
                            have l_0 := i_0
                            try simp only [i_le] at c_146
                            try simp only [i_le] at c_174
                            try simp only [i_le] at c_192
                            try simp only [i_le] at c_199
                            try simp only [i_le] at c_211
                            try simp only [i_le] at c_218
                            first
                            | (exfalso; omega)
                            | (rw [if_neg (fun z => by omega)] at e1; rw [e1] at K; exact K _ ⟨hm73 _, frX_t hf (frX_sa (by decide))⟩)
                            | (rw [if_pos ⟨by omega, hx6, by omega⟩] at e1
                               rw [e1] at K
                               first
                               | (rw [show G = p0 by omega] at K; exact K _ ⟨hm73 _, frX_t hf (frX_sa (by decide))⟩)
                               | (rw [show G = p1 by omega] at K; exact K _ ⟨hm73 _, frX_t hf (frX_sa (by decide))⟩)
                               | (rw [show G = p2 by omega] at K; exact K _ ⟨hm73 _, frX_t hf (frX_sa (by decide))⟩))
                          · -- ge at 218: no
                            show bw_go _ _ _ _ _ _ _ 221 [(3, .int _), (7, .int _), (6, .int _), (5, .int _), (4, .int _), (0, .ref _), (1, .int _), (2, .int _)] ([]) _ _
                            refine go_iload dX8_next_221 rfl ?_
                            refine go_goto (pc' := 228) dX8_next_223 rfl ?_
                            show bw_go _ _ _ _ _ _ _ 228 [(3, .int _), (7, .int _), (6, .int _), (5, .int _), (4, .int _), (0, .ref _), (1, .int _), (2, .int _)] ((.int _) :: []) _ _
                            refine go_istore dX8_next_228 (Nat.lt_of_lt_of_le (Nat.lt_succ_self _) (Nat.le_of_ble_eq_true rfl)) ?_
                            show bw_go _ _ _ _ _ _ _ 230 [(4, .int _), (3, .int _), (7, .int _), (6, .int _), (5, .int _), (0, .ref _), (1, .int _), (2, .int _)] ([]) _ _
                            refine go_iinc dX8_next_230 rfl (nI_1 k) (Nat.lt_of_lt_of_le (Nat.lt_succ_self _) (Nat.le_of_ble_eq_true rfl)) ?_
                            show bw_go _ _ _ _ _ _ _ 233 [(5, .int _), (4, .int _), (3, .int _), (7, .int _), (6, .int _), (0, .ref _), (1, .int _), (2, .int _)] ([]) _ _
                            refine go_goto (pc' := 22) dX8_next_233 rfl ?_
                            refine go_ls [(5, .int _), (4, .int _), (3, .int _), (0, .ref _), (1, .int _), (2, .int _)] (by show List.Nodup ([5, 4, 3, 0, 1, 2] : List Nat); decide) (by show List.Nodup ([5, 4, 3, 7, 6, 0, 1, 2] : List Nat); decide) (le_cons rfl (le_cons rfl (le_cons rfl (le_cons rfl (le_cons rfl (le_cons rfl (le_nil _))))))) ?_
                            have e1 : mnx (nowC S) (lA S (nI j)) (lB S (nI j)) (k + 1) = if 0 < trc (lA S (nI j)) (lB S (nI j)) ∧ k % 8 < 6 ∧ gpt (nowC S) (lA S (nI j)) (lB S (nI j)) (k / 8) (k % 8) < (mnx (nowC S) (lA S (nI j)) (lB S (nI j)) k).2 then (some k, gpt (nowC S) (lA S (nI j)) (lB S (nI j)) (k / 8) (k % 8)) else (mnx (nowC S) (lA S (nI j)) (lB S (nI j)) k) := rfl
                            have hg9 : (max (pcv (nowC S) (tq (lA S (nI j)) (lB S (nI j))) (k / 8) (k % 8) 0 64) (pcv (nowC S) (tq (lA S (nI j)) (lB S (nI j))) (k / 8) (k % 8) 1 64) < (pcv (nowC S) (tq (lA S (nI j)) (lB S (nI j))) (k / 8) (k % 8) 2 64) ∧ gpt (nowC S) (lA S (nI j)) (lB S (nI j)) (k / 8) (k % 8) = (pcv (nowC S) (tq (lA S (nI j)) (lB S (nI j))) (k / 8) (k % 8) 2 64)) ∨ (¬ max (pcv (nowC S) (tq (lA S (nI j)) (lB S (nI j))) (k / 8) (k % 8) 0 64) (pcv (nowC S) (tq (lA S (nI j)) (lB S (nI j))) (k / 8) (k % 8) 1 64) < (pcv (nowC S) (tq (lA S (nI j)) (lB S (nI j))) (k / 8) (k % 8) 2 64) ∧ gpt (nowC S) (lA S (nI j)) (lB S (nI j)) (k / 8) (k % 8) = max (pcv (nowC S) (tq (lA S (nI j)) (lB S (nI j))) (k / 8) (k % 8) 0 64) (pcv (nowC S) (tq (lA S (nI j)) (lB S (nI j))) (k / 8) (k % 8) 1 64)) := by
                              rw [← mx3_e ha hx6]
                              unfold mx3
                              by_cases z : max (pcv (nowC S) (tq (lA S (nI j)) (lB S (nI j))) (k / 8) (k % 8) 0 64) (pcv (nowC S) (tq (lA S (nI j)) (lB S (nI j))) (k / 8) (k % 8) 1 64) < (pcv (nowC S) (tq (lA S (nI j)) (lB S (nI j))) (k / 8) (k % 8) 2 64)
                              · exact Or.inl ⟨z, if_pos z⟩
                              · exact Or.inr ⟨z, if_neg z⟩
                            have q0 := pcv_le (C := nowC S) (P := (tq (lA S (nI j)) (lB S (nI j)))) (i := k / 8) (x := k % 8) (v := 0) 64
                            have q1 := pcv_le (C := nowC S) (P := (tq (lA S (nI j)) (lB S (nI j)))) (i := k / 8) (x := k % 8) (v := 1) 64
                            have q2 := pcv_le (C := nowC S) (P := (tq (lA S (nI j)) (lB S (nI j)))) (i := k / 8) (x := k % 8) (v := 2) 64
                            have qc : cnt (tq (lA S (nI j)) (lB S (nI j))) 64 = trc (lA S (nI j)) (lB S (nI j)) := rfl
                            have qt := trc_le (lA S (nI j)) (lB S (nI j))
                            have qb := (mnx_b (C := nowC S) (b := lB S (nI j)) ha k).1
                            generalize gpt (nowC S) (lA S (nI j)) (lB S (nI j)) (k / 8) (k % 8) = G at *
                            generalize (pcv (nowC S) (tq (lA S (nI j)) (lB S (nI j))) (k / 8) (k % 8) 0 64) = p0 at *
                            generalize (pcv (nowC S) (tq (lA S (nI j)) (lB S (nI j))) (k / 8) (k % 8) 1 64) = p1 at *
                            generalize (pcv (nowC S) (tq (lA S (nI j)) (lB S (nI j))) (k / 8) (k % 8) 2 64) = p2 at *
                            have t_0 := nI_toInt (n := p0) (by omega)
                            have t_1 := nI_toInt (n := p1) (by omega)
                            have t_2 := nI_toInt (n := p2) (by omega)
                            have t_3 := nI_toInt (n := cnt (tq (lA S (nI j)) (lB S (nI j))) 64) (by omega)
                            have t_4 := nI_toInt (n := (mnx (nowC S) (lA S (nI j)) (lB S (nI j)) k).2) (by omega)
                            have l_0 := i_0
                            try simp only [i_le] at c_146
                            try simp only [i_le] at c_174
                            try simp only [i_le] at c_192
                            try simp only [i_le] at c_199
                            try simp only [i_le] at c_211
                            try simp only [i_le] at c_218
                            first
                            | (exfalso; omega)
                            | (rw [if_neg (fun z => by omega)] at e1; rw [e1] at K; exact K _ ⟨hm73 _, frX_t hf (frX_sa (by decide))⟩)
                            | (rw [if_pos ⟨by omega, hx6, by omega⟩] at e1
                               rw [e1] at K
                               first
                               | (rw [show G = p0 by omega] at K; exact K _ ⟨hm73 _, frX_t hf (frX_sa (by decide))⟩)
                               | (rw [show G = p1 by omega] at K; exact K _ ⟨hm73 _, frX_t hf (frX_sa (by decide))⟩)
                               | (rw [show G = p2 by omega] at K; exact K _ ⟨hm73 _, frX_t hf (frX_sa (by decide))⟩))
                      · -- le at 192: no
                        show bw_go _ _ _ _ _ _ _ 195 [(7, .int _), (6, .int _), (5, .int _), (4, .int _), (3, .int _), (0, .ref _), (1, .int _), (2, .int _)] ([]) _ _
                        refine go_iload dX8_next_195 rfl ?_
                        refine go_iload dX8_next_197 rfl ?_
                        refine go_icmp_ge (pc' := 207) dX8_next_199 rfl (fun c_199 => ?_) (fun c_199 => ?_)
                        · -- ge at 199: yes
                          show bw_go _ _ _ _ _ _ _ 207 [(7, .int _), (6, .int _), (5, .int _), (4, .int _), (3, .int _), (0, .ref _), (1, .int _), (2, .int _)] ([]) _ _
                          refine go_iload_n dX8_next_207 rfl ?_
                          refine go_istore_n dX8_next_208 (Nat.lt_of_lt_of_le (Nat.lt_succ_self _) (Nat.le_of_ble_eq_true rfl)) ?_
                          show bw_go _ _ _ _ _ _ _ 209 [(3, .int _), (7, .int _), (6, .int _), (5, .int _), (4, .int _), (0, .ref _), (1, .int _), (2, .int _)] ([]) _ _
                          refine go_iload dX8_next_209 rfl ?_
                          refine go_if_le (pc' := 226) dX8_next_211 rfl (fun c_211 => ?_) (fun c_211 => ?_)
                          · -- le at 211: yes
                            show bw_go _ _ _ _ _ _ _ 226 [(3, .int _), (7, .int _), (6, .int _), (5, .int _), (4, .int _), (0, .ref _), (1, .int _), (2, .int _)] ([]) _ _
                            refine go_iload dX8_next_226 rfl ?_
                            refine go_istore dX8_next_228 (Nat.lt_of_lt_of_le (Nat.lt_succ_self _) (Nat.le_of_ble_eq_true rfl)) ?_
                            show bw_go _ _ _ _ _ _ _ 230 [(4, .int _), (3, .int _), (7, .int _), (6, .int _), (5, .int _), (0, .ref _), (1, .int _), (2, .int _)] ([]) _ _
                            refine go_iinc dX8_next_230 rfl (nI_1 k) (Nat.lt_of_lt_of_le (Nat.lt_succ_self _) (Nat.le_of_ble_eq_true rfl)) ?_
                            show bw_go _ _ _ _ _ _ _ 233 [(5, .int _), (4, .int _), (3, .int _), (7, .int _), (6, .int _), (0, .ref _), (1, .int _), (2, .int _)] ([]) _ _
                            refine go_goto (pc' := 22) dX8_next_233 rfl ?_
                            refine go_ls [(5, .int _), (4, .int _), (3, .int _), (0, .ref _), (1, .int _), (2, .int _)] (by show List.Nodup ([5, 4, 3, 0, 1, 2] : List Nat); decide) (by show List.Nodup ([5, 4, 3, 7, 6, 0, 1, 2] : List Nat); decide) (le_cons rfl (le_cons rfl (le_cons rfl (le_cons rfl (le_cons rfl (le_cons rfl (le_nil _))))))) ?_
                            have e1 : mnx (nowC S) (lA S (nI j)) (lB S (nI j)) (k + 1) = if 0 < trc (lA S (nI j)) (lB S (nI j)) ∧ k % 8 < 6 ∧ gpt (nowC S) (lA S (nI j)) (lB S (nI j)) (k / 8) (k % 8) < (mnx (nowC S) (lA S (nI j)) (lB S (nI j)) k).2 then (some k, gpt (nowC S) (lA S (nI j)) (lB S (nI j)) (k / 8) (k % 8)) else (mnx (nowC S) (lA S (nI j)) (lB S (nI j)) k) := rfl
                            have hg9 : (max (pcv (nowC S) (tq (lA S (nI j)) (lB S (nI j))) (k / 8) (k % 8) 0 64) (pcv (nowC S) (tq (lA S (nI j)) (lB S (nI j))) (k / 8) (k % 8) 1 64) < (pcv (nowC S) (tq (lA S (nI j)) (lB S (nI j))) (k / 8) (k % 8) 2 64) ∧ gpt (nowC S) (lA S (nI j)) (lB S (nI j)) (k / 8) (k % 8) = (pcv (nowC S) (tq (lA S (nI j)) (lB S (nI j))) (k / 8) (k % 8) 2 64)) ∨ (¬ max (pcv (nowC S) (tq (lA S (nI j)) (lB S (nI j))) (k / 8) (k % 8) 0 64) (pcv (nowC S) (tq (lA S (nI j)) (lB S (nI j))) (k / 8) (k % 8) 1 64) < (pcv (nowC S) (tq (lA S (nI j)) (lB S (nI j))) (k / 8) (k % 8) 2 64) ∧ gpt (nowC S) (lA S (nI j)) (lB S (nI j)) (k / 8) (k % 8) = max (pcv (nowC S) (tq (lA S (nI j)) (lB S (nI j))) (k / 8) (k % 8) 0 64) (pcv (nowC S) (tq (lA S (nI j)) (lB S (nI j))) (k / 8) (k % 8) 1 64)) := by
                              rw [← mx3_e ha hx6]
                              unfold mx3
                              by_cases z : max (pcv (nowC S) (tq (lA S (nI j)) (lB S (nI j))) (k / 8) (k % 8) 0 64) (pcv (nowC S) (tq (lA S (nI j)) (lB S (nI j))) (k / 8) (k % 8) 1 64) < (pcv (nowC S) (tq (lA S (nI j)) (lB S (nI j))) (k / 8) (k % 8) 2 64)
                              · exact Or.inl ⟨z, if_pos z⟩
                              · exact Or.inr ⟨z, if_neg z⟩
                            have q0 := pcv_le (C := nowC S) (P := (tq (lA S (nI j)) (lB S (nI j)))) (i := k / 8) (x := k % 8) (v := 0) 64
                            have q1 := pcv_le (C := nowC S) (P := (tq (lA S (nI j)) (lB S (nI j)))) (i := k / 8) (x := k % 8) (v := 1) 64
                            have q2 := pcv_le (C := nowC S) (P := (tq (lA S (nI j)) (lB S (nI j)))) (i := k / 8) (x := k % 8) (v := 2) 64
                            have qc : cnt (tq (lA S (nI j)) (lB S (nI j))) 64 = trc (lA S (nI j)) (lB S (nI j)) := rfl
                            have qt := trc_le (lA S (nI j)) (lB S (nI j))
                            have qb := (mnx_b (C := nowC S) (b := lB S (nI j)) ha k).1
                            generalize gpt (nowC S) (lA S (nI j)) (lB S (nI j)) (k / 8) (k % 8) = G at *
                            generalize (pcv (nowC S) (tq (lA S (nI j)) (lB S (nI j))) (k / 8) (k % 8) 0 64) = p0 at *
                            generalize (pcv (nowC S) (tq (lA S (nI j)) (lB S (nI j))) (k / 8) (k % 8) 1 64) = p1 at *
                            generalize (pcv (nowC S) (tq (lA S (nI j)) (lB S (nI j))) (k / 8) (k % 8) 2 64) = p2 at *
                            have t_0 := nI_toInt (n := p0) (by omega)
                            have t_1 := nI_toInt (n := p1) (by omega)
                            have t_2 := nI_toInt (n := p2) (by omega)
                            have t_3 := nI_toInt (n := cnt (tq (lA S (nI j)) (lB S (nI j))) 64) (by omega)
                            have t_4 := nI_toInt (n := (mnx (nowC S) (lA S (nI j)) (lB S (nI j)) k).2) (by omega)
                            have l_0 := i_0
                            try simp only [i_le] at c_146
                            try simp only [i_le] at c_174
                            try simp only [i_le] at c_192
                            try simp only [i_le] at c_199
                            try simp only [i_le] at c_211
                            try simp only [i_le] at c_218
                            first
                            | (exfalso; omega)
                            | (rw [if_neg (fun z => by omega)] at e1; rw [e1] at K; exact K _ ⟨hm73 _, frX_t hf (frX_sa (by decide))⟩)
                            | (rw [if_pos ⟨by omega, hx6, by omega⟩] at e1
                               rw [e1] at K
                               first
                               | (rw [show G = p0 by omega] at K; exact K _ ⟨hm73 _, frX_t hf (frX_sa (by decide))⟩)
                               | (rw [show G = p1 by omega] at K; exact K _ ⟨hm73 _, frX_t hf (frX_sa (by decide))⟩)
                               | (rw [show G = p2 by omega] at K; exact K _ ⟨hm73 _, frX_t hf (frX_sa (by decide))⟩))
                          · -- le at 211: no
                            show bw_go _ _ _ _ _ _ _ 214 [(3, .int _), (7, .int _), (6, .int _), (5, .int _), (4, .int _), (0, .ref _), (1, .int _), (2, .int _)] ([]) _ _
                            refine go_iload dX8_next_214 rfl ?_
                            refine go_iload dX8_next_216 rfl ?_
                            refine go_icmp_ge (pc' := 226) dX8_next_218 rfl (fun c_218 => ?_) (fun c_218 => ?_)
                            · -- ge at 218: yes
                              show bw_go _ _ _ _ _ _ _ 226 [(3, .int _), (7, .int _), (6, .int _), (5, .int _), (4, .int _), (0, .ref _), (1, .int _), (2, .int _)] ([]) _ _
                              refine go_iload dX8_next_226 rfl ?_
                              refine go_istore dX8_next_228 (Nat.lt_of_lt_of_le (Nat.lt_succ_self _) (Nat.le_of_ble_eq_true rfl)) ?_
                              show bw_go _ _ _ _ _ _ _ 230 [(4, .int _), (3, .int _), (7, .int _), (6, .int _), (5, .int _), (0, .ref _), (1, .int _), (2, .int _)] ([]) _ _
                              refine go_iinc dX8_next_230 rfl (nI_1 k) (Nat.lt_of_lt_of_le (Nat.lt_succ_self _) (Nat.le_of_ble_eq_true rfl)) ?_
                              show bw_go _ _ _ _ _ _ _ 233 [(5, .int _), (4, .int _), (3, .int _), (7, .int _), (6, .int _), (0, .ref _), (1, .int _), (2, .int _)] ([]) _ _
                              refine go_goto (pc' := 22) dX8_next_233 rfl ?_
                              refine go_ls [(5, .int _), (4, .int _), (3, .int _), (0, .ref _), (1, .int _), (2, .int _)] (by show List.Nodup ([5, 4, 3, 0, 1, 2] : List Nat); decide) (by show List.Nodup ([5, 4, 3, 7, 6, 0, 1, 2] : List Nat); decide) (le_cons rfl (le_cons rfl (le_cons rfl (le_cons rfl (le_cons rfl (le_cons rfl (le_nil _))))))) ?_
                              have e1 : mnx (nowC S) (lA S (nI j)) (lB S (nI j)) (k + 1) = if 0 < trc (lA S (nI j)) (lB S (nI j)) ∧ k % 8 < 6 ∧ gpt (nowC S) (lA S (nI j)) (lB S (nI j)) (k / 8) (k % 8) < (mnx (nowC S) (lA S (nI j)) (lB S (nI j)) k).2 then (some k, gpt (nowC S) (lA S (nI j)) (lB S (nI j)) (k / 8) (k % 8)) else (mnx (nowC S) (lA S (nI j)) (lB S (nI j)) k) := rfl
                              have hg9 : (max (pcv (nowC S) (tq (lA S (nI j)) (lB S (nI j))) (k / 8) (k % 8) 0 64) (pcv (nowC S) (tq (lA S (nI j)) (lB S (nI j))) (k / 8) (k % 8) 1 64) < (pcv (nowC S) (tq (lA S (nI j)) (lB S (nI j))) (k / 8) (k % 8) 2 64) ∧ gpt (nowC S) (lA S (nI j)) (lB S (nI j)) (k / 8) (k % 8) = (pcv (nowC S) (tq (lA S (nI j)) (lB S (nI j))) (k / 8) (k % 8) 2 64)) ∨ (¬ max (pcv (nowC S) (tq (lA S (nI j)) (lB S (nI j))) (k / 8) (k % 8) 0 64) (pcv (nowC S) (tq (lA S (nI j)) (lB S (nI j))) (k / 8) (k % 8) 1 64) < (pcv (nowC S) (tq (lA S (nI j)) (lB S (nI j))) (k / 8) (k % 8) 2 64) ∧ gpt (nowC S) (lA S (nI j)) (lB S (nI j)) (k / 8) (k % 8) = max (pcv (nowC S) (tq (lA S (nI j)) (lB S (nI j))) (k / 8) (k % 8) 0 64) (pcv (nowC S) (tq (lA S (nI j)) (lB S (nI j))) (k / 8) (k % 8) 1 64)) := by
                                rw [← mx3_e ha hx6]
                                unfold mx3
                                by_cases z : max (pcv (nowC S) (tq (lA S (nI j)) (lB S (nI j))) (k / 8) (k % 8) 0 64) (pcv (nowC S) (tq (lA S (nI j)) (lB S (nI j))) (k / 8) (k % 8) 1 64) < (pcv (nowC S) (tq (lA S (nI j)) (lB S (nI j))) (k / 8) (k % 8) 2 64)
                                · exact Or.inl ⟨z, if_pos z⟩
                                · exact Or.inr ⟨z, if_neg z⟩
                              have q0 := pcv_le (C := nowC S) (P := (tq (lA S (nI j)) (lB S (nI j)))) (i := k / 8) (x := k % 8) (v := 0) 64
                              have q1 := pcv_le (C := nowC S) (P := (tq (lA S (nI j)) (lB S (nI j)))) (i := k / 8) (x := k % 8) (v := 1) 64
                              have q2 := pcv_le (C := nowC S) (P := (tq (lA S (nI j)) (lB S (nI j)))) (i := k / 8) (x := k % 8) (v := 2) 64
                              have qc : cnt (tq (lA S (nI j)) (lB S (nI j))) 64 = trc (lA S (nI j)) (lB S (nI j)) := rfl
                              have qt := trc_le (lA S (nI j)) (lB S (nI j))
                              have qb := (mnx_b (C := nowC S) (b := lB S (nI j)) ha k).1
                              generalize gpt (nowC S) (lA S (nI j)) (lB S (nI j)) (k / 8) (k % 8) = G at *
                              generalize (pcv (nowC S) (tq (lA S (nI j)) (lB S (nI j))) (k / 8) (k % 8) 0 64) = p0 at *
                              generalize (pcv (nowC S) (tq (lA S (nI j)) (lB S (nI j))) (k / 8) (k % 8) 1 64) = p1 at *
                              generalize (pcv (nowC S) (tq (lA S (nI j)) (lB S (nI j))) (k / 8) (k % 8) 2 64) = p2 at *
                              have t_0 := nI_toInt (n := p0) (by omega)
                              have t_1 := nI_toInt (n := p1) (by omega)
                              have t_2 := nI_toInt (n := p2) (by omega)
                              have t_3 := nI_toInt (n := cnt (tq (lA S (nI j)) (lB S (nI j))) 64) (by omega)
                              have t_4 := nI_toInt (n := (mnx (nowC S) (lA S (nI j)) (lB S (nI j)) k).2) (by omega)
                              have l_0 := i_0
                              try simp only [i_le] at c_146
                              try simp only [i_le] at c_174
                              try simp only [i_le] at c_192
                              try simp only [i_le] at c_199
                              try simp only [i_le] at c_211
                              try simp only [i_le] at c_218
                              first
                              | (exfalso; omega)
                              | (rw [if_neg (fun z => by omega)] at e1; rw [e1] at K; exact K _ ⟨hm73 _, frX_t hf (frX_sa (by decide))⟩)
                              | (rw [if_pos ⟨by omega, hx6, by omega⟩] at e1
                                 rw [e1] at K
                                 first
                                 | (rw [show G = p0 by omega] at K; exact K _ ⟨hm73 _, frX_t hf (frX_sa (by decide))⟩)
                                 | (rw [show G = p1 by omega] at K; exact K _ ⟨hm73 _, frX_t hf (frX_sa (by decide))⟩)
                                 | (rw [show G = p2 by omega] at K; exact K _ ⟨hm73 _, frX_t hf (frX_sa (by decide))⟩))
                            · -- ge at 218: no
                              show bw_go _ _ _ _ _ _ _ 221 [(3, .int _), (7, .int _), (6, .int _), (5, .int _), (4, .int _), (0, .ref _), (1, .int _), (2, .int _)] ([]) _ _
                              refine go_iload dX8_next_221 rfl ?_
                              refine go_goto (pc' := 228) dX8_next_223 rfl ?_
                              show bw_go _ _ _ _ _ _ _ 228 [(3, .int _), (7, .int _), (6, .int _), (5, .int _), (4, .int _), (0, .ref _), (1, .int _), (2, .int _)] ((.int _) :: []) _ _
                              refine go_istore dX8_next_228 (Nat.lt_of_lt_of_le (Nat.lt_succ_self _) (Nat.le_of_ble_eq_true rfl)) ?_
                              show bw_go _ _ _ _ _ _ _ 230 [(4, .int _), (3, .int _), (7, .int _), (6, .int _), (5, .int _), (0, .ref _), (1, .int _), (2, .int _)] ([]) _ _
                              refine go_iinc dX8_next_230 rfl (nI_1 k) (Nat.lt_of_lt_of_le (Nat.lt_succ_self _) (Nat.le_of_ble_eq_true rfl)) ?_
                              show bw_go _ _ _ _ _ _ _ 233 [(5, .int _), (4, .int _), (3, .int _), (7, .int _), (6, .int _), (0, .ref _), (1, .int _), (2, .int _)] ([]) _ _
                              refine go_goto (pc' := 22) dX8_next_233 rfl ?_
                              refine go_ls [(5, .int _), (4, .int _), (3, .int _), (0, .ref _), (1, .int _), (2, .int _)] (by show List.Nodup ([5, 4, 3, 0, 1, 2] : List Nat); decide) (by show List.Nodup ([5, 4, 3, 7, 6, 0, 1, 2] : List Nat); decide) (le_cons rfl (le_cons rfl (le_cons rfl (le_cons rfl (le_cons rfl (le_cons rfl (le_nil _))))))) ?_
                              have e1 : mnx (nowC S) (lA S (nI j)) (lB S (nI j)) (k + 1) = if 0 < trc (lA S (nI j)) (lB S (nI j)) ∧ k % 8 < 6 ∧ gpt (nowC S) (lA S (nI j)) (lB S (nI j)) (k / 8) (k % 8) < (mnx (nowC S) (lA S (nI j)) (lB S (nI j)) k).2 then (some k, gpt (nowC S) (lA S (nI j)) (lB S (nI j)) (k / 8) (k % 8)) else (mnx (nowC S) (lA S (nI j)) (lB S (nI j)) k) := rfl
                              have hg9 : (max (pcv (nowC S) (tq (lA S (nI j)) (lB S (nI j))) (k / 8) (k % 8) 0 64) (pcv (nowC S) (tq (lA S (nI j)) (lB S (nI j))) (k / 8) (k % 8) 1 64) < (pcv (nowC S) (tq (lA S (nI j)) (lB S (nI j))) (k / 8) (k % 8) 2 64) ∧ gpt (nowC S) (lA S (nI j)) (lB S (nI j)) (k / 8) (k % 8) = (pcv (nowC S) (tq (lA S (nI j)) (lB S (nI j))) (k / 8) (k % 8) 2 64)) ∨ (¬ max (pcv (nowC S) (tq (lA S (nI j)) (lB S (nI j))) (k / 8) (k % 8) 0 64) (pcv (nowC S) (tq (lA S (nI j)) (lB S (nI j))) (k / 8) (k % 8) 1 64) < (pcv (nowC S) (tq (lA S (nI j)) (lB S (nI j))) (k / 8) (k % 8) 2 64) ∧ gpt (nowC S) (lA S (nI j)) (lB S (nI j)) (k / 8) (k % 8) = max (pcv (nowC S) (tq (lA S (nI j)) (lB S (nI j))) (k / 8) (k % 8) 0 64) (pcv (nowC S) (tq (lA S (nI j)) (lB S (nI j))) (k / 8) (k % 8) 1 64)) := by
                                rw [← mx3_e ha hx6]
                                unfold mx3
                                by_cases z : max (pcv (nowC S) (tq (lA S (nI j)) (lB S (nI j))) (k / 8) (k % 8) 0 64) (pcv (nowC S) (tq (lA S (nI j)) (lB S (nI j))) (k / 8) (k % 8) 1 64) < (pcv (nowC S) (tq (lA S (nI j)) (lB S (nI j))) (k / 8) (k % 8) 2 64)
                                · exact Or.inl ⟨z, if_pos z⟩
                                · exact Or.inr ⟨z, if_neg z⟩
                              have q0 := pcv_le (C := nowC S) (P := (tq (lA S (nI j)) (lB S (nI j)))) (i := k / 8) (x := k % 8) (v := 0) 64
                              have q1 := pcv_le (C := nowC S) (P := (tq (lA S (nI j)) (lB S (nI j)))) (i := k / 8) (x := k % 8) (v := 1) 64
                              have q2 := pcv_le (C := nowC S) (P := (tq (lA S (nI j)) (lB S (nI j)))) (i := k / 8) (x := k % 8) (v := 2) 64
                              have qc : cnt (tq (lA S (nI j)) (lB S (nI j))) 64 = trc (lA S (nI j)) (lB S (nI j)) := rfl
                              have qt := trc_le (lA S (nI j)) (lB S (nI j))
                              have qb := (mnx_b (C := nowC S) (b := lB S (nI j)) ha k).1
                              generalize gpt (nowC S) (lA S (nI j)) (lB S (nI j)) (k / 8) (k % 8) = G at *
                              generalize (pcv (nowC S) (tq (lA S (nI j)) (lB S (nI j))) (k / 8) (k % 8) 0 64) = p0 at *
                              generalize (pcv (nowC S) (tq (lA S (nI j)) (lB S (nI j))) (k / 8) (k % 8) 1 64) = p1 at *
                              generalize (pcv (nowC S) (tq (lA S (nI j)) (lB S (nI j))) (k / 8) (k % 8) 2 64) = p2 at *
                              have t_0 := nI_toInt (n := p0) (by omega)
                              have t_1 := nI_toInt (n := p1) (by omega)
                              have t_2 := nI_toInt (n := p2) (by omega)
                              have t_3 := nI_toInt (n := cnt (tq (lA S (nI j)) (lB S (nI j))) 64) (by omega)
                              have t_4 := nI_toInt (n := (mnx (nowC S) (lA S (nI j)) (lB S (nI j)) k).2) (by omega)
                              have l_0 := i_0
                              try simp only [i_le] at c_146
                              try simp only [i_le] at c_174
                              try simp only [i_le] at c_192
                              try simp only [i_le] at c_199
                              try simp only [i_le] at c_211
                              try simp only [i_le] at c_218
                              first
                              | (exfalso; omega)
                              | (rw [if_neg (fun z => by omega)] at e1; rw [e1] at K; exact K _ ⟨hm73 _, frX_t hf (frX_sa (by decide))⟩)
                              | (rw [if_pos ⟨by omega, hx6, by omega⟩] at e1
                                 rw [e1] at K
                                 first
                                 | (rw [show G = p0 by omega] at K; exact K _ ⟨hm73 _, frX_t hf (frX_sa (by decide))⟩)
                                 | (rw [show G = p1 by omega] at K; exact K _ ⟨hm73 _, frX_t hf (frX_sa (by decide))⟩)
                                 | (rw [show G = p2 by omega] at K; exact K _ ⟨hm73 _, frX_t hf (frX_sa (by decide))⟩))
                        · -- ge at 199: no
                          show bw_go _ _ _ _ _ _ _ 202 [(7, .int _), (6, .int _), (5, .int _), (4, .int _), (3, .int _), (0, .ref _), (1, .int _), (2, .int _)] ([]) _ _
                          refine go_iload dX8_next_202 rfl ?_
                          refine go_goto (pc' := 208) dX8_next_204 rfl ?_
                          show bw_go _ _ _ _ _ _ _ 208 [(7, .int _), (6, .int _), (5, .int _), (4, .int _), (3, .int _), (0, .ref _), (1, .int _), (2, .int _)] ((.int _) :: []) _ _
                          refine go_istore_n dX8_next_208 (Nat.lt_of_lt_of_le (Nat.lt_succ_self _) (Nat.le_of_ble_eq_true rfl)) ?_
                          show bw_go _ _ _ _ _ _ _ 209 [(3, .int _), (7, .int _), (6, .int _), (5, .int _), (4, .int _), (0, .ref _), (1, .int _), (2, .int _)] ([]) _ _
                          refine go_iload dX8_next_209 rfl ?_
                          refine go_if_le (pc' := 226) dX8_next_211 rfl (fun c_211 => ?_) (fun c_211 => ?_)
                          · -- le at 211: yes
                            show bw_go _ _ _ _ _ _ _ 226 [(3, .int _), (7, .int _), (6, .int _), (5, .int _), (4, .int _), (0, .ref _), (1, .int _), (2, .int _)] ([]) _ _
                            refine go_iload dX8_next_226 rfl ?_
                            refine go_istore dX8_next_228 (Nat.lt_of_lt_of_le (Nat.lt_succ_self _) (Nat.le_of_ble_eq_true rfl)) ?_
                            show bw_go _ _ _ _ _ _ _ 230 [(4, .int _), (3, .int _), (7, .int _), (6, .int _), (5, .int _), (0, .ref _), (1, .int _), (2, .int _)] ([]) _ _
                            refine go_iinc dX8_next_230 rfl (nI_1 k) (Nat.lt_of_lt_of_le (Nat.lt_succ_self _) (Nat.le_of_ble_eq_true rfl)) ?_
                            show bw_go _ _ _ _ _ _ _ 233 [(5, .int _), (4, .int _), (3, .int _), (7, .int _), (6, .int _), (0, .ref _), (1, .int _), (2, .int _)] ([]) _ _
                            refine go_goto (pc' := 22) dX8_next_233 rfl ?_
                            refine go_ls [(5, .int _), (4, .int _), (3, .int _), (0, .ref _), (1, .int _), (2, .int _)] (by show List.Nodup ([5, 4, 3, 0, 1, 2] : List Nat); decide) (by show List.Nodup ([5, 4, 3, 7, 6, 0, 1, 2] : List Nat); decide) (le_cons rfl (le_cons rfl (le_cons rfl (le_cons rfl (le_cons rfl (le_cons rfl (le_nil _))))))) ?_
                            have e1 : mnx (nowC S) (lA S (nI j)) (lB S (nI j)) (k + 1) = if 0 < trc (lA S (nI j)) (lB S (nI j)) ∧ k % 8 < 6 ∧ gpt (nowC S) (lA S (nI j)) (lB S (nI j)) (k / 8) (k % 8) < (mnx (nowC S) (lA S (nI j)) (lB S (nI j)) k).2 then (some k, gpt (nowC S) (lA S (nI j)) (lB S (nI j)) (k / 8) (k % 8)) else (mnx (nowC S) (lA S (nI j)) (lB S (nI j)) k) := rfl
                            have hg9 : (max (pcv (nowC S) (tq (lA S (nI j)) (lB S (nI j))) (k / 8) (k % 8) 0 64) (pcv (nowC S) (tq (lA S (nI j)) (lB S (nI j))) (k / 8) (k % 8) 1 64) < (pcv (nowC S) (tq (lA S (nI j)) (lB S (nI j))) (k / 8) (k % 8) 2 64) ∧ gpt (nowC S) (lA S (nI j)) (lB S (nI j)) (k / 8) (k % 8) = (pcv (nowC S) (tq (lA S (nI j)) (lB S (nI j))) (k / 8) (k % 8) 2 64)) ∨ (¬ max (pcv (nowC S) (tq (lA S (nI j)) (lB S (nI j))) (k / 8) (k % 8) 0 64) (pcv (nowC S) (tq (lA S (nI j)) (lB S (nI j))) (k / 8) (k % 8) 1 64) < (pcv (nowC S) (tq (lA S (nI j)) (lB S (nI j))) (k / 8) (k % 8) 2 64) ∧ gpt (nowC S) (lA S (nI j)) (lB S (nI j)) (k / 8) (k % 8) = max (pcv (nowC S) (tq (lA S (nI j)) (lB S (nI j))) (k / 8) (k % 8) 0 64) (pcv (nowC S) (tq (lA S (nI j)) (lB S (nI j))) (k / 8) (k % 8) 1 64)) := by
                              rw [← mx3_e ha hx6]
                              unfold mx3
                              by_cases z : max (pcv (nowC S) (tq (lA S (nI j)) (lB S (nI j))) (k / 8) (k % 8) 0 64) (pcv (nowC S) (tq (lA S (nI j)) (lB S (nI j))) (k / 8) (k % 8) 1 64) < (pcv (nowC S) (tq (lA S (nI j)) (lB S (nI j))) (k / 8) (k % 8) 2 64)
                              · exact Or.inl ⟨z, if_pos z⟩
                              · exact Or.inr ⟨z, if_neg z⟩
                            have q0 := pcv_le (C := nowC S) (P := (tq (lA S (nI j)) (lB S (nI j)))) (i := k / 8) (x := k % 8) (v := 0) 64
                            have q1 := pcv_le (C := nowC S) (P := (tq (lA S (nI j)) (lB S (nI j)))) (i := k / 8) (x := k % 8) (v := 1) 64
                            have q2 := pcv_le (C := nowC S) (P := (tq (lA S (nI j)) (lB S (nI j)))) (i := k / 8) (x := k % 8) (v := 2) 64
                            have qc : cnt (tq (lA S (nI j)) (lB S (nI j))) 64 = trc (lA S (nI j)) (lB S (nI j)) := rfl
                            have qt := trc_le (lA S (nI j)) (lB S (nI j))
                            have qb := (mnx_b (C := nowC S) (b := lB S (nI j)) ha k).1
                            generalize gpt (nowC S) (lA S (nI j)) (lB S (nI j)) (k / 8) (k % 8) = G at *
                            generalize (pcv (nowC S) (tq (lA S (nI j)) (lB S (nI j))) (k / 8) (k % 8) 0 64) = p0 at *
                            generalize (pcv (nowC S) (tq (lA S (nI j)) (lB S (nI j))) (k / 8) (k % 8) 1 64) = p1 at *
                            generalize (pcv (nowC S) (tq (lA S (nI j)) (lB S (nI j))) (k / 8) (k % 8) 2 64) = p2 at *
                            have t_0 := nI_toInt (n := p0) (by omega)
                            have t_1 := nI_toInt (n := p1) (by omega)
                            have t_2 := nI_toInt (n := p2) (by omega)
                            have t_3 := nI_toInt (n := cnt (tq (lA S (nI j)) (lB S (nI j))) 64) (by omega)
                            have t_4 := nI_toInt (n := (mnx (nowC S) (lA S (nI j)) (lB S (nI j)) k).2) (by omega)
                            have l_0 := i_0
                            try simp only [i_le] at c_146
                            try simp only [i_le] at c_174
                            try simp only [i_le] at c_192
                            try simp only [i_le] at c_199
                            try simp only [i_le] at c_211
                            try simp only [i_le] at c_218
                            first
                            | (exfalso; omega)
                            | (rw [if_neg (fun z => by omega)] at e1; rw [e1] at K; exact K _ ⟨hm73 _, frX_t hf (frX_sa (by decide))⟩)
                            | (rw [if_pos ⟨by omega, hx6, by omega⟩] at e1
                               rw [e1] at K
                               first
                               | (rw [show G = p0 by omega] at K; exact K _ ⟨hm73 _, frX_t hf (frX_sa (by decide))⟩)
                               | (rw [show G = p1 by omega] at K; exact K _ ⟨hm73 _, frX_t hf (frX_sa (by decide))⟩)
                               | (rw [show G = p2 by omega] at K; exact K _ ⟨hm73 _, frX_t hf (frX_sa (by decide))⟩))
                          · -- le at 211: no
                            show bw_go _ _ _ _ _ _ _ 214 [(3, .int _), (7, .int _), (6, .int _), (5, .int _), (4, .int _), (0, .ref _), (1, .int _), (2, .int _)] ([]) _ _
                            refine go_iload dX8_next_214 rfl ?_
                            refine go_iload dX8_next_216 rfl ?_
                            refine go_icmp_ge (pc' := 226) dX8_next_218 rfl (fun c_218 => ?_) (fun c_218 => ?_)
                            · -- ge at 218: yes
                              show bw_go _ _ _ _ _ _ _ 226 [(3, .int _), (7, .int _), (6, .int _), (5, .int _), (4, .int _), (0, .ref _), (1, .int _), (2, .int _)] ([]) _ _
                              refine go_iload dX8_next_226 rfl ?_
                              refine go_istore dX8_next_228 (Nat.lt_of_lt_of_le (Nat.lt_succ_self _) (Nat.le_of_ble_eq_true rfl)) ?_
                              show bw_go _ _ _ _ _ _ _ 230 [(4, .int _), (3, .int _), (7, .int _), (6, .int _), (5, .int _), (0, .ref _), (1, .int _), (2, .int _)] ([]) _ _
                              refine go_iinc dX8_next_230 rfl (nI_1 k) (Nat.lt_of_lt_of_le (Nat.lt_succ_self _) (Nat.le_of_ble_eq_true rfl)) ?_
                              show bw_go _ _ _ _ _ _ _ 233 [(5, .int _), (4, .int _), (3, .int _), (7, .int _), (6, .int _), (0, .ref _), (1, .int _), (2, .int _)] ([]) _ _
                              refine go_goto (pc' := 22) dX8_next_233 rfl ?_
                              refine go_ls [(5, .int _), (4, .int _), (3, .int _), (0, .ref _), (1, .int _), (2, .int _)] (by show List.Nodup ([5, 4, 3, 0, 1, 2] : List Nat); decide) (by show List.Nodup ([5, 4, 3, 7, 6, 0, 1, 2] : List Nat); decide) (le_cons rfl (le_cons rfl (le_cons rfl (le_cons rfl (le_cons rfl (le_cons rfl (le_nil _))))))) ?_
                              have e1 : mnx (nowC S) (lA S (nI j)) (lB S (nI j)) (k + 1) = if 0 < trc (lA S (nI j)) (lB S (nI j)) ∧ k % 8 < 6 ∧ gpt (nowC S) (lA S (nI j)) (lB S (nI j)) (k / 8) (k % 8) < (mnx (nowC S) (lA S (nI j)) (lB S (nI j)) k).2 then (some k, gpt (nowC S) (lA S (nI j)) (lB S (nI j)) (k / 8) (k % 8)) else (mnx (nowC S) (lA S (nI j)) (lB S (nI j)) k) := rfl
                              have hg9 : (max (pcv (nowC S) (tq (lA S (nI j)) (lB S (nI j))) (k / 8) (k % 8) 0 64) (pcv (nowC S) (tq (lA S (nI j)) (lB S (nI j))) (k / 8) (k % 8) 1 64) < (pcv (nowC S) (tq (lA S (nI j)) (lB S (nI j))) (k / 8) (k % 8) 2 64) ∧ gpt (nowC S) (lA S (nI j)) (lB S (nI j)) (k / 8) (k % 8) = (pcv (nowC S) (tq (lA S (nI j)) (lB S (nI j))) (k / 8) (k % 8) 2 64)) ∨ (¬ max (pcv (nowC S) (tq (lA S (nI j)) (lB S (nI j))) (k / 8) (k % 8) 0 64) (pcv (nowC S) (tq (lA S (nI j)) (lB S (nI j))) (k / 8) (k % 8) 1 64) < (pcv (nowC S) (tq (lA S (nI j)) (lB S (nI j))) (k / 8) (k % 8) 2 64) ∧ gpt (nowC S) (lA S (nI j)) (lB S (nI j)) (k / 8) (k % 8) = max (pcv (nowC S) (tq (lA S (nI j)) (lB S (nI j))) (k / 8) (k % 8) 0 64) (pcv (nowC S) (tq (lA S (nI j)) (lB S (nI j))) (k / 8) (k % 8) 1 64)) := by
                                rw [← mx3_e ha hx6]
                                unfold mx3
                                by_cases z : max (pcv (nowC S) (tq (lA S (nI j)) (lB S (nI j))) (k / 8) (k % 8) 0 64) (pcv (nowC S) (tq (lA S (nI j)) (lB S (nI j))) (k / 8) (k % 8) 1 64) < (pcv (nowC S) (tq (lA S (nI j)) (lB S (nI j))) (k / 8) (k % 8) 2 64)
                                · exact Or.inl ⟨z, if_pos z⟩
                                · exact Or.inr ⟨z, if_neg z⟩
                              have q0 := pcv_le (C := nowC S) (P := (tq (lA S (nI j)) (lB S (nI j)))) (i := k / 8) (x := k % 8) (v := 0) 64
                              have q1 := pcv_le (C := nowC S) (P := (tq (lA S (nI j)) (lB S (nI j)))) (i := k / 8) (x := k % 8) (v := 1) 64
                              have q2 := pcv_le (C := nowC S) (P := (tq (lA S (nI j)) (lB S (nI j)))) (i := k / 8) (x := k % 8) (v := 2) 64
                              have qc : cnt (tq (lA S (nI j)) (lB S (nI j))) 64 = trc (lA S (nI j)) (lB S (nI j)) := rfl
                              have qt := trc_le (lA S (nI j)) (lB S (nI j))
                              have qb := (mnx_b (C := nowC S) (b := lB S (nI j)) ha k).1
                              generalize gpt (nowC S) (lA S (nI j)) (lB S (nI j)) (k / 8) (k % 8) = G at *
                              generalize (pcv (nowC S) (tq (lA S (nI j)) (lB S (nI j))) (k / 8) (k % 8) 0 64) = p0 at *
                              generalize (pcv (nowC S) (tq (lA S (nI j)) (lB S (nI j))) (k / 8) (k % 8) 1 64) = p1 at *
                              generalize (pcv (nowC S) (tq (lA S (nI j)) (lB S (nI j))) (k / 8) (k % 8) 2 64) = p2 at *
                              have t_0 := nI_toInt (n := p0) (by omega)
                              have t_1 := nI_toInt (n := p1) (by omega)
                              have t_2 := nI_toInt (n := p2) (by omega)
                              have t_3 := nI_toInt (n := cnt (tq (lA S (nI j)) (lB S (nI j))) 64) (by omega)
                              have t_4 := nI_toInt (n := (mnx (nowC S) (lA S (nI j)) (lB S (nI j)) k).2) (by omega)
                              have l_0 := i_0
                              try simp only [i_le] at c_146
                              try simp only [i_le] at c_174
                              try simp only [i_le] at c_192
                              try simp only [i_le] at c_199
                              try simp only [i_le] at c_211
                              try simp only [i_le] at c_218
                              first
                              | (exfalso; omega)
                              | (rw [if_neg (fun z => by omega)] at e1; rw [e1] at K; exact K _ ⟨hm73 _, frX_t hf (frX_sa (by decide))⟩)
                              | (rw [if_pos ⟨by omega, hx6, by omega⟩] at e1
                                 rw [e1] at K
                                 first
                                 | (rw [show G = p0 by omega] at K; exact K _ ⟨hm73 _, frX_t hf (frX_sa (by decide))⟩)
                                 | (rw [show G = p1 by omega] at K; exact K _ ⟨hm73 _, frX_t hf (frX_sa (by decide))⟩)
                                 | (rw [show G = p2 by omega] at K; exact K _ ⟨hm73 _, frX_t hf (frX_sa (by decide))⟩))
                            · -- ge at 218: no
                              show bw_go _ _ _ _ _ _ _ 221 [(3, .int _), (7, .int _), (6, .int _), (5, .int _), (4, .int _), (0, .ref _), (1, .int _), (2, .int _)] ([]) _ _
                              refine go_iload dX8_next_221 rfl ?_
                              refine go_goto (pc' := 228) dX8_next_223 rfl ?_
                              show bw_go _ _ _ _ _ _ _ 228 [(3, .int _), (7, .int _), (6, .int _), (5, .int _), (4, .int _), (0, .ref _), (1, .int _), (2, .int _)] ((.int _) :: []) _ _
                              refine go_istore dX8_next_228 (Nat.lt_of_lt_of_le (Nat.lt_succ_self _) (Nat.le_of_ble_eq_true rfl)) ?_
                              show bw_go _ _ _ _ _ _ _ 230 [(4, .int _), (3, .int _), (7, .int _), (6, .int _), (5, .int _), (0, .ref _), (1, .int _), (2, .int _)] ([]) _ _
                              refine go_iinc dX8_next_230 rfl (nI_1 k) (Nat.lt_of_lt_of_le (Nat.lt_succ_self _) (Nat.le_of_ble_eq_true rfl)) ?_
                              show bw_go _ _ _ _ _ _ _ 233 [(5, .int _), (4, .int _), (3, .int _), (7, .int _), (6, .int _), (0, .ref _), (1, .int _), (2, .int _)] ([]) _ _
                              refine go_goto (pc' := 22) dX8_next_233 rfl ?_
                              refine go_ls [(5, .int _), (4, .int _), (3, .int _), (0, .ref _), (1, .int _), (2, .int _)] (by show List.Nodup ([5, 4, 3, 0, 1, 2] : List Nat); decide) (by show List.Nodup ([5, 4, 3, 7, 6, 0, 1, 2] : List Nat); decide) (le_cons rfl (le_cons rfl (le_cons rfl (le_cons rfl (le_cons rfl (le_cons rfl (le_nil _))))))) ?_
                              have e1 : mnx (nowC S) (lA S (nI j)) (lB S (nI j)) (k + 1) = if 0 < trc (lA S (nI j)) (lB S (nI j)) ∧ k % 8 < 6 ∧ gpt (nowC S) (lA S (nI j)) (lB S (nI j)) (k / 8) (k % 8) < (mnx (nowC S) (lA S (nI j)) (lB S (nI j)) k).2 then (some k, gpt (nowC S) (lA S (nI j)) (lB S (nI j)) (k / 8) (k % 8)) else (mnx (nowC S) (lA S (nI j)) (lB S (nI j)) k) := rfl
                              have hg9 : (max (pcv (nowC S) (tq (lA S (nI j)) (lB S (nI j))) (k / 8) (k % 8) 0 64) (pcv (nowC S) (tq (lA S (nI j)) (lB S (nI j))) (k / 8) (k % 8) 1 64) < (pcv (nowC S) (tq (lA S (nI j)) (lB S (nI j))) (k / 8) (k % 8) 2 64) ∧ gpt (nowC S) (lA S (nI j)) (lB S (nI j)) (k / 8) (k % 8) = (pcv (nowC S) (tq (lA S (nI j)) (lB S (nI j))) (k / 8) (k % 8) 2 64)) ∨ (¬ max (pcv (nowC S) (tq (lA S (nI j)) (lB S (nI j))) (k / 8) (k % 8) 0 64) (pcv (nowC S) (tq (lA S (nI j)) (lB S (nI j))) (k / 8) (k % 8) 1 64) < (pcv (nowC S) (tq (lA S (nI j)) (lB S (nI j))) (k / 8) (k % 8) 2 64) ∧ gpt (nowC S) (lA S (nI j)) (lB S (nI j)) (k / 8) (k % 8) = max (pcv (nowC S) (tq (lA S (nI j)) (lB S (nI j))) (k / 8) (k % 8) 0 64) (pcv (nowC S) (tq (lA S (nI j)) (lB S (nI j))) (k / 8) (k % 8) 1 64)) := by
                                rw [← mx3_e ha hx6]
                                unfold mx3
                                by_cases z : max (pcv (nowC S) (tq (lA S (nI j)) (lB S (nI j))) (k / 8) (k % 8) 0 64) (pcv (nowC S) (tq (lA S (nI j)) (lB S (nI j))) (k / 8) (k % 8) 1 64) < (pcv (nowC S) (tq (lA S (nI j)) (lB S (nI j))) (k / 8) (k % 8) 2 64)
                                · exact Or.inl ⟨z, if_pos z⟩
                                · exact Or.inr ⟨z, if_neg z⟩
                              have q0 := pcv_le (C := nowC S) (P := (tq (lA S (nI j)) (lB S (nI j)))) (i := k / 8) (x := k % 8) (v := 0) 64
                              have q1 := pcv_le (C := nowC S) (P := (tq (lA S (nI j)) (lB S (nI j)))) (i := k / 8) (x := k % 8) (v := 1) 64
                              have q2 := pcv_le (C := nowC S) (P := (tq (lA S (nI j)) (lB S (nI j)))) (i := k / 8) (x := k % 8) (v := 2) 64
                              have qc : cnt (tq (lA S (nI j)) (lB S (nI j))) 64 = trc (lA S (nI j)) (lB S (nI j)) := rfl
                              have qt := trc_le (lA S (nI j)) (lB S (nI j))
                              have qb := (mnx_b (C := nowC S) (b := lB S (nI j)) ha k).1
                              generalize gpt (nowC S) (lA S (nI j)) (lB S (nI j)) (k / 8) (k % 8) = G at *
                              generalize (pcv (nowC S) (tq (lA S (nI j)) (lB S (nI j))) (k / 8) (k % 8) 0 64) = p0 at *
                              generalize (pcv (nowC S) (tq (lA S (nI j)) (lB S (nI j))) (k / 8) (k % 8) 1 64) = p1 at *
                              generalize (pcv (nowC S) (tq (lA S (nI j)) (lB S (nI j))) (k / 8) (k % 8) 2 64) = p2 at *
                              have t_0 := nI_toInt (n := p0) (by omega)
                              have t_1 := nI_toInt (n := p1) (by omega)
                              have t_2 := nI_toInt (n := p2) (by omega)
                              have t_3 := nI_toInt (n := cnt (tq (lA S (nI j)) (lB S (nI j))) 64) (by omega)
                              have t_4 := nI_toInt (n := (mnx (nowC S) (lA S (nI j)) (lB S (nI j)) k).2) (by omega)
                              have l_0 := i_0
                              try simp only [i_le] at c_146
                              try simp only [i_le] at c_174
                              try simp only [i_le] at c_192
                              try simp only [i_le] at c_199
                              try simp only [i_le] at c_211
                              try simp only [i_le] at c_218
                              first
                              | (exfalso; omega)
                              | (rw [if_neg (fun z => by omega)] at e1; rw [e1] at K; exact K _ ⟨hm73 _, frX_t hf (frX_sa (by decide))⟩)
                              | (rw [if_pos ⟨by omega, hx6, by omega⟩] at e1
                                 rw [e1] at K
                                 first
                                 | (rw [show G = p0 by omega] at K; exact K _ ⟨hm73 _, frX_t hf (frX_sa (by decide))⟩)
                                 | (rw [show G = p1 by omega] at K; exact K _ ⟨hm73 _, frX_t hf (frX_sa (by decide))⟩)
                                 | (rw [show G = p2 by omega] at K; exact K _ ⟨hm73 _, frX_t hf (frX_sa (by decide))⟩))
                  · -- le at 146: no
                    show bw_go _ _ _ _ _ _ _ 149 [(7, .int _), (6, .int _), (5, .int _), (4, .int _), (3, .int _), (0, .ref _), (1, .int _), (2, .int _)] ([]) _ _
                    refine go_aload_n dX8_next_149 rfl ?_
                    refine go_gfr dX8_next_150 fl_8_51 rfl (ms_lt hm.1 (by decide)) hm.1.1.2 hm.1.2.1.2.2.2.2.2.2.2.2.2.2.2.2.1 ?_
                    refine go_iconst (0) dX8_next_153 rfl ?_
                    refine go_ia dX8_next_154 hm.1.2.2.2.2.2.2.2.2.2.2.2.2.2.2.1 (ms_lt hm.1 (by decide)) (by decide) ?_
                    rw [show (0 : Int32).toNatClampNeg = 0 from rfl, i_sa_s, hF.1]
                    refine go_goto (pc' := 164) dX8_next_155 rfl ?_
                    show bw_go _ _ _ _ _ _ _ 164 [(7, .int _), (6, .int _), (5, .int _), (4, .int _), (3, .int _), (0, .ref _), (1, .int _), (2, .int _)] ((.int _) :: []) _ _
                    first | rw [show (1 : Int32).toNatClampNeg = 1 from rfl, i_sa_s, hF.2.1] | skip
                    refine go_istore dX8_next_164 (Nat.lt_of_lt_of_le (Nat.lt_succ_self _) (Nat.le_of_ble_eq_true rfl)) ?_
                    show bw_go _ _ _ _ _ _ _ 166 [(7, .int _), (6, .int _), (5, .int _), (4, .int _), (3, .int _), (0, .ref _), (1, .int _), (2, .int _)] ([]) _ _
                    refine go_aload_n dX8_next_166 rfl ?_
                    refine go_gfr dX8_next_167 fl_8_51 rfl (ms_lt hm.1 (by decide)) hm.1.1.2 hm.1.2.1.2.2.2.2.2.2.2.2.2.2.2.2.1 ?_
                    refine go_iconst (2) dX8_next_170 rfl ?_
                    refine go_ia dX8_next_171 hm.1.2.2.2.2.2.2.2.2.2.2.2.2.2.2.1 (ms_lt hm.1 (by decide)) (by decide) ?_
                    rw [show (2 : Int32).toNatClampNeg = 2 from rfl, i_sa_s, hF.2.2]
                    refine go_iload dX8_next_172 rfl ?_
                    refine go_icmp_le (pc' := 186) dX8_next_174 rfl (fun c_174 => ?_) (fun c_174 => ?_)
                    · -- le at 174: yes
                      show bw_go _ _ _ _ _ _ _ 186 [(7, .int _), (6, .int _), (5, .int _), (4, .int _), (3, .int _), (0, .ref _), (1, .int _), (2, .int _)] ([]) _ _
                      refine go_iload dX8_next_186 rfl ?_
                      refine go_istore dX8_next_188 (Nat.lt_of_lt_of_le (Nat.lt_succ_self _) (Nat.le_of_ble_eq_true rfl)) ?_
                      show bw_go _ _ _ _ _ _ _ 190 [(7, .int _), (6, .int _), (5, .int _), (4, .int _), (3, .int _), (0, .ref _), (1, .int _), (2, .int _)] ([]) _ _
                      refine go_iload dX8_next_190 rfl ?_
                      refine go_if_le (pc' := 207) dX8_next_192 rfl (fun c_192 => ?_) (fun c_192 => ?_)
                      · -- le at 192: yes
                        show bw_go _ _ _ _ _ _ _ 207 [(7, .int _), (6, .int _), (5, .int _), (4, .int _), (3, .int _), (0, .ref _), (1, .int _), (2, .int _)] ([]) _ _
                        refine go_iload_n dX8_next_207 rfl ?_
                        refine go_istore_n dX8_next_208 (Nat.lt_of_lt_of_le (Nat.lt_succ_self _) (Nat.le_of_ble_eq_true rfl)) ?_
                        show bw_go _ _ _ _ _ _ _ 209 [(3, .int _), (7, .int _), (6, .int _), (5, .int _), (4, .int _), (0, .ref _), (1, .int _), (2, .int _)] ([]) _ _
                        refine go_iload dX8_next_209 rfl ?_
                        refine go_if_le (pc' := 226) dX8_next_211 rfl (fun c_211 => ?_) (fun c_211 => ?_)
                        · -- le at 211: yes
                          show bw_go _ _ _ _ _ _ _ 226 [(3, .int _), (7, .int _), (6, .int _), (5, .int _), (4, .int _), (0, .ref _), (1, .int _), (2, .int _)] ([]) _ _
                          refine go_iload dX8_next_226 rfl ?_
                          refine go_istore dX8_next_228 (Nat.lt_of_lt_of_le (Nat.lt_succ_self _) (Nat.le_of_ble_eq_true rfl)) ?_
                          show bw_go _ _ _ _ _ _ _ 230 [(4, .int _), (3, .int _), (7, .int _), (6, .int _), (5, .int _), (0, .ref _), (1, .int _), (2, .int _)] ([]) _ _
                          refine go_iinc dX8_next_230 rfl (nI_1 k) (Nat.lt_of_lt_of_le (Nat.lt_succ_self _) (Nat.le_of_ble_eq_true rfl)) ?_
                          show bw_go _ _ _ _ _ _ _ 233 [(5, .int _), (4, .int _), (3, .int _), (7, .int _), (6, .int _), (0, .ref _), (1, .int _), (2, .int _)] ([]) _ _
                          refine go_goto (pc' := 22) dX8_next_233 rfl ?_
                          refine go_ls [(5, .int _), (4, .int _), (3, .int _), (0, .ref _), (1, .int _), (2, .int _)] (by show List.Nodup ([5, 4, 3, 0, 1, 2] : List Nat); decide) (by show List.Nodup ([5, 4, 3, 7, 6, 0, 1, 2] : List Nat); decide) (le_cons rfl (le_cons rfl (le_cons rfl (le_cons rfl (le_cons rfl (le_cons rfl (le_nil _))))))) ?_
                          have e1 : mnx (nowC S) (lA S (nI j)) (lB S (nI j)) (k + 1) = if 0 < trc (lA S (nI j)) (lB S (nI j)) ∧ k % 8 < 6 ∧ gpt (nowC S) (lA S (nI j)) (lB S (nI j)) (k / 8) (k % 8) < (mnx (nowC S) (lA S (nI j)) (lB S (nI j)) k).2 then (some k, gpt (nowC S) (lA S (nI j)) (lB S (nI j)) (k / 8) (k % 8)) else (mnx (nowC S) (lA S (nI j)) (lB S (nI j)) k) := rfl
                          have hg9 : (max (pcv (nowC S) (tq (lA S (nI j)) (lB S (nI j))) (k / 8) (k % 8) 0 64) (pcv (nowC S) (tq (lA S (nI j)) (lB S (nI j))) (k / 8) (k % 8) 1 64) < (pcv (nowC S) (tq (lA S (nI j)) (lB S (nI j))) (k / 8) (k % 8) 2 64) ∧ gpt (nowC S) (lA S (nI j)) (lB S (nI j)) (k / 8) (k % 8) = (pcv (nowC S) (tq (lA S (nI j)) (lB S (nI j))) (k / 8) (k % 8) 2 64)) ∨ (¬ max (pcv (nowC S) (tq (lA S (nI j)) (lB S (nI j))) (k / 8) (k % 8) 0 64) (pcv (nowC S) (tq (lA S (nI j)) (lB S (nI j))) (k / 8) (k % 8) 1 64) < (pcv (nowC S) (tq (lA S (nI j)) (lB S (nI j))) (k / 8) (k % 8) 2 64) ∧ gpt (nowC S) (lA S (nI j)) (lB S (nI j)) (k / 8) (k % 8) = max (pcv (nowC S) (tq (lA S (nI j)) (lB S (nI j))) (k / 8) (k % 8) 0 64) (pcv (nowC S) (tq (lA S (nI j)) (lB S (nI j))) (k / 8) (k % 8) 1 64)) := by
                            rw [← mx3_e ha hx6]
                            unfold mx3
                            by_cases z : max (pcv (nowC S) (tq (lA S (nI j)) (lB S (nI j))) (k / 8) (k % 8) 0 64) (pcv (nowC S) (tq (lA S (nI j)) (lB S (nI j))) (k / 8) (k % 8) 1 64) < (pcv (nowC S) (tq (lA S (nI j)) (lB S (nI j))) (k / 8) (k % 8) 2 64)
                            · exact Or.inl ⟨z, if_pos z⟩
                            · exact Or.inr ⟨z, if_neg z⟩
                          have q0 := pcv_le (C := nowC S) (P := (tq (lA S (nI j)) (lB S (nI j)))) (i := k / 8) (x := k % 8) (v := 0) 64
                          have q1 := pcv_le (C := nowC S) (P := (tq (lA S (nI j)) (lB S (nI j)))) (i := k / 8) (x := k % 8) (v := 1) 64
                          have q2 := pcv_le (C := nowC S) (P := (tq (lA S (nI j)) (lB S (nI j)))) (i := k / 8) (x := k % 8) (v := 2) 64
                          have qc : cnt (tq (lA S (nI j)) (lB S (nI j))) 64 = trc (lA S (nI j)) (lB S (nI j)) := rfl
                          have qt := trc_le (lA S (nI j)) (lB S (nI j))
                          have qb := (mnx_b (C := nowC S) (b := lB S (nI j)) ha k).1
                          generalize gpt (nowC S) (lA S (nI j)) (lB S (nI j)) (k / 8) (k % 8) = G at *
                          generalize (pcv (nowC S) (tq (lA S (nI j)) (lB S (nI j))) (k / 8) (k % 8) 0 64) = p0 at *
                          generalize (pcv (nowC S) (tq (lA S (nI j)) (lB S (nI j))) (k / 8) (k % 8) 1 64) = p1 at *
                          generalize (pcv (nowC S) (tq (lA S (nI j)) (lB S (nI j))) (k / 8) (k % 8) 2 64) = p2 at *
                          have t_0 := nI_toInt (n := p0) (by omega)
                          have t_1 := nI_toInt (n := p1) (by omega)
                          have t_2 := nI_toInt (n := p2) (by omega)
                          have t_3 := nI_toInt (n := cnt (tq (lA S (nI j)) (lB S (nI j))) 64) (by omega)
                          have t_4 := nI_toInt (n := (mnx (nowC S) (lA S (nI j)) (lB S (nI j)) k).2) (by omega)
                          have l_0 := i_0
                          try simp only [i_le] at c_146
                          try simp only [i_le] at c_174
                          try simp only [i_le] at c_192
                          try simp only [i_le] at c_199
                          try simp only [i_le] at c_211
                          try simp only [i_le] at c_218
                          first
                          | (exfalso; omega)
                          | (rw [if_neg (fun z => by omega)] at e1; rw [e1] at K; exact K _ ⟨hm73 _, frX_t hf (frX_sa (by decide))⟩)
                          | (rw [if_pos ⟨by omega, hx6, by omega⟩] at e1
                             rw [e1] at K
                             first
                             | (rw [show G = p0 by omega] at K; exact K _ ⟨hm73 _, frX_t hf (frX_sa (by decide))⟩)
                             | (rw [show G = p1 by omega] at K; exact K _ ⟨hm73 _, frX_t hf (frX_sa (by decide))⟩)
                             | (rw [show G = p2 by omega] at K; exact K _ ⟨hm73 _, frX_t hf (frX_sa (by decide))⟩))
                        · -- le at 211: no
                          show bw_go _ _ _ _ _ _ _ 214 [(3, .int _), (7, .int _), (6, .int _), (5, .int _), (4, .int _), (0, .ref _), (1, .int _), (2, .int _)] ([]) _ _
                          refine go_iload dX8_next_214 rfl ?_
                          refine go_iload dX8_next_216 rfl ?_
                          refine go_icmp_ge (pc' := 226) dX8_next_218 rfl (fun c_218 => ?_) (fun c_218 => ?_)
                          · -- ge at 218: yes
                            show bw_go _ _ _ _ _ _ _ 226 [(3, .int _), (7, .int _), (6, .int _), (5, .int _), (4, .int _), (0, .ref _), (1, .int _), (2, .int _)] ([]) _ _
                            refine go_iload dX8_next_226 rfl ?_
                            refine go_istore dX8_next_228 (Nat.lt_of_lt_of_le (Nat.lt_succ_self _) (Nat.le_of_ble_eq_true rfl)) ?_
                            show bw_go _ _ _ _ _ _ _ 230 [(4, .int _), (3, .int _), (7, .int _), (6, .int _), (5, .int _), (0, .ref _), (1, .int _), (2, .int _)] ([]) _ _
                            refine go_iinc dX8_next_230 rfl (nI_1 k) (Nat.lt_of_lt_of_le (Nat.lt_succ_self _) (Nat.le_of_ble_eq_true rfl)) ?_
                            show bw_go _ _ _ _ _ _ _ 233 [(5, .int _), (4, .int _), (3, .int _), (7, .int _), (6, .int _), (0, .ref _), (1, .int _), (2, .int _)] ([]) _ _
                            refine go_goto (pc' := 22) dX8_next_233 rfl ?_
                            refine go_ls [(5, .int _), (4, .int _), (3, .int _), (0, .ref _), (1, .int _), (2, .int _)] (by show List.Nodup ([5, 4, 3, 0, 1, 2] : List Nat); decide) (by show List.Nodup ([5, 4, 3, 7, 6, 0, 1, 2] : List Nat); decide) (le_cons rfl (le_cons rfl (le_cons rfl (le_cons rfl (le_cons rfl (le_cons rfl (le_nil _))))))) ?_
                            have e1 : mnx (nowC S) (lA S (nI j)) (lB S (nI j)) (k + 1) = if 0 < trc (lA S (nI j)) (lB S (nI j)) ∧ k % 8 < 6 ∧ gpt (nowC S) (lA S (nI j)) (lB S (nI j)) (k / 8) (k % 8) < (mnx (nowC S) (lA S (nI j)) (lB S (nI j)) k).2 then (some k, gpt (nowC S) (lA S (nI j)) (lB S (nI j)) (k / 8) (k % 8)) else (mnx (nowC S) (lA S (nI j)) (lB S (nI j)) k) := rfl
                            have hg9 : (max (pcv (nowC S) (tq (lA S (nI j)) (lB S (nI j))) (k / 8) (k % 8) 0 64) (pcv (nowC S) (tq (lA S (nI j)) (lB S (nI j))) (k / 8) (k % 8) 1 64) < (pcv (nowC S) (tq (lA S (nI j)) (lB S (nI j))) (k / 8) (k % 8) 2 64) ∧ gpt (nowC S) (lA S (nI j)) (lB S (nI j)) (k / 8) (k % 8) = (pcv (nowC S) (tq (lA S (nI j)) (lB S (nI j))) (k / 8) (k % 8) 2 64)) ∨ (¬ max (pcv (nowC S) (tq (lA S (nI j)) (lB S (nI j))) (k / 8) (k % 8) 0 64) (pcv (nowC S) (tq (lA S (nI j)) (lB S (nI j))) (k / 8) (k % 8) 1 64) < (pcv (nowC S) (tq (lA S (nI j)) (lB S (nI j))) (k / 8) (k % 8) 2 64) ∧ gpt (nowC S) (lA S (nI j)) (lB S (nI j)) (k / 8) (k % 8) = max (pcv (nowC S) (tq (lA S (nI j)) (lB S (nI j))) (k / 8) (k % 8) 0 64) (pcv (nowC S) (tq (lA S (nI j)) (lB S (nI j))) (k / 8) (k % 8) 1 64)) := by
                              rw [← mx3_e ha hx6]
                              unfold mx3
                              by_cases z : max (pcv (nowC S) (tq (lA S (nI j)) (lB S (nI j))) (k / 8) (k % 8) 0 64) (pcv (nowC S) (tq (lA S (nI j)) (lB S (nI j))) (k / 8) (k % 8) 1 64) < (pcv (nowC S) (tq (lA S (nI j)) (lB S (nI j))) (k / 8) (k % 8) 2 64)
                              · exact Or.inl ⟨z, if_pos z⟩
                              · exact Or.inr ⟨z, if_neg z⟩
                            have q0 := pcv_le (C := nowC S) (P := (tq (lA S (nI j)) (lB S (nI j)))) (i := k / 8) (x := k % 8) (v := 0) 64
                            have q1 := pcv_le (C := nowC S) (P := (tq (lA S (nI j)) (lB S (nI j)))) (i := k / 8) (x := k % 8) (v := 1) 64
                            have q2 := pcv_le (C := nowC S) (P := (tq (lA S (nI j)) (lB S (nI j)))) (i := k / 8) (x := k % 8) (v := 2) 64
                            have qc : cnt (tq (lA S (nI j)) (lB S (nI j))) 64 = trc (lA S (nI j)) (lB S (nI j)) := rfl
                            have qt := trc_le (lA S (nI j)) (lB S (nI j))
                            have qb := (mnx_b (C := nowC S) (b := lB S (nI j)) ha k).1
                            generalize gpt (nowC S) (lA S (nI j)) (lB S (nI j)) (k / 8) (k % 8) = G at *
                            generalize (pcv (nowC S) (tq (lA S (nI j)) (lB S (nI j))) (k / 8) (k % 8) 0 64) = p0 at *
                            generalize (pcv (nowC S) (tq (lA S (nI j)) (lB S (nI j))) (k / 8) (k % 8) 1 64) = p1 at *
                            generalize (pcv (nowC S) (tq (lA S (nI j)) (lB S (nI j))) (k / 8) (k % 8) 2 64) = p2 at *
                            have t_0 := nI_toInt (n := p0) (by omega)
                            have t_1 := nI_toInt (n := p1) (by omega)
                            have t_2 := nI_toInt (n := p2) (by omega)
                            have t_3 := nI_toInt (n := cnt (tq (lA S (nI j)) (lB S (nI j))) 64) (by omega)
                            have t_4 := nI_toInt (n := (mnx (nowC S) (lA S (nI j)) (lB S (nI j)) k).2) (by omega)
                            have l_0 := i_0
                            try simp only [i_le] at c_146
                            try simp only [i_le] at c_174
                            try simp only [i_le] at c_192
                            try simp only [i_le] at c_199
                            try simp only [i_le] at c_211
                            try simp only [i_le] at c_218
                            first
                            | (exfalso; omega)
                            | (rw [if_neg (fun z => by omega)] at e1; rw [e1] at K; exact K _ ⟨hm73 _, frX_t hf (frX_sa (by decide))⟩)
                            | (rw [if_pos ⟨by omega, hx6, by omega⟩] at e1
                               rw [e1] at K
                               first
                               | (rw [show G = p0 by omega] at K; exact K _ ⟨hm73 _, frX_t hf (frX_sa (by decide))⟩)
                               | (rw [show G = p1 by omega] at K; exact K _ ⟨hm73 _, frX_t hf (frX_sa (by decide))⟩)
                               | (rw [show G = p2 by omega] at K; exact K _ ⟨hm73 _, frX_t hf (frX_sa (by decide))⟩))
                          · -- ge at 218: no
                            show bw_go _ _ _ _ _ _ _ 221 [(3, .int _), (7, .int _), (6, .int _), (5, .int _), (4, .int _), (0, .ref _), (1, .int _), (2, .int _)] ([]) _ _
                            refine go_iload dX8_next_221 rfl ?_
                            refine go_goto (pc' := 228) dX8_next_223 rfl ?_
                            show bw_go _ _ _ _ _ _ _ 228 [(3, .int _), (7, .int _), (6, .int _), (5, .int _), (4, .int _), (0, .ref _), (1, .int _), (2, .int _)] ((.int _) :: []) _ _
                            refine go_istore dX8_next_228 (Nat.lt_of_lt_of_le (Nat.lt_succ_self _) (Nat.le_of_ble_eq_true rfl)) ?_
                            show bw_go _ _ _ _ _ _ _ 230 [(4, .int _), (3, .int _), (7, .int _), (6, .int _), (5, .int _), (0, .ref _), (1, .int _), (2, .int _)] ([]) _ _
                            refine go_iinc dX8_next_230 rfl (nI_1 k) (Nat.lt_of_lt_of_le (Nat.lt_succ_self _) (Nat.le_of_ble_eq_true rfl)) ?_
                            show bw_go _ _ _ _ _ _ _ 233 [(5, .int _), (4, .int _), (3, .int _), (7, .int _), (6, .int _), (0, .ref _), (1, .int _), (2, .int _)] ([]) _ _
                            refine go_goto (pc' := 22) dX8_next_233 rfl ?_
                            refine go_ls [(5, .int _), (4, .int _), (3, .int _), (0, .ref _), (1, .int _), (2, .int _)] (by show List.Nodup ([5, 4, 3, 0, 1, 2] : List Nat); decide) (by show List.Nodup ([5, 4, 3, 7, 6, 0, 1, 2] : List Nat); decide) (le_cons rfl (le_cons rfl (le_cons rfl (le_cons rfl (le_cons rfl (le_cons rfl (le_nil _))))))) ?_
                            have e1 : mnx (nowC S) (lA S (nI j)) (lB S (nI j)) (k + 1) = if 0 < trc (lA S (nI j)) (lB S (nI j)) ∧ k % 8 < 6 ∧ gpt (nowC S) (lA S (nI j)) (lB S (nI j)) (k / 8) (k % 8) < (mnx (nowC S) (lA S (nI j)) (lB S (nI j)) k).2 then (some k, gpt (nowC S) (lA S (nI j)) (lB S (nI j)) (k / 8) (k % 8)) else (mnx (nowC S) (lA S (nI j)) (lB S (nI j)) k) := rfl
                            have hg9 : (max (pcv (nowC S) (tq (lA S (nI j)) (lB S (nI j))) (k / 8) (k % 8) 0 64) (pcv (nowC S) (tq (lA S (nI j)) (lB S (nI j))) (k / 8) (k % 8) 1 64) < (pcv (nowC S) (tq (lA S (nI j)) (lB S (nI j))) (k / 8) (k % 8) 2 64) ∧ gpt (nowC S) (lA S (nI j)) (lB S (nI j)) (k / 8) (k % 8) = (pcv (nowC S) (tq (lA S (nI j)) (lB S (nI j))) (k / 8) (k % 8) 2 64)) ∨ (¬ max (pcv (nowC S) (tq (lA S (nI j)) (lB S (nI j))) (k / 8) (k % 8) 0 64) (pcv (nowC S) (tq (lA S (nI j)) (lB S (nI j))) (k / 8) (k % 8) 1 64) < (pcv (nowC S) (tq (lA S (nI j)) (lB S (nI j))) (k / 8) (k % 8) 2 64) ∧ gpt (nowC S) (lA S (nI j)) (lB S (nI j)) (k / 8) (k % 8) = max (pcv (nowC S) (tq (lA S (nI j)) (lB S (nI j))) (k / 8) (k % 8) 0 64) (pcv (nowC S) (tq (lA S (nI j)) (lB S (nI j))) (k / 8) (k % 8) 1 64)) := by
                              rw [← mx3_e ha hx6]
                              unfold mx3
                              by_cases z : max (pcv (nowC S) (tq (lA S (nI j)) (lB S (nI j))) (k / 8) (k % 8) 0 64) (pcv (nowC S) (tq (lA S (nI j)) (lB S (nI j))) (k / 8) (k % 8) 1 64) < (pcv (nowC S) (tq (lA S (nI j)) (lB S (nI j))) (k / 8) (k % 8) 2 64)
                              · exact Or.inl ⟨z, if_pos z⟩
                              · exact Or.inr ⟨z, if_neg z⟩
                            have q0 := pcv_le (C := nowC S) (P := (tq (lA S (nI j)) (lB S (nI j)))) (i := k / 8) (x := k % 8) (v := 0) 64
                            have q1 := pcv_le (C := nowC S) (P := (tq (lA S (nI j)) (lB S (nI j)))) (i := k / 8) (x := k % 8) (v := 1) 64
                            have q2 := pcv_le (C := nowC S) (P := (tq (lA S (nI j)) (lB S (nI j)))) (i := k / 8) (x := k % 8) (v := 2) 64
                            have qc : cnt (tq (lA S (nI j)) (lB S (nI j))) 64 = trc (lA S (nI j)) (lB S (nI j)) := rfl
                            have qt := trc_le (lA S (nI j)) (lB S (nI j))
                            have qb := (mnx_b (C := nowC S) (b := lB S (nI j)) ha k).1
                            generalize gpt (nowC S) (lA S (nI j)) (lB S (nI j)) (k / 8) (k % 8) = G at *
                            generalize (pcv (nowC S) (tq (lA S (nI j)) (lB S (nI j))) (k / 8) (k % 8) 0 64) = p0 at *
                            generalize (pcv (nowC S) (tq (lA S (nI j)) (lB S (nI j))) (k / 8) (k % 8) 1 64) = p1 at *
                            generalize (pcv (nowC S) (tq (lA S (nI j)) (lB S (nI j))) (k / 8) (k % 8) 2 64) = p2 at *
                            have t_0 := nI_toInt (n := p0) (by omega)
                            have t_1 := nI_toInt (n := p1) (by omega)
                            have t_2 := nI_toInt (n := p2) (by omega)
                            have t_3 := nI_toInt (n := cnt (tq (lA S (nI j)) (lB S (nI j))) 64) (by omega)
                            have t_4 := nI_toInt (n := (mnx (nowC S) (lA S (nI j)) (lB S (nI j)) k).2) (by omega)
                            have l_0 := i_0
                            try simp only [i_le] at c_146
                            try simp only [i_le] at c_174
                            try simp only [i_le] at c_192
                            try simp only [i_le] at c_199
                            try simp only [i_le] at c_211
                            try simp only [i_le] at c_218
                            first
                            | (exfalso; omega)
                            | (rw [if_neg (fun z => by omega)] at e1; rw [e1] at K; exact K _ ⟨hm73 _, frX_t hf (frX_sa (by decide))⟩)
                            | (rw [if_pos ⟨by omega, hx6, by omega⟩] at e1
                               rw [e1] at K
                               first
                               | (rw [show G = p0 by omega] at K; exact K _ ⟨hm73 _, frX_t hf (frX_sa (by decide))⟩)
                               | (rw [show G = p1 by omega] at K; exact K _ ⟨hm73 _, frX_t hf (frX_sa (by decide))⟩)
                               | (rw [show G = p2 by omega] at K; exact K _ ⟨hm73 _, frX_t hf (frX_sa (by decide))⟩))
                      · -- le at 192: no
                        show bw_go _ _ _ _ _ _ _ 195 [(7, .int _), (6, .int _), (5, .int _), (4, .int _), (3, .int _), (0, .ref _), (1, .int _), (2, .int _)] ([]) _ _
                        refine go_iload dX8_next_195 rfl ?_
                        refine go_iload dX8_next_197 rfl ?_
                        refine go_icmp_ge (pc' := 207) dX8_next_199 rfl (fun c_199 => ?_) (fun c_199 => ?_)
                        · -- ge at 199: yes
                          show bw_go _ _ _ _ _ _ _ 207 [(7, .int _), (6, .int _), (5, .int _), (4, .int _), (3, .int _), (0, .ref _), (1, .int _), (2, .int _)] ([]) _ _
                          refine go_iload_n dX8_next_207 rfl ?_
                          refine go_istore_n dX8_next_208 (Nat.lt_of_lt_of_le (Nat.lt_succ_self _) (Nat.le_of_ble_eq_true rfl)) ?_
                          show bw_go _ _ _ _ _ _ _ 209 [(3, .int _), (7, .int _), (6, .int _), (5, .int _), (4, .int _), (0, .ref _), (1, .int _), (2, .int _)] ([]) _ _
                          refine go_iload dX8_next_209 rfl ?_
                          refine go_if_le (pc' := 226) dX8_next_211 rfl (fun c_211 => ?_) (fun c_211 => ?_)
                          · -- le at 211: yes
                            show bw_go _ _ _ _ _ _ _ 226 [(3, .int _), (7, .int _), (6, .int _), (5, .int _), (4, .int _), (0, .ref _), (1, .int _), (2, .int _)] ([]) _ _
                            refine go_iload dX8_next_226 rfl ?_
                            refine go_istore dX8_next_228 (Nat.lt_of_lt_of_le (Nat.lt_succ_self _) (Nat.le_of_ble_eq_true rfl)) ?_
                            show bw_go _ _ _ _ _ _ _ 230 [(4, .int _), (3, .int _), (7, .int _), (6, .int _), (5, .int _), (0, .ref _), (1, .int _), (2, .int _)] ([]) _ _
                            refine go_iinc dX8_next_230 rfl (nI_1 k) (Nat.lt_of_lt_of_le (Nat.lt_succ_self _) (Nat.le_of_ble_eq_true rfl)) ?_
                            show bw_go _ _ _ _ _ _ _ 233 [(5, .int _), (4, .int _), (3, .int _), (7, .int _), (6, .int _), (0, .ref _), (1, .int _), (2, .int _)] ([]) _ _
                            refine go_goto (pc' := 22) dX8_next_233 rfl ?_
                            refine go_ls [(5, .int _), (4, .int _), (3, .int _), (0, .ref _), (1, .int _), (2, .int _)] (by show List.Nodup ([5, 4, 3, 0, 1, 2] : List Nat); decide) (by show List.Nodup ([5, 4, 3, 7, 6, 0, 1, 2] : List Nat); decide) (le_cons rfl (le_cons rfl (le_cons rfl (le_cons rfl (le_cons rfl (le_cons rfl (le_nil _))))))) ?_
                            have e1 : mnx (nowC S) (lA S (nI j)) (lB S (nI j)) (k + 1) = if 0 < trc (lA S (nI j)) (lB S (nI j)) ∧ k % 8 < 6 ∧ gpt (nowC S) (lA S (nI j)) (lB S (nI j)) (k / 8) (k % 8) < (mnx (nowC S) (lA S (nI j)) (lB S (nI j)) k).2 then (some k, gpt (nowC S) (lA S (nI j)) (lB S (nI j)) (k / 8) (k % 8)) else (mnx (nowC S) (lA S (nI j)) (lB S (nI j)) k) := rfl
                            have hg9 : (max (pcv (nowC S) (tq (lA S (nI j)) (lB S (nI j))) (k / 8) (k % 8) 0 64) (pcv (nowC S) (tq (lA S (nI j)) (lB S (nI j))) (k / 8) (k % 8) 1 64) < (pcv (nowC S) (tq (lA S (nI j)) (lB S (nI j))) (k / 8) (k % 8) 2 64) ∧ gpt (nowC S) (lA S (nI j)) (lB S (nI j)) (k / 8) (k % 8) = (pcv (nowC S) (tq (lA S (nI j)) (lB S (nI j))) (k / 8) (k % 8) 2 64)) ∨ (¬ max (pcv (nowC S) (tq (lA S (nI j)) (lB S (nI j))) (k / 8) (k % 8) 0 64) (pcv (nowC S) (tq (lA S (nI j)) (lB S (nI j))) (k / 8) (k % 8) 1 64) < (pcv (nowC S) (tq (lA S (nI j)) (lB S (nI j))) (k / 8) (k % 8) 2 64) ∧ gpt (nowC S) (lA S (nI j)) (lB S (nI j)) (k / 8) (k % 8) = max (pcv (nowC S) (tq (lA S (nI j)) (lB S (nI j))) (k / 8) (k % 8) 0 64) (pcv (nowC S) (tq (lA S (nI j)) (lB S (nI j))) (k / 8) (k % 8) 1 64)) := by
                              rw [← mx3_e ha hx6]
                              unfold mx3
                              by_cases z : max (pcv (nowC S) (tq (lA S (nI j)) (lB S (nI j))) (k / 8) (k % 8) 0 64) (pcv (nowC S) (tq (lA S (nI j)) (lB S (nI j))) (k / 8) (k % 8) 1 64) < (pcv (nowC S) (tq (lA S (nI j)) (lB S (nI j))) (k / 8) (k % 8) 2 64)
                              · exact Or.inl ⟨z, if_pos z⟩
                              · exact Or.inr ⟨z, if_neg z⟩
                            have q0 := pcv_le (C := nowC S) (P := (tq (lA S (nI j)) (lB S (nI j)))) (i := k / 8) (x := k % 8) (v := 0) 64
                            have q1 := pcv_le (C := nowC S) (P := (tq (lA S (nI j)) (lB S (nI j)))) (i := k / 8) (x := k % 8) (v := 1) 64
                            have q2 := pcv_le (C := nowC S) (P := (tq (lA S (nI j)) (lB S (nI j)))) (i := k / 8) (x := k % 8) (v := 2) 64
                            have qc : cnt (tq (lA S (nI j)) (lB S (nI j))) 64 = trc (lA S (nI j)) (lB S (nI j)) := rfl
                            have qt := trc_le (lA S (nI j)) (lB S (nI j))
                            have qb := (mnx_b (C := nowC S) (b := lB S (nI j)) ha k).1
                            generalize gpt (nowC S) (lA S (nI j)) (lB S (nI j)) (k / 8) (k % 8) = G at *
                            generalize (pcv (nowC S) (tq (lA S (nI j)) (lB S (nI j))) (k / 8) (k % 8) 0 64) = p0 at *
                            generalize (pcv (nowC S) (tq (lA S (nI j)) (lB S (nI j))) (k / 8) (k % 8) 1 64) = p1 at *
                            generalize (pcv (nowC S) (tq (lA S (nI j)) (lB S (nI j))) (k / 8) (k % 8) 2 64) = p2 at *
                            have t_0 := nI_toInt (n := p0) (by omega)
                            have t_1 := nI_toInt (n := p1) (by omega)
                            have t_2 := nI_toInt (n := p2) (by omega)
                            have t_3 := nI_toInt (n := cnt (tq (lA S (nI j)) (lB S (nI j))) 64) (by omega)
                            have t_4 := nI_toInt (n := (mnx (nowC S) (lA S (nI j)) (lB S (nI j)) k).2) (by omega)
                            have l_0 := i_0
                            try simp only [i_le] at c_146
                            try simp only [i_le] at c_174
                            try simp only [i_le] at c_192
                            try simp only [i_le] at c_199
                            try simp only [i_le] at c_211
                            try simp only [i_le] at c_218
                            first
                            | (exfalso; omega)
                            | (rw [if_neg (fun z => by omega)] at e1; rw [e1] at K; exact K _ ⟨hm73 _, frX_t hf (frX_sa (by decide))⟩)
                            | (rw [if_pos ⟨by omega, hx6, by omega⟩] at e1
                               rw [e1] at K
                               first
                               | (rw [show G = p0 by omega] at K; exact K _ ⟨hm73 _, frX_t hf (frX_sa (by decide))⟩)
                               | (rw [show G = p1 by omega] at K; exact K _ ⟨hm73 _, frX_t hf (frX_sa (by decide))⟩)
                               | (rw [show G = p2 by omega] at K; exact K _ ⟨hm73 _, frX_t hf (frX_sa (by decide))⟩))
                          · -- le at 211: no
                            show bw_go _ _ _ _ _ _ _ 214 [(3, .int _), (7, .int _), (6, .int _), (5, .int _), (4, .int _), (0, .ref _), (1, .int _), (2, .int _)] ([]) _ _
                            refine go_iload dX8_next_214 rfl ?_
                            refine go_iload dX8_next_216 rfl ?_
                            refine go_icmp_ge (pc' := 226) dX8_next_218 rfl (fun c_218 => ?_) (fun c_218 => ?_)
                            · -- ge at 218: yes
                              show bw_go _ _ _ _ _ _ _ 226 [(3, .int _), (7, .int _), (6, .int _), (5, .int _), (4, .int _), (0, .ref _), (1, .int _), (2, .int _)] ([]) _ _
                              refine go_iload dX8_next_226 rfl ?_
                              refine go_istore dX8_next_228 (Nat.lt_of_lt_of_le (Nat.lt_succ_self _) (Nat.le_of_ble_eq_true rfl)) ?_
                              show bw_go _ _ _ _ _ _ _ 230 [(4, .int _), (3, .int _), (7, .int _), (6, .int _), (5, .int _), (0, .ref _), (1, .int _), (2, .int _)] ([]) _ _
                              refine go_iinc dX8_next_230 rfl (nI_1 k) (Nat.lt_of_lt_of_le (Nat.lt_succ_self _) (Nat.le_of_ble_eq_true rfl)) ?_
                              show bw_go _ _ _ _ _ _ _ 233 [(5, .int _), (4, .int _), (3, .int _), (7, .int _), (6, .int _), (0, .ref _), (1, .int _), (2, .int _)] ([]) _ _
                              refine go_goto (pc' := 22) dX8_next_233 rfl ?_
                              refine go_ls [(5, .int _), (4, .int _), (3, .int _), (0, .ref _), (1, .int _), (2, .int _)] (by show List.Nodup ([5, 4, 3, 0, 1, 2] : List Nat); decide) (by show List.Nodup ([5, 4, 3, 7, 6, 0, 1, 2] : List Nat); decide) (le_cons rfl (le_cons rfl (le_cons rfl (le_cons rfl (le_cons rfl (le_cons rfl (le_nil _))))))) ?_
                              have e1 : mnx (nowC S) (lA S (nI j)) (lB S (nI j)) (k + 1) = if 0 < trc (lA S (nI j)) (lB S (nI j)) ∧ k % 8 < 6 ∧ gpt (nowC S) (lA S (nI j)) (lB S (nI j)) (k / 8) (k % 8) < (mnx (nowC S) (lA S (nI j)) (lB S (nI j)) k).2 then (some k, gpt (nowC S) (lA S (nI j)) (lB S (nI j)) (k / 8) (k % 8)) else (mnx (nowC S) (lA S (nI j)) (lB S (nI j)) k) := rfl
                              have hg9 : (max (pcv (nowC S) (tq (lA S (nI j)) (lB S (nI j))) (k / 8) (k % 8) 0 64) (pcv (nowC S) (tq (lA S (nI j)) (lB S (nI j))) (k / 8) (k % 8) 1 64) < (pcv (nowC S) (tq (lA S (nI j)) (lB S (nI j))) (k / 8) (k % 8) 2 64) ∧ gpt (nowC S) (lA S (nI j)) (lB S (nI j)) (k / 8) (k % 8) = (pcv (nowC S) (tq (lA S (nI j)) (lB S (nI j))) (k / 8) (k % 8) 2 64)) ∨ (¬ max (pcv (nowC S) (tq (lA S (nI j)) (lB S (nI j))) (k / 8) (k % 8) 0 64) (pcv (nowC S) (tq (lA S (nI j)) (lB S (nI j))) (k / 8) (k % 8) 1 64) < (pcv (nowC S) (tq (lA S (nI j)) (lB S (nI j))) (k / 8) (k % 8) 2 64) ∧ gpt (nowC S) (lA S (nI j)) (lB S (nI j)) (k / 8) (k % 8) = max (pcv (nowC S) (tq (lA S (nI j)) (lB S (nI j))) (k / 8) (k % 8) 0 64) (pcv (nowC S) (tq (lA S (nI j)) (lB S (nI j))) (k / 8) (k % 8) 1 64)) := by
                                rw [← mx3_e ha hx6]
                                unfold mx3
                                by_cases z : max (pcv (nowC S) (tq (lA S (nI j)) (lB S (nI j))) (k / 8) (k % 8) 0 64) (pcv (nowC S) (tq (lA S (nI j)) (lB S (nI j))) (k / 8) (k % 8) 1 64) < (pcv (nowC S) (tq (lA S (nI j)) (lB S (nI j))) (k / 8) (k % 8) 2 64)
                                · exact Or.inl ⟨z, if_pos z⟩
                                · exact Or.inr ⟨z, if_neg z⟩
                              have q0 := pcv_le (C := nowC S) (P := (tq (lA S (nI j)) (lB S (nI j)))) (i := k / 8) (x := k % 8) (v := 0) 64
                              have q1 := pcv_le (C := nowC S) (P := (tq (lA S (nI j)) (lB S (nI j)))) (i := k / 8) (x := k % 8) (v := 1) 64
                              have q2 := pcv_le (C := nowC S) (P := (tq (lA S (nI j)) (lB S (nI j)))) (i := k / 8) (x := k % 8) (v := 2) 64
                              have qc : cnt (tq (lA S (nI j)) (lB S (nI j))) 64 = trc (lA S (nI j)) (lB S (nI j)) := rfl
                              have qt := trc_le (lA S (nI j)) (lB S (nI j))
                              have qb := (mnx_b (C := nowC S) (b := lB S (nI j)) ha k).1
                              generalize gpt (nowC S) (lA S (nI j)) (lB S (nI j)) (k / 8) (k % 8) = G at *
                              generalize (pcv (nowC S) (tq (lA S (nI j)) (lB S (nI j))) (k / 8) (k % 8) 0 64) = p0 at *
                              generalize (pcv (nowC S) (tq (lA S (nI j)) (lB S (nI j))) (k / 8) (k % 8) 1 64) = p1 at *
                              generalize (pcv (nowC S) (tq (lA S (nI j)) (lB S (nI j))) (k / 8) (k % 8) 2 64) = p2 at *
                              have t_0 := nI_toInt (n := p0) (by omega)
                              have t_1 := nI_toInt (n := p1) (by omega)
                              have t_2 := nI_toInt (n := p2) (by omega)
                              have t_3 := nI_toInt (n := cnt (tq (lA S (nI j)) (lB S (nI j))) 64) (by omega)
                              have t_4 := nI_toInt (n := (mnx (nowC S) (lA S (nI j)) (lB S (nI j)) k).2) (by omega)
                              have l_0 := i_0
                              try simp only [i_le] at c_146
                              try simp only [i_le] at c_174
                              try simp only [i_le] at c_192
                              try simp only [i_le] at c_199
                              try simp only [i_le] at c_211
                              try simp only [i_le] at c_218
                              first
                              | (exfalso; omega)
                              | (rw [if_neg (fun z => by omega)] at e1; rw [e1] at K; exact K _ ⟨hm73 _, frX_t hf (frX_sa (by decide))⟩)
                              | (rw [if_pos ⟨by omega, hx6, by omega⟩] at e1
                                 rw [e1] at K
                                 first
                                 | (rw [show G = p0 by omega] at K; exact K _ ⟨hm73 _, frX_t hf (frX_sa (by decide))⟩)
                                 | (rw [show G = p1 by omega] at K; exact K _ ⟨hm73 _, frX_t hf (frX_sa (by decide))⟩)
                                 | (rw [show G = p2 by omega] at K; exact K _ ⟨hm73 _, frX_t hf (frX_sa (by decide))⟩))
                            · -- ge at 218: no
                              show bw_go _ _ _ _ _ _ _ 221 [(3, .int _), (7, .int _), (6, .int _), (5, .int _), (4, .int _), (0, .ref _), (1, .int _), (2, .int _)] ([]) _ _
                              refine go_iload dX8_next_221 rfl ?_
                              refine go_goto (pc' := 228) dX8_next_223 rfl ?_
                              show bw_go _ _ _ _ _ _ _ 228 [(3, .int _), (7, .int _), (6, .int _), (5, .int _), (4, .int _), (0, .ref _), (1, .int _), (2, .int _)] ((.int _) :: []) _ _
                              refine go_istore dX8_next_228 (Nat.lt_of_lt_of_le (Nat.lt_succ_self _) (Nat.le_of_ble_eq_true rfl)) ?_
                              show bw_go _ _ _ _ _ _ _ 230 [(4, .int _), (3, .int _), (7, .int _), (6, .int _), (5, .int _), (0, .ref _), (1, .int _), (2, .int _)] ([]) _ _
                              refine go_iinc dX8_next_230 rfl (nI_1 k) (Nat.lt_of_lt_of_le (Nat.lt_succ_self _) (Nat.le_of_ble_eq_true rfl)) ?_
                              show bw_go _ _ _ _ _ _ _ 233 [(5, .int _), (4, .int _), (3, .int _), (7, .int _), (6, .int _), (0, .ref _), (1, .int _), (2, .int _)] ([]) _ _
                              refine go_goto (pc' := 22) dX8_next_233 rfl ?_
                              refine go_ls [(5, .int _), (4, .int _), (3, .int _), (0, .ref _), (1, .int _), (2, .int _)] (by show List.Nodup ([5, 4, 3, 0, 1, 2] : List Nat); decide) (by show List.Nodup ([5, 4, 3, 7, 6, 0, 1, 2] : List Nat); decide) (le_cons rfl (le_cons rfl (le_cons rfl (le_cons rfl (le_cons rfl (le_cons rfl (le_nil _))))))) ?_
                              have e1 : mnx (nowC S) (lA S (nI j)) (lB S (nI j)) (k + 1) = if 0 < trc (lA S (nI j)) (lB S (nI j)) ∧ k % 8 < 6 ∧ gpt (nowC S) (lA S (nI j)) (lB S (nI j)) (k / 8) (k % 8) < (mnx (nowC S) (lA S (nI j)) (lB S (nI j)) k).2 then (some k, gpt (nowC S) (lA S (nI j)) (lB S (nI j)) (k / 8) (k % 8)) else (mnx (nowC S) (lA S (nI j)) (lB S (nI j)) k) := rfl
                              have hg9 : (max (pcv (nowC S) (tq (lA S (nI j)) (lB S (nI j))) (k / 8) (k % 8) 0 64) (pcv (nowC S) (tq (lA S (nI j)) (lB S (nI j))) (k / 8) (k % 8) 1 64) < (pcv (nowC S) (tq (lA S (nI j)) (lB S (nI j))) (k / 8) (k % 8) 2 64) ∧ gpt (nowC S) (lA S (nI j)) (lB S (nI j)) (k / 8) (k % 8) = (pcv (nowC S) (tq (lA S (nI j)) (lB S (nI j))) (k / 8) (k % 8) 2 64)) ∨ (¬ max (pcv (nowC S) (tq (lA S (nI j)) (lB S (nI j))) (k / 8) (k % 8) 0 64) (pcv (nowC S) (tq (lA S (nI j)) (lB S (nI j))) (k / 8) (k % 8) 1 64) < (pcv (nowC S) (tq (lA S (nI j)) (lB S (nI j))) (k / 8) (k % 8) 2 64) ∧ gpt (nowC S) (lA S (nI j)) (lB S (nI j)) (k / 8) (k % 8) = max (pcv (nowC S) (tq (lA S (nI j)) (lB S (nI j))) (k / 8) (k % 8) 0 64) (pcv (nowC S) (tq (lA S (nI j)) (lB S (nI j))) (k / 8) (k % 8) 1 64)) := by
                                rw [← mx3_e ha hx6]
                                unfold mx3
                                by_cases z : max (pcv (nowC S) (tq (lA S (nI j)) (lB S (nI j))) (k / 8) (k % 8) 0 64) (pcv (nowC S) (tq (lA S (nI j)) (lB S (nI j))) (k / 8) (k % 8) 1 64) < (pcv (nowC S) (tq (lA S (nI j)) (lB S (nI j))) (k / 8) (k % 8) 2 64)
                                · exact Or.inl ⟨z, if_pos z⟩
                                · exact Or.inr ⟨z, if_neg z⟩
                              have q0 := pcv_le (C := nowC S) (P := (tq (lA S (nI j)) (lB S (nI j)))) (i := k / 8) (x := k % 8) (v := 0) 64
                              have q1 := pcv_le (C := nowC S) (P := (tq (lA S (nI j)) (lB S (nI j)))) (i := k / 8) (x := k % 8) (v := 1) 64
                              have q2 := pcv_le (C := nowC S) (P := (tq (lA S (nI j)) (lB S (nI j)))) (i := k / 8) (x := k % 8) (v := 2) 64
                              have qc : cnt (tq (lA S (nI j)) (lB S (nI j))) 64 = trc (lA S (nI j)) (lB S (nI j)) := rfl
                              have qt := trc_le (lA S (nI j)) (lB S (nI j))
                              have qb := (mnx_b (C := nowC S) (b := lB S (nI j)) ha k).1
                              generalize gpt (nowC S) (lA S (nI j)) (lB S (nI j)) (k / 8) (k % 8) = G at *
                              generalize (pcv (nowC S) (tq (lA S (nI j)) (lB S (nI j))) (k / 8) (k % 8) 0 64) = p0 at *
                              generalize (pcv (nowC S) (tq (lA S (nI j)) (lB S (nI j))) (k / 8) (k % 8) 1 64) = p1 at *
                              generalize (pcv (nowC S) (tq (lA S (nI j)) (lB S (nI j))) (k / 8) (k % 8) 2 64) = p2 at *
                              have t_0 := nI_toInt (n := p0) (by omega)
                              have t_1 := nI_toInt (n := p1) (by omega)
                              have t_2 := nI_toInt (n := p2) (by omega)
                              have t_3 := nI_toInt (n := cnt (tq (lA S (nI j)) (lB S (nI j))) 64) (by omega)
                              have t_4 := nI_toInt (n := (mnx (nowC S) (lA S (nI j)) (lB S (nI j)) k).2) (by omega)
                              have l_0 := i_0
                              try simp only [i_le] at c_146
                              try simp only [i_le] at c_174
                              try simp only [i_le] at c_192
                              try simp only [i_le] at c_199
                              try simp only [i_le] at c_211
                              try simp only [i_le] at c_218
                              first
                              | (exfalso; omega)
                              | (rw [if_neg (fun z => by omega)] at e1; rw [e1] at K; exact K _ ⟨hm73 _, frX_t hf (frX_sa (by decide))⟩)
                              | (rw [if_pos ⟨by omega, hx6, by omega⟩] at e1
                                 rw [e1] at K
                                 first
                                 | (rw [show G = p0 by omega] at K; exact K _ ⟨hm73 _, frX_t hf (frX_sa (by decide))⟩)
                                 | (rw [show G = p1 by omega] at K; exact K _ ⟨hm73 _, frX_t hf (frX_sa (by decide))⟩)
                                 | (rw [show G = p2 by omega] at K; exact K _ ⟨hm73 _, frX_t hf (frX_sa (by decide))⟩))
                        · -- ge at 199: no
                          show bw_go _ _ _ _ _ _ _ 202 [(7, .int _), (6, .int _), (5, .int _), (4, .int _), (3, .int _), (0, .ref _), (1, .int _), (2, .int _)] ([]) _ _
                          refine go_iload dX8_next_202 rfl ?_
                          refine go_goto (pc' := 208) dX8_next_204 rfl ?_
                          show bw_go _ _ _ _ _ _ _ 208 [(7, .int _), (6, .int _), (5, .int _), (4, .int _), (3, .int _), (0, .ref _), (1, .int _), (2, .int _)] ((.int _) :: []) _ _
                          refine go_istore_n dX8_next_208 (Nat.lt_of_lt_of_le (Nat.lt_succ_self _) (Nat.le_of_ble_eq_true rfl)) ?_
                          show bw_go _ _ _ _ _ _ _ 209 [(3, .int _), (7, .int _), (6, .int _), (5, .int _), (4, .int _), (0, .ref _), (1, .int _), (2, .int _)] ([]) _ _
                          refine go_iload dX8_next_209 rfl ?_
                          refine go_if_le (pc' := 226) dX8_next_211 rfl (fun c_211 => ?_) (fun c_211 => ?_)
                          · -- le at 211: yes
                            show bw_go _ _ _ _ _ _ _ 226 [(3, .int _), (7, .int _), (6, .int _), (5, .int _), (4, .int _), (0, .ref _), (1, .int _), (2, .int _)] ([]) _ _
                            refine go_iload dX8_next_226 rfl ?_
                            refine go_istore dX8_next_228 (Nat.lt_of_lt_of_le (Nat.lt_succ_self _) (Nat.le_of_ble_eq_true rfl)) ?_
                            show bw_go _ _ _ _ _ _ _ 230 [(4, .int _), (3, .int _), (7, .int _), (6, .int _), (5, .int _), (0, .ref _), (1, .int _), (2, .int _)] ([]) _ _
                            refine go_iinc dX8_next_230 rfl (nI_1 k) (Nat.lt_of_lt_of_le (Nat.lt_succ_self _) (Nat.le_of_ble_eq_true rfl)) ?_
                            show bw_go _ _ _ _ _ _ _ 233 [(5, .int _), (4, .int _), (3, .int _), (7, .int _), (6, .int _), (0, .ref _), (1, .int _), (2, .int _)] ([]) _ _
                            refine go_goto (pc' := 22) dX8_next_233 rfl ?_
                            refine go_ls [(5, .int _), (4, .int _), (3, .int _), (0, .ref _), (1, .int _), (2, .int _)] (by show List.Nodup ([5, 4, 3, 0, 1, 2] : List Nat); decide) (by show List.Nodup ([5, 4, 3, 7, 6, 0, 1, 2] : List Nat); decide) (le_cons rfl (le_cons rfl (le_cons rfl (le_cons rfl (le_cons rfl (le_cons rfl (le_nil _))))))) ?_
                            have e1 : mnx (nowC S) (lA S (nI j)) (lB S (nI j)) (k + 1) = if 0 < trc (lA S (nI j)) (lB S (nI j)) ∧ k % 8 < 6 ∧ gpt (nowC S) (lA S (nI j)) (lB S (nI j)) (k / 8) (k % 8) < (mnx (nowC S) (lA S (nI j)) (lB S (nI j)) k).2 then (some k, gpt (nowC S) (lA S (nI j)) (lB S (nI j)) (k / 8) (k % 8)) else (mnx (nowC S) (lA S (nI j)) (lB S (nI j)) k) := rfl
                            have hg9 : (max (pcv (nowC S) (tq (lA S (nI j)) (lB S (nI j))) (k / 8) (k % 8) 0 64) (pcv (nowC S) (tq (lA S (nI j)) (lB S (nI j))) (k / 8) (k % 8) 1 64) < (pcv (nowC S) (tq (lA S (nI j)) (lB S (nI j))) (k / 8) (k % 8) 2 64) ∧ gpt (nowC S) (lA S (nI j)) (lB S (nI j)) (k / 8) (k % 8) = (pcv (nowC S) (tq (lA S (nI j)) (lB S (nI j))) (k / 8) (k % 8) 2 64)) ∨ (¬ max (pcv (nowC S) (tq (lA S (nI j)) (lB S (nI j))) (k / 8) (k % 8) 0 64) (pcv (nowC S) (tq (lA S (nI j)) (lB S (nI j))) (k / 8) (k % 8) 1 64) < (pcv (nowC S) (tq (lA S (nI j)) (lB S (nI j))) (k / 8) (k % 8) 2 64) ∧ gpt (nowC S) (lA S (nI j)) (lB S (nI j)) (k / 8) (k % 8) = max (pcv (nowC S) (tq (lA S (nI j)) (lB S (nI j))) (k / 8) (k % 8) 0 64) (pcv (nowC S) (tq (lA S (nI j)) (lB S (nI j))) (k / 8) (k % 8) 1 64)) := by
                              rw [← mx3_e ha hx6]
                              unfold mx3
                              by_cases z : max (pcv (nowC S) (tq (lA S (nI j)) (lB S (nI j))) (k / 8) (k % 8) 0 64) (pcv (nowC S) (tq (lA S (nI j)) (lB S (nI j))) (k / 8) (k % 8) 1 64) < (pcv (nowC S) (tq (lA S (nI j)) (lB S (nI j))) (k / 8) (k % 8) 2 64)
                              · exact Or.inl ⟨z, if_pos z⟩
                              · exact Or.inr ⟨z, if_neg z⟩
                            have q0 := pcv_le (C := nowC S) (P := (tq (lA S (nI j)) (lB S (nI j)))) (i := k / 8) (x := k % 8) (v := 0) 64
                            have q1 := pcv_le (C := nowC S) (P := (tq (lA S (nI j)) (lB S (nI j)))) (i := k / 8) (x := k % 8) (v := 1) 64
                            have q2 := pcv_le (C := nowC S) (P := (tq (lA S (nI j)) (lB S (nI j)))) (i := k / 8) (x := k % 8) (v := 2) 64
                            have qc : cnt (tq (lA S (nI j)) (lB S (nI j))) 64 = trc (lA S (nI j)) (lB S (nI j)) := rfl
                            have qt := trc_le (lA S (nI j)) (lB S (nI j))
                            have qb := (mnx_b (C := nowC S) (b := lB S (nI j)) ha k).1
                            generalize gpt (nowC S) (lA S (nI j)) (lB S (nI j)) (k / 8) (k % 8) = G at *
                            generalize (pcv (nowC S) (tq (lA S (nI j)) (lB S (nI j))) (k / 8) (k % 8) 0 64) = p0 at *
                            generalize (pcv (nowC S) (tq (lA S (nI j)) (lB S (nI j))) (k / 8) (k % 8) 1 64) = p1 at *
                            generalize (pcv (nowC S) (tq (lA S (nI j)) (lB S (nI j))) (k / 8) (k % 8) 2 64) = p2 at *
                            have t_0 := nI_toInt (n := p0) (by omega)
                            have t_1 := nI_toInt (n := p1) (by omega)
                            have t_2 := nI_toInt (n := p2) (by omega)
                            have t_3 := nI_toInt (n := cnt (tq (lA S (nI j)) (lB S (nI j))) 64) (by omega)
                            have t_4 := nI_toInt (n := (mnx (nowC S) (lA S (nI j)) (lB S (nI j)) k).2) (by omega)
                            have l_0 := i_0
                            try simp only [i_le] at c_146
                            try simp only [i_le] at c_174
                            try simp only [i_le] at c_192
                            try simp only [i_le] at c_199
                            try simp only [i_le] at c_211
                            try simp only [i_le] at c_218
                            first
                            | (exfalso; omega)
                            | (rw [if_neg (fun z => by omega)] at e1; rw [e1] at K; exact K _ ⟨hm73 _, frX_t hf (frX_sa (by decide))⟩)
                            | (rw [if_pos ⟨by omega, hx6, by omega⟩] at e1
                               rw [e1] at K
                               first
                               | (rw [show G = p0 by omega] at K; exact K _ ⟨hm73 _, frX_t hf (frX_sa (by decide))⟩)
                               | (rw [show G = p1 by omega] at K; exact K _ ⟨hm73 _, frX_t hf (frX_sa (by decide))⟩)
                               | (rw [show G = p2 by omega] at K; exact K _ ⟨hm73 _, frX_t hf (frX_sa (by decide))⟩))
                          · -- le at 211: no
                            show bw_go _ _ _ _ _ _ _ 214 [(3, .int _), (7, .int _), (6, .int _), (5, .int _), (4, .int _), (0, .ref _), (1, .int _), (2, .int _)] ([]) _ _
                            refine go_iload dX8_next_214 rfl ?_
                            refine go_iload dX8_next_216 rfl ?_
                            refine go_icmp_ge (pc' := 226) dX8_next_218 rfl (fun c_218 => ?_) (fun c_218 => ?_)
                            · -- ge at 218: yes
                              show bw_go _ _ _ _ _ _ _ 226 [(3, .int _), (7, .int _), (6, .int _), (5, .int _), (4, .int _), (0, .ref _), (1, .int _), (2, .int _)] ([]) _ _
                              refine go_iload dX8_next_226 rfl ?_
                              refine go_istore dX8_next_228 (Nat.lt_of_lt_of_le (Nat.lt_succ_self _) (Nat.le_of_ble_eq_true rfl)) ?_
                              show bw_go _ _ _ _ _ _ _ 230 [(4, .int _), (3, .int _), (7, .int _), (6, .int _), (5, .int _), (0, .ref _), (1, .int _), (2, .int _)] ([]) _ _
                              refine go_iinc dX8_next_230 rfl (nI_1 k) (Nat.lt_of_lt_of_le (Nat.lt_succ_self _) (Nat.le_of_ble_eq_true rfl)) ?_
                              show bw_go _ _ _ _ _ _ _ 233 [(5, .int _), (4, .int _), (3, .int _), (7, .int _), (6, .int _), (0, .ref _), (1, .int _), (2, .int _)] ([]) _ _
                              refine go_goto (pc' := 22) dX8_next_233 rfl ?_
                              refine go_ls [(5, .int _), (4, .int _), (3, .int _), (0, .ref _), (1, .int _), (2, .int _)] (by show List.Nodup ([5, 4, 3, 0, 1, 2] : List Nat); decide) (by show List.Nodup ([5, 4, 3, 7, 6, 0, 1, 2] : List Nat); decide) (le_cons rfl (le_cons rfl (le_cons rfl (le_cons rfl (le_cons rfl (le_cons rfl (le_nil _))))))) ?_
                              have e1 : mnx (nowC S) (lA S (nI j)) (lB S (nI j)) (k + 1) = if 0 < trc (lA S (nI j)) (lB S (nI j)) ∧ k % 8 < 6 ∧ gpt (nowC S) (lA S (nI j)) (lB S (nI j)) (k / 8) (k % 8) < (mnx (nowC S) (lA S (nI j)) (lB S (nI j)) k).2 then (some k, gpt (nowC S) (lA S (nI j)) (lB S (nI j)) (k / 8) (k % 8)) else (mnx (nowC S) (lA S (nI j)) (lB S (nI j)) k) := rfl
                              have hg9 : (max (pcv (nowC S) (tq (lA S (nI j)) (lB S (nI j))) (k / 8) (k % 8) 0 64) (pcv (nowC S) (tq (lA S (nI j)) (lB S (nI j))) (k / 8) (k % 8) 1 64) < (pcv (nowC S) (tq (lA S (nI j)) (lB S (nI j))) (k / 8) (k % 8) 2 64) ∧ gpt (nowC S) (lA S (nI j)) (lB S (nI j)) (k / 8) (k % 8) = (pcv (nowC S) (tq (lA S (nI j)) (lB S (nI j))) (k / 8) (k % 8) 2 64)) ∨ (¬ max (pcv (nowC S) (tq (lA S (nI j)) (lB S (nI j))) (k / 8) (k % 8) 0 64) (pcv (nowC S) (tq (lA S (nI j)) (lB S (nI j))) (k / 8) (k % 8) 1 64) < (pcv (nowC S) (tq (lA S (nI j)) (lB S (nI j))) (k / 8) (k % 8) 2 64) ∧ gpt (nowC S) (lA S (nI j)) (lB S (nI j)) (k / 8) (k % 8) = max (pcv (nowC S) (tq (lA S (nI j)) (lB S (nI j))) (k / 8) (k % 8) 0 64) (pcv (nowC S) (tq (lA S (nI j)) (lB S (nI j))) (k / 8) (k % 8) 1 64)) := by
                                rw [← mx3_e ha hx6]
                                unfold mx3
                                by_cases z : max (pcv (nowC S) (tq (lA S (nI j)) (lB S (nI j))) (k / 8) (k % 8) 0 64) (pcv (nowC S) (tq (lA S (nI j)) (lB S (nI j))) (k / 8) (k % 8) 1 64) < (pcv (nowC S) (tq (lA S (nI j)) (lB S (nI j))) (k / 8) (k % 8) 2 64)
                                · exact Or.inl ⟨z, if_pos z⟩
                                · exact Or.inr ⟨z, if_neg z⟩
                              have q0 := pcv_le (C := nowC S) (P := (tq (lA S (nI j)) (lB S (nI j)))) (i := k / 8) (x := k % 8) (v := 0) 64
                              have q1 := pcv_le (C := nowC S) (P := (tq (lA S (nI j)) (lB S (nI j)))) (i := k / 8) (x := k % 8) (v := 1) 64
                              have q2 := pcv_le (C := nowC S) (P := (tq (lA S (nI j)) (lB S (nI j)))) (i := k / 8) (x := k % 8) (v := 2) 64
                              have qc : cnt (tq (lA S (nI j)) (lB S (nI j))) 64 = trc (lA S (nI j)) (lB S (nI j)) := rfl
                              have qt := trc_le (lA S (nI j)) (lB S (nI j))
                              have qb := (mnx_b (C := nowC S) (b := lB S (nI j)) ha k).1
                              generalize gpt (nowC S) (lA S (nI j)) (lB S (nI j)) (k / 8) (k % 8) = G at *
                              generalize (pcv (nowC S) (tq (lA S (nI j)) (lB S (nI j))) (k / 8) (k % 8) 0 64) = p0 at *
                              generalize (pcv (nowC S) (tq (lA S (nI j)) (lB S (nI j))) (k / 8) (k % 8) 1 64) = p1 at *
                              generalize (pcv (nowC S) (tq (lA S (nI j)) (lB S (nI j))) (k / 8) (k % 8) 2 64) = p2 at *
                              have t_0 := nI_toInt (n := p0) (by omega)
                              have t_1 := nI_toInt (n := p1) (by omega)
                              have t_2 := nI_toInt (n := p2) (by omega)
                              have t_3 := nI_toInt (n := cnt (tq (lA S (nI j)) (lB S (nI j))) 64) (by omega)
                              have t_4 := nI_toInt (n := (mnx (nowC S) (lA S (nI j)) (lB S (nI j)) k).2) (by omega)
                              have l_0 := i_0
                              try simp only [i_le] at c_146
                              try simp only [i_le] at c_174
                              try simp only [i_le] at c_192
                              try simp only [i_le] at c_199
                              try simp only [i_le] at c_211
                              try simp only [i_le] at c_218
                              first
                              | (exfalso; omega)
                              | (rw [if_neg (fun z => by omega)] at e1; rw [e1] at K; exact K _ ⟨hm73 _, frX_t hf (frX_sa (by decide))⟩)
                              | (rw [if_pos ⟨by omega, hx6, by omega⟩] at e1
                                 rw [e1] at K
                                 first
                                 | (rw [show G = p0 by omega] at K; exact K _ ⟨hm73 _, frX_t hf (frX_sa (by decide))⟩)
                                 | (rw [show G = p1 by omega] at K; exact K _ ⟨hm73 _, frX_t hf (frX_sa (by decide))⟩)
                                 | (rw [show G = p2 by omega] at K; exact K _ ⟨hm73 _, frX_t hf (frX_sa (by decide))⟩))
                            · -- ge at 218: no
                              show bw_go _ _ _ _ _ _ _ 221 [(3, .int _), (7, .int _), (6, .int _), (5, .int _), (4, .int _), (0, .ref _), (1, .int _), (2, .int _)] ([]) _ _
                              refine go_iload dX8_next_221 rfl ?_
                              refine go_goto (pc' := 228) dX8_next_223 rfl ?_
                              show bw_go _ _ _ _ _ _ _ 228 [(3, .int _), (7, .int _), (6, .int _), (5, .int _), (4, .int _), (0, .ref _), (1, .int _), (2, .int _)] ((.int _) :: []) _ _
                              refine go_istore dX8_next_228 (Nat.lt_of_lt_of_le (Nat.lt_succ_self _) (Nat.le_of_ble_eq_true rfl)) ?_
                              show bw_go _ _ _ _ _ _ _ 230 [(4, .int _), (3, .int _), (7, .int _), (6, .int _), (5, .int _), (0, .ref _), (1, .int _), (2, .int _)] ([]) _ _
                              refine go_iinc dX8_next_230 rfl (nI_1 k) (Nat.lt_of_lt_of_le (Nat.lt_succ_self _) (Nat.le_of_ble_eq_true rfl)) ?_
                              show bw_go _ _ _ _ _ _ _ 233 [(5, .int _), (4, .int _), (3, .int _), (7, .int _), (6, .int _), (0, .ref _), (1, .int _), (2, .int _)] ([]) _ _
                              refine go_goto (pc' := 22) dX8_next_233 rfl ?_
                              refine go_ls [(5, .int _), (4, .int _), (3, .int _), (0, .ref _), (1, .int _), (2, .int _)] (by show List.Nodup ([5, 4, 3, 0, 1, 2] : List Nat); decide) (by show List.Nodup ([5, 4, 3, 7, 6, 0, 1, 2] : List Nat); decide) (le_cons rfl (le_cons rfl (le_cons rfl (le_cons rfl (le_cons rfl (le_cons rfl (le_nil _))))))) ?_
                              have e1 : mnx (nowC S) (lA S (nI j)) (lB S (nI j)) (k + 1) = if 0 < trc (lA S (nI j)) (lB S (nI j)) ∧ k % 8 < 6 ∧ gpt (nowC S) (lA S (nI j)) (lB S (nI j)) (k / 8) (k % 8) < (mnx (nowC S) (lA S (nI j)) (lB S (nI j)) k).2 then (some k, gpt (nowC S) (lA S (nI j)) (lB S (nI j)) (k / 8) (k % 8)) else (mnx (nowC S) (lA S (nI j)) (lB S (nI j)) k) := rfl
                              have hg9 : (max (pcv (nowC S) (tq (lA S (nI j)) (lB S (nI j))) (k / 8) (k % 8) 0 64) (pcv (nowC S) (tq (lA S (nI j)) (lB S (nI j))) (k / 8) (k % 8) 1 64) < (pcv (nowC S) (tq (lA S (nI j)) (lB S (nI j))) (k / 8) (k % 8) 2 64) ∧ gpt (nowC S) (lA S (nI j)) (lB S (nI j)) (k / 8) (k % 8) = (pcv (nowC S) (tq (lA S (nI j)) (lB S (nI j))) (k / 8) (k % 8) 2 64)) ∨ (¬ max (pcv (nowC S) (tq (lA S (nI j)) (lB S (nI j))) (k / 8) (k % 8) 0 64) (pcv (nowC S) (tq (lA S (nI j)) (lB S (nI j))) (k / 8) (k % 8) 1 64) < (pcv (nowC S) (tq (lA S (nI j)) (lB S (nI j))) (k / 8) (k % 8) 2 64) ∧ gpt (nowC S) (lA S (nI j)) (lB S (nI j)) (k / 8) (k % 8) = max (pcv (nowC S) (tq (lA S (nI j)) (lB S (nI j))) (k / 8) (k % 8) 0 64) (pcv (nowC S) (tq (lA S (nI j)) (lB S (nI j))) (k / 8) (k % 8) 1 64)) := by
                                rw [← mx3_e ha hx6]
                                unfold mx3
                                by_cases z : max (pcv (nowC S) (tq (lA S (nI j)) (lB S (nI j))) (k / 8) (k % 8) 0 64) (pcv (nowC S) (tq (lA S (nI j)) (lB S (nI j))) (k / 8) (k % 8) 1 64) < (pcv (nowC S) (tq (lA S (nI j)) (lB S (nI j))) (k / 8) (k % 8) 2 64)
                                · exact Or.inl ⟨z, if_pos z⟩
                                · exact Or.inr ⟨z, if_neg z⟩
                              have q0 := pcv_le (C := nowC S) (P := (tq (lA S (nI j)) (lB S (nI j)))) (i := k / 8) (x := k % 8) (v := 0) 64
                              have q1 := pcv_le (C := nowC S) (P := (tq (lA S (nI j)) (lB S (nI j)))) (i := k / 8) (x := k % 8) (v := 1) 64
                              have q2 := pcv_le (C := nowC S) (P := (tq (lA S (nI j)) (lB S (nI j)))) (i := k / 8) (x := k % 8) (v := 2) 64
                              have qc : cnt (tq (lA S (nI j)) (lB S (nI j))) 64 = trc (lA S (nI j)) (lB S (nI j)) := rfl
                              have qt := trc_le (lA S (nI j)) (lB S (nI j))
                              have qb := (mnx_b (C := nowC S) (b := lB S (nI j)) ha k).1
                              generalize gpt (nowC S) (lA S (nI j)) (lB S (nI j)) (k / 8) (k % 8) = G at *
                              generalize (pcv (nowC S) (tq (lA S (nI j)) (lB S (nI j))) (k / 8) (k % 8) 0 64) = p0 at *
                              generalize (pcv (nowC S) (tq (lA S (nI j)) (lB S (nI j))) (k / 8) (k % 8) 1 64) = p1 at *
                              generalize (pcv (nowC S) (tq (lA S (nI j)) (lB S (nI j))) (k / 8) (k % 8) 2 64) = p2 at *
                              have t_0 := nI_toInt (n := p0) (by omega)
                              have t_1 := nI_toInt (n := p1) (by omega)
                              have t_2 := nI_toInt (n := p2) (by omega)
                              have t_3 := nI_toInt (n := cnt (tq (lA S (nI j)) (lB S (nI j))) 64) (by omega)
                              have t_4 := nI_toInt (n := (mnx (nowC S) (lA S (nI j)) (lB S (nI j)) k).2) (by omega)
                              have l_0 := i_0
                              try simp only [i_le] at c_146
                              try simp only [i_le] at c_174
                              try simp only [i_le] at c_192
                              try simp only [i_le] at c_199
                              try simp only [i_le] at c_211
                              try simp only [i_le] at c_218
                              first
                              | (exfalso; omega)
                              | (rw [if_neg (fun z => by omega)] at e1; rw [e1] at K; exact K _ ⟨hm73 _, frX_t hf (frX_sa (by decide))⟩)
                              | (rw [if_pos ⟨by omega, hx6, by omega⟩] at e1
                                 rw [e1] at K
                                 first
                                 | (rw [show G = p0 by omega] at K; exact K _ ⟨hm73 _, frX_t hf (frX_sa (by decide))⟩)
                                 | (rw [show G = p1 by omega] at K; exact K _ ⟨hm73 _, frX_t hf (frX_sa (by decide))⟩)
                                 | (rw [show G = p2 by omega] at K; exact K _ ⟨hm73 _, frX_t hf (frX_sa (by decide))⟩))
                    · -- le at 174: no
                      show bw_go _ _ _ _ _ _ _ 177 [(7, .int _), (6, .int _), (5, .int _), (4, .int _), (3, .int _), (0, .ref _), (1, .int _), (2, .int _)] ([]) _ _
                      refine go_aload_n dX8_next_177 rfl ?_
                      refine go_gfr dX8_next_178 fl_8_51 rfl (ms_lt hm.1 (by decide)) hm.1.1.2 hm.1.2.1.2.2.2.2.2.2.2.2.2.2.2.2.1 ?_
                      refine go_iconst (2) dX8_next_181 rfl ?_
                      refine go_ia dX8_next_182 hm.1.2.2.2.2.2.2.2.2.2.2.2.2.2.2.1 (ms_lt hm.1 (by decide)) (by decide) ?_
                      rw [show (2 : Int32).toNatClampNeg = 2 from rfl, i_sa_s, hF.2.2]
                      refine go_goto (pc' := 188) dX8_next_183 rfl ?_
                      show bw_go _ _ _ _ _ _ _ 188 [(7, .int _), (6, .int _), (5, .int _), (4, .int _), (3, .int _), (0, .ref _), (1, .int _), (2, .int _)] ((.int _) :: []) _ _
                      refine go_istore dX8_next_188 (Nat.lt_of_lt_of_le (Nat.lt_succ_self _) (Nat.le_of_ble_eq_true rfl)) ?_
                      show bw_go _ _ _ _ _ _ _ 190 [(7, .int _), (6, .int _), (5, .int _), (4, .int _), (3, .int _), (0, .ref _), (1, .int _), (2, .int _)] ([]) _ _
                      refine go_iload dX8_next_190 rfl ?_
                      refine go_if_le (pc' := 207) dX8_next_192 rfl (fun c_192 => ?_) (fun c_192 => ?_)
                      · -- le at 192: yes
                        show bw_go _ _ _ _ _ _ _ 207 [(7, .int _), (6, .int _), (5, .int _), (4, .int _), (3, .int _), (0, .ref _), (1, .int _), (2, .int _)] ([]) _ _
                        refine go_iload_n dX8_next_207 rfl ?_
                        refine go_istore_n dX8_next_208 (Nat.lt_of_lt_of_le (Nat.lt_succ_self _) (Nat.le_of_ble_eq_true rfl)) ?_
                        show bw_go _ _ _ _ _ _ _ 209 [(3, .int _), (7, .int _), (6, .int _), (5, .int _), (4, .int _), (0, .ref _), (1, .int _), (2, .int _)] ([]) _ _
                        refine go_iload dX8_next_209 rfl ?_
                        refine go_if_le (pc' := 226) dX8_next_211 rfl (fun c_211 => ?_) (fun c_211 => ?_)
                        · -- le at 211: yes
                          show bw_go _ _ _ _ _ _ _ 226 [(3, .int _), (7, .int _), (6, .int _), (5, .int _), (4, .int _), (0, .ref _), (1, .int _), (2, .int _)] ([]) _ _
                          refine go_iload dX8_next_226 rfl ?_
                          refine go_istore dX8_next_228 (Nat.lt_of_lt_of_le (Nat.lt_succ_self _) (Nat.le_of_ble_eq_true rfl)) ?_
                          show bw_go _ _ _ _ _ _ _ 230 [(4, .int _), (3, .int _), (7, .int _), (6, .int _), (5, .int _), (0, .ref _), (1, .int _), (2, .int _)] ([]) _ _
                          refine go_iinc dX8_next_230 rfl (nI_1 k) (Nat.lt_of_lt_of_le (Nat.lt_succ_self _) (Nat.le_of_ble_eq_true rfl)) ?_
                          show bw_go _ _ _ _ _ _ _ 233 [(5, .int _), (4, .int _), (3, .int _), (7, .int _), (6, .int _), (0, .ref _), (1, .int _), (2, .int _)] ([]) _ _
                          refine go_goto (pc' := 22) dX8_next_233 rfl ?_
                          refine go_ls [(5, .int _), (4, .int _), (3, .int _), (0, .ref _), (1, .int _), (2, .int _)] (by show List.Nodup ([5, 4, 3, 0, 1, 2] : List Nat); decide) (by show List.Nodup ([5, 4, 3, 7, 6, 0, 1, 2] : List Nat); decide) (le_cons rfl (le_cons rfl (le_cons rfl (le_cons rfl (le_cons rfl (le_cons rfl (le_nil _))))))) ?_
                          have e1 : mnx (nowC S) (lA S (nI j)) (lB S (nI j)) (k + 1) = if 0 < trc (lA S (nI j)) (lB S (nI j)) ∧ k % 8 < 6 ∧ gpt (nowC S) (lA S (nI j)) (lB S (nI j)) (k / 8) (k % 8) < (mnx (nowC S) (lA S (nI j)) (lB S (nI j)) k).2 then (some k, gpt (nowC S) (lA S (nI j)) (lB S (nI j)) (k / 8) (k % 8)) else (mnx (nowC S) (lA S (nI j)) (lB S (nI j)) k) := rfl
                          have hg9 : (max (pcv (nowC S) (tq (lA S (nI j)) (lB S (nI j))) (k / 8) (k % 8) 0 64) (pcv (nowC S) (tq (lA S (nI j)) (lB S (nI j))) (k / 8) (k % 8) 1 64) < (pcv (nowC S) (tq (lA S (nI j)) (lB S (nI j))) (k / 8) (k % 8) 2 64) ∧ gpt (nowC S) (lA S (nI j)) (lB S (nI j)) (k / 8) (k % 8) = (pcv (nowC S) (tq (lA S (nI j)) (lB S (nI j))) (k / 8) (k % 8) 2 64)) ∨ (¬ max (pcv (nowC S) (tq (lA S (nI j)) (lB S (nI j))) (k / 8) (k % 8) 0 64) (pcv (nowC S) (tq (lA S (nI j)) (lB S (nI j))) (k / 8) (k % 8) 1 64) < (pcv (nowC S) (tq (lA S (nI j)) (lB S (nI j))) (k / 8) (k % 8) 2 64) ∧ gpt (nowC S) (lA S (nI j)) (lB S (nI j)) (k / 8) (k % 8) = max (pcv (nowC S) (tq (lA S (nI j)) (lB S (nI j))) (k / 8) (k % 8) 0 64) (pcv (nowC S) (tq (lA S (nI j)) (lB S (nI j))) (k / 8) (k % 8) 1 64)) := by
                            rw [← mx3_e ha hx6]
                            unfold mx3
                            by_cases z : max (pcv (nowC S) (tq (lA S (nI j)) (lB S (nI j))) (k / 8) (k % 8) 0 64) (pcv (nowC S) (tq (lA S (nI j)) (lB S (nI j))) (k / 8) (k % 8) 1 64) < (pcv (nowC S) (tq (lA S (nI j)) (lB S (nI j))) (k / 8) (k % 8) 2 64)
                            · exact Or.inl ⟨z, if_pos z⟩
                            · exact Or.inr ⟨z, if_neg z⟩
                          have q0 := pcv_le (C := nowC S) (P := (tq (lA S (nI j)) (lB S (nI j)))) (i := k / 8) (x := k % 8) (v := 0) 64
                          have q1 := pcv_le (C := nowC S) (P := (tq (lA S (nI j)) (lB S (nI j)))) (i := k / 8) (x := k % 8) (v := 1) 64
                          have q2 := pcv_le (C := nowC S) (P := (tq (lA S (nI j)) (lB S (nI j)))) (i := k / 8) (x := k % 8) (v := 2) 64
                          have qc : cnt (tq (lA S (nI j)) (lB S (nI j))) 64 = trc (lA S (nI j)) (lB S (nI j)) := rfl
                          have qt := trc_le (lA S (nI j)) (lB S (nI j))
                          have qb := (mnx_b (C := nowC S) (b := lB S (nI j)) ha k).1
                          generalize gpt (nowC S) (lA S (nI j)) (lB S (nI j)) (k / 8) (k % 8) = G at *
                          generalize (pcv (nowC S) (tq (lA S (nI j)) (lB S (nI j))) (k / 8) (k % 8) 0 64) = p0 at *
                          generalize (pcv (nowC S) (tq (lA S (nI j)) (lB S (nI j))) (k / 8) (k % 8) 1 64) = p1 at *
                          generalize (pcv (nowC S) (tq (lA S (nI j)) (lB S (nI j))) (k / 8) (k % 8) 2 64) = p2 at *
                          have t_0 := nI_toInt (n := p0) (by omega)
                          have t_1 := nI_toInt (n := p1) (by omega)
                          have t_2 := nI_toInt (n := p2) (by omega)
                          have t_3 := nI_toInt (n := cnt (tq (lA S (nI j)) (lB S (nI j))) 64) (by omega)
                          have t_4 := nI_toInt (n := (mnx (nowC S) (lA S (nI j)) (lB S (nI j)) k).2) (by omega)
                          have l_0 := i_0
                          try simp only [i_le] at c_146
                          try simp only [i_le] at c_174
                          try simp only [i_le] at c_192
                          try simp only [i_le] at c_199
                          try simp only [i_le] at c_211
                          try simp only [i_le] at c_218
                          first
                          | (exfalso; omega)
                          | (rw [if_neg (fun z => by omega)] at e1; rw [e1] at K; exact K _ ⟨hm73 _, frX_t hf (frX_sa (by decide))⟩)
                          | (rw [if_pos ⟨by omega, hx6, by omega⟩] at e1
                             rw [e1] at K
                             first
                             | (rw [show G = p0 by omega] at K; exact K _ ⟨hm73 _, frX_t hf (frX_sa (by decide))⟩)
                             | (rw [show G = p1 by omega] at K; exact K _ ⟨hm73 _, frX_t hf (frX_sa (by decide))⟩)
                             | (rw [show G = p2 by omega] at K; exact K _ ⟨hm73 _, frX_t hf (frX_sa (by decide))⟩))
                        · -- le at 211: no
                          show bw_go _ _ _ _ _ _ _ 214 [(3, .int _), (7, .int _), (6, .int _), (5, .int _), (4, .int _), (0, .ref _), (1, .int _), (2, .int _)] ([]) _ _
                          refine go_iload dX8_next_214 rfl ?_
                          refine go_iload dX8_next_216 rfl ?_
                          refine go_icmp_ge (pc' := 226) dX8_next_218 rfl (fun c_218 => ?_) (fun c_218 => ?_)
                          · -- ge at 218: yes
                            show bw_go _ _ _ _ _ _ _ 226 [(3, .int _), (7, .int _), (6, .int _), (5, .int _), (4, .int _), (0, .ref _), (1, .int _), (2, .int _)] ([]) _ _
                            refine go_iload dX8_next_226 rfl ?_
                            refine go_istore dX8_next_228 (Nat.lt_of_lt_of_le (Nat.lt_succ_self _) (Nat.le_of_ble_eq_true rfl)) ?_
                            show bw_go _ _ _ _ _ _ _ 230 [(4, .int _), (3, .int _), (7, .int _), (6, .int _), (5, .int _), (0, .ref _), (1, .int _), (2, .int _)] ([]) _ _
                            refine go_iinc dX8_next_230 rfl (nI_1 k) (Nat.lt_of_lt_of_le (Nat.lt_succ_self _) (Nat.le_of_ble_eq_true rfl)) ?_
                            show bw_go _ _ _ _ _ _ _ 233 [(5, .int _), (4, .int _), (3, .int _), (7, .int _), (6, .int _), (0, .ref _), (1, .int _), (2, .int _)] ([]) _ _
                            refine go_goto (pc' := 22) dX8_next_233 rfl ?_
                            refine go_ls [(5, .int _), (4, .int _), (3, .int _), (0, .ref _), (1, .int _), (2, .int _)] (by show List.Nodup ([5, 4, 3, 0, 1, 2] : List Nat); decide) (by show List.Nodup ([5, 4, 3, 7, 6, 0, 1, 2] : List Nat); decide) (le_cons rfl (le_cons rfl (le_cons rfl (le_cons rfl (le_cons rfl (le_cons rfl (le_nil _))))))) ?_
                            have e1 : mnx (nowC S) (lA S (nI j)) (lB S (nI j)) (k + 1) = if 0 < trc (lA S (nI j)) (lB S (nI j)) ∧ k % 8 < 6 ∧ gpt (nowC S) (lA S (nI j)) (lB S (nI j)) (k / 8) (k % 8) < (mnx (nowC S) (lA S (nI j)) (lB S (nI j)) k).2 then (some k, gpt (nowC S) (lA S (nI j)) (lB S (nI j)) (k / 8) (k % 8)) else (mnx (nowC S) (lA S (nI j)) (lB S (nI j)) k) := rfl
                            have hg9 : (max (pcv (nowC S) (tq (lA S (nI j)) (lB S (nI j))) (k / 8) (k % 8) 0 64) (pcv (nowC S) (tq (lA S (nI j)) (lB S (nI j))) (k / 8) (k % 8) 1 64) < (pcv (nowC S) (tq (lA S (nI j)) (lB S (nI j))) (k / 8) (k % 8) 2 64) ∧ gpt (nowC S) (lA S (nI j)) (lB S (nI j)) (k / 8) (k % 8) = (pcv (nowC S) (tq (lA S (nI j)) (lB S (nI j))) (k / 8) (k % 8) 2 64)) ∨ (¬ max (pcv (nowC S) (tq (lA S (nI j)) (lB S (nI j))) (k / 8) (k % 8) 0 64) (pcv (nowC S) (tq (lA S (nI j)) (lB S (nI j))) (k / 8) (k % 8) 1 64) < (pcv (nowC S) (tq (lA S (nI j)) (lB S (nI j))) (k / 8) (k % 8) 2 64) ∧ gpt (nowC S) (lA S (nI j)) (lB S (nI j)) (k / 8) (k % 8) = max (pcv (nowC S) (tq (lA S (nI j)) (lB S (nI j))) (k / 8) (k % 8) 0 64) (pcv (nowC S) (tq (lA S (nI j)) (lB S (nI j))) (k / 8) (k % 8) 1 64)) := by
                              rw [← mx3_e ha hx6]
                              unfold mx3
                              by_cases z : max (pcv (nowC S) (tq (lA S (nI j)) (lB S (nI j))) (k / 8) (k % 8) 0 64) (pcv (nowC S) (tq (lA S (nI j)) (lB S (nI j))) (k / 8) (k % 8) 1 64) < (pcv (nowC S) (tq (lA S (nI j)) (lB S (nI j))) (k / 8) (k % 8) 2 64)
                              · exact Or.inl ⟨z, if_pos z⟩
                              · exact Or.inr ⟨z, if_neg z⟩
                            have q0 := pcv_le (C := nowC S) (P := (tq (lA S (nI j)) (lB S (nI j)))) (i := k / 8) (x := k % 8) (v := 0) 64
                            have q1 := pcv_le (C := nowC S) (P := (tq (lA S (nI j)) (lB S (nI j)))) (i := k / 8) (x := k % 8) (v := 1) 64
                            have q2 := pcv_le (C := nowC S) (P := (tq (lA S (nI j)) (lB S (nI j)))) (i := k / 8) (x := k % 8) (v := 2) 64
                            have qc : cnt (tq (lA S (nI j)) (lB S (nI j))) 64 = trc (lA S (nI j)) (lB S (nI j)) := rfl
                            have qt := trc_le (lA S (nI j)) (lB S (nI j))
                            have qb := (mnx_b (C := nowC S) (b := lB S (nI j)) ha k).1
                            generalize gpt (nowC S) (lA S (nI j)) (lB S (nI j)) (k / 8) (k % 8) = G at *
                            generalize (pcv (nowC S) (tq (lA S (nI j)) (lB S (nI j))) (k / 8) (k % 8) 0 64) = p0 at *
                            generalize (pcv (nowC S) (tq (lA S (nI j)) (lB S (nI j))) (k / 8) (k % 8) 1 64) = p1 at *
                            generalize (pcv (nowC S) (tq (lA S (nI j)) (lB S (nI j))) (k / 8) (k % 8) 2 64) = p2 at *
                            have t_0 := nI_toInt (n := p0) (by omega)
                            have t_1 := nI_toInt (n := p1) (by omega)
                            have t_2 := nI_toInt (n := p2) (by omega)
                            have t_3 := nI_toInt (n := cnt (tq (lA S (nI j)) (lB S (nI j))) 64) (by omega)
                            have t_4 := nI_toInt (n := (mnx (nowC S) (lA S (nI j)) (lB S (nI j)) k).2) (by omega)
                            have l_0 := i_0
                            try simp only [i_le] at c_146
                            try simp only [i_le] at c_174
                            try simp only [i_le] at c_192
                            try simp only [i_le] at c_199
                            try simp only [i_le] at c_211
                            try simp only [i_le] at c_218
                            first
                            | (exfalso; omega)
                            | (rw [if_neg (fun z => by omega)] at e1; rw [e1] at K; exact K _ ⟨hm73 _, frX_t hf (frX_sa (by decide))⟩)
                            | (rw [if_pos ⟨by omega, hx6, by omega⟩] at e1
                               rw [e1] at K
                               first
                               | (rw [show G = p0 by omega] at K; exact K _ ⟨hm73 _, frX_t hf (frX_sa (by decide))⟩)
                               | (rw [show G = p1 by omega] at K; exact K _ ⟨hm73 _, frX_t hf (frX_sa (by decide))⟩)
                               | (rw [show G = p2 by omega] at K; exact K _ ⟨hm73 _, frX_t hf (frX_sa (by decide))⟩))
                          · -- ge at 218: no
                            show bw_go _ _ _ _ _ _ _ 221 [(3, .int _), (7, .int _), (6, .int _), (5, .int _), (4, .int _), (0, .ref _), (1, .int _), (2, .int _)] ([]) _ _
                            refine go_iload dX8_next_221 rfl ?_
                            refine go_goto (pc' := 228) dX8_next_223 rfl ?_
                            show bw_go _ _ _ _ _ _ _ 228 [(3, .int _), (7, .int _), (6, .int _), (5, .int _), (4, .int _), (0, .ref _), (1, .int _), (2, .int _)] ((.int _) :: []) _ _
                            refine go_istore dX8_next_228 (Nat.lt_of_lt_of_le (Nat.lt_succ_self _) (Nat.le_of_ble_eq_true rfl)) ?_
                            show bw_go _ _ _ _ _ _ _ 230 [(4, .int _), (3, .int _), (7, .int _), (6, .int _), (5, .int _), (0, .ref _), (1, .int _), (2, .int _)] ([]) _ _
                            refine go_iinc dX8_next_230 rfl (nI_1 k) (Nat.lt_of_lt_of_le (Nat.lt_succ_self _) (Nat.le_of_ble_eq_true rfl)) ?_
                            show bw_go _ _ _ _ _ _ _ 233 [(5, .int _), (4, .int _), (3, .int _), (7, .int _), (6, .int _), (0, .ref _), (1, .int _), (2, .int _)] ([]) _ _
                            refine go_goto (pc' := 22) dX8_next_233 rfl ?_
                            refine go_ls [(5, .int _), (4, .int _), (3, .int _), (0, .ref _), (1, .int _), (2, .int _)] (by show List.Nodup ([5, 4, 3, 0, 1, 2] : List Nat); decide) (by show List.Nodup ([5, 4, 3, 7, 6, 0, 1, 2] : List Nat); decide) (le_cons rfl (le_cons rfl (le_cons rfl (le_cons rfl (le_cons rfl (le_cons rfl (le_nil _))))))) ?_
                            have e1 : mnx (nowC S) (lA S (nI j)) (lB S (nI j)) (k + 1) = if 0 < trc (lA S (nI j)) (lB S (nI j)) ∧ k % 8 < 6 ∧ gpt (nowC S) (lA S (nI j)) (lB S (nI j)) (k / 8) (k % 8) < (mnx (nowC S) (lA S (nI j)) (lB S (nI j)) k).2 then (some k, gpt (nowC S) (lA S (nI j)) (lB S (nI j)) (k / 8) (k % 8)) else (mnx (nowC S) (lA S (nI j)) (lB S (nI j)) k) := rfl
                            have hg9 : (max (pcv (nowC S) (tq (lA S (nI j)) (lB S (nI j))) (k / 8) (k % 8) 0 64) (pcv (nowC S) (tq (lA S (nI j)) (lB S (nI j))) (k / 8) (k % 8) 1 64) < (pcv (nowC S) (tq (lA S (nI j)) (lB S (nI j))) (k / 8) (k % 8) 2 64) ∧ gpt (nowC S) (lA S (nI j)) (lB S (nI j)) (k / 8) (k % 8) = (pcv (nowC S) (tq (lA S (nI j)) (lB S (nI j))) (k / 8) (k % 8) 2 64)) ∨ (¬ max (pcv (nowC S) (tq (lA S (nI j)) (lB S (nI j))) (k / 8) (k % 8) 0 64) (pcv (nowC S) (tq (lA S (nI j)) (lB S (nI j))) (k / 8) (k % 8) 1 64) < (pcv (nowC S) (tq (lA S (nI j)) (lB S (nI j))) (k / 8) (k % 8) 2 64) ∧ gpt (nowC S) (lA S (nI j)) (lB S (nI j)) (k / 8) (k % 8) = max (pcv (nowC S) (tq (lA S (nI j)) (lB S (nI j))) (k / 8) (k % 8) 0 64) (pcv (nowC S) (tq (lA S (nI j)) (lB S (nI j))) (k / 8) (k % 8) 1 64)) := by
                              rw [← mx3_e ha hx6]
                              unfold mx3
                              by_cases z : max (pcv (nowC S) (tq (lA S (nI j)) (lB S (nI j))) (k / 8) (k % 8) 0 64) (pcv (nowC S) (tq (lA S (nI j)) (lB S (nI j))) (k / 8) (k % 8) 1 64) < (pcv (nowC S) (tq (lA S (nI j)) (lB S (nI j))) (k / 8) (k % 8) 2 64)
                              · exact Or.inl ⟨z, if_pos z⟩
                              · exact Or.inr ⟨z, if_neg z⟩
                            have q0 := pcv_le (C := nowC S) (P := (tq (lA S (nI j)) (lB S (nI j)))) (i := k / 8) (x := k % 8) (v := 0) 64
                            have q1 := pcv_le (C := nowC S) (P := (tq (lA S (nI j)) (lB S (nI j)))) (i := k / 8) (x := k % 8) (v := 1) 64
                            have q2 := pcv_le (C := nowC S) (P := (tq (lA S (nI j)) (lB S (nI j)))) (i := k / 8) (x := k % 8) (v := 2) 64
                            have qc : cnt (tq (lA S (nI j)) (lB S (nI j))) 64 = trc (lA S (nI j)) (lB S (nI j)) := rfl
                            have qt := trc_le (lA S (nI j)) (lB S (nI j))
                            have qb := (mnx_b (C := nowC S) (b := lB S (nI j)) ha k).1
                            generalize gpt (nowC S) (lA S (nI j)) (lB S (nI j)) (k / 8) (k % 8) = G at *
                            generalize (pcv (nowC S) (tq (lA S (nI j)) (lB S (nI j))) (k / 8) (k % 8) 0 64) = p0 at *
                            generalize (pcv (nowC S) (tq (lA S (nI j)) (lB S (nI j))) (k / 8) (k % 8) 1 64) = p1 at *
                            generalize (pcv (nowC S) (tq (lA S (nI j)) (lB S (nI j))) (k / 8) (k % 8) 2 64) = p2 at *
                            have t_0 := nI_toInt (n := p0) (by omega)
                            have t_1 := nI_toInt (n := p1) (by omega)
                            have t_2 := nI_toInt (n := p2) (by omega)
                            have t_3 := nI_toInt (n := cnt (tq (lA S (nI j)) (lB S (nI j))) 64) (by omega)
                            have t_4 := nI_toInt (n := (mnx (nowC S) (lA S (nI j)) (lB S (nI j)) k).2) (by omega)
                            have l_0 := i_0
                            try simp only [i_le] at c_146
                            try simp only [i_le] at c_174
                            try simp only [i_le] at c_192
                            try simp only [i_le] at c_199
                            try simp only [i_le] at c_211
                            try simp only [i_le] at c_218
                            first
                            | (exfalso; omega)
                            | (rw [if_neg (fun z => by omega)] at e1; rw [e1] at K; exact K _ ⟨hm73 _, frX_t hf (frX_sa (by decide))⟩)
                            | (rw [if_pos ⟨by omega, hx6, by omega⟩] at e1
                               rw [e1] at K
                               first
                               | (rw [show G = p0 by omega] at K; exact K _ ⟨hm73 _, frX_t hf (frX_sa (by decide))⟩)
                               | (rw [show G = p1 by omega] at K; exact K _ ⟨hm73 _, frX_t hf (frX_sa (by decide))⟩)
                               | (rw [show G = p2 by omega] at K; exact K _ ⟨hm73 _, frX_t hf (frX_sa (by decide))⟩))
                      · -- le at 192: no
                        show bw_go _ _ _ _ _ _ _ 195 [(7, .int _), (6, .int _), (5, .int _), (4, .int _), (3, .int _), (0, .ref _), (1, .int _), (2, .int _)] ([]) _ _
                        refine go_iload dX8_next_195 rfl ?_
                        refine go_iload dX8_next_197 rfl ?_
                        refine go_icmp_ge (pc' := 207) dX8_next_199 rfl (fun c_199 => ?_) (fun c_199 => ?_)
                        · -- ge at 199: yes
                          show bw_go _ _ _ _ _ _ _ 207 [(7, .int _), (6, .int _), (5, .int _), (4, .int _), (3, .int _), (0, .ref _), (1, .int _), (2, .int _)] ([]) _ _
                          refine go_iload_n dX8_next_207 rfl ?_
                          refine go_istore_n dX8_next_208 (Nat.lt_of_lt_of_le (Nat.lt_succ_self _) (Nat.le_of_ble_eq_true rfl)) ?_
                          show bw_go _ _ _ _ _ _ _ 209 [(3, .int _), (7, .int _), (6, .int _), (5, .int _), (4, .int _), (0, .ref _), (1, .int _), (2, .int _)] ([]) _ _
                          refine go_iload dX8_next_209 rfl ?_
                          refine go_if_le (pc' := 226) dX8_next_211 rfl (fun c_211 => ?_) (fun c_211 => ?_)
                          · -- le at 211: yes
                            show bw_go _ _ _ _ _ _ _ 226 [(3, .int _), (7, .int _), (6, .int _), (5, .int _), (4, .int _), (0, .ref _), (1, .int _), (2, .int _)] ([]) _ _
                            refine go_iload dX8_next_226 rfl ?_
                            refine go_istore dX8_next_228 (Nat.lt_of_lt_of_le (Nat.lt_succ_self _) (Nat.le_of_ble_eq_true rfl)) ?_
                            show bw_go _ _ _ _ _ _ _ 230 [(4, .int _), (3, .int _), (7, .int _), (6, .int _), (5, .int _), (0, .ref _), (1, .int _), (2, .int _)] ([]) _ _
                            refine go_iinc dX8_next_230 rfl (nI_1 k) (Nat.lt_of_lt_of_le (Nat.lt_succ_self _) (Nat.le_of_ble_eq_true rfl)) ?_
                            show bw_go _ _ _ _ _ _ _ 233 [(5, .int _), (4, .int _), (3, .int _), (7, .int _), (6, .int _), (0, .ref _), (1, .int _), (2, .int _)] ([]) _ _
                            refine go_goto (pc' := 22) dX8_next_233 rfl ?_
                            refine go_ls [(5, .int _), (4, .int _), (3, .int _), (0, .ref _), (1, .int _), (2, .int _)] (by show List.Nodup ([5, 4, 3, 0, 1, 2] : List Nat); decide) (by show List.Nodup ([5, 4, 3, 7, 6, 0, 1, 2] : List Nat); decide) (le_cons rfl (le_cons rfl (le_cons rfl (le_cons rfl (le_cons rfl (le_cons rfl (le_nil _))))))) ?_
                            have e1 : mnx (nowC S) (lA S (nI j)) (lB S (nI j)) (k + 1) = if 0 < trc (lA S (nI j)) (lB S (nI j)) ∧ k % 8 < 6 ∧ gpt (nowC S) (lA S (nI j)) (lB S (nI j)) (k / 8) (k % 8) < (mnx (nowC S) (lA S (nI j)) (lB S (nI j)) k).2 then (some k, gpt (nowC S) (lA S (nI j)) (lB S (nI j)) (k / 8) (k % 8)) else (mnx (nowC S) (lA S (nI j)) (lB S (nI j)) k) := rfl
                            have hg9 : (max (pcv (nowC S) (tq (lA S (nI j)) (lB S (nI j))) (k / 8) (k % 8) 0 64) (pcv (nowC S) (tq (lA S (nI j)) (lB S (nI j))) (k / 8) (k % 8) 1 64) < (pcv (nowC S) (tq (lA S (nI j)) (lB S (nI j))) (k / 8) (k % 8) 2 64) ∧ gpt (nowC S) (lA S (nI j)) (lB S (nI j)) (k / 8) (k % 8) = (pcv (nowC S) (tq (lA S (nI j)) (lB S (nI j))) (k / 8) (k % 8) 2 64)) ∨ (¬ max (pcv (nowC S) (tq (lA S (nI j)) (lB S (nI j))) (k / 8) (k % 8) 0 64) (pcv (nowC S) (tq (lA S (nI j)) (lB S (nI j))) (k / 8) (k % 8) 1 64) < (pcv (nowC S) (tq (lA S (nI j)) (lB S (nI j))) (k / 8) (k % 8) 2 64) ∧ gpt (nowC S) (lA S (nI j)) (lB S (nI j)) (k / 8) (k % 8) = max (pcv (nowC S) (tq (lA S (nI j)) (lB S (nI j))) (k / 8) (k % 8) 0 64) (pcv (nowC S) (tq (lA S (nI j)) (lB S (nI j))) (k / 8) (k % 8) 1 64)) := by
                              rw [← mx3_e ha hx6]
                              unfold mx3
                              by_cases z : max (pcv (nowC S) (tq (lA S (nI j)) (lB S (nI j))) (k / 8) (k % 8) 0 64) (pcv (nowC S) (tq (lA S (nI j)) (lB S (nI j))) (k / 8) (k % 8) 1 64) < (pcv (nowC S) (tq (lA S (nI j)) (lB S (nI j))) (k / 8) (k % 8) 2 64)
                              · exact Or.inl ⟨z, if_pos z⟩
                              · exact Or.inr ⟨z, if_neg z⟩
                            have q0 := pcv_le (C := nowC S) (P := (tq (lA S (nI j)) (lB S (nI j)))) (i := k / 8) (x := k % 8) (v := 0) 64
                            have q1 := pcv_le (C := nowC S) (P := (tq (lA S (nI j)) (lB S (nI j)))) (i := k / 8) (x := k % 8) (v := 1) 64
                            have q2 := pcv_le (C := nowC S) (P := (tq (lA S (nI j)) (lB S (nI j)))) (i := k / 8) (x := k % 8) (v := 2) 64
                            have qc : cnt (tq (lA S (nI j)) (lB S (nI j))) 64 = trc (lA S (nI j)) (lB S (nI j)) := rfl
                            have qt := trc_le (lA S (nI j)) (lB S (nI j))
                            have qb := (mnx_b (C := nowC S) (b := lB S (nI j)) ha k).1
                            generalize gpt (nowC S) (lA S (nI j)) (lB S (nI j)) (k / 8) (k % 8) = G at *
                            generalize (pcv (nowC S) (tq (lA S (nI j)) (lB S (nI j))) (k / 8) (k % 8) 0 64) = p0 at *
                            generalize (pcv (nowC S) (tq (lA S (nI j)) (lB S (nI j))) (k / 8) (k % 8) 1 64) = p1 at *
                            generalize (pcv (nowC S) (tq (lA S (nI j)) (lB S (nI j))) (k / 8) (k % 8) 2 64) = p2 at *
                            have t_0 := nI_toInt (n := p0) (by omega)
                            have t_1 := nI_toInt (n := p1) (by omega)
                            have t_2 := nI_toInt (n := p2) (by omega)
                            have t_3 := nI_toInt (n := cnt (tq (lA S (nI j)) (lB S (nI j))) 64) (by omega)
                            have t_4 := nI_toInt (n := (mnx (nowC S) (lA S (nI j)) (lB S (nI j)) k).2) (by omega)
                            have l_0 := i_0
                            try simp only [i_le] at c_146
                            try simp only [i_le] at c_174
                            try simp only [i_le] at c_192
                            try simp only [i_le] at c_199
                            try simp only [i_le] at c_211
                            try simp only [i_le] at c_218
                            first
                            | (exfalso; omega)
                            | (rw [if_neg (fun z => by omega)] at e1; rw [e1] at K; exact K _ ⟨hm73 _, frX_t hf (frX_sa (by decide))⟩)
                            | (rw [if_pos ⟨by omega, hx6, by omega⟩] at e1
                               rw [e1] at K
                               first
                               | (rw [show G = p0 by omega] at K; exact K _ ⟨hm73 _, frX_t hf (frX_sa (by decide))⟩)
                               | (rw [show G = p1 by omega] at K; exact K _ ⟨hm73 _, frX_t hf (frX_sa (by decide))⟩)
                               | (rw [show G = p2 by omega] at K; exact K _ ⟨hm73 _, frX_t hf (frX_sa (by decide))⟩))
                          · -- le at 211: no
                            show bw_go _ _ _ _ _ _ _ 214 [(3, .int _), (7, .int _), (6, .int _), (5, .int _), (4, .int _), (0, .ref _), (1, .int _), (2, .int _)] ([]) _ _
                            refine go_iload dX8_next_214 rfl ?_
                            refine go_iload dX8_next_216 rfl ?_
                            refine go_icmp_ge (pc' := 226) dX8_next_218 rfl (fun c_218 => ?_) (fun c_218 => ?_)
                            · -- ge at 218: yes
                              show bw_go _ _ _ _ _ _ _ 226 [(3, .int _), (7, .int _), (6, .int _), (5, .int _), (4, .int _), (0, .ref _), (1, .int _), (2, .int _)] ([]) _ _
                              refine go_iload dX8_next_226 rfl ?_
                              refine go_istore dX8_next_228 (Nat.lt_of_lt_of_le (Nat.lt_succ_self _) (Nat.le_of_ble_eq_true rfl)) ?_
                              show bw_go _ _ _ _ _ _ _ 230 [(4, .int _), (3, .int _), (7, .int _), (6, .int _), (5, .int _), (0, .ref _), (1, .int _), (2, .int _)] ([]) _ _
                              refine go_iinc dX8_next_230 rfl (nI_1 k) (Nat.lt_of_lt_of_le (Nat.lt_succ_self _) (Nat.le_of_ble_eq_true rfl)) ?_
                              show bw_go _ _ _ _ _ _ _ 233 [(5, .int _), (4, .int _), (3, .int _), (7, .int _), (6, .int _), (0, .ref _), (1, .int _), (2, .int _)] ([]) _ _
                              refine go_goto (pc' := 22) dX8_next_233 rfl ?_
                              refine go_ls [(5, .int _), (4, .int _), (3, .int _), (0, .ref _), (1, .int _), (2, .int _)] (by show List.Nodup ([5, 4, 3, 0, 1, 2] : List Nat); decide) (by show List.Nodup ([5, 4, 3, 7, 6, 0, 1, 2] : List Nat); decide) (le_cons rfl (le_cons rfl (le_cons rfl (le_cons rfl (le_cons rfl (le_cons rfl (le_nil _))))))) ?_
                              have e1 : mnx (nowC S) (lA S (nI j)) (lB S (nI j)) (k + 1) = if 0 < trc (lA S (nI j)) (lB S (nI j)) ∧ k % 8 < 6 ∧ gpt (nowC S) (lA S (nI j)) (lB S (nI j)) (k / 8) (k % 8) < (mnx (nowC S) (lA S (nI j)) (lB S (nI j)) k).2 then (some k, gpt (nowC S) (lA S (nI j)) (lB S (nI j)) (k / 8) (k % 8)) else (mnx (nowC S) (lA S (nI j)) (lB S (nI j)) k) := rfl
                              have hg9 : (max (pcv (nowC S) (tq (lA S (nI j)) (lB S (nI j))) (k / 8) (k % 8) 0 64) (pcv (nowC S) (tq (lA S (nI j)) (lB S (nI j))) (k / 8) (k % 8) 1 64) < (pcv (nowC S) (tq (lA S (nI j)) (lB S (nI j))) (k / 8) (k % 8) 2 64) ∧ gpt (nowC S) (lA S (nI j)) (lB S (nI j)) (k / 8) (k % 8) = (pcv (nowC S) (tq (lA S (nI j)) (lB S (nI j))) (k / 8) (k % 8) 2 64)) ∨ (¬ max (pcv (nowC S) (tq (lA S (nI j)) (lB S (nI j))) (k / 8) (k % 8) 0 64) (pcv (nowC S) (tq (lA S (nI j)) (lB S (nI j))) (k / 8) (k % 8) 1 64) < (pcv (nowC S) (tq (lA S (nI j)) (lB S (nI j))) (k / 8) (k % 8) 2 64) ∧ gpt (nowC S) (lA S (nI j)) (lB S (nI j)) (k / 8) (k % 8) = max (pcv (nowC S) (tq (lA S (nI j)) (lB S (nI j))) (k / 8) (k % 8) 0 64) (pcv (nowC S) (tq (lA S (nI j)) (lB S (nI j))) (k / 8) (k % 8) 1 64)) := by
                                rw [← mx3_e ha hx6]
                                unfold mx3
                                by_cases z : max (pcv (nowC S) (tq (lA S (nI j)) (lB S (nI j))) (k / 8) (k % 8) 0 64) (pcv (nowC S) (tq (lA S (nI j)) (lB S (nI j))) (k / 8) (k % 8) 1 64) < (pcv (nowC S) (tq (lA S (nI j)) (lB S (nI j))) (k / 8) (k % 8) 2 64)
                                · exact Or.inl ⟨z, if_pos z⟩
                                · exact Or.inr ⟨z, if_neg z⟩
                              have q0 := pcv_le (C := nowC S) (P := (tq (lA S (nI j)) (lB S (nI j)))) (i := k / 8) (x := k % 8) (v := 0) 64
                              have q1 := pcv_le (C := nowC S) (P := (tq (lA S (nI j)) (lB S (nI j)))) (i := k / 8) (x := k % 8) (v := 1) 64
                              have q2 := pcv_le (C := nowC S) (P := (tq (lA S (nI j)) (lB S (nI j)))) (i := k / 8) (x := k % 8) (v := 2) 64
                              have qc : cnt (tq (lA S (nI j)) (lB S (nI j))) 64 = trc (lA S (nI j)) (lB S (nI j)) := rfl
                              have qt := trc_le (lA S (nI j)) (lB S (nI j))
                              have qb := (mnx_b (C := nowC S) (b := lB S (nI j)) ha k).1
                              generalize gpt (nowC S) (lA S (nI j)) (lB S (nI j)) (k / 8) (k % 8) = G at *
                              generalize (pcv (nowC S) (tq (lA S (nI j)) (lB S (nI j))) (k / 8) (k % 8) 0 64) = p0 at *
                              generalize (pcv (nowC S) (tq (lA S (nI j)) (lB S (nI j))) (k / 8) (k % 8) 1 64) = p1 at *
                              generalize (pcv (nowC S) (tq (lA S (nI j)) (lB S (nI j))) (k / 8) (k % 8) 2 64) = p2 at *
                              have t_0 := nI_toInt (n := p0) (by omega)
                              have t_1 := nI_toInt (n := p1) (by omega)
                              have t_2 := nI_toInt (n := p2) (by omega)
                              have t_3 := nI_toInt (n := cnt (tq (lA S (nI j)) (lB S (nI j))) 64) (by omega)
                              have t_4 := nI_toInt (n := (mnx (nowC S) (lA S (nI j)) (lB S (nI j)) k).2) (by omega)
                              have l_0 := i_0
                              try simp only [i_le] at c_146
                              try simp only [i_le] at c_174
                              try simp only [i_le] at c_192
                              try simp only [i_le] at c_199
                              try simp only [i_le] at c_211
                              try simp only [i_le] at c_218
                              first
                              | (exfalso; omega)
                              | (rw [if_neg (fun z => by omega)] at e1; rw [e1] at K; exact K _ ⟨hm73 _, frX_t hf (frX_sa (by decide))⟩)
                              | (rw [if_pos ⟨by omega, hx6, by omega⟩] at e1
                                 rw [e1] at K
                                 first
                                 | (rw [show G = p0 by omega] at K; exact K _ ⟨hm73 _, frX_t hf (frX_sa (by decide))⟩)
                                 | (rw [show G = p1 by omega] at K; exact K _ ⟨hm73 _, frX_t hf (frX_sa (by decide))⟩)
                                 | (rw [show G = p2 by omega] at K; exact K _ ⟨hm73 _, frX_t hf (frX_sa (by decide))⟩))
                            · -- ge at 218: no
                              show bw_go _ _ _ _ _ _ _ 221 [(3, .int _), (7, .int _), (6, .int _), (5, .int _), (4, .int _), (0, .ref _), (1, .int _), (2, .int _)] ([]) _ _
                              refine go_iload dX8_next_221 rfl ?_
                              refine go_goto (pc' := 228) dX8_next_223 rfl ?_
                              show bw_go _ _ _ _ _ _ _ 228 [(3, .int _), (7, .int _), (6, .int _), (5, .int _), (4, .int _), (0, .ref _), (1, .int _), (2, .int _)] ((.int _) :: []) _ _
                              refine go_istore dX8_next_228 (Nat.lt_of_lt_of_le (Nat.lt_succ_self _) (Nat.le_of_ble_eq_true rfl)) ?_
                              show bw_go _ _ _ _ _ _ _ 230 [(4, .int _), (3, .int _), (7, .int _), (6, .int _), (5, .int _), (0, .ref _), (1, .int _), (2, .int _)] ([]) _ _
                              refine go_iinc dX8_next_230 rfl (nI_1 k) (Nat.lt_of_lt_of_le (Nat.lt_succ_self _) (Nat.le_of_ble_eq_true rfl)) ?_
                              show bw_go _ _ _ _ _ _ _ 233 [(5, .int _), (4, .int _), (3, .int _), (7, .int _), (6, .int _), (0, .ref _), (1, .int _), (2, .int _)] ([]) _ _
                              refine go_goto (pc' := 22) dX8_next_233 rfl ?_
                              refine go_ls [(5, .int _), (4, .int _), (3, .int _), (0, .ref _), (1, .int _), (2, .int _)] (by show List.Nodup ([5, 4, 3, 0, 1, 2] : List Nat); decide) (by show List.Nodup ([5, 4, 3, 7, 6, 0, 1, 2] : List Nat); decide) (le_cons rfl (le_cons rfl (le_cons rfl (le_cons rfl (le_cons rfl (le_cons rfl (le_nil _))))))) ?_
                              have e1 : mnx (nowC S) (lA S (nI j)) (lB S (nI j)) (k + 1) = if 0 < trc (lA S (nI j)) (lB S (nI j)) ∧ k % 8 < 6 ∧ gpt (nowC S) (lA S (nI j)) (lB S (nI j)) (k / 8) (k % 8) < (mnx (nowC S) (lA S (nI j)) (lB S (nI j)) k).2 then (some k, gpt (nowC S) (lA S (nI j)) (lB S (nI j)) (k / 8) (k % 8)) else (mnx (nowC S) (lA S (nI j)) (lB S (nI j)) k) := rfl
                              have hg9 : (max (pcv (nowC S) (tq (lA S (nI j)) (lB S (nI j))) (k / 8) (k % 8) 0 64) (pcv (nowC S) (tq (lA S (nI j)) (lB S (nI j))) (k / 8) (k % 8) 1 64) < (pcv (nowC S) (tq (lA S (nI j)) (lB S (nI j))) (k / 8) (k % 8) 2 64) ∧ gpt (nowC S) (lA S (nI j)) (lB S (nI j)) (k / 8) (k % 8) = (pcv (nowC S) (tq (lA S (nI j)) (lB S (nI j))) (k / 8) (k % 8) 2 64)) ∨ (¬ max (pcv (nowC S) (tq (lA S (nI j)) (lB S (nI j))) (k / 8) (k % 8) 0 64) (pcv (nowC S) (tq (lA S (nI j)) (lB S (nI j))) (k / 8) (k % 8) 1 64) < (pcv (nowC S) (tq (lA S (nI j)) (lB S (nI j))) (k / 8) (k % 8) 2 64) ∧ gpt (nowC S) (lA S (nI j)) (lB S (nI j)) (k / 8) (k % 8) = max (pcv (nowC S) (tq (lA S (nI j)) (lB S (nI j))) (k / 8) (k % 8) 0 64) (pcv (nowC S) (tq (lA S (nI j)) (lB S (nI j))) (k / 8) (k % 8) 1 64)) := by
                                rw [← mx3_e ha hx6]
                                unfold mx3
                                by_cases z : max (pcv (nowC S) (tq (lA S (nI j)) (lB S (nI j))) (k / 8) (k % 8) 0 64) (pcv (nowC S) (tq (lA S (nI j)) (lB S (nI j))) (k / 8) (k % 8) 1 64) < (pcv (nowC S) (tq (lA S (nI j)) (lB S (nI j))) (k / 8) (k % 8) 2 64)
                                · exact Or.inl ⟨z, if_pos z⟩
                                · exact Or.inr ⟨z, if_neg z⟩
                              have q0 := pcv_le (C := nowC S) (P := (tq (lA S (nI j)) (lB S (nI j)))) (i := k / 8) (x := k % 8) (v := 0) 64
                              have q1 := pcv_le (C := nowC S) (P := (tq (lA S (nI j)) (lB S (nI j)))) (i := k / 8) (x := k % 8) (v := 1) 64
                              have q2 := pcv_le (C := nowC S) (P := (tq (lA S (nI j)) (lB S (nI j)))) (i := k / 8) (x := k % 8) (v := 2) 64
                              have qc : cnt (tq (lA S (nI j)) (lB S (nI j))) 64 = trc (lA S (nI j)) (lB S (nI j)) := rfl
                              have qt := trc_le (lA S (nI j)) (lB S (nI j))
                              have qb := (mnx_b (C := nowC S) (b := lB S (nI j)) ha k).1
                              generalize gpt (nowC S) (lA S (nI j)) (lB S (nI j)) (k / 8) (k % 8) = G at *
                              generalize (pcv (nowC S) (tq (lA S (nI j)) (lB S (nI j))) (k / 8) (k % 8) 0 64) = p0 at *
                              generalize (pcv (nowC S) (tq (lA S (nI j)) (lB S (nI j))) (k / 8) (k % 8) 1 64) = p1 at *
                              generalize (pcv (nowC S) (tq (lA S (nI j)) (lB S (nI j))) (k / 8) (k % 8) 2 64) = p2 at *
                              have t_0 := nI_toInt (n := p0) (by omega)
                              have t_1 := nI_toInt (n := p1) (by omega)
                              have t_2 := nI_toInt (n := p2) (by omega)
                              have t_3 := nI_toInt (n := cnt (tq (lA S (nI j)) (lB S (nI j))) 64) (by omega)
                              have t_4 := nI_toInt (n := (mnx (nowC S) (lA S (nI j)) (lB S (nI j)) k).2) (by omega)
                              have l_0 := i_0
                              try simp only [i_le] at c_146
                              try simp only [i_le] at c_174
                              try simp only [i_le] at c_192
                              try simp only [i_le] at c_199
                              try simp only [i_le] at c_211
                              try simp only [i_le] at c_218
                              first
                              | (exfalso; omega)
                              | (rw [if_neg (fun z => by omega)] at e1; rw [e1] at K; exact K _ ⟨hm73 _, frX_t hf (frX_sa (by decide))⟩)
                              | (rw [if_pos ⟨by omega, hx6, by omega⟩] at e1
                                 rw [e1] at K
                                 first
                                 | (rw [show G = p0 by omega] at K; exact K _ ⟨hm73 _, frX_t hf (frX_sa (by decide))⟩)
                                 | (rw [show G = p1 by omega] at K; exact K _ ⟨hm73 _, frX_t hf (frX_sa (by decide))⟩)
                                 | (rw [show G = p2 by omega] at K; exact K _ ⟨hm73 _, frX_t hf (frX_sa (by decide))⟩))
                        · -- ge at 199: no
                          show bw_go _ _ _ _ _ _ _ 202 [(7, .int _), (6, .int _), (5, .int _), (4, .int _), (3, .int _), (0, .ref _), (1, .int _), (2, .int _)] ([]) _ _
                          refine go_iload dX8_next_202 rfl ?_
                          refine go_goto (pc' := 208) dX8_next_204 rfl ?_
                          show bw_go _ _ _ _ _ _ _ 208 [(7, .int _), (6, .int _), (5, .int _), (4, .int _), (3, .int _), (0, .ref _), (1, .int _), (2, .int _)] ((.int _) :: []) _ _
                          refine go_istore_n dX8_next_208 (Nat.lt_of_lt_of_le (Nat.lt_succ_self _) (Nat.le_of_ble_eq_true rfl)) ?_
                          show bw_go _ _ _ _ _ _ _ 209 [(3, .int _), (7, .int _), (6, .int _), (5, .int _), (4, .int _), (0, .ref _), (1, .int _), (2, .int _)] ([]) _ _
                          refine go_iload dX8_next_209 rfl ?_
                          refine go_if_le (pc' := 226) dX8_next_211 rfl (fun c_211 => ?_) (fun c_211 => ?_)
                          · -- le at 211: yes
                            show bw_go _ _ _ _ _ _ _ 226 [(3, .int _), (7, .int _), (6, .int _), (5, .int _), (4, .int _), (0, .ref _), (1, .int _), (2, .int _)] ([]) _ _
                            refine go_iload dX8_next_226 rfl ?_
                            refine go_istore dX8_next_228 (Nat.lt_of_lt_of_le (Nat.lt_succ_self _) (Nat.le_of_ble_eq_true rfl)) ?_
                            show bw_go _ _ _ _ _ _ _ 230 [(4, .int _), (3, .int _), (7, .int _), (6, .int _), (5, .int _), (0, .ref _), (1, .int _), (2, .int _)] ([]) _ _
                            refine go_iinc dX8_next_230 rfl (nI_1 k) (Nat.lt_of_lt_of_le (Nat.lt_succ_self _) (Nat.le_of_ble_eq_true rfl)) ?_
                            show bw_go _ _ _ _ _ _ _ 233 [(5, .int _), (4, .int _), (3, .int _), (7, .int _), (6, .int _), (0, .ref _), (1, .int _), (2, .int _)] ([]) _ _
                            refine go_goto (pc' := 22) dX8_next_233 rfl ?_
                            refine go_ls [(5, .int _), (4, .int _), (3, .int _), (0, .ref _), (1, .int _), (2, .int _)] (by show List.Nodup ([5, 4, 3, 0, 1, 2] : List Nat); decide) (by show List.Nodup ([5, 4, 3, 7, 6, 0, 1, 2] : List Nat); decide) (le_cons rfl (le_cons rfl (le_cons rfl (le_cons rfl (le_cons rfl (le_cons rfl (le_nil _))))))) ?_
                            have e1 : mnx (nowC S) (lA S (nI j)) (lB S (nI j)) (k + 1) = if 0 < trc (lA S (nI j)) (lB S (nI j)) ∧ k % 8 < 6 ∧ gpt (nowC S) (lA S (nI j)) (lB S (nI j)) (k / 8) (k % 8) < (mnx (nowC S) (lA S (nI j)) (lB S (nI j)) k).2 then (some k, gpt (nowC S) (lA S (nI j)) (lB S (nI j)) (k / 8) (k % 8)) else (mnx (nowC S) (lA S (nI j)) (lB S (nI j)) k) := rfl
                            have hg9 : (max (pcv (nowC S) (tq (lA S (nI j)) (lB S (nI j))) (k / 8) (k % 8) 0 64) (pcv (nowC S) (tq (lA S (nI j)) (lB S (nI j))) (k / 8) (k % 8) 1 64) < (pcv (nowC S) (tq (lA S (nI j)) (lB S (nI j))) (k / 8) (k % 8) 2 64) ∧ gpt (nowC S) (lA S (nI j)) (lB S (nI j)) (k / 8) (k % 8) = (pcv (nowC S) (tq (lA S (nI j)) (lB S (nI j))) (k / 8) (k % 8) 2 64)) ∨ (¬ max (pcv (nowC S) (tq (lA S (nI j)) (lB S (nI j))) (k / 8) (k % 8) 0 64) (pcv (nowC S) (tq (lA S (nI j)) (lB S (nI j))) (k / 8) (k % 8) 1 64) < (pcv (nowC S) (tq (lA S (nI j)) (lB S (nI j))) (k / 8) (k % 8) 2 64) ∧ gpt (nowC S) (lA S (nI j)) (lB S (nI j)) (k / 8) (k % 8) = max (pcv (nowC S) (tq (lA S (nI j)) (lB S (nI j))) (k / 8) (k % 8) 0 64) (pcv (nowC S) (tq (lA S (nI j)) (lB S (nI j))) (k / 8) (k % 8) 1 64)) := by
                              rw [← mx3_e ha hx6]
                              unfold mx3
                              by_cases z : max (pcv (nowC S) (tq (lA S (nI j)) (lB S (nI j))) (k / 8) (k % 8) 0 64) (pcv (nowC S) (tq (lA S (nI j)) (lB S (nI j))) (k / 8) (k % 8) 1 64) < (pcv (nowC S) (tq (lA S (nI j)) (lB S (nI j))) (k / 8) (k % 8) 2 64)
                              · exact Or.inl ⟨z, if_pos z⟩
                              · exact Or.inr ⟨z, if_neg z⟩
                            have q0 := pcv_le (C := nowC S) (P := (tq (lA S (nI j)) (lB S (nI j)))) (i := k / 8) (x := k % 8) (v := 0) 64
                            have q1 := pcv_le (C := nowC S) (P := (tq (lA S (nI j)) (lB S (nI j)))) (i := k / 8) (x := k % 8) (v := 1) 64
                            have q2 := pcv_le (C := nowC S) (P := (tq (lA S (nI j)) (lB S (nI j)))) (i := k / 8) (x := k % 8) (v := 2) 64
                            have qc : cnt (tq (lA S (nI j)) (lB S (nI j))) 64 = trc (lA S (nI j)) (lB S (nI j)) := rfl
                            have qt := trc_le (lA S (nI j)) (lB S (nI j))
                            have qb := (mnx_b (C := nowC S) (b := lB S (nI j)) ha k).1
                            generalize gpt (nowC S) (lA S (nI j)) (lB S (nI j)) (k / 8) (k % 8) = G at *
                            generalize (pcv (nowC S) (tq (lA S (nI j)) (lB S (nI j))) (k / 8) (k % 8) 0 64) = p0 at *
                            generalize (pcv (nowC S) (tq (lA S (nI j)) (lB S (nI j))) (k / 8) (k % 8) 1 64) = p1 at *
                            generalize (pcv (nowC S) (tq (lA S (nI j)) (lB S (nI j))) (k / 8) (k % 8) 2 64) = p2 at *
                            have t_0 := nI_toInt (n := p0) (by omega)
                            have t_1 := nI_toInt (n := p1) (by omega)
                            have t_2 := nI_toInt (n := p2) (by omega)
                            have t_3 := nI_toInt (n := cnt (tq (lA S (nI j)) (lB S (nI j))) 64) (by omega)
                            have t_4 := nI_toInt (n := (mnx (nowC S) (lA S (nI j)) (lB S (nI j)) k).2) (by omega)
                            have l_0 := i_0
                            try simp only [i_le] at c_146
                            try simp only [i_le] at c_174
                            try simp only [i_le] at c_192
                            try simp only [i_le] at c_199
                            try simp only [i_le] at c_211
                            try simp only [i_le] at c_218
                            first
                            | (exfalso; omega)
                            | (rw [if_neg (fun z => by omega)] at e1; rw [e1] at K; exact K _ ⟨hm73 _, frX_t hf (frX_sa (by decide))⟩)
                            | (rw [if_pos ⟨by omega, hx6, by omega⟩] at e1
                               rw [e1] at K
                               first
                               | (rw [show G = p0 by omega] at K; exact K _ ⟨hm73 _, frX_t hf (frX_sa (by decide))⟩)
                               | (rw [show G = p1 by omega] at K; exact K _ ⟨hm73 _, frX_t hf (frX_sa (by decide))⟩)
                               | (rw [show G = p2 by omega] at K; exact K _ ⟨hm73 _, frX_t hf (frX_sa (by decide))⟩))
                          · -- le at 211: no
                            show bw_go _ _ _ _ _ _ _ 214 [(3, .int _), (7, .int _), (6, .int _), (5, .int _), (4, .int _), (0, .ref _), (1, .int _), (2, .int _)] ([]) _ _
                            refine go_iload dX8_next_214 rfl ?_
                            refine go_iload dX8_next_216 rfl ?_
                            refine go_icmp_ge (pc' := 226) dX8_next_218 rfl (fun c_218 => ?_) (fun c_218 => ?_)
                            · -- ge at 218: yes
                              show bw_go _ _ _ _ _ _ _ 226 [(3, .int _), (7, .int _), (6, .int _), (5, .int _), (4, .int _), (0, .ref _), (1, .int _), (2, .int _)] ([]) _ _
                              refine go_iload dX8_next_226 rfl ?_
                              refine go_istore dX8_next_228 (Nat.lt_of_lt_of_le (Nat.lt_succ_self _) (Nat.le_of_ble_eq_true rfl)) ?_
                              show bw_go _ _ _ _ _ _ _ 230 [(4, .int _), (3, .int _), (7, .int _), (6, .int _), (5, .int _), (0, .ref _), (1, .int _), (2, .int _)] ([]) _ _
                              refine go_iinc dX8_next_230 rfl (nI_1 k) (Nat.lt_of_lt_of_le (Nat.lt_succ_self _) (Nat.le_of_ble_eq_true rfl)) ?_
                              show bw_go _ _ _ _ _ _ _ 233 [(5, .int _), (4, .int _), (3, .int _), (7, .int _), (6, .int _), (0, .ref _), (1, .int _), (2, .int _)] ([]) _ _
                              refine go_goto (pc' := 22) dX8_next_233 rfl ?_
                              refine go_ls [(5, .int _), (4, .int _), (3, .int _), (0, .ref _), (1, .int _), (2, .int _)] (by show List.Nodup ([5, 4, 3, 0, 1, 2] : List Nat); decide) (by show List.Nodup ([5, 4, 3, 7, 6, 0, 1, 2] : List Nat); decide) (le_cons rfl (le_cons rfl (le_cons rfl (le_cons rfl (le_cons rfl (le_cons rfl (le_nil _))))))) ?_
                              have e1 : mnx (nowC S) (lA S (nI j)) (lB S (nI j)) (k + 1) = if 0 < trc (lA S (nI j)) (lB S (nI j)) ∧ k % 8 < 6 ∧ gpt (nowC S) (lA S (nI j)) (lB S (nI j)) (k / 8) (k % 8) < (mnx (nowC S) (lA S (nI j)) (lB S (nI j)) k).2 then (some k, gpt (nowC S) (lA S (nI j)) (lB S (nI j)) (k / 8) (k % 8)) else (mnx (nowC S) (lA S (nI j)) (lB S (nI j)) k) := rfl
                              have hg9 : (max (pcv (nowC S) (tq (lA S (nI j)) (lB S (nI j))) (k / 8) (k % 8) 0 64) (pcv (nowC S) (tq (lA S (nI j)) (lB S (nI j))) (k / 8) (k % 8) 1 64) < (pcv (nowC S) (tq (lA S (nI j)) (lB S (nI j))) (k / 8) (k % 8) 2 64) ∧ gpt (nowC S) (lA S (nI j)) (lB S (nI j)) (k / 8) (k % 8) = (pcv (nowC S) (tq (lA S (nI j)) (lB S (nI j))) (k / 8) (k % 8) 2 64)) ∨ (¬ max (pcv (nowC S) (tq (lA S (nI j)) (lB S (nI j))) (k / 8) (k % 8) 0 64) (pcv (nowC S) (tq (lA S (nI j)) (lB S (nI j))) (k / 8) (k % 8) 1 64) < (pcv (nowC S) (tq (lA S (nI j)) (lB S (nI j))) (k / 8) (k % 8) 2 64) ∧ gpt (nowC S) (lA S (nI j)) (lB S (nI j)) (k / 8) (k % 8) = max (pcv (nowC S) (tq (lA S (nI j)) (lB S (nI j))) (k / 8) (k % 8) 0 64) (pcv (nowC S) (tq (lA S (nI j)) (lB S (nI j))) (k / 8) (k % 8) 1 64)) := by
                                rw [← mx3_e ha hx6]
                                unfold mx3
                                by_cases z : max (pcv (nowC S) (tq (lA S (nI j)) (lB S (nI j))) (k / 8) (k % 8) 0 64) (pcv (nowC S) (tq (lA S (nI j)) (lB S (nI j))) (k / 8) (k % 8) 1 64) < (pcv (nowC S) (tq (lA S (nI j)) (lB S (nI j))) (k / 8) (k % 8) 2 64)
                                · exact Or.inl ⟨z, if_pos z⟩
                                · exact Or.inr ⟨z, if_neg z⟩
                              have q0 := pcv_le (C := nowC S) (P := (tq (lA S (nI j)) (lB S (nI j)))) (i := k / 8) (x := k % 8) (v := 0) 64
                              have q1 := pcv_le (C := nowC S) (P := (tq (lA S (nI j)) (lB S (nI j)))) (i := k / 8) (x := k % 8) (v := 1) 64
                              have q2 := pcv_le (C := nowC S) (P := (tq (lA S (nI j)) (lB S (nI j)))) (i := k / 8) (x := k % 8) (v := 2) 64
                              have qc : cnt (tq (lA S (nI j)) (lB S (nI j))) 64 = trc (lA S (nI j)) (lB S (nI j)) := rfl
                              have qt := trc_le (lA S (nI j)) (lB S (nI j))
                              have qb := (mnx_b (C := nowC S) (b := lB S (nI j)) ha k).1
                              generalize gpt (nowC S) (lA S (nI j)) (lB S (nI j)) (k / 8) (k % 8) = G at *
                              generalize (pcv (nowC S) (tq (lA S (nI j)) (lB S (nI j))) (k / 8) (k % 8) 0 64) = p0 at *
                              generalize (pcv (nowC S) (tq (lA S (nI j)) (lB S (nI j))) (k / 8) (k % 8) 1 64) = p1 at *
                              generalize (pcv (nowC S) (tq (lA S (nI j)) (lB S (nI j))) (k / 8) (k % 8) 2 64) = p2 at *
                              have t_0 := nI_toInt (n := p0) (by omega)
                              have t_1 := nI_toInt (n := p1) (by omega)
                              have t_2 := nI_toInt (n := p2) (by omega)
                              have t_3 := nI_toInt (n := cnt (tq (lA S (nI j)) (lB S (nI j))) 64) (by omega)
                              have t_4 := nI_toInt (n := (mnx (nowC S) (lA S (nI j)) (lB S (nI j)) k).2) (by omega)
                              have l_0 := i_0
                              try simp only [i_le] at c_146
                              try simp only [i_le] at c_174
                              try simp only [i_le] at c_192
                              try simp only [i_le] at c_199
                              try simp only [i_le] at c_211
                              try simp only [i_le] at c_218
                              first
                              | (exfalso; omega)
                              | (rw [if_neg (fun z => by omega)] at e1; rw [e1] at K; exact K _ ⟨hm73 _, frX_t hf (frX_sa (by decide))⟩)
                              | (rw [if_pos ⟨by omega, hx6, by omega⟩] at e1
                                 rw [e1] at K
                                 first
                                 | (rw [show G = p0 by omega] at K; exact K _ ⟨hm73 _, frX_t hf (frX_sa (by decide))⟩)
                                 | (rw [show G = p1 by omega] at K; exact K _ ⟨hm73 _, frX_t hf (frX_sa (by decide))⟩)
                                 | (rw [show G = p2 by omega] at K; exact K _ ⟨hm73 _, frX_t hf (frX_sa (by decide))⟩))
                            · -- ge at 218: no
                              show bw_go _ _ _ _ _ _ _ 221 [(3, .int _), (7, .int _), (6, .int _), (5, .int _), (4, .int _), (0, .ref _), (1, .int _), (2, .int _)] ([]) _ _
                              refine go_iload dX8_next_221 rfl ?_
                              refine go_goto (pc' := 228) dX8_next_223 rfl ?_
                              show bw_go _ _ _ _ _ _ _ 228 [(3, .int _), (7, .int _), (6, .int _), (5, .int _), (4, .int _), (0, .ref _), (1, .int _), (2, .int _)] ((.int _) :: []) _ _
                              refine go_istore dX8_next_228 (Nat.lt_of_lt_of_le (Nat.lt_succ_self _) (Nat.le_of_ble_eq_true rfl)) ?_
                              show bw_go _ _ _ _ _ _ _ 230 [(4, .int _), (3, .int _), (7, .int _), (6, .int _), (5, .int _), (0, .ref _), (1, .int _), (2, .int _)] ([]) _ _
                              refine go_iinc dX8_next_230 rfl (nI_1 k) (Nat.lt_of_lt_of_le (Nat.lt_succ_self _) (Nat.le_of_ble_eq_true rfl)) ?_
                              show bw_go _ _ _ _ _ _ _ 233 [(5, .int _), (4, .int _), (3, .int _), (7, .int _), (6, .int _), (0, .ref _), (1, .int _), (2, .int _)] ([]) _ _
                              refine go_goto (pc' := 22) dX8_next_233 rfl ?_
                              refine go_ls [(5, .int _), (4, .int _), (3, .int _), (0, .ref _), (1, .int _), (2, .int _)] (by show List.Nodup ([5, 4, 3, 0, 1, 2] : List Nat); decide) (by show List.Nodup ([5, 4, 3, 7, 6, 0, 1, 2] : List Nat); decide) (le_cons rfl (le_cons rfl (le_cons rfl (le_cons rfl (le_cons rfl (le_cons rfl (le_nil _))))))) ?_
                              have e1 : mnx (nowC S) (lA S (nI j)) (lB S (nI j)) (k + 1) = if 0 < trc (lA S (nI j)) (lB S (nI j)) ∧ k % 8 < 6 ∧ gpt (nowC S) (lA S (nI j)) (lB S (nI j)) (k / 8) (k % 8) < (mnx (nowC S) (lA S (nI j)) (lB S (nI j)) k).2 then (some k, gpt (nowC S) (lA S (nI j)) (lB S (nI j)) (k / 8) (k % 8)) else (mnx (nowC S) (lA S (nI j)) (lB S (nI j)) k) := rfl
                              have hg9 : (max (pcv (nowC S) (tq (lA S (nI j)) (lB S (nI j))) (k / 8) (k % 8) 0 64) (pcv (nowC S) (tq (lA S (nI j)) (lB S (nI j))) (k / 8) (k % 8) 1 64) < (pcv (nowC S) (tq (lA S (nI j)) (lB S (nI j))) (k / 8) (k % 8) 2 64) ∧ gpt (nowC S) (lA S (nI j)) (lB S (nI j)) (k / 8) (k % 8) = (pcv (nowC S) (tq (lA S (nI j)) (lB S (nI j))) (k / 8) (k % 8) 2 64)) ∨ (¬ max (pcv (nowC S) (tq (lA S (nI j)) (lB S (nI j))) (k / 8) (k % 8) 0 64) (pcv (nowC S) (tq (lA S (nI j)) (lB S (nI j))) (k / 8) (k % 8) 1 64) < (pcv (nowC S) (tq (lA S (nI j)) (lB S (nI j))) (k / 8) (k % 8) 2 64) ∧ gpt (nowC S) (lA S (nI j)) (lB S (nI j)) (k / 8) (k % 8) = max (pcv (nowC S) (tq (lA S (nI j)) (lB S (nI j))) (k / 8) (k % 8) 0 64) (pcv (nowC S) (tq (lA S (nI j)) (lB S (nI j))) (k / 8) (k % 8) 1 64)) := by
                                rw [← mx3_e ha hx6]
                                unfold mx3
                                by_cases z : max (pcv (nowC S) (tq (lA S (nI j)) (lB S (nI j))) (k / 8) (k % 8) 0 64) (pcv (nowC S) (tq (lA S (nI j)) (lB S (nI j))) (k / 8) (k % 8) 1 64) < (pcv (nowC S) (tq (lA S (nI j)) (lB S (nI j))) (k / 8) (k % 8) 2 64)
                                · exact Or.inl ⟨z, if_pos z⟩
                                · exact Or.inr ⟨z, if_neg z⟩
                              have q0 := pcv_le (C := nowC S) (P := (tq (lA S (nI j)) (lB S (nI j)))) (i := k / 8) (x := k % 8) (v := 0) 64
                              have q1 := pcv_le (C := nowC S) (P := (tq (lA S (nI j)) (lB S (nI j)))) (i := k / 8) (x := k % 8) (v := 1) 64
                              have q2 := pcv_le (C := nowC S) (P := (tq (lA S (nI j)) (lB S (nI j)))) (i := k / 8) (x := k % 8) (v := 2) 64
                              have qc : cnt (tq (lA S (nI j)) (lB S (nI j))) 64 = trc (lA S (nI j)) (lB S (nI j)) := rfl
                              have qt := trc_le (lA S (nI j)) (lB S (nI j))
                              have qb := (mnx_b (C := nowC S) (b := lB S (nI j)) ha k).1
                              generalize gpt (nowC S) (lA S (nI j)) (lB S (nI j)) (k / 8) (k % 8) = G at *
                              generalize (pcv (nowC S) (tq (lA S (nI j)) (lB S (nI j))) (k / 8) (k % 8) 0 64) = p0 at *
                              generalize (pcv (nowC S) (tq (lA S (nI j)) (lB S (nI j))) (k / 8) (k % 8) 1 64) = p1 at *
                              generalize (pcv (nowC S) (tq (lA S (nI j)) (lB S (nI j))) (k / 8) (k % 8) 2 64) = p2 at *
                              have t_0 := nI_toInt (n := p0) (by omega)
                              have t_1 := nI_toInt (n := p1) (by omega)
                              have t_2 := nI_toInt (n := p2) (by omega)
                              have t_3 := nI_toInt (n := cnt (tq (lA S (nI j)) (lB S (nI j))) 64) (by omega)
                              have t_4 := nI_toInt (n := (mnx (nowC S) (lA S (nI j)) (lB S (nI j)) k).2) (by omega)
                              have l_0 := i_0
                              try simp only [i_le] at c_146
                              try simp only [i_le] at c_174
                              try simp only [i_le] at c_192
                              try simp only [i_le] at c_199
                              try simp only [i_le] at c_211
                              try simp only [i_le] at c_218
                              first
                              | (exfalso; omega)
                              | (rw [if_neg (fun z => by omega)] at e1; rw [e1] at K; exact K _ ⟨hm73 _, frX_t hf (frX_sa (by decide))⟩)
                              | (rw [if_pos ⟨by omega, hx6, by omega⟩] at e1
                                 rw [e1] at K
                                 first
                                 | (rw [show G = p0 by omega] at K; exact K _ ⟨hm73 _, frX_t hf (frX_sa (by decide))⟩)
                                 | (rw [show G = p1 by omega] at K; exact K _ ⟨hm73 _, frX_t hf (frX_sa (by decide))⟩)
                                 | (rw [show G = p2 by omega] at K; exact K _ ⟨hm73 _, frX_t hf (frX_sa (by decide))⟩))
                · -- ge at 69: no
                  exfalso; have t_0 := nI_toInt (n := 64) (by omega); have l_0 : (64 : Int32).toInt = 64 := rfl; simp only [i_le, i_lt, i_eq, bi_eq] at c_69; omega
            · have hx7 := hx6
              refine go_iload dX8_next_65 rfl ?_
              refine go_bipush (64) dX8_next_67 rfl ?_
              refine go_icmp_ge (pc' := 134) dX8_next_69 rfl (fun c_69 => ?_) (fun c_69 => ?_)
              · -- ge at 69: yes
                show bw_go _ _ _ _ _ _ _ 134 [(7, .int _), (6, .int _), (5, .int _), (4, .int _), (3, .int _), (0, .ref _), (1, .int _), (2, .int _)] ([]) _ _
                refine go_aload_n dX8_next_134 rfl ?_
                refine go_gfr dX8_next_135 fl_8_51 rfl (ms_lt hm.1 (by decide)) hm.1.1.2 hm.1.2.1.2.2.2.2.2.2.2.2.2.2.2.2.1 ?_
                refine go_iconst (0) dX8_next_138 rfl ?_
                refine go_ia dX8_next_139 hm.1.2.2.2.2.2.2.2.2.2.2.2.2.2.2.1 (ms_lt hm.1 (by decide)) (by decide) ?_
                rw [show (0 : Int32).toNatClampNeg = 0 from rfl, i_sa_s, (show mix (fun _ => (0 : Int32)) (bw_i g 73) 3 0 = 0 from rfl)]
                refine go_aload_n dX8_next_140 rfl ?_
                refine go_gfr dX8_next_141 fl_8_51 rfl (ms_lt hm.1 (by decide)) hm.1.1.2 hm.1.2.1.2.2.2.2.2.2.2.2.2.2.2.2.1 ?_
                refine go_iconst (1) dX8_next_144 rfl ?_
                refine go_ia dX8_next_145 hm.1.2.2.2.2.2.2.2.2.2.2.2.2.2.2.1 (ms_lt hm.1 (by decide)) (by decide) ?_
                rw [show (1 : Int32).toNatClampNeg = 1 from rfl, i_sa_s, (show mix (fun _ => (0 : Int32)) (bw_i g 73) 3 1 = 0 from rfl)]
                refine go_icmp_le (pc' := 158) dX8_next_146 rfl (fun c_146 => ?_) (fun c_146 => ?_)
                · -- le at 146: yes
                  show bw_go _ _ _ _ _ _ _ 158 [(7, .int _), (6, .int _), (5, .int _), (4, .int _), (3, .int _), (0, .ref _), (1, .int _), (2, .int _)] ([]) _ _
                  refine go_aload_n dX8_next_158 rfl ?_
                  refine go_gfr dX8_next_159 fl_8_51 rfl (ms_lt hm.1 (by decide)) hm.1.1.2 hm.1.2.1.2.2.2.2.2.2.2.2.2.2.2.2.1 ?_
                  refine go_iconst (1) dX8_next_162 rfl ?_
                  refine go_ia dX8_next_163 hm.1.2.2.2.2.2.2.2.2.2.2.2.2.2.2.1 (ms_lt hm.1 (by decide)) (by decide) ?_
                  first | rw [show (1 : Int32).toNatClampNeg = 1 from rfl, i_sa_s, (show mix (fun _ => (0 : Int32)) (bw_i g 73) 3 1 = 0 from rfl)] | skip
                  refine go_istore dX8_next_164 (Nat.lt_of_lt_of_le (Nat.lt_succ_self _) (Nat.le_of_ble_eq_true rfl)) ?_
                  show bw_go _ _ _ _ _ _ _ 166 [(7, .int _), (6, .int _), (5, .int _), (4, .int _), (3, .int _), (0, .ref _), (1, .int _), (2, .int _)] ([]) _ _
                  refine go_aload_n dX8_next_166 rfl ?_
                  refine go_gfr dX8_next_167 fl_8_51 rfl (ms_lt hm.1 (by decide)) hm.1.1.2 hm.1.2.1.2.2.2.2.2.2.2.2.2.2.2.2.1 ?_
                  refine go_iconst (2) dX8_next_170 rfl ?_
                  refine go_ia dX8_next_171 hm.1.2.2.2.2.2.2.2.2.2.2.2.2.2.2.1 (ms_lt hm.1 (by decide)) (by decide) ?_
                  rw [show (2 : Int32).toNatClampNeg = 2 from rfl, i_sa_s, (show mix (fun _ => (0 : Int32)) (bw_i g 73) 3 2 = 0 from rfl)]
                  refine go_iload dX8_next_172 rfl ?_
                  refine go_icmp_le (pc' := 186) dX8_next_174 rfl (fun c_174 => ?_) (fun c_174 => ?_)
                  · -- le at 174: yes
                    show bw_go _ _ _ _ _ _ _ 186 [(7, .int _), (6, .int _), (5, .int _), (4, .int _), (3, .int _), (0, .ref _), (1, .int _), (2, .int _)] ([]) _ _
                    refine go_iload dX8_next_186 rfl ?_
                    refine go_istore dX8_next_188 (Nat.lt_of_lt_of_le (Nat.lt_succ_self _) (Nat.le_of_ble_eq_true rfl)) ?_
                    show bw_go _ _ _ _ _ _ _ 190 [(7, .int _), (6, .int _), (5, .int _), (4, .int _), (3, .int _), (0, .ref _), (1, .int _), (2, .int _)] ([]) _ _
                    refine go_iload dX8_next_190 rfl ?_
                    refine go_if_le (pc' := 207) dX8_next_192 rfl (fun _ => ?_) (fun c => absurd (by decide) c)
                    show bw_go _ _ _ _ _ _ _ 207 [(7, .int _), (6, .int _), (5, .int _), (4, .int _), (3, .int _), (0, .ref _), (1, .int _), (2, .int _)] ([]) _ _
                    refine go_iload_n dX8_next_207 rfl ?_
                    refine go_istore_n dX8_next_208 (Nat.lt_of_lt_of_le (Nat.lt_succ_self _) (Nat.le_of_ble_eq_true rfl)) ?_
                    show bw_go _ _ _ _ _ _ _ 209 [(3, .int _), (7, .int _), (6, .int _), (5, .int _), (4, .int _), (0, .ref _), (1, .int _), (2, .int _)] ([]) _ _
                    refine go_iload dX8_next_209 rfl ?_
                    refine go_if_le (pc' := 226) dX8_next_211 rfl (fun _ => ?_) (fun c => absurd (by decide) c)
                    show bw_go _ _ _ _ _ _ _ 226 [(3, .int _), (7, .int _), (6, .int _), (5, .int _), (4, .int _), (0, .ref _), (1, .int _), (2, .int _)] ([]) _ _
                    refine go_iload dX8_next_226 rfl ?_
                    refine go_istore dX8_next_228 (Nat.lt_of_lt_of_le (Nat.lt_succ_self _) (Nat.le_of_ble_eq_true rfl)) ?_
                    show bw_go _ _ _ _ _ _ _ 230 [(4, .int _), (3, .int _), (7, .int _), (6, .int _), (5, .int _), (0, .ref _), (1, .int _), (2, .int _)] ([]) _ _
                    refine go_iinc dX8_next_230 rfl (nI_1 k) (Nat.lt_of_lt_of_le (Nat.lt_succ_self _) (Nat.le_of_ble_eq_true rfl)) ?_
                    show bw_go _ _ _ _ _ _ _ 233 [(5, .int _), (4, .int _), (3, .int _), (7, .int _), (6, .int _), (0, .ref _), (1, .int _), (2, .int _)] ([]) _ _
                    refine go_goto (pc' := 22) dX8_next_233 rfl ?_
                    refine go_ls [(5, .int _), (4, .int _), (3, .int _), (0, .ref _), (1, .int _), (2, .int _)] (by show List.Nodup ([5, 4, 3, 0, 1, 2] : List Nat); decide) (by show List.Nodup ([5, 4, 3, 7, 6, 0, 1, 2] : List Nat); decide) (le_cons rfl (le_cons rfl (le_cons rfl (le_cons rfl (le_cons rfl (le_cons rfl (le_nil _))))))) ?_
                    have e1 : mnx (nowC S) (lA S (nI j)) (lB S (nI j)) (k + 1) = if 0 < trc (lA S (nI j)) (lB S (nI j)) ∧ k % 8 < 6 ∧ gpt (nowC S) (lA S (nI j)) (lB S (nI j)) (k / 8) (k % 8) < (mnx (nowC S) (lA S (nI j)) (lB S (nI j)) k).2 then (some k, gpt (nowC S) (lA S (nI j)) (lB S (nI j)) (k / 8) (k % 8)) else (mnx (nowC S) (lA S (nI j)) (lB S (nI j)) k) := rfl
                    rw [if_neg (fun z => hx6 z.2.1)] at e1
                    first
                    | (exfalso; have l_0 := i_0; simp only [i_le] at c_192; omega)
                    | (exfalso; have l_0 := i_0; simp only [i_le] at c_211; omega)
                    | (rw [e1] at K; exact K _ ⟨hm73 _, frX_t hf (frX_sa (by decide))⟩)
                  · -- le at 174: no
                    show bw_go _ _ _ _ _ _ _ 177 [(7, .int _), (6, .int _), (5, .int _), (4, .int _), (3, .int _), (0, .ref _), (1, .int _), (2, .int _)] ([]) _ _
                    refine go_aload_n dX8_next_177 rfl ?_
                    refine go_gfr dX8_next_178 fl_8_51 rfl (ms_lt hm.1 (by decide)) hm.1.1.2 hm.1.2.1.2.2.2.2.2.2.2.2.2.2.2.2.1 ?_
                    refine go_iconst (2) dX8_next_181 rfl ?_
                    refine go_ia dX8_next_182 hm.1.2.2.2.2.2.2.2.2.2.2.2.2.2.2.1 (ms_lt hm.1 (by decide)) (by decide) ?_
                    rw [show (2 : Int32).toNatClampNeg = 2 from rfl, i_sa_s, (show mix (fun _ => (0 : Int32)) (bw_i g 73) 3 2 = 0 from rfl)]
                    refine go_goto (pc' := 188) dX8_next_183 rfl ?_
                    show bw_go _ _ _ _ _ _ _ 188 [(7, .int _), (6, .int _), (5, .int _), (4, .int _), (3, .int _), (0, .ref _), (1, .int _), (2, .int _)] ((.int _) :: []) _ _
                    refine go_istore dX8_next_188 (Nat.lt_of_lt_of_le (Nat.lt_succ_self _) (Nat.le_of_ble_eq_true rfl)) ?_
                    show bw_go _ _ _ _ _ _ _ 190 [(7, .int _), (6, .int _), (5, .int _), (4, .int _), (3, .int _), (0, .ref _), (1, .int _), (2, .int _)] ([]) _ _
                    refine go_iload dX8_next_190 rfl ?_
                    refine go_if_le (pc' := 207) dX8_next_192 rfl (fun _ => ?_) (fun c => absurd (by decide) c)
                    show bw_go _ _ _ _ _ _ _ 207 [(7, .int _), (6, .int _), (5, .int _), (4, .int _), (3, .int _), (0, .ref _), (1, .int _), (2, .int _)] ([]) _ _
                    refine go_iload_n dX8_next_207 rfl ?_
                    refine go_istore_n dX8_next_208 (Nat.lt_of_lt_of_le (Nat.lt_succ_self _) (Nat.le_of_ble_eq_true rfl)) ?_
                    show bw_go _ _ _ _ _ _ _ 209 [(3, .int _), (7, .int _), (6, .int _), (5, .int _), (4, .int _), (0, .ref _), (1, .int _), (2, .int _)] ([]) _ _
                    refine go_iload dX8_next_209 rfl ?_
                    refine go_if_le (pc' := 226) dX8_next_211 rfl (fun _ => ?_) (fun c => absurd (by decide) c)
                    show bw_go _ _ _ _ _ _ _ 226 [(3, .int _), (7, .int _), (6, .int _), (5, .int _), (4, .int _), (0, .ref _), (1, .int _), (2, .int _)] ([]) _ _
                    refine go_iload dX8_next_226 rfl ?_
                    refine go_istore dX8_next_228 (Nat.lt_of_lt_of_le (Nat.lt_succ_self _) (Nat.le_of_ble_eq_true rfl)) ?_
                    show bw_go _ _ _ _ _ _ _ 230 [(4, .int _), (3, .int _), (7, .int _), (6, .int _), (5, .int _), (0, .ref _), (1, .int _), (2, .int _)] ([]) _ _
                    refine go_iinc dX8_next_230 rfl (nI_1 k) (Nat.lt_of_lt_of_le (Nat.lt_succ_self _) (Nat.le_of_ble_eq_true rfl)) ?_
                    show bw_go _ _ _ _ _ _ _ 233 [(5, .int _), (4, .int _), (3, .int _), (7, .int _), (6, .int _), (0, .ref _), (1, .int _), (2, .int _)] ([]) _ _
                    refine go_goto (pc' := 22) dX8_next_233 rfl ?_
                    refine go_ls [(5, .int _), (4, .int _), (3, .int _), (0, .ref _), (1, .int _), (2, .int _)] (by show List.Nodup ([5, 4, 3, 0, 1, 2] : List Nat); decide) (by show List.Nodup ([5, 4, 3, 7, 6, 0, 1, 2] : List Nat); decide) (le_cons rfl (le_cons rfl (le_cons rfl (le_cons rfl (le_cons rfl (le_cons rfl (le_nil _))))))) ?_
                    have e1 : mnx (nowC S) (lA S (nI j)) (lB S (nI j)) (k + 1) = if 0 < trc (lA S (nI j)) (lB S (nI j)) ∧ k % 8 < 6 ∧ gpt (nowC S) (lA S (nI j)) (lB S (nI j)) (k / 8) (k % 8) < (mnx (nowC S) (lA S (nI j)) (lB S (nI j)) k).2 then (some k, gpt (nowC S) (lA S (nI j)) (lB S (nI j)) (k / 8) (k % 8)) else (mnx (nowC S) (lA S (nI j)) (lB S (nI j)) k) := rfl
                    rw [if_neg (fun z => hx6 z.2.1)] at e1
                    first
                    | (exfalso; have l_0 := i_0; simp only [i_le] at c_192; omega)
                    | (exfalso; have l_0 := i_0; simp only [i_le] at c_211; omega)
                    | (rw [e1] at K; exact K _ ⟨hm73 _, frX_t hf (frX_sa (by decide))⟩)
                · -- le at 146: no
                  show bw_go _ _ _ _ _ _ _ 149 [(7, .int _), (6, .int _), (5, .int _), (4, .int _), (3, .int _), (0, .ref _), (1, .int _), (2, .int _)] ([]) _ _
                  refine go_aload_n dX8_next_149 rfl ?_
                  refine go_gfr dX8_next_150 fl_8_51 rfl (ms_lt hm.1 (by decide)) hm.1.1.2 hm.1.2.1.2.2.2.2.2.2.2.2.2.2.2.2.1 ?_
                  refine go_iconst (0) dX8_next_153 rfl ?_
                  refine go_ia dX8_next_154 hm.1.2.2.2.2.2.2.2.2.2.2.2.2.2.2.1 (ms_lt hm.1 (by decide)) (by decide) ?_
                  rw [show (0 : Int32).toNatClampNeg = 0 from rfl, i_sa_s, (show mix (fun _ => (0 : Int32)) (bw_i g 73) 3 0 = 0 from rfl)]
                  refine go_goto (pc' := 164) dX8_next_155 rfl ?_
                  show bw_go _ _ _ _ _ _ _ 164 [(7, .int _), (6, .int _), (5, .int _), (4, .int _), (3, .int _), (0, .ref _), (1, .int _), (2, .int _)] ((.int _) :: []) _ _
                  first | rw [show (1 : Int32).toNatClampNeg = 1 from rfl, i_sa_s, (show mix (fun _ => (0 : Int32)) (bw_i g 73) 3 1 = 0 from rfl)] | skip
                  refine go_istore dX8_next_164 (Nat.lt_of_lt_of_le (Nat.lt_succ_self _) (Nat.le_of_ble_eq_true rfl)) ?_
                  show bw_go _ _ _ _ _ _ _ 166 [(7, .int _), (6, .int _), (5, .int _), (4, .int _), (3, .int _), (0, .ref _), (1, .int _), (2, .int _)] ([]) _ _
                  refine go_aload_n dX8_next_166 rfl ?_
                  refine go_gfr dX8_next_167 fl_8_51 rfl (ms_lt hm.1 (by decide)) hm.1.1.2 hm.1.2.1.2.2.2.2.2.2.2.2.2.2.2.2.1 ?_
                  refine go_iconst (2) dX8_next_170 rfl ?_
                  refine go_ia dX8_next_171 hm.1.2.2.2.2.2.2.2.2.2.2.2.2.2.2.1 (ms_lt hm.1 (by decide)) (by decide) ?_
                  rw [show (2 : Int32).toNatClampNeg = 2 from rfl, i_sa_s, (show mix (fun _ => (0 : Int32)) (bw_i g 73) 3 2 = 0 from rfl)]
                  refine go_iload dX8_next_172 rfl ?_
                  refine go_icmp_le (pc' := 186) dX8_next_174 rfl (fun c_174 => ?_) (fun c_174 => ?_)
                  · -- le at 174: yes
                    show bw_go _ _ _ _ _ _ _ 186 [(7, .int _), (6, .int _), (5, .int _), (4, .int _), (3, .int _), (0, .ref _), (1, .int _), (2, .int _)] ([]) _ _
                    refine go_iload dX8_next_186 rfl ?_
                    refine go_istore dX8_next_188 (Nat.lt_of_lt_of_le (Nat.lt_succ_self _) (Nat.le_of_ble_eq_true rfl)) ?_
                    show bw_go _ _ _ _ _ _ _ 190 [(7, .int _), (6, .int _), (5, .int _), (4, .int _), (3, .int _), (0, .ref _), (1, .int _), (2, .int _)] ([]) _ _
                    refine go_iload dX8_next_190 rfl ?_
                    refine go_if_le (pc' := 207) dX8_next_192 rfl (fun _ => ?_) (fun c => absurd (by decide) c)
                    show bw_go _ _ _ _ _ _ _ 207 [(7, .int _), (6, .int _), (5, .int _), (4, .int _), (3, .int _), (0, .ref _), (1, .int _), (2, .int _)] ([]) _ _
                    refine go_iload_n dX8_next_207 rfl ?_
                    refine go_istore_n dX8_next_208 (Nat.lt_of_lt_of_le (Nat.lt_succ_self _) (Nat.le_of_ble_eq_true rfl)) ?_
                    show bw_go _ _ _ _ _ _ _ 209 [(3, .int _), (7, .int _), (6, .int _), (5, .int _), (4, .int _), (0, .ref _), (1, .int _), (2, .int _)] ([]) _ _
                    refine go_iload dX8_next_209 rfl ?_
                    refine go_if_le (pc' := 226) dX8_next_211 rfl (fun _ => ?_) (fun c => absurd (by decide) c)
                    show bw_go _ _ _ _ _ _ _ 226 [(3, .int _), (7, .int _), (6, .int _), (5, .int _), (4, .int _), (0, .ref _), (1, .int _), (2, .int _)] ([]) _ _
                    refine go_iload dX8_next_226 rfl ?_
                    refine go_istore dX8_next_228 (Nat.lt_of_lt_of_le (Nat.lt_succ_self _) (Nat.le_of_ble_eq_true rfl)) ?_
                    show bw_go _ _ _ _ _ _ _ 230 [(4, .int _), (3, .int _), (7, .int _), (6, .int _), (5, .int _), (0, .ref _), (1, .int _), (2, .int _)] ([]) _ _
                    refine go_iinc dX8_next_230 rfl (nI_1 k) (Nat.lt_of_lt_of_le (Nat.lt_succ_self _) (Nat.le_of_ble_eq_true rfl)) ?_
                    show bw_go _ _ _ _ _ _ _ 233 [(5, .int _), (4, .int _), (3, .int _), (7, .int _), (6, .int _), (0, .ref _), (1, .int _), (2, .int _)] ([]) _ _
                    refine go_goto (pc' := 22) dX8_next_233 rfl ?_
                    refine go_ls [(5, .int _), (4, .int _), (3, .int _), (0, .ref _), (1, .int _), (2, .int _)] (by show List.Nodup ([5, 4, 3, 0, 1, 2] : List Nat); decide) (by show List.Nodup ([5, 4, 3, 7, 6, 0, 1, 2] : List Nat); decide) (le_cons rfl (le_cons rfl (le_cons rfl (le_cons rfl (le_cons rfl (le_cons rfl (le_nil _))))))) ?_
                    have e1 : mnx (nowC S) (lA S (nI j)) (lB S (nI j)) (k + 1) = if 0 < trc (lA S (nI j)) (lB S (nI j)) ∧ k % 8 < 6 ∧ gpt (nowC S) (lA S (nI j)) (lB S (nI j)) (k / 8) (k % 8) < (mnx (nowC S) (lA S (nI j)) (lB S (nI j)) k).2 then (some k, gpt (nowC S) (lA S (nI j)) (lB S (nI j)) (k / 8) (k % 8)) else (mnx (nowC S) (lA S (nI j)) (lB S (nI j)) k) := rfl
                    rw [if_neg (fun z => hx6 z.2.1)] at e1
                    first
                    | (exfalso; have l_0 := i_0; simp only [i_le] at c_192; omega)
                    | (exfalso; have l_0 := i_0; simp only [i_le] at c_211; omega)
                    | (rw [e1] at K; exact K _ ⟨hm73 _, frX_t hf (frX_sa (by decide))⟩)
                  · -- le at 174: no
                    show bw_go _ _ _ _ _ _ _ 177 [(7, .int _), (6, .int _), (5, .int _), (4, .int _), (3, .int _), (0, .ref _), (1, .int _), (2, .int _)] ([]) _ _
                    refine go_aload_n dX8_next_177 rfl ?_
                    refine go_gfr dX8_next_178 fl_8_51 rfl (ms_lt hm.1 (by decide)) hm.1.1.2 hm.1.2.1.2.2.2.2.2.2.2.2.2.2.2.2.1 ?_
                    refine go_iconst (2) dX8_next_181 rfl ?_
                    refine go_ia dX8_next_182 hm.1.2.2.2.2.2.2.2.2.2.2.2.2.2.2.1 (ms_lt hm.1 (by decide)) (by decide) ?_
                    rw [show (2 : Int32).toNatClampNeg = 2 from rfl, i_sa_s, (show mix (fun _ => (0 : Int32)) (bw_i g 73) 3 2 = 0 from rfl)]
                    refine go_goto (pc' := 188) dX8_next_183 rfl ?_
                    show bw_go _ _ _ _ _ _ _ 188 [(7, .int _), (6, .int _), (5, .int _), (4, .int _), (3, .int _), (0, .ref _), (1, .int _), (2, .int _)] ((.int _) :: []) _ _
                    refine go_istore dX8_next_188 (Nat.lt_of_lt_of_le (Nat.lt_succ_self _) (Nat.le_of_ble_eq_true rfl)) ?_
                    show bw_go _ _ _ _ _ _ _ 190 [(7, .int _), (6, .int _), (5, .int _), (4, .int _), (3, .int _), (0, .ref _), (1, .int _), (2, .int _)] ([]) _ _
                    refine go_iload dX8_next_190 rfl ?_
                    refine go_if_le (pc' := 207) dX8_next_192 rfl (fun _ => ?_) (fun c => absurd (by decide) c)
                    show bw_go _ _ _ _ _ _ _ 207 [(7, .int _), (6, .int _), (5, .int _), (4, .int _), (3, .int _), (0, .ref _), (1, .int _), (2, .int _)] ([]) _ _
                    refine go_iload_n dX8_next_207 rfl ?_
                    refine go_istore_n dX8_next_208 (Nat.lt_of_lt_of_le (Nat.lt_succ_self _) (Nat.le_of_ble_eq_true rfl)) ?_
                    show bw_go _ _ _ _ _ _ _ 209 [(3, .int _), (7, .int _), (6, .int _), (5, .int _), (4, .int _), (0, .ref _), (1, .int _), (2, .int _)] ([]) _ _
                    refine go_iload dX8_next_209 rfl ?_
                    refine go_if_le (pc' := 226) dX8_next_211 rfl (fun _ => ?_) (fun c => absurd (by decide) c)
                    show bw_go _ _ _ _ _ _ _ 226 [(3, .int _), (7, .int _), (6, .int _), (5, .int _), (4, .int _), (0, .ref _), (1, .int _), (2, .int _)] ([]) _ _
                    refine go_iload dX8_next_226 rfl ?_
                    refine go_istore dX8_next_228 (Nat.lt_of_lt_of_le (Nat.lt_succ_self _) (Nat.le_of_ble_eq_true rfl)) ?_
                    show bw_go _ _ _ _ _ _ _ 230 [(4, .int _), (3, .int _), (7, .int _), (6, .int _), (5, .int _), (0, .ref _), (1, .int _), (2, .int _)] ([]) _ _
                    refine go_iinc dX8_next_230 rfl (nI_1 k) (Nat.lt_of_lt_of_le (Nat.lt_succ_self _) (Nat.le_of_ble_eq_true rfl)) ?_
                    show bw_go _ _ _ _ _ _ _ 233 [(5, .int _), (4, .int _), (3, .int _), (7, .int _), (6, .int _), (0, .ref _), (1, .int _), (2, .int _)] ([]) _ _
                    refine go_goto (pc' := 22) dX8_next_233 rfl ?_
                    refine go_ls [(5, .int _), (4, .int _), (3, .int _), (0, .ref _), (1, .int _), (2, .int _)] (by show List.Nodup ([5, 4, 3, 0, 1, 2] : List Nat); decide) (by show List.Nodup ([5, 4, 3, 7, 6, 0, 1, 2] : List Nat); decide) (le_cons rfl (le_cons rfl (le_cons rfl (le_cons rfl (le_cons rfl (le_cons rfl (le_nil _))))))) ?_
                    have e1 : mnx (nowC S) (lA S (nI j)) (lB S (nI j)) (k + 1) = if 0 < trc (lA S (nI j)) (lB S (nI j)) ∧ k % 8 < 6 ∧ gpt (nowC S) (lA S (nI j)) (lB S (nI j)) (k / 8) (k % 8) < (mnx (nowC S) (lA S (nI j)) (lB S (nI j)) k).2 then (some k, gpt (nowC S) (lA S (nI j)) (lB S (nI j)) (k / 8) (k % 8)) else (mnx (nowC S) (lA S (nI j)) (lB S (nI j)) k) := rfl
                    rw [if_neg (fun z => hx6 z.2.1)] at e1
                    first
                    | (exfalso; have l_0 := i_0; simp only [i_le] at c_192; omega)
                    | (exfalso; have l_0 := i_0; simp only [i_le] at c_211; omega)
                    | (rw [e1] at K; exact K _ ⟨hm73 _, frX_t hf (frX_sa (by decide))⟩)
              · -- ge at 69: no
                show bw_go _ _ _ _ _ _ _ 72 [(7, .int _), (6, .int _), (5, .int _), (4, .int _), (3, .int _), (0, .ref _), (1, .int _), (2, .int _)] ([]) _ _
                refine go_iload dX8_next_72 rfl ?_
                refine go_bipush (8) dX8_next_74 rfl ?_
                rw [show (8 : Int32) = nI 8 from rfl]
                refine go_irem dX8_next_76 (by decide) ?_
                rw [nI_rem (by omega) (by decide) (by decide)]
                refine go_cs (as := [.int _]) 1 dX8_next_77 rfl rfl mt_8_191 (Nat.le_of_ble_eq_true rfl) rfl rfl (Nat.le_of_ble_eq_true rfl) (Nat.le_of_ble_eq_true rfl) (Nat.le_of_ble_eq_true rfl) (Nat.le_of_ble_eq_true rfl) ?_
                refine me_X8_isThing ?_
                show bw_go _ _ _ _ _ _ _ 80 [(7, .int _), (6, .int _), (5, .int _), (4, .int _), (3, .int _), (0, .ref _), (1, .int _), (2, .int _)] ((.int _) :: []) _ _
                refine go_ifb_eq (pc' := 134) dX8_next_80 rfl (fun c_80 => ?_) (fun c_80 => ?_)
                · -- eq at 80: yes
                  show bw_go _ _ _ _ _ _ _ 134 [(7, .int _), (6, .int _), (5, .int _), (4, .int _), (3, .int _), (0, .ref _), (1, .int _), (2, .int _)] ([]) _ _
                  refine go_aload_n dX8_next_134 rfl ?_
                  refine go_gfr dX8_next_135 fl_8_51 rfl (ms_lt hm.1 (by decide)) hm.1.1.2 hm.1.2.1.2.2.2.2.2.2.2.2.2.2.2.2.1 ?_
                  refine go_iconst (0) dX8_next_138 rfl ?_
                  refine go_ia dX8_next_139 hm.1.2.2.2.2.2.2.2.2.2.2.2.2.2.2.1 (ms_lt hm.1 (by decide)) (by decide) ?_
                  rw [show (0 : Int32).toNatClampNeg = 0 from rfl, i_sa_s, (show mix (fun _ => (0 : Int32)) (bw_i g 73) 3 0 = 0 from rfl)]
                  refine go_aload_n dX8_next_140 rfl ?_
                  refine go_gfr dX8_next_141 fl_8_51 rfl (ms_lt hm.1 (by decide)) hm.1.1.2 hm.1.2.1.2.2.2.2.2.2.2.2.2.2.2.2.1 ?_
                  refine go_iconst (1) dX8_next_144 rfl ?_
                  refine go_ia dX8_next_145 hm.1.2.2.2.2.2.2.2.2.2.2.2.2.2.2.1 (ms_lt hm.1 (by decide)) (by decide) ?_
                  rw [show (1 : Int32).toNatClampNeg = 1 from rfl, i_sa_s, (show mix (fun _ => (0 : Int32)) (bw_i g 73) 3 1 = 0 from rfl)]
                  refine go_icmp_le (pc' := 158) dX8_next_146 rfl (fun c_146 => ?_) (fun c_146 => ?_)
                  · -- le at 146: yes
                    show bw_go _ _ _ _ _ _ _ 158 [(7, .int _), (6, .int _), (5, .int _), (4, .int _), (3, .int _), (0, .ref _), (1, .int _), (2, .int _)] ([]) _ _
                    refine go_aload_n dX8_next_158 rfl ?_
                    refine go_gfr dX8_next_159 fl_8_51 rfl (ms_lt hm.1 (by decide)) hm.1.1.2 hm.1.2.1.2.2.2.2.2.2.2.2.2.2.2.2.1 ?_
                    refine go_iconst (1) dX8_next_162 rfl ?_
                    refine go_ia dX8_next_163 hm.1.2.2.2.2.2.2.2.2.2.2.2.2.2.2.1 (ms_lt hm.1 (by decide)) (by decide) ?_
                    first | rw [show (1 : Int32).toNatClampNeg = 1 from rfl, i_sa_s, (show mix (fun _ => (0 : Int32)) (bw_i g 73) 3 1 = 0 from rfl)] | skip
                    refine go_istore dX8_next_164 (Nat.lt_of_lt_of_le (Nat.lt_succ_self _) (Nat.le_of_ble_eq_true rfl)) ?_
                    show bw_go _ _ _ _ _ _ _ 166 [(7, .int _), (6, .int _), (5, .int _), (4, .int _), (3, .int _), (0, .ref _), (1, .int _), (2, .int _)] ([]) _ _
                    refine go_aload_n dX8_next_166 rfl ?_
                    refine go_gfr dX8_next_167 fl_8_51 rfl (ms_lt hm.1 (by decide)) hm.1.1.2 hm.1.2.1.2.2.2.2.2.2.2.2.2.2.2.2.1 ?_
                    refine go_iconst (2) dX8_next_170 rfl ?_
                    refine go_ia dX8_next_171 hm.1.2.2.2.2.2.2.2.2.2.2.2.2.2.2.1 (ms_lt hm.1 (by decide)) (by decide) ?_
                    rw [show (2 : Int32).toNatClampNeg = 2 from rfl, i_sa_s, (show mix (fun _ => (0 : Int32)) (bw_i g 73) 3 2 = 0 from rfl)]
                    refine go_iload dX8_next_172 rfl ?_
                    refine go_icmp_le (pc' := 186) dX8_next_174 rfl (fun c_174 => ?_) (fun c_174 => ?_)
                    · -- le at 174: yes
                      show bw_go _ _ _ _ _ _ _ 186 [(7, .int _), (6, .int _), (5, .int _), (4, .int _), (3, .int _), (0, .ref _), (1, .int _), (2, .int _)] ([]) _ _
                      refine go_iload dX8_next_186 rfl ?_
                      refine go_istore dX8_next_188 (Nat.lt_of_lt_of_le (Nat.lt_succ_self _) (Nat.le_of_ble_eq_true rfl)) ?_
                      show bw_go _ _ _ _ _ _ _ 190 [(7, .int _), (6, .int _), (5, .int _), (4, .int _), (3, .int _), (0, .ref _), (1, .int _), (2, .int _)] ([]) _ _
                      refine go_iload dX8_next_190 rfl ?_
                      refine go_if_le (pc' := 207) dX8_next_192 rfl (fun _ => ?_) (fun c => absurd (by decide) c)
                      show bw_go _ _ _ _ _ _ _ 207 [(7, .int _), (6, .int _), (5, .int _), (4, .int _), (3, .int _), (0, .ref _), (1, .int _), (2, .int _)] ([]) _ _
                      refine go_iload_n dX8_next_207 rfl ?_
                      refine go_istore_n dX8_next_208 (Nat.lt_of_lt_of_le (Nat.lt_succ_self _) (Nat.le_of_ble_eq_true rfl)) ?_
                      show bw_go _ _ _ _ _ _ _ 209 [(3, .int _), (7, .int _), (6, .int _), (5, .int _), (4, .int _), (0, .ref _), (1, .int _), (2, .int _)] ([]) _ _
                      refine go_iload dX8_next_209 rfl ?_
                      refine go_if_le (pc' := 226) dX8_next_211 rfl (fun _ => ?_) (fun c => absurd (by decide) c)
                      show bw_go _ _ _ _ _ _ _ 226 [(3, .int _), (7, .int _), (6, .int _), (5, .int _), (4, .int _), (0, .ref _), (1, .int _), (2, .int _)] ([]) _ _
                      refine go_iload dX8_next_226 rfl ?_
                      refine go_istore dX8_next_228 (Nat.lt_of_lt_of_le (Nat.lt_succ_self _) (Nat.le_of_ble_eq_true rfl)) ?_
                      show bw_go _ _ _ _ _ _ _ 230 [(4, .int _), (3, .int _), (7, .int _), (6, .int _), (5, .int _), (0, .ref _), (1, .int _), (2, .int _)] ([]) _ _
                      refine go_iinc dX8_next_230 rfl (nI_1 k) (Nat.lt_of_lt_of_le (Nat.lt_succ_self _) (Nat.le_of_ble_eq_true rfl)) ?_
                      show bw_go _ _ _ _ _ _ _ 233 [(5, .int _), (4, .int _), (3, .int _), (7, .int _), (6, .int _), (0, .ref _), (1, .int _), (2, .int _)] ([]) _ _
                      refine go_goto (pc' := 22) dX8_next_233 rfl ?_
                      refine go_ls [(5, .int _), (4, .int _), (3, .int _), (0, .ref _), (1, .int _), (2, .int _)] (by show List.Nodup ([5, 4, 3, 0, 1, 2] : List Nat); decide) (by show List.Nodup ([5, 4, 3, 7, 6, 0, 1, 2] : List Nat); decide) (le_cons rfl (le_cons rfl (le_cons rfl (le_cons rfl (le_cons rfl (le_cons rfl (le_nil _))))))) ?_
                      have e1 : mnx (nowC S) (lA S (nI j)) (lB S (nI j)) (k + 1) = if 0 < trc (lA S (nI j)) (lB S (nI j)) ∧ k % 8 < 6 ∧ gpt (nowC S) (lA S (nI j)) (lB S (nI j)) (k / 8) (k % 8) < (mnx (nowC S) (lA S (nI j)) (lB S (nI j)) k).2 then (some k, gpt (nowC S) (lA S (nI j)) (lB S (nI j)) (k / 8) (k % 8)) else (mnx (nowC S) (lA S (nI j)) (lB S (nI j)) k) := rfl
                      rw [if_neg (fun z => hx6 z.2.1)] at e1
                      first
                      | (exfalso; have l_0 := i_0; simp only [i_le] at c_192; omega)
                      | (exfalso; have l_0 := i_0; simp only [i_le] at c_211; omega)
                      | (rw [e1] at K; exact K _ ⟨hm73 _, frX_t hf (frX_sa (by decide))⟩)
                    · -- le at 174: no
                      show bw_go _ _ _ _ _ _ _ 177 [(7, .int _), (6, .int _), (5, .int _), (4, .int _), (3, .int _), (0, .ref _), (1, .int _), (2, .int _)] ([]) _ _
                      refine go_aload_n dX8_next_177 rfl ?_
                      refine go_gfr dX8_next_178 fl_8_51 rfl (ms_lt hm.1 (by decide)) hm.1.1.2 hm.1.2.1.2.2.2.2.2.2.2.2.2.2.2.2.1 ?_
                      refine go_iconst (2) dX8_next_181 rfl ?_
                      refine go_ia dX8_next_182 hm.1.2.2.2.2.2.2.2.2.2.2.2.2.2.2.1 (ms_lt hm.1 (by decide)) (by decide) ?_
                      rw [show (2 : Int32).toNatClampNeg = 2 from rfl, i_sa_s, (show mix (fun _ => (0 : Int32)) (bw_i g 73) 3 2 = 0 from rfl)]
                      refine go_goto (pc' := 188) dX8_next_183 rfl ?_
                      show bw_go _ _ _ _ _ _ _ 188 [(7, .int _), (6, .int _), (5, .int _), (4, .int _), (3, .int _), (0, .ref _), (1, .int _), (2, .int _)] ((.int _) :: []) _ _
                      refine go_istore dX8_next_188 (Nat.lt_of_lt_of_le (Nat.lt_succ_self _) (Nat.le_of_ble_eq_true rfl)) ?_
                      show bw_go _ _ _ _ _ _ _ 190 [(7, .int _), (6, .int _), (5, .int _), (4, .int _), (3, .int _), (0, .ref _), (1, .int _), (2, .int _)] ([]) _ _
                      refine go_iload dX8_next_190 rfl ?_
                      refine go_if_le (pc' := 207) dX8_next_192 rfl (fun _ => ?_) (fun c => absurd (by decide) c)
                      show bw_go _ _ _ _ _ _ _ 207 [(7, .int _), (6, .int _), (5, .int _), (4, .int _), (3, .int _), (0, .ref _), (1, .int _), (2, .int _)] ([]) _ _
                      refine go_iload_n dX8_next_207 rfl ?_
                      refine go_istore_n dX8_next_208 (Nat.lt_of_lt_of_le (Nat.lt_succ_self _) (Nat.le_of_ble_eq_true rfl)) ?_
                      show bw_go _ _ _ _ _ _ _ 209 [(3, .int _), (7, .int _), (6, .int _), (5, .int _), (4, .int _), (0, .ref _), (1, .int _), (2, .int _)] ([]) _ _
                      refine go_iload dX8_next_209 rfl ?_
                      refine go_if_le (pc' := 226) dX8_next_211 rfl (fun _ => ?_) (fun c => absurd (by decide) c)
                      show bw_go _ _ _ _ _ _ _ 226 [(3, .int _), (7, .int _), (6, .int _), (5, .int _), (4, .int _), (0, .ref _), (1, .int _), (2, .int _)] ([]) _ _
                      refine go_iload dX8_next_226 rfl ?_
                      refine go_istore dX8_next_228 (Nat.lt_of_lt_of_le (Nat.lt_succ_self _) (Nat.le_of_ble_eq_true rfl)) ?_
                      show bw_go _ _ _ _ _ _ _ 230 [(4, .int _), (3, .int _), (7, .int _), (6, .int _), (5, .int _), (0, .ref _), (1, .int _), (2, .int _)] ([]) _ _
                      refine go_iinc dX8_next_230 rfl (nI_1 k) (Nat.lt_of_lt_of_le (Nat.lt_succ_self _) (Nat.le_of_ble_eq_true rfl)) ?_
                      show bw_go _ _ _ _ _ _ _ 233 [(5, .int _), (4, .int _), (3, .int _), (7, .int _), (6, .int _), (0, .ref _), (1, .int _), (2, .int _)] ([]) _ _
                      refine go_goto (pc' := 22) dX8_next_233 rfl ?_
                      refine go_ls [(5, .int _), (4, .int _), (3, .int _), (0, .ref _), (1, .int _), (2, .int _)] (by show List.Nodup ([5, 4, 3, 0, 1, 2] : List Nat); decide) (by show List.Nodup ([5, 4, 3, 7, 6, 0, 1, 2] : List Nat); decide) (le_cons rfl (le_cons rfl (le_cons rfl (le_cons rfl (le_cons rfl (le_cons rfl (le_nil _))))))) ?_
                      have e1 : mnx (nowC S) (lA S (nI j)) (lB S (nI j)) (k + 1) = if 0 < trc (lA S (nI j)) (lB S (nI j)) ∧ k % 8 < 6 ∧ gpt (nowC S) (lA S (nI j)) (lB S (nI j)) (k / 8) (k % 8) < (mnx (nowC S) (lA S (nI j)) (lB S (nI j)) k).2 then (some k, gpt (nowC S) (lA S (nI j)) (lB S (nI j)) (k / 8) (k % 8)) else (mnx (nowC S) (lA S (nI j)) (lB S (nI j)) k) := rfl
                      rw [if_neg (fun z => hx6 z.2.1)] at e1
                      first
                      | (exfalso; have l_0 := i_0; simp only [i_le] at c_192; omega)
                      | (exfalso; have l_0 := i_0; simp only [i_le] at c_211; omega)
                      | (rw [e1] at K; exact K _ ⟨hm73 _, frX_t hf (frX_sa (by decide))⟩)
                  · -- le at 146: no
                    show bw_go _ _ _ _ _ _ _ 149 [(7, .int _), (6, .int _), (5, .int _), (4, .int _), (3, .int _), (0, .ref _), (1, .int _), (2, .int _)] ([]) _ _
                    refine go_aload_n dX8_next_149 rfl ?_
                    refine go_gfr dX8_next_150 fl_8_51 rfl (ms_lt hm.1 (by decide)) hm.1.1.2 hm.1.2.1.2.2.2.2.2.2.2.2.2.2.2.2.1 ?_
                    refine go_iconst (0) dX8_next_153 rfl ?_
                    refine go_ia dX8_next_154 hm.1.2.2.2.2.2.2.2.2.2.2.2.2.2.2.1 (ms_lt hm.1 (by decide)) (by decide) ?_
                    rw [show (0 : Int32).toNatClampNeg = 0 from rfl, i_sa_s, (show mix (fun _ => (0 : Int32)) (bw_i g 73) 3 0 = 0 from rfl)]
                    refine go_goto (pc' := 164) dX8_next_155 rfl ?_
                    show bw_go _ _ _ _ _ _ _ 164 [(7, .int _), (6, .int _), (5, .int _), (4, .int _), (3, .int _), (0, .ref _), (1, .int _), (2, .int _)] ((.int _) :: []) _ _
                    first | rw [show (1 : Int32).toNatClampNeg = 1 from rfl, i_sa_s, (show mix (fun _ => (0 : Int32)) (bw_i g 73) 3 1 = 0 from rfl)] | skip
                    refine go_istore dX8_next_164 (Nat.lt_of_lt_of_le (Nat.lt_succ_self _) (Nat.le_of_ble_eq_true rfl)) ?_
                    show bw_go _ _ _ _ _ _ _ 166 [(7, .int _), (6, .int _), (5, .int _), (4, .int _), (3, .int _), (0, .ref _), (1, .int _), (2, .int _)] ([]) _ _
                    refine go_aload_n dX8_next_166 rfl ?_
                    refine go_gfr dX8_next_167 fl_8_51 rfl (ms_lt hm.1 (by decide)) hm.1.1.2 hm.1.2.1.2.2.2.2.2.2.2.2.2.2.2.2.1 ?_
                    refine go_iconst (2) dX8_next_170 rfl ?_
                    refine go_ia dX8_next_171 hm.1.2.2.2.2.2.2.2.2.2.2.2.2.2.2.1 (ms_lt hm.1 (by decide)) (by decide) ?_
                    rw [show (2 : Int32).toNatClampNeg = 2 from rfl, i_sa_s, (show mix (fun _ => (0 : Int32)) (bw_i g 73) 3 2 = 0 from rfl)]
                    refine go_iload dX8_next_172 rfl ?_
                    refine go_icmp_le (pc' := 186) dX8_next_174 rfl (fun c_174 => ?_) (fun c_174 => ?_)
                    · -- le at 174: yes
                      show bw_go _ _ _ _ _ _ _ 186 [(7, .int _), (6, .int _), (5, .int _), (4, .int _), (3, .int _), (0, .ref _), (1, .int _), (2, .int _)] ([]) _ _
                      refine go_iload dX8_next_186 rfl ?_
                      refine go_istore dX8_next_188 (Nat.lt_of_lt_of_le (Nat.lt_succ_self _) (Nat.le_of_ble_eq_true rfl)) ?_
                      show bw_go _ _ _ _ _ _ _ 190 [(7, .int _), (6, .int _), (5, .int _), (4, .int _), (3, .int _), (0, .ref _), (1, .int _), (2, .int _)] ([]) _ _
                      refine go_iload dX8_next_190 rfl ?_
                      refine go_if_le (pc' := 207) dX8_next_192 rfl (fun _ => ?_) (fun c => absurd (by decide) c)
                      show bw_go _ _ _ _ _ _ _ 207 [(7, .int _), (6, .int _), (5, .int _), (4, .int _), (3, .int _), (0, .ref _), (1, .int _), (2, .int _)] ([]) _ _
                      refine go_iload_n dX8_next_207 rfl ?_
                      refine go_istore_n dX8_next_208 (Nat.lt_of_lt_of_le (Nat.lt_succ_self _) (Nat.le_of_ble_eq_true rfl)) ?_
                      show bw_go _ _ _ _ _ _ _ 209 [(3, .int _), (7, .int _), (6, .int _), (5, .int _), (4, .int _), (0, .ref _), (1, .int _), (2, .int _)] ([]) _ _
                      refine go_iload dX8_next_209 rfl ?_
                      refine go_if_le (pc' := 226) dX8_next_211 rfl (fun _ => ?_) (fun c => absurd (by decide) c)
                      show bw_go _ _ _ _ _ _ _ 226 [(3, .int _), (7, .int _), (6, .int _), (5, .int _), (4, .int _), (0, .ref _), (1, .int _), (2, .int _)] ([]) _ _
                      refine go_iload dX8_next_226 rfl ?_
                      refine go_istore dX8_next_228 (Nat.lt_of_lt_of_le (Nat.lt_succ_self _) (Nat.le_of_ble_eq_true rfl)) ?_
                      show bw_go _ _ _ _ _ _ _ 230 [(4, .int _), (3, .int _), (7, .int _), (6, .int _), (5, .int _), (0, .ref _), (1, .int _), (2, .int _)] ([]) _ _
                      refine go_iinc dX8_next_230 rfl (nI_1 k) (Nat.lt_of_lt_of_le (Nat.lt_succ_self _) (Nat.le_of_ble_eq_true rfl)) ?_
                      show bw_go _ _ _ _ _ _ _ 233 [(5, .int _), (4, .int _), (3, .int _), (7, .int _), (6, .int _), (0, .ref _), (1, .int _), (2, .int _)] ([]) _ _
                      refine go_goto (pc' := 22) dX8_next_233 rfl ?_
                      refine go_ls [(5, .int _), (4, .int _), (3, .int _), (0, .ref _), (1, .int _), (2, .int _)] (by show List.Nodup ([5, 4, 3, 0, 1, 2] : List Nat); decide) (by show List.Nodup ([5, 4, 3, 7, 6, 0, 1, 2] : List Nat); decide) (le_cons rfl (le_cons rfl (le_cons rfl (le_cons rfl (le_cons rfl (le_cons rfl (le_nil _))))))) ?_
                      have e1 : mnx (nowC S) (lA S (nI j)) (lB S (nI j)) (k + 1) = if 0 < trc (lA S (nI j)) (lB S (nI j)) ∧ k % 8 < 6 ∧ gpt (nowC S) (lA S (nI j)) (lB S (nI j)) (k / 8) (k % 8) < (mnx (nowC S) (lA S (nI j)) (lB S (nI j)) k).2 then (some k, gpt (nowC S) (lA S (nI j)) (lB S (nI j)) (k / 8) (k % 8)) else (mnx (nowC S) (lA S (nI j)) (lB S (nI j)) k) := rfl
                      rw [if_neg (fun z => hx6 z.2.1)] at e1
                      first
                      | (exfalso; have l_0 := i_0; simp only [i_le] at c_192; omega)
                      | (exfalso; have l_0 := i_0; simp only [i_le] at c_211; omega)
                      | (rw [e1] at K; exact K _ ⟨hm73 _, frX_t hf (frX_sa (by decide))⟩)
                    · -- le at 174: no
                      show bw_go _ _ _ _ _ _ _ 177 [(7, .int _), (6, .int _), (5, .int _), (4, .int _), (3, .int _), (0, .ref _), (1, .int _), (2, .int _)] ([]) _ _
                      refine go_aload_n dX8_next_177 rfl ?_
                      refine go_gfr dX8_next_178 fl_8_51 rfl (ms_lt hm.1 (by decide)) hm.1.1.2 hm.1.2.1.2.2.2.2.2.2.2.2.2.2.2.2.1 ?_
                      refine go_iconst (2) dX8_next_181 rfl ?_
                      refine go_ia dX8_next_182 hm.1.2.2.2.2.2.2.2.2.2.2.2.2.2.2.1 (ms_lt hm.1 (by decide)) (by decide) ?_
                      rw [show (2 : Int32).toNatClampNeg = 2 from rfl, i_sa_s, (show mix (fun _ => (0 : Int32)) (bw_i g 73) 3 2 = 0 from rfl)]
                      refine go_goto (pc' := 188) dX8_next_183 rfl ?_
                      show bw_go _ _ _ _ _ _ _ 188 [(7, .int _), (6, .int _), (5, .int _), (4, .int _), (3, .int _), (0, .ref _), (1, .int _), (2, .int _)] ((.int _) :: []) _ _
                      refine go_istore dX8_next_188 (Nat.lt_of_lt_of_le (Nat.lt_succ_self _) (Nat.le_of_ble_eq_true rfl)) ?_
                      show bw_go _ _ _ _ _ _ _ 190 [(7, .int _), (6, .int _), (5, .int _), (4, .int _), (3, .int _), (0, .ref _), (1, .int _), (2, .int _)] ([]) _ _
                      refine go_iload dX8_next_190 rfl ?_
                      refine go_if_le (pc' := 207) dX8_next_192 rfl (fun _ => ?_) (fun c => absurd (by decide) c)
                      show bw_go _ _ _ _ _ _ _ 207 [(7, .int _), (6, .int _), (5, .int _), (4, .int _), (3, .int _), (0, .ref _), (1, .int _), (2, .int _)] ([]) _ _
                      refine go_iload_n dX8_next_207 rfl ?_
                      refine go_istore_n dX8_next_208 (Nat.lt_of_lt_of_le (Nat.lt_succ_self _) (Nat.le_of_ble_eq_true rfl)) ?_
                      show bw_go _ _ _ _ _ _ _ 209 [(3, .int _), (7, .int _), (6, .int _), (5, .int _), (4, .int _), (0, .ref _), (1, .int _), (2, .int _)] ([]) _ _
                      refine go_iload dX8_next_209 rfl ?_
                      refine go_if_le (pc' := 226) dX8_next_211 rfl (fun _ => ?_) (fun c => absurd (by decide) c)
                      show bw_go _ _ _ _ _ _ _ 226 [(3, .int _), (7, .int _), (6, .int _), (5, .int _), (4, .int _), (0, .ref _), (1, .int _), (2, .int _)] ([]) _ _
                      refine go_iload dX8_next_226 rfl ?_
                      refine go_istore dX8_next_228 (Nat.lt_of_lt_of_le (Nat.lt_succ_self _) (Nat.le_of_ble_eq_true rfl)) ?_
                      show bw_go _ _ _ _ _ _ _ 230 [(4, .int _), (3, .int _), (7, .int _), (6, .int _), (5, .int _), (0, .ref _), (1, .int _), (2, .int _)] ([]) _ _
                      refine go_iinc dX8_next_230 rfl (nI_1 k) (Nat.lt_of_lt_of_le (Nat.lt_succ_self _) (Nat.le_of_ble_eq_true rfl)) ?_
                      show bw_go _ _ _ _ _ _ _ 233 [(5, .int _), (4, .int _), (3, .int _), (7, .int _), (6, .int _), (0, .ref _), (1, .int _), (2, .int _)] ([]) _ _
                      refine go_goto (pc' := 22) dX8_next_233 rfl ?_
                      refine go_ls [(5, .int _), (4, .int _), (3, .int _), (0, .ref _), (1, .int _), (2, .int _)] (by show List.Nodup ([5, 4, 3, 0, 1, 2] : List Nat); decide) (by show List.Nodup ([5, 4, 3, 7, 6, 0, 1, 2] : List Nat); decide) (le_cons rfl (le_cons rfl (le_cons rfl (le_cons rfl (le_cons rfl (le_cons rfl (le_nil _))))))) ?_
                      have e1 : mnx (nowC S) (lA S (nI j)) (lB S (nI j)) (k + 1) = if 0 < trc (lA S (nI j)) (lB S (nI j)) ∧ k % 8 < 6 ∧ gpt (nowC S) (lA S (nI j)) (lB S (nI j)) (k / 8) (k % 8) < (mnx (nowC S) (lA S (nI j)) (lB S (nI j)) k).2 then (some k, gpt (nowC S) (lA S (nI j)) (lB S (nI j)) (k / 8) (k % 8)) else (mnx (nowC S) (lA S (nI j)) (lB S (nI j)) k) := rfl
                      rw [if_neg (fun z => hx6 z.2.1)] at e1
                      first
                      | (exfalso; have l_0 := i_0; simp only [i_le] at c_192; omega)
                      | (exfalso; have l_0 := i_0; simp only [i_le] at c_211; omega)
                      | (rw [e1] at K; exact K _ ⟨hm73 _, frX_t hf (frX_sa (by decide))⟩)
                · -- eq at 80: no
                  exact absurd (show k % 8 < 6 from by have z2 := of_decide_eq_true (show decide (0 ≤ (nI (k % 8)).toInt ∧ (nI (k % 8)).toInt < (6 : Nat)) = true from c_80); rw [nI_toInt (by omega)] at z2; omega) hx6
          · -- ge at 45: no
            exfalso; have t_0 := nI_toInt (n := 3) (by omega); have l_0 : (3 : Int32).toInt = 3 := rfl; simp only [i_le, i_lt, i_eq, bi_eq] at c_45; omega
    · -- behind the last
      intro g hv0
      obtain ⟨hm, hf⟩ := hv0
      have hv := mr_v hm
      show bw_go _ _ _ _ _ _ _ 22 [(5, .int _), (4, .int _), (3, .int _), (0, .ref _), (1, .int _), (2, .int _)] ([]) _ _
      refine go_iload dX8_next_22 rfl ?_
      refine go_bipush (8) dX8_next_24 rfl ?_
      refine go_aload_n dX8_next_26 rfl ?_
      refine go_gfr dX8_next_27 fl_8_7 rfl (ms_lt hm.1 (by decide)) hm.1.1.2 hm.1.2.1.1 ?_
      refine go_iconst (0) dX8_next_30 rfl ?_
      refine go_ia dX8_next_31 hm.1.2.2.1 (ms_lt hm.1 (by decide)) (by decide) ?_
      rw [show (0 : Int32).toNatClampNeg = 0 from rfl, hv.1, show (8 : Int32) = nI 8 from rfl]
      refine go_imul dX8_next_32 ?_
      rw [nmul]
      refine go_icmp_ge (pc' := 236) dX8_next_33 rfl (fun c_33 => ?_) (fun c_33 => ?_)
      · -- ge at 33: yes
        have hn8 : 8 * cN (nowC S) = (8 * cN (nowC S) - 1) + 1 := by omega
        by_cases htr : trc (lA S (nI j)) (lB S (nI j)) = 0
        · rw [mnx_0 htr, show mtI none = -9 from rfl]
          refine go_iload_n dX8_next_236 rfl ?_
          refine go_bipush (-9) dX8_next_237 rfl ?_
          refine go_icmp_ne (pc' := 246) dX8_next_239 rfl (fun c_239 => ?_) (fun c_239 => ?_)
          · -- ne at 239: yes
            exact absurd rfl c_239
          · -- ne at 239: no
            show bw_go _ _ _ _ _ _ _ 242 [(5, .int _), (4, .int _), (3, .int _), (0, .ref _), (1, .int _), (2, .int _)] ([]) _ _
            refine go_iconst (0) dX8_next_242 rfl ?_
            refine go_goto (pc' := 252) dX8_next_243 rfl ?_
            show bw_go _ _ _ _ _ _ _ 252 [(5, .int _), (4, .int _), (3, .int _), (0, .ref _), (1, .int _), (2, .int _)] ((.int _) :: []) _ _
            refine go_istore dX8_next_252 (Nat.lt_of_lt_of_le (Nat.lt_succ_self _) (Nat.le_of_ble_eq_true rfl)) ?_
            show bw_go _ _ _ _ _ _ _ 254 [(5, .int _), (4, .int _), (3, .int _), (0, .ref _), (1, .int _), (2, .int _)] ([]) _ _
            refine go_iload_n dX8_next_254 rfl ?_
            refine go_iret dX8_next_255 rfl rfl ?_
            refine q_m hQ ?_ hm hf
            unfold yNext
            rw [if_pos c_7, if_pos htr]
        · obtain ⟨z1, z2⟩ := mnx_p (C := nowC S) ha (show 0 < trc (lA S (nI j)) (lB S (nI j)) by omega) (8 * cN (nowC S) - 1)
          rw [← hn8] at z1 z2
          have nb := (nxf_b (C := nowC S) (b := lB S (nI j)) ha (8 * cN (nowC S))).1
          rw [z1, z2, show mtI (some (nxf (nowC S) (lA S (nI j)) (lB S (nI j)) (8 * cN (nowC S))).1) = nI (nxf (nowC S) (lA S (nI j)) (lB S (nI j)) (8 * cN (nowC S))).1 from rfl]
          refine go_iload_n dX8_next_236 rfl ?_
          refine go_bipush (-9) dX8_next_237 rfl ?_
          refine go_icmp_ne (pc' := 246) dX8_next_239 rfl (fun c_239 => ?_) (fun c_239 => ?_)
          · -- ne at 239: yes
            show bw_go _ _ _ _ _ _ _ 246 [(5, .int _), (4, .int _), (3, .int _), (0, .ref _), (1, .int _), (2, .int _)] ([]) _ _
            refine go_aload_n dX8_next_246 rfl ?_
            refine go_iload dX8_next_247 rfl ?_
            refine go_cv (as := [.int _]) 0 dX8_next_249 mt_8_87 (Or.inl rfl) rfl rfl (ms_lt hm.1 (by decide)) hm.1.1.2 (Nat.le_of_ble_eq_true rfl) (Nat.le_of_ble_eq_true rfl) (Nat.le_of_ble_eq_true rfl) (Nat.le_of_ble_eq_true rfl) (Nat.le_of_ble_eq_true rfl) ?_
            refine me_X8_asks hm (fun g2 hg2 hf2 => ?_)
            show bw_go _ _ _ _ _ _ _ 252 [(5, .int _), (4, .int _), (3, .int _), (0, .ref _), (1, .int _), (2, .int _)] ((.int _) :: []) _ _
            refine go_istore dX8_next_252 (Nat.lt_of_lt_of_le (Nat.lt_succ_self _) (Nat.le_of_ble_eq_true rfl)) ?_
            show bw_go _ _ _ _ _ _ _ 254 [(5, .int _), (4, .int _), (3, .int _), (0, .ref _), (1, .int _), (2, .int _)] ([]) _ _
            refine go_iload_n dX8_next_254 rfl ?_
            refine go_iret dX8_next_255 rfl rfl ?_
            refine q_m hQ ?_ hg2 (frX_t hf hf2)
            unfold yNext
            rw [if_pos c_7, if_neg htr]
          · -- ne at 239: no
            exfalso; have z : nI (nxf (nowC S) (lA S (nI j)) (lB S (nI j)) (8 * cN (nowC S))).1 = -9 := Decidable.of_not_not c_239; have t_0 := nI_toInt (n := (nxf (nowC S) (lA S (nI j)) (lB S (nI j)) (8 * cN (nowC S))).1) (by omega); rw [z, show (-9 : Int32).toInt = -9 from rfl] at t_0; omega
      · -- ge at 33: no
        exfalso; have t_0 := nI_toInt (n := 8 * cN (nowC S)) (by omega); simp only [i_le, i_lt, i_eq, bi_eq] at c_33; omega
  · -- eq at 7: no
    show bw_go _ _ _ _ _ _ _ 10 [(2, .int _), (0, .ref _), (1, .int _)] ([]) _ _
    refine go_iload_n dX8_next_10 rfl ?_
    refine go_iret dX8_next_11 rfl rfl ?_
    refine q_m hQ ?_ hg hf
    unfold yNext
    rw [if_neg c_7]
