/-! the reference: a court -/
def n1F (F N : Nat → Int32) : Nat → Int32 := bgF (bw_up (mix F N 26) 26 0)
theorem n1_lo {F N : Nat → Int32} {x : Nat} (h : x < 26) : n1F F N x = F x := by
  unfold n1F bgF
  rw [bw_up_o (by omega), bgk_lo (by omega), bw_up_o (by omega)]
  exact if_pos h
theorem n1_26 {F N : Nat → Int32} : n1F F N 26 = 0 := by
  unfold n1F bgF
  rw [bw_up_o (by decide), bgk_lo (by decide), bw_up_s]
theorem n1_79 {F N : Nat → Int32} : n1F F N 79 = 0 := by unfold n1F bgF; exact bw_up_s _ _ _
theorem n1_e {F N : Nat → Int32} {i : Nat} (h : i < 6) : n1F F N (67 + i) = F (8 + i) := by
  unfold n1F bgF
  rw [bw_up_o (by omega)]
  unfold bgk
  rw [if_pos (by omega), show 67 + i - 67 = i by omega, bw_up_o (by omega)]
  exact if_pos (by omega)
theorem n1_w {F N : Nat → Int32} {i : Nat} (h : i < 6) : n1F F N (73 + i) = F (14 + i) := by
  unfold n1F bgF
  rw [bw_up_o (by omega)]
  unfold bgk
  rw [if_neg (by omega), if_pos (by omega), show 73 + i - 73 = i by omega, bw_up_o (by omega)]
  exact if_pos (by omega)
theorem mcr_new {F N : Nat → Int32} {C : CT} (h : maw F C) (h6 : cN C ≤ 6) (w0 : cW C = 0) (t0 : cT C = 0) : mcr (n1F F N) (nwA C) := by
  obtain ⟨h1, h2, h3⟩ := h
  unfold mcr
  rw [show hsT (nwA C) (cT (nwA C).1) = C from nw_e w0 t0]
  refine ⟨⟨?_, ?_, ?_, fun i hi => ?_⟩, ?_, fun i hi => ?_, fun k hk => ?_⟩
  · rw [n1_lo (by decide)]; exact h1
  · rw [n1_lo (by decide)]; exact h2
  · rw [n1_79, w0]; rfl
  · obtain ⟨g1, g2, g3, g4⟩ := h3 i hi
    rw [n1_lo (by omega), n1_e (by omega), n1_w (by omega), n1_lo (by omega)]
    exact ⟨g1, g2, g3, g4⟩
  · rw [n1_26, show cT (nwA C).1 = 0 from t0]; rfl
  · have hi : i < cN C := hi
    obtain ⟨g1, g2, g3, g4⟩ := h3 i hi
    rw [n1_lo (by omega), n1_lo (by omega)]
    exact ⟨g2, g3⟩
  · exact absurd hk (by rw [show cT (nwA C).1 = 0 from t0]; exact Nat.not_lt_zero k)
theorem mr_flg {h g : bw_H} {S : ST} (hm : MR h S) (e : bw_i g 60 = bw_i h 60) (e2 : bw_l g 60 = bw_l h 60) : mFlg g S := by
  unfold mFlg; rw [e, e2]; exact hm.2.2.2.2.2.2.1
theorem tsp_le {T : TX} {p : Nat} (h : p < T.1) : tsp T (p + 1) ≤ T.1 := by
  cases q1 : fg T 9 (p + 1) with
  | none => rw [(tsv_n1 q1).2]; exact h
  | some a =>
    have z := (fg_hr (by decide) q1).1
    cases q2 : fg T 9 (p + 1 + 1) with
    | none => rw [(tsv_n2 q1 q2).2]; exact z
    | some b => rw [(tsv_s q1 q2).2]; exact h
theorem brp_le {T : TX} {n p : Nat} (h : p ≤ T.1) : brp T n p ≤ T.1 := by
  by_cases hn : n < 6
  · cases h1 : kol (by8 T p) with
    | none => rw [(brv_b h1).2]; exact h
    | some k2 =>
      have z4 := (kol_lt h1).1
      cases h2 : fg T 2 (p + 1) with
      | none => rw [(brv_c hn h1 h2).2]; exact z4
      | some e2 =>
        have z5 := (fg_hr (by decide) h2).1
        cases h3 : fg T 9 (p + 2) with
        | none => rw [(brv_d hn h1 h2 h3).2]; exact z5
        | some w2 =>
          have z6 := (fg_hr (by decide) h3).1
          have e : brp T n p = tsp T (p + 3) := by unfold brp; rw [if_pos hn, h1]; simp only; rw [h2]; simp only; rw [h3]
          rw [e]
          exact tsp_le z6
  · rw [(brv_a hn).2]; exact h
theorem lpf_b {T : TX} : ∀ (k i : Nat) (C : CT) (p q : Nat), p ≤ T.1 → (lpf T k i (C, p, none)).2.2 = some q → q ≤ T.1
  | 0, _, _, _, _, _, h => by cases h
  | k + 1, i, C, p, q, hp, h => by
    by_cases hc : i = 0 ∨ p < T.1
    · cases hb : brv T (cN C) p with
      | none =>
        rw [lpf_n hc hb] at h
        cases h
        exact brp_le hp
      | some x =>
        obtain ⟨kk, e, w, v⟩ := x
        rw [lpf_s hc hb] at h
        have z := (brv_bd hb).2.2.2.2.2.2
        exact lpf_b k (i + 1) _ _ q (skp_le T _ (p + 5) rfl z).2 h
    · rw [show lpf T (k + 1) i (C, p, none) = (C, p, none) from if_neg (fun z => hc z.2)] at h
      cases h
theorem rdt_b {T : TX} {q m : Nat} (hT : T.1 ≤ m) (h : (rdt T).2.2 = some q) : q ≤ m := by
  have hs := skp_le T _ 0 rfl (Nat.zero_le _)
  cases e : frv T with
  | none =>
    rw [rdt_n e] at h
    cases h
    unfold frp
    split
    · rename_i z
      exact Nat.le_trans (tsp_le (by8_lt (fun z2 => by rw [z] at z2; cases z2))) hT
    · exact Nat.le_trans hs.2 hT
  | some v =>
    rw [rdt_s e] at h
    have h3 : skp T 0 + 3 ≤ T.1 := by
      unfold frv at e
      split at e
      · cases q1 : fg T 9 (skp T 0 + 1) with
        | none => rw [(tsv_n1 q1).1] at e; cases e
        | some a =>
          cases q2 : fg T 9 (skp T 0 + 1 + 1) with
          | none => rw [(tsv_n2 q1 q2).1] at e; cases e
          | some b => have := (fg_hr (by decide) q2).1; omega
      · cases e
    exact Nat.le_trans (lpf_b 7 0 _ _ q (skp_le T _ _ rfl h3).2 h) hT
set_option maxRecDepth 100000 in
set_option maxHeartbeats 4000000 in
theorem me_X8_court {X : Nat × (Nat → Int32)} {Q : Option Value → bw_H → Prop} {h : bw_H} {S : ST} {r : Int32} (hm : MR h S) (hQ : PM h Q (yCourt r S)) : bw_me X 5 bm_X8_court false [.ref 60, .int r] h Q := by
  show bw_go _ 5 8 3 false (some .int) cX8_court 0 [(0, .ref _), (1, .int _)] [] _ _
  refine go_iload_n dX8_court_0 rfl ?_
  refine go_cs (as := [.int _]) 1 dX8_court_1 rfl rfl mt_8_90 (Nat.le_of_ble_eq_true rfl) rfl rfl (Nat.le_of_ble_eq_true rfl) (Nat.le_of_ble_eq_true rfl) (Nat.le_of_ble_eq_true rfl) (Nat.le_of_ble_eq_true rfl) ?_
  refine me_X8_isText ?_
  show bw_go _ _ _ _ _ _ _ 4 [(0, .ref _), (1, .int _)] ((.int _) :: []) _ _
  refine go_ifb_ne (pc' := 9) dX8_court_4 rfl (fun c_4 => ?_) (fun c_4 => ?_)
  · -- ne at 4: yes
    show bw_go _ _ _ _ _ _ _ 9 [(0, .ref _), (1, .int _)] ([]) _ _
    obtain ⟨j, hj, rfl⟩ := isn_ex (r := r) (num := 4) c_4 (by decide)
    refine go_aload_n dX8_court_9 rfl ?_
    refine go_gfr dX8_court_10 fl_8_29 rfl (ms_lt hm.1 (by decide)) hm.1.1.2 hm.1.2.1.2.2.2.2.2.2.1 ?_
    refine go_iload_n dX8_court_13 rfl ?_
    refine go_ia dX8_court_14 hm.1.2.2.2.2.2.2.2.2.1 (ms_lt hm.1 (by decide)) (n_in (N := 4) hj (by decide)) ?_
    rw [nI_clamp (by omega), (hm.2.2.2.2.1 j hj).1]
    refine go_if_ge (pc' := 24) dX8_court_15 rfl (fun c_15 => ?_) (fun c_15 => ?_)
    · -- ge at 15: yes
      show bw_go _ _ _ _ _ _ _ 24 [(0, .ref _), (1, .int _)] ([]) _ _
      obtain ⟨m, em, hml⟩ := oz_some (hm.2.2.2.2.1 j hj).2.1 (by decide) c_15
      refine go_aload_n dX8_court_24 rfl ?_
      refine go_iload_n dX8_court_25 rfl ?_
      refine go_cv (as := [.int _]) 4 dX8_court_26 mt_8_122 (Or.inl rfl) rfl rfl (ms_lt hm.1 (by decide)) hm.1.1.2 (Nat.le_of_ble_eq_true rfl) (Nat.le_of_ble_eq_true rfl) (Nat.le_of_ble_eq_true rfl) (Nat.le_of_ble_eq_true rfl) (Nat.le_of_ble_eq_true rfl) ?_
      refine me_X8_faultOf hm.1 (mr_tx hm hj em) (fun F b hF => ?_)
      have hmt : ∀ p, (rdt (m, sTc S j)).2.2 = some p → ¬ mtI (some p) = -9 := fun p e z => by
        have hp := rdt_b (T := (m, sTc S j)) hml e
        have t_0 := nI_toInt (n := p) (by omega)
        have z2 : nI p = -9 := z
        rw [z2, show (-9 : Int32).toInt = -9 from rfl] at t_0
        omega
      show bw_go _ _ _ _ _ _ _ 29 [(0, .ref _), (1, .int _)] ((.int _) :: []) _ _
      refine go_bipush (-9) dX8_court_29 rfl ?_
      refine go_icmp_eq (pc' := 37) dX8_court_31 rfl (fun c_31 => ?_) (fun c_31 => ?_)
      · -- eq at 31: yes
        show bw_go _ _ _ _ _ _ _ 37 [(0, .ref _), (1, .int _)] ([]) _ _
        have e9 : (rdt (m, sTc S j)).2.2 = none := by
          cases e : (rdt (m, sTc S j)).2.2 with
          | none => rfl
          | some p => rw [e] at c_31; exact absurd c_31 (hmt p e)
        obtain ⟨hw, hck, hpos⟩ := hF e9
        obtain ⟨z1, z2⟩ := rdt_z (m, sTc S j)
        have hk6 : cN (rdt (m, sTc S j)).1 ≤ 6 := hck.1
        refine go_iconst (0) dX8_court_37 rfl ?_
        refine go_istore_n dX8_court_38 (Nat.lt_of_lt_of_le (Nat.lt_succ_self _) (Nat.le_of_ble_eq_true rfl)) ?_
        show bw_go _ _ _ _ _ _ _ 39 [(2, .int _), (0, .ref _), (1, .int _)] ([]) _ _
        rw [show (pst h b F) = (bw_sa (pst h b F) 61 (mix F (bw_i h 61) 0)) from by rw [mix_0, ← pst_o (h := h) (a := b) (q := 61) (F := F) (by decide) (by decide)]; exact (sa_id _ _).symm]
        refine go_for (P := fun k => bw_go X 5 8 3 false (some .int) cX8_court 39 [(2, .int (nI k)), (0, .ref (60)), (1, .int (nI j))] [] (bw_sa (pst h b F) 61 (mix F (bw_i h 61) k)) Q) (N := 26) (fun k hk K => ?_) ?_ (0) (Nat.zero_le _)
        · -- a turn
          show bw_go _ _ _ _ _ _ _ 39 [(2, .int _), (0, .ref _), (1, .int _)] ([]) _ _
          refine go_iload_n dX8_court_39 rfl ?_
          refine go_bipush (26) dX8_court_40 rfl ?_
          refine go_icmp_ge (pc' := 63) dX8_court_42 rfl (fun c_42 => ?_) (fun c_42 => ?_)
          · -- ge at 42: yes
            exfalso; have t_0 := nI_toInt (n := k) (by omega); have l_0 : (26 : Int32).toInt = 26 := rfl; simp only [i_le, i_lt, i_eq, bi_eq] at c_42; omega
          · -- ge at 42: no
            show bw_go _ _ _ _ _ _ _ 45 [(2, .int _), (0, .ref _), (1, .int _)] ([]) _ _
            refine go_aload_n dX8_court_45 rfl ?_
            refine go_gfr dX8_court_46 fl_8_7 rfl (ms_lt hm.1 (by decide)) hm.1.1.2 hm.1.2.1.1 ?_
            refine go_iload_n dX8_court_49 rfl ?_
            refine go_aload_n dX8_court_50 rfl ?_
            refine go_gfr dX8_court_51 fl_8_42 rfl (ms_lt hm.1 (by decide)) hm.1.1.2 hm.1.2.1.2.2.2.2.2.2.2.2.2.1 ?_
            refine go_iload_n dX8_court_54 rfl ?_
            refine go_ia dX8_court_55 hm.1.2.2.2.2.2.2.2.2.2.2.2.1 (ms_lt hm.1 (by decide)) (n_in (N := 80) (by omega) (by decide)) ?_
            rw [nI_clamp (by omega), i_sa_o (by decide), pst_f]
            refine go_ist dX8_court_56 hm.1.2.2.1 (ms_lt hm.1 (by decide)) (n_in (N := 80) (by omega) (by decide)) ?_
            show bw_go _ _ _ _ _ _ _ 57 [(2, .int _), (0, .ref _), (1, .int _)] ([]) _ _
            rw [nI_clamp (by omega), si_sa, i_sa_s, sa_sa, mix_s]
            refine go_iinc dX8_court_57 rfl (nI_1 k) (Nat.lt_of_lt_of_le (Nat.lt_succ_self _) (Nat.le_of_ble_eq_true rfl)) ?_
            show bw_go _ _ _ _ _ _ _ 60 [(2, .int _), (0, .ref _), (1, .int _)] ([]) _ _
            refine go_goto (pc' := 39) dX8_court_60 rfl ?_
            exact K
        · -- behind the last
          show bw_go _ _ _ _ _ _ _ 39 [(2, .int _), (0, .ref _), (1, .int _)] ([]) _ _
          refine go_iload_n dX8_court_39 rfl ?_
          refine go_bipush (26) dX8_court_40 rfl ?_
          refine go_icmp_ge (pc' := 63) dX8_court_42 rfl (fun c_42 => ?_) (fun c_42 => ?_)
          · -- ge at 42: yes
            show bw_go _ _ _ _ _ _ _ 63 [(2, .int _), (0, .ref _), (1, .int _)] ([]) _ _
            refine go_aload_n dX8_court_63 rfl ?_
            refine go_gfr dX8_court_64 fl_8_7 rfl (ms_lt hm.1 (by decide)) hm.1.1.2 hm.1.2.1.1 ?_
            refine go_bipush (26) dX8_court_67 rfl ?_
            refine go_iconst (0) dX8_court_69 rfl ?_
            refine go_ist dX8_court_70 hm.1.2.2.1 (ms_lt hm.1 (by decide)) (by decide) ?_
            show bw_go _ _ _ _ _ _ _ 71 [(2, .int _), (0, .ref _), (1, .int _)] ([]) _ _
            rw [show (26 : Int32).toNatClampNeg = 26 from rfl, si_sa, i_sa_s, sa_sa]
            refine go_aload_n dX8_court_71 rfl ?_
            refine go_gfr dX8_court_72 fl_8_7 rfl (ms_lt hm.1 (by decide)) hm.1.1.2 hm.1.2.1.1 ?_
            refine go_cs (as := [.ref _]) 0 dX8_court_75 rfl rfl mt_8_125 (Nat.le_of_ble_eq_true rfl) rfl rfl (Nat.le_of_ble_eq_true rfl) (Nat.le_of_ble_eq_true rfl) (Nat.le_of_ble_eq_true rfl) (Nat.le_of_ble_eq_true rfl) ?_
            refine me_X8_begin (ms_f hm.1 (frX_t (pst_fr h b F) (frX_sa (by decide)))) ?_
            rw [i_sa_s, sa_sa, show bgF (bw_up (mix F (bw_i h 61) 26) 26 0) = n1F F (bw_i h 61) from rfl]
            show bw_go _ _ _ _ _ _ _ 78 [(2, .int _), (0, .ref _), (1, .int _)] ([]) _ _
            refine go_iconst (0) dX8_court_78 rfl ?_
            refine go_istore_n dX8_court_79 (Nat.lt_of_lt_of_le (Nat.lt_succ_self _) (Nat.le_of_ble_eq_true rfl)) ?_
            show bw_go _ _ _ _ _ _ _ 80 [(2, .int _), (0, .ref _), (1, .int _)] ([]) _ _
            rw [show (bw_sa (pst h b F) 61 (n1F F (bw_i h 61))) = (bw_sa (bw_sa (pst h b F) 61 (n1F F (bw_i h 61))) 63 (mix (fun _ => 0) (bw_i h 63) 0)) from by rw [mix_0, ← show bw_i (bw_sa (pst h b F) 61 (n1F F (bw_i h 61))) 63 = bw_i h 63 from by rw [i_sa_o (by decide), pst_o (by decide) (by decide)]]; exact (sa_id _ _).symm]
            refine go_for (P := fun k => bw_go X 5 8 3 false (some .int) cX8_court 80 [(2, .int (nI k)), (0, .ref (60)), (1, .int (nI j))] [] (bw_sa (bw_sa (pst h b F) 61 (n1F F (bw_i h 61))) 63 (mix (fun _ => 0) (bw_i h 63) k)) Q) (N := 3) (fun k hk K => ?_) ?_ (0) (Nat.zero_le _)
            · -- a turn
              show bw_go _ _ _ _ _ _ _ 80 [(2, .int _), (0, .ref _), (1, .int _)] ([]) _ _
              refine go_iload_n dX8_court_80 rfl ?_
              refine go_iconst (3) dX8_court_81 rfl ?_
              refine go_icmp_ge (pc' := 98) dX8_court_82 rfl (fun c_82 => ?_) (fun c_82 => ?_)
              · -- ge at 82: yes
                exfalso; have t_0 := nI_toInt (n := k) (by omega); have l_0 : (3 : Int32).toInt = 3 := rfl; simp only [i_le, i_lt, i_eq, bi_eq] at c_82; omega
              · -- ge at 82: no
                show bw_go _ _ _ _ _ _ _ 85 [(2, .int _), (0, .ref _), (1, .int _)] ([]) _ _
                refine go_aload_n dX8_court_85 rfl ?_
                refine go_gfr dX8_court_86 fl_8_16 rfl (ms_lt hm.1 (by decide)) hm.1.1.2 hm.1.2.1.2.2.1 ?_
                refine go_iload_n dX8_court_89 rfl ?_
                refine go_iconst (0) dX8_court_90 rfl ?_
                refine go_bst dX8_court_91 hm.1.2.2.2.2.1 (ms_lt hm.1 (by decide)) (n_in (N := 3) hk (by decide)) ?_
                show bw_go _ _ _ _ _ _ _ 92 [(2, .int _), (0, .ref _), (1, .int _)] ([]) _ _
                rw [nI_clamp (by omega), show vp_nar .boolean 0 = 0 from rfl, si_sa, i_sa_s, sa_sa, show bw_up (mix (fun _ => 0) (bw_i h 63) k) k 0 = mix (fun _ => 0) (bw_i h 63) (k + 1) from mix_s _ _ _]
                refine go_iinc dX8_court_92 rfl (nI_1 k) (Nat.lt_of_lt_of_le (Nat.lt_succ_self _) (Nat.le_of_ble_eq_true rfl)) ?_
                show bw_go _ _ _ _ _ _ _ 95 [(2, .int _), (0, .ref _), (1, .int _)] ([]) _ _
                refine go_goto (pc' := 80) dX8_court_95 rfl ?_
                exact K
            · -- behind the last
              show bw_go _ _ _ _ _ _ _ 80 [(2, .int _), (0, .ref _), (1, .int _)] ([]) _ _
              refine go_iload_n dX8_court_80 rfl ?_
              refine go_iconst (3) dX8_court_81 rfl ?_
              refine go_icmp_ge (pc' := 98) dX8_court_82 rfl (fun c_82 => ?_) (fun c_82 => ?_)
              · -- ge at 82: yes
                show bw_go _ _ _ _ _ _ _ 98 [(2, .int _), (0, .ref _), (1, .int _)] ([]) _ _
                refine go_aload_n dX8_court_98 rfl ?_
                refine go_gfr dX8_court_99 fl_8_7 rfl (ms_lt hm.1 (by decide)) hm.1.1.2 hm.1.2.1.1 ?_
                refine go_iconst (0) dX8_court_102 rfl ?_
                refine go_ia dX8_court_103 hm.1.2.2.1 (ms_lt hm.1 (by decide)) (by decide) ?_
                rw [show (0 : Int32).toNatClampNeg = 0 from rfl, i_sa_o (by decide), i_sa_s, show n1F F (bw_i h 61) 0 = nI (cN (rdt (m, sTc S j)).1) from (n1_lo (by decide)).trans hw.1]
                refine go_iret dX8_court_104 rfl rfl ?_
                have hmA : MR (bw_sa (pst h b F) 61 (n1F F (bw_i h 61))) (wA S (nwA (rdt (m, sTc S j)).1)) := mr_now (pst_mr hm b F) (frX_sa (by decide)) (fun q h1 h2 => i_sa_o (by omega)) (mr_flg (pst_mr hm b F) (i_sa_o (by decide)) rfl) (by rw [i_sa_s]; exact mcr_new hw hk6 z1 z2) ⟨nw_k z1 z2 hck, fun z => absurd z (by show ¬ cN (rdt (m, sTc S j)).1 = 0; omega)⟩
                refine q_m hQ ?_ (mr_kep (kp := fun _ => none) hmA (frX_sa (by decide)) (fun q h1 h2 h3 h4 => i_sa_o h4) (mr_flg hmA (i_sa_o (by decide)) rfl) (fun k hk => ⟨fun _ => ?_, fun A hA => by cases hA⟩)) (frX_t (pst_fr h b F) (frX_t (frX_sa (by decide)) (frX_sa (by decide))))
                · unfold yCourt
                  rw [if_pos (show isn (nI j) 4 = true from c_4), rn_n (by omega), em]
                  simp only
                  rw [if_pos e9]
                · rw [i_sa_s]; exact if_pos hk
              · -- ge at 82: no
                exfalso; have t_0 := nI_toInt (n := 3) (by omega); have l_0 : (3 : Int32).toInt = 3 := rfl; simp only [i_le, i_lt, i_eq, bi_eq] at c_82; omega
          · -- ge at 42: no
            exfalso; have t_0 := nI_toInt (n := 26) (by omega); have l_0 : (26 : Int32).toInt = 26 := rfl; simp only [i_le, i_lt, i_eq, bi_eq] at c_42; omega
      · -- eq at 31: no
        show bw_go _ _ _ _ _ _ _ 34 [(0, .ref _), (1, .int _)] ([]) _ _
        refine go_bipush (-4) dX8_court_34 rfl ?_
        refine go_iret dX8_court_36 rfl rfl ?_
        have e9 : ¬ (rdt (m, sTc S j)).2.2 = none := fun z => c_31 (by rw [z]; rfl)
        refine q_m hQ ?_ (pst_mr hm _ _) (pst_fr _ _ _)
        unfold yCourt
        rw [if_pos (show isn (nI j) 4 = true from c_4), rn_n (by omega), em]
        simp only
        rw [if_neg e9]
    · -- ge at 15: no
      show bw_go _ _ _ _ _ _ _ 18 [(0, .ref _), (1, .int _)] ([]) _ _
      refine go_aload_n dX8_court_18 rfl ?_
      refine go_iconst (1) dX8_court_19 rfl ?_
      refine go_cv (as := [.int _]) 0 dX8_court_20 mt_8_79 (Or.inl rfl) rfl rfl (ms_lt hm.1 (by decide)) hm.1.1.2 (Nat.le_of_ble_eq_true rfl) (Nat.le_of_ble_eq_true rfl) (Nat.le_of_ble_eq_true rfl) (Nat.le_of_ble_eq_true rfl) (Nat.le_of_ble_eq_true rfl) ?_
      rw [show (1 : Int32) = nI 1 from rfl]
      refine me_X8_finds hm (f := 1) (by decide) (fun g hg hf => ?_)
      show bw_go _ _ _ _ _ _ _ 23 [(0, .ref _), (1, .int _)] ((.int _) :: []) _ _
      refine go_iret dX8_court_23 rfl rfl ?_
      refine q_m hQ ?_ hg hf
      unfold yCourt
      rw [if_pos (show isn (nI j) 4 = true from c_4), rn_n (by omega), oz_none (hm.2.2.2.2.1 j hj).2.1 (by decide) c_15]
  · -- ne at 4: no
    show bw_go _ _ _ _ _ _ _ 7 [(0, .ref _), (1, .int _)] ([]) _ _
    refine go_iconst (-1) dX8_court_7 rfl ?_
    refine go_iret dX8_court_8 rfl rfl ?_
    refine q_m hQ ?_ hm (frX_r h)
    unfold yCourt
    rw [if_neg (fun z => Bool.noConfusion ((show isn r 4 = false from c_4).symm.trans z))]
