/-! Reader: readInto -/
set_option maxRecDepth 100000 in
set_option maxHeartbeats 4000000 in
theorem me_X3_readInto {X : Nat × (Nat → Int32)} {Q : Option Value → bw_H → Prop} {h : bw_H} {r s c num wid j : Nat} {T : TX} (hx : rx h r s num wid j T) (hc : co_s h c) (hp : rsep r s c) (hQ : ∀ I : Nat → Nat → Int32, rf2 h I r c → ((rdt T).2.2 = none → bw_ct (bw_wi h I) c (rdt T).1) → (∀ p, (rdt T).2.2 = some p → p < 1000) → Q (some (.int (mtI (rdt T).2.2))) (bw_wi h I)) : bw_me X 8 bm_X3_readInto false [.ref r, .ref c, .ref s, .int (nI j)] h Q := by
  show bw_go _ 8 3 5 false (some .int) cX3_readInto 0 [(0, .ref _), (1, .ref _), (2, .ref _), (3, .int _)] [] _ _
  refine go_aload_n dX3_readInto_0 rfl ?_
  refine go_iconst (0) dX3_readInto_1 rfl ?_
  refine go_pfi dX3_readInto_2 fl_3_9 rfl hx.1.1 hx.1.2 (Nat.le_of_ble_eq_true rfl) (Or.inl rfl) ?_
  show bw_go _ _ _ _ _ _ _ 5 [(0, .ref _), (1, .ref _), (2, .ref _), (3, .int _)] ([]) _ _
  refine go_aload_n dX3_readInto_5 rfl ?_
  refine go_aload_n dX3_readInto_6 rfl ?_
  refine go_iload_n dX3_readInto_7 rfl ?_
  refine go_cv (as := [.int _]) 1 dX3_readInto_8 mt_3_21 (Or.inr rfl) rfl rfl hx.2.1.1.1 hx.2.1.1.2.1 (Nat.le_of_ble_eq_true rfl) (Nat.le_of_ble_eq_true rfl) (Nat.le_of_ble_eq_true rfl) (Nat.le_of_ble_eq_true rfl) (Nat.le_of_ble_eq_true rfl) ?_
  have hx0 : rx (bw_si h r 0 0) r s num wid j T := rx_si hx
  refine me_X4_sizeOf hx0.2.1 hx0.2.2.1 hx0.2.2.2.1 ?_
  rw [show oz (some T.1) = nI T.1 from rfl]
  show bw_go _ _ _ _ _ _ _ 11 [(0, .ref _), (1, .ref _), (2, .ref _), (3, .int _)] ((.int _) :: (.ref _) :: []) _ _
  refine go_pfi dX3_readInto_11 fl_3_15 rfl hx.1.1 hx.1.2 (Nat.le_of_ble_eq_true rfl) (Or.inl rfl) ?_
  show bw_go _ _ _ _ _ _ _ 14 [(0, .ref _), (1, .ref _), (2, .ref _), (3, .int _)] ([]) _ _
  refine go_aload_n dX3_readInto_14 rfl ?_
  refine go_bipush (-9) dX3_readInto_15 rfl ?_
  refine go_pfi dX3_readInto_17 fl_3_18 rfl hx.1.1 hx.1.2 (Nat.le_of_ble_eq_true rfl) (Or.inl rfl) ?_
  show bw_go _ _ _ _ _ _ _ 20 [(0, .ref _), (1, .ref _), (2, .ref _), (3, .int _)] ([]) _ _
  refine go_aload_n dX3_readInto_20 rfl ?_
  refine go_cv (as := []) 0 dX3_readInto_21 mt_3_27 (Or.inr rfl) rfl rfl hc.1.1 hc.1.2.1 (Nat.le_of_ble_eq_true rfl) (Nat.le_of_ble_eq_true rfl) (Nat.le_of_ble_eq_true rfl) (Nat.le_of_ble_eq_true rfl) (Nat.le_of_ble_eq_true rfl) ?_
  refine me_X1_clear hc (fun I0 f0 => ?_)
  obtain ⟨d0, d1, d2, d3, dof⟩ := f0
  have hs2 := hp
  unfold rsep at hs2
  have hr0 : rfr h (bw_i (bw_si (bw_si (bw_si h r 0 0) r 1 (nI T.1)) r 2 (-9))) r := fun x hx1 => by rw [i_si_o hx1, i_si_o hx1, i_si_o hx1]
  have ar : rst (bw_si (bw_si (bw_si h r 0 0) r 1 (nI T.1)) r 2 (-9)) r T.1 (0, none) := ⟨by rw [i_si_s, bw_up_o (by decide), i_si_s, bw_up_o (by decide), i_si_s, bw_up_s]; rfl, by rw [i_si_s, bw_up_o (by decide), i_si_s, bw_up_s], by rw [i_si_s, bw_up_s]; rfl, Nat.zero_le _, fun p hp1 => by cases hp1⟩
  have xr : rx (bw_si (bw_si (bw_si h r 0 0) r 1 (nI T.1)) r 2 (-9)) r s num wid j T := rx_fr (h := h) (I := bw_i (bw_si (bw_si (bw_si h r 0 0) r 1 (nI T.1)) r 2 (-9))) hx hr0
  have g0 : rf2 h I0 r c := fun x h1 h2 _ _ _ _ => (dof x h2).trans (hr0 x h1)
  have a0 : rst (bw_wi h I0) r T.1 (0, none) := rst_wi (h := (bw_si (bw_si (bw_si h r 0 0) r 1 (nI T.1)) r 2 (-9))) ar (dof r (by omega))
  have x0 : rx (bw_wi h I0) r s num wid j T := rx_f2 hx hp g0
  show bw_go _ _ _ _ _ _ _ _ _ _ (bw_wi h I0) _
  show bw_go _ _ _ _ _ _ _ 24 [(0, .ref _), (1, .ref _), (2, .ref _), (3, .int _)] ([]) _ _
  refine go_aload_n dX3_readInto_24 rfl ?_
  refine go_aload_n dX3_readInto_25 rfl ?_
  refine go_iload_n dX3_readInto_26 rfl ?_
  refine go_cv (as := [.ref _, .int _]) 4 dX3_readInto_27 mt_3_32 (Or.inl rfl) rfl rfl hx.1.1 hx.1.2 (Nat.le_of_ble_eq_true rfl) (Nat.le_of_ble_eq_true rfl) (Nat.le_of_ble_eq_true rfl) (Nat.le_of_ble_eq_true rfl) (Nat.le_of_ble_eq_true rfl) ?_
  refine me_X3_skipBlanks x0 a0 (fun I1 f1 a1 => ?_)
  have x1 : rx (bw_wi h I1) r s num wid j T := rx_fr (h := bw_wi h I0) x0 f1
  have a1 : rst (bw_wi h I1) r T.1 (skp T 0, none) := a1
  have g1 := rf2_t (h := h) g0 (rf2_1 (h := bw_wi h I0) f1)
  show bw_go _ _ _ _ _ _ _ _ _ _ (bw_wi h I1) _
  show bw_go _ _ _ _ _ _ _ 30 [(0, .ref _), (1, .ref _), (2, .ref _), (3, .int _)] ([]) _ _
  refine go_aload_n dX3_readInto_30 rfl ?_
  refine go_aload_n dX3_readInto_31 rfl ?_
  refine go_iload_n dX3_readInto_32 rfl ?_
  refine go_cv (as := [.ref _, .int _]) 4 dX3_readInto_33 mt_3_36 (Or.inl rfl) rfl rfl hx.1.1 hx.1.2 (Nat.le_of_ble_eq_true rfl) (Nat.le_of_ble_eq_true rfl) (Nat.le_of_ble_eq_true rfl) (Nat.le_of_ble_eq_true rfl) (Nat.le_of_ble_eq_true rfl) ?_
  refine me_X3_byteHere (h := bw_wi h I1) x1 a1 ?_
  show bw_go _ _ _ _ _ _ _ 36 [(0, .ref _), (1, .ref _), (2, .ref _), (3, .int _)] ((.int _) :: []) _ _
  refine go_bipush (107) dX3_readInto_36 rfl ?_
  refine go_icmp_eq (pc' := 46) dX3_readInto_38 rfl (fun c_38 => ?_) (fun c_38 => ?_)
  · -- eq at 38: yes
    show bw_go _ _ _ _ _ _ _ 46 [(0, .ref _), (1, .ref _), (2, .ref _), (3, .int _)] ([]) _ _
    refine go_aload_n dX3_readInto_46 rfl ?_
    refine go_dupA dX3_readInto_47 ?_
    refine go_gfi dX3_readInto_48 fl_3_9 rfl hx.1.1 hx.1.2 ?_
    rw [a1.1]
    refine go_iconst (1) dX3_readInto_51 rfl ?_
    
    refine go_iadd dX3_readInto_52 ?_
    rw [nI_1]
    refine go_pfi dX3_readInto_53 fl_3_9 rfl hx.1.1 hx.1.2 (Nat.le_of_ble_eq_true rfl) (Or.inl rfl) ?_
    show bw_go _ _ _ _ _ _ _ 56 [(0, .ref _), (1, .ref _), (2, .ref _), (3, .int _)] ([]) _ _
    have c38 : by8 T (skp T 0) = 107 := c_38
    have l8 : skp T 0 < T.1 := by8_lt (by rw [c38]; decide)
    have a2 : rst (bw_si (bw_wi h I1) r 0 (nI (skp T 0 + 1))) r T.1 (skp T 0 + 1, none) := rst_si0 (h := bw_wi h I1) a1 l8
    have x2 : rx (bw_si (bw_wi h I1) r 0 (nI (skp T 0 + 1))) r s num wid j T := rx_si (h := bw_wi h I1) x1
    refine go_aload_n dX3_readInto_56 rfl ?_
    refine go_aload_n dX3_readInto_57 rfl ?_
    refine go_aload_n dX3_readInto_58 rfl ?_
    refine go_iload_n dX3_readInto_59 rfl ?_
    refine go_cv (as := [.ref _, .int _]) 6 dX3_readInto_60 mt_3_40 (Or.inl rfl) rfl rfl hx.1.1 hx.1.2 (Nat.le_of_ble_eq_true rfl) (Nat.le_of_ble_eq_true rfl) (Nat.le_of_ble_eq_true rfl) (Nat.le_of_ble_eq_true rfl) (Nat.le_of_ble_eq_true rfl) ?_
    refine me_X3_twoFigures x2 a2 (fun I2 f2 a3 => ?_)
    show bw_go _ _ _ _ _ _ _ 63 [(0, .ref _), (1, .ref _), (2, .ref _), (3, .int _)] ((.int _) :: (.ref _) :: []) _ _
    refine go_pfi dX3_readInto_63 fl_3_43 rfl hc.1.1 hc.1.2.1 (Nat.le_of_ble_eq_true rfl) (Or.inl rfl) ?_
    show bw_go _ _ _ _ _ _ _ 66 [(0, .ref _), (1, .ref _), (2, .ref _), (3, .int _)] ([]) _ _
    have g2 : rf2 h I2 r c := rf2_t (h := h) g1 (rf2_1 (h := bw_wi h I1) (fun x h1 => (f2 x h1).trans (i_si_o h1)))
    obtain ⟨I3, hI3⟩ : ∃ I3, I3 = bw_i (bw_si (bw_wi h I2) c 1 (nI (tfg T (skp T 0 + 1, none)).1)) := ⟨_, rfl⟩
    have e3 : bw_si (bw_wi h I2) c 1 (nI (tfg T (skp T 0 + 1, none)).1) = bw_wi h I3 := by rw [hI3]; rfl
    show bw_go _ _ _ _ _ _ _ _ _ _ (bw_si (bw_wi h I2) c 1 (nI (tfg T (skp T 0 + 1, none)).1)) _
    rw [e3]
    have f3 : rf2 (bw_wi h I2) I3 r c := fun x h1 h2 _ _ _ _ => by rw [hI3]; exact i_si_o h2
    have g3 := rf2_t (h := h) g2 f3
    have x3 : rx (bw_wi h I3) r s num wid j T := rx_f2 hx hp g3
    have a3' : rst (bw_wi h I3) r T.1 (tfg T (skp T 0 + 1, none)).2 := rst_wi (h := bw_wi h I2) a3 (by rw [hI3]; exact i_si_o (by omega))
    have ec : I2 c = I0 c := (f2 c (by omega)).trans ((i_si_o (h := bw_wi h I1) (p := c) (by omega)).trans (f1 c (by omega)))
    have d3' : (tfg T (skp T 0 + 1, none)).2.2 = none → bw_ct (bw_wi h I3) c (ct0 (tfg T (skp T 0 + 1, none)).1) := fun z => by
      refine ⟨hc, ⟨?_, ?_, ?_, ?_, fun i hi => absurd hi (Nat.not_lt_zero i)⟩, Nat.zero_le _, tfg_v z, (by decide : 0 < 64), Nat.zero_le _, fun i hi => absurd hi (Nat.not_lt_zero i)⟩
      · rw [i_wi, hI3, i_si_s, bw_up_o (by decide)]; show I2 c 0 = _; rw [ec]; exact d0
      · rw [i_wi, hI3, i_si_s, bw_up_s]; rfl
      · rw [i_wi, hI3, i_si_s, bw_up_o (by decide)]; show I2 c 2 = _; rw [ec]; exact d2
      · rw [i_wi, hI3, i_si_s, bw_up_o (by decide)]; show I2 c 3 = _; rw [ec]; exact d3
    refine go_aload_n dX3_readInto_66 rfl ?_
    refine go_aload_n dX3_readInto_67 rfl ?_
    refine go_iload_n dX3_readInto_68 rfl ?_
    refine go_cv (as := [.ref _, .int _]) 4 dX3_readInto_69 mt_3_32 (Or.inl rfl) rfl rfl hx.1.1 hx.1.2 (Nat.le_of_ble_eq_true rfl) (Nat.le_of_ble_eq_true rfl) (Nat.le_of_ble_eq_true rfl) (Nat.le_of_ble_eq_true rfl) (Nat.le_of_ble_eq_true rfl) ?_
    refine me_X3_skipBlanks x3 a3' (fun I4 f4 a4 => ?_)
    have g4 := rf2_t (h := h) g3 (rf2_1 (h := bw_wi h I3) f4)
    show bw_go _ _ _ _ _ _ _ 72 [(0, .ref _), (1, .ref _), (2, .ref _), (3, .int _)] ([]) _ _
    refine go_iconst (0) dX3_readInto_72 rfl ?_
    refine go_istore dX3_readInto_73 (Nat.lt_of_lt_of_le (Nat.lt_succ_self _) (Nat.le_of_ble_eq_true rfl)) ?_
    show bw_go _ _ _ _ _ _ _ 75 [(4, .int _), (0, .ref _), (1, .ref _), (2, .ref _), (3, .int _)] ([]) _ _
    have hl3 : lpf T 7 0 (ct0 (tfg T (skp T 0 + 1, none)).1, skp T (tfg T (skp T 0 + 1, none)).2.1, (tfg T (skp T 0 + 1, none)).2.2) = rdt T := by unfold rdt; rw [if_pos c38]
    have hv0 : ((bw_wi h I4) = bw_wi h (bw_i (bw_wi h I4)) ∧ rf2 h (bw_i (bw_wi h I4)) r c) ∧ rst (bw_wi h I4) r T.1 (skp T (tfg T (skp T 0 + 1, none)).2.1, (tfg T (skp T 0 + 1, none)).2.2) ∧ ((tfg T (skp T 0 + 1, none)).2.2 = none → bw_ct (bw_wi h I4) c (ct0 (tfg T (skp T 0 + 1, none)).1)) ∧ lpf T (7 - 0) 0 (ct0 (tfg T (skp T 0 + 1, none)).1, skp T (tfg T (skp T 0 + 1, none)).2.1, (tfg T (skp T 0 + 1, none)).2.2) = rdt T :=
      ⟨⟨rfl, g4⟩, a4, fun z => ct_r (h := bw_wi h I3) (d3' z) hp f4, hl3⟩
    refine go_for (P := fun i => ∀ (g : bw_H) (z : CT × RS), ((g = bw_wi h (bw_i g) ∧ rf2 h (bw_i g) r c) ∧ rst g r T.1 z.2 ∧ (z.2.2 = none → bw_ct g c z.1) ∧ lpf T (7 - i) i z = rdt T) → bw_go X 8 3 5 false (some .int) cX3_readInto 75 [(4, .int (nI i)), (0, .ref (r)), (1, .ref (c)), (2, .ref (s)), (3, .int (nI j))] [] g Q) (N := 7) (fun i hi K => ?_) ?_ (0) (Nat.zero_le _) (bw_wi h I4) (ct0 (tfg T (skp T 0 + 1, none)).1, skp T (tfg T (skp T 0 + 1, none)).2.1, (tfg T (skp T 0 + 1, none)).2.2) hv0
    · -- a turn
      intro g z hv
      obtain ⟨hv1, hv2, hv3, hv4⟩ := hv
      have hx0 := hx
      have hx : rx g r s num wid j T := by
        have h9 := rx_f2 hx0 hp hv1.2
        rw [← hv1.1] at h9; exact h9
      show bw_go _ _ _ _ _ _ _ 75 [(4, .int _), (0, .ref _), (1, .ref _), (2, .ref _), (3, .int _)] ([]) _ _
      refine go_iload dX3_readInto_75 rfl ?_
      refine go_bipush (6) dX3_readInto_77 rfl ?_
      refine go_icmp_gt (pc' := 126) dX3_readInto_79 rfl (fun c_79 => ?_) (fun c_79 => ?_)
      · -- gt at 79: yes
        show bw_go _ _ _ _ _ _ _ 126 [(4, .int _), (0, .ref _), (1, .ref _), (2, .ref _), (3, .int _)] ([]) _ _
        refine go_aload_n dX3_readInto_126 rfl ?_
        refine go_gfi dX3_readInto_127 fl_3_18 rfl hx.1.1 hx.1.2 ?_
        rw [hv2.2.2.1]
        refine go_iret dX3_readInto_130 rfl rfl ?_
        exfalso; have t_0 := nI_toInt (n := i) (by omega); have l_0 : (6 : Int32).toInt = 6 := rfl; simp only [i_le, i_lt, i_eq, bi_eq] at c_79; omega
      · -- gt at 79: no
        show bw_go _ _ _ _ _ _ _ 82 [(4, .int _), (0, .ref _), (1, .ref _), (2, .ref _), (3, .int _)] ([]) _ _
        refine go_aload_n dX3_readInto_82 rfl ?_
        refine go_gfi dX3_readInto_83 fl_3_18 rfl hx.1.1 hx.1.2 ?_
        rw [hv2.2.2.1]
        refine go_bipush (-9) dX3_readInto_86 rfl ?_
        refine go_icmp_ne (pc' := 126) dX3_readInto_88 rfl (fun c_88 => ?_) (fun c_88 => ?_)
        · -- ne at 88: yes
          show bw_go _ _ _ _ _ _ _ 126 [(4, .int _), (0, .ref _), (1, .ref _), (2, .ref _), (3, .int _)] ([]) _ _
          refine go_aload_n dX3_readInto_126 rfl ?_
          refine go_gfi dX3_readInto_127 fl_3_18 rfl hx.1.1 hx.1.2 ?_
          rw [hv2.2.2.1]
          refine go_iret dX3_readInto_130 rfl rfl ?_
          have e9 : z = rdt T := by
            rw [← hv4]
            obtain ⟨k, hk⟩ : ∃ k, 7 - i = k + 1 := ⟨6 - i, by omega⟩
            rw [hk]
            show z = (if z.2.2 = none ∧ (i = 0 ∨ z.2.1 < T.1) then _ else z)
            rw [if_neg (fun y => c_88 ((mtI_9 hv2.2.2.2.2).mpr y.1))]
          subst e9
          rw [hv1.1]
          exact hQ _ hv1.2 (by rw [← hv1.1]; exact hv3) hv2.2.2.2.2
        · -- ne at 88: no
          show bw_go _ _ _ _ _ _ _ 91 [(4, .int _), (0, .ref _), (1, .ref _), (2, .ref _), (3, .int _)] ([]) _ _
          refine go_iload dX3_readInto_91 rfl ?_
          refine go_if_eq (pc' := 107) dX3_readInto_93 rfl (fun c_93 => ?_) (fun c_93 => ?_)
          · -- eq at 93: yes
            show bw_go _ _ _ _ _ _ _ 107 [(4, .int _), (0, .ref _), (1, .ref _), (2, .ref _), (3, .int _)] ([]) _ _
            refine go_aload_n dX3_readInto_107 rfl ?_
            refine go_aload_n dX3_readInto_108 rfl ?_
            refine go_aload_n dX3_readInto_109 rfl ?_
            refine go_iload_n dX3_readInto_110 rfl ?_
            refine go_cv (as := [.ref _, .ref _, .int _]) 7 dX3_readInto_111 mt_3_46 (Or.inl rfl) rfl rfl hx.1.1 hx.1.2 (Nat.le_of_ble_eq_true rfl) (Nat.le_of_ble_eq_true rfl) (Nat.le_of_ble_eq_true rfl) (Nat.le_of_ble_eq_true rfl) (Nat.le_of_ble_eq_true rfl) ?_
            have hcz : bw_ct g c z.1 := hv3 ((mtI_9 hv2.2.2.2.2).mp (Decidable.of_not_not c_88))
            refine me_X3_readBear hx hv2 hcz hp (fun I1 f1 a1 d1 => ?_)
            have x1 := rx_f2 hx hp f1
            show bw_go _ _ _ _ _ _ _ 114 [(4, .int _), (0, .ref _), (1, .ref _), (2, .ref _), (3, .int _)] ([]) _ _
            refine go_aload_n dX3_readInto_114 rfl ?_
            refine go_aload_n dX3_readInto_115 rfl ?_
            refine go_iload_n dX3_readInto_116 rfl ?_
            refine go_cv (as := [.ref _, .int _]) 4 dX3_readInto_117 mt_3_32 (Or.inl rfl) rfl rfl hx.1.1 hx.1.2 (Nat.le_of_ble_eq_true rfl) (Nat.le_of_ble_eq_true rfl) (Nat.le_of_ble_eq_true rfl) (Nat.le_of_ble_eq_true rfl) (Nat.le_of_ble_eq_true rfl) ?_
            refine me_X3_skipBlanks x1 a1 (fun I2 f2 a2 => ?_)
            show bw_go _ _ _ _ _ _ _ 120 [(4, .int _), (0, .ref _), (1, .ref _), (2, .ref _), (3, .int _)] ([]) _ _
            refine go_iinc dX3_readInto_120 rfl (nI_1 i) (Nat.lt_of_lt_of_le (Nat.lt_succ_self _) (Nat.le_of_ble_eq_true rfl)) ?_
            show bw_go _ _ _ _ _ _ _ 123 [(4, .int _), (0, .ref _), (1, .ref _), (2, .ref _), (3, .int _)] ([]) _ _
            refine go_goto (pc' := 75) dX3_readInto_123 rfl ?_
            have f3 := rf2_t (h := g) f1 (rf2_1 (h := bw_wi g I1) f2)
            refine K (bw_wi g I2) ((rbe T z).1, skp T (rbe T z).2.1, (rbe T z).2.2) ⟨⟨by rw [hv1.1]; rfl, fun x h1 h2 h3 h4 h5 h6 => (f3 x h1 h2 h3 h4 h5 h6).trans (hv1.2 x h1 h2 h3 h4 h5 h6)⟩, a2, fun _ => ct_r (h := bw_wi g I1) d1 hp f2, ?_⟩
            rw [← hv4]
            obtain ⟨k, hk⟩ : ∃ k, 7 - i = k + 1 := ⟨6 - i, by omega⟩
            rw [hk, show 7 - (i + 1) = k by omega]
            show _ = (if z.2.2 = none ∧ (i = 0 ∨ z.2.1 < T.1) then lpf T k (i + 1) ((rbe T z).1, skp T (rbe T z).2.1, (rbe T z).2.2) else z)
            rw [if_pos ⟨(mtI_9 hv2.2.2.2.2).mp (Decidable.of_not_not c_88), Or.inl (by have t_2 := nI_toInt (n := i) (by omega); have l_0 := i_0; simp only [i_eq] at c_93; omega)⟩]
          · -- eq at 93: no
            show bw_go _ _ _ _ _ _ _ 96 [(4, .int _), (0, .ref _), (1, .ref _), (2, .ref _), (3, .int _)] ([]) _ _
            refine go_aload_n dX3_readInto_96 rfl ?_
            refine go_gfi dX3_readInto_97 fl_3_9 rfl hx.1.1 hx.1.2 ?_
            rw [hv2.1]
            refine go_aload_n dX3_readInto_100 rfl ?_
            refine go_gfi dX3_readInto_101 fl_3_15 rfl hx.1.1 hx.1.2 ?_
            rw [hv2.2.1]
            refine go_icmp_ge (pc' := 126) dX3_readInto_104 rfl (fun c_104 => ?_) (fun c_104 => ?_)
            · -- ge at 104: yes
              show bw_go _ _ _ _ _ _ _ 126 [(4, .int _), (0, .ref _), (1, .ref _), (2, .ref _), (3, .int _)] ([]) _ _
              refine go_aload_n dX3_readInto_126 rfl ?_
              refine go_gfi dX3_readInto_127 fl_3_18 rfl hx.1.1 hx.1.2 ?_
              rw [hv2.2.2.1]
              refine go_iret dX3_readInto_130 rfl rfl ?_
              have e9 : z = rdt T := by
                rw [← hv4]
                obtain ⟨k, hk⟩ : ∃ k, 7 - i = k + 1 := ⟨6 - i, by omega⟩
                rw [hk]
                show z = (if z.2.2 = none ∧ (i = 0 ∨ z.2.1 < T.1) then _ else z)
                rw [if_neg (by have t_0 := nI_toInt (n := z.2.1) (by have := hv2.2.2.2.1; have := T_lt hx; omega); have t_1 := nI_toInt (n := T.1) (by have := T_lt hx; omega); have t_2 := nI_toInt (n := i) (by omega); have l_0 := i_0; simp only [i_le] at c_104; simp only [i_eq] at c_93; omega)]
              subst e9
              rw [hv1.1]
              exact hQ _ hv1.2 (by rw [← hv1.1]; exact hv3) hv2.2.2.2.2
            · -- ge at 104: no
              show bw_go _ _ _ _ _ _ _ 107 [(4, .int _), (0, .ref _), (1, .ref _), (2, .ref _), (3, .int _)] ([]) _ _
              refine go_aload_n dX3_readInto_107 rfl ?_
              refine go_aload_n dX3_readInto_108 rfl ?_
              refine go_aload_n dX3_readInto_109 rfl ?_
              refine go_iload_n dX3_readInto_110 rfl ?_
              refine go_cv (as := [.ref _, .ref _, .int _]) 7 dX3_readInto_111 mt_3_46 (Or.inl rfl) rfl rfl hx.1.1 hx.1.2 (Nat.le_of_ble_eq_true rfl) (Nat.le_of_ble_eq_true rfl) (Nat.le_of_ble_eq_true rfl) (Nat.le_of_ble_eq_true rfl) (Nat.le_of_ble_eq_true rfl) ?_
              have hcz : bw_ct g c z.1 := hv3 ((mtI_9 hv2.2.2.2.2).mp (Decidable.of_not_not c_88))
              refine me_X3_readBear hx hv2 hcz hp (fun I1 f1 a1 d1 => ?_)
              have x1 := rx_f2 hx hp f1
              show bw_go _ _ _ _ _ _ _ 114 [(4, .int _), (0, .ref _), (1, .ref _), (2, .ref _), (3, .int _)] ([]) _ _
              refine go_aload_n dX3_readInto_114 rfl ?_
              refine go_aload_n dX3_readInto_115 rfl ?_
              refine go_iload_n dX3_readInto_116 rfl ?_
              refine go_cv (as := [.ref _, .int _]) 4 dX3_readInto_117 mt_3_32 (Or.inl rfl) rfl rfl hx.1.1 hx.1.2 (Nat.le_of_ble_eq_true rfl) (Nat.le_of_ble_eq_true rfl) (Nat.le_of_ble_eq_true rfl) (Nat.le_of_ble_eq_true rfl) (Nat.le_of_ble_eq_true rfl) ?_
              refine me_X3_skipBlanks x1 a1 (fun I2 f2 a2 => ?_)
              show bw_go _ _ _ _ _ _ _ 120 [(4, .int _), (0, .ref _), (1, .ref _), (2, .ref _), (3, .int _)] ([]) _ _
              refine go_iinc dX3_readInto_120 rfl (nI_1 i) (Nat.lt_of_lt_of_le (Nat.lt_succ_self _) (Nat.le_of_ble_eq_true rfl)) ?_
              show bw_go _ _ _ _ _ _ _ 123 [(4, .int _), (0, .ref _), (1, .ref _), (2, .ref _), (3, .int _)] ([]) _ _
              refine go_goto (pc' := 75) dX3_readInto_123 rfl ?_
              have f3 := rf2_t (h := g) f1 (rf2_1 (h := bw_wi g I1) f2)
              refine K (bw_wi g I2) ((rbe T z).1, skp T (rbe T z).2.1, (rbe T z).2.2) ⟨⟨by rw [hv1.1]; rfl, fun x h1 h2 h3 h4 h5 h6 => (f3 x h1 h2 h3 h4 h5 h6).trans (hv1.2 x h1 h2 h3 h4 h5 h6)⟩, a2, fun _ => ct_r (h := bw_wi g I1) d1 hp f2, ?_⟩
              rw [← hv4]
              obtain ⟨k, hk⟩ : ∃ k, 7 - i = k + 1 := ⟨6 - i, by omega⟩
              rw [hk, show 7 - (i + 1) = k by omega]
              show _ = (if z.2.2 = none ∧ (i = 0 ∨ z.2.1 < T.1) then lpf T k (i + 1) ((rbe T z).1, skp T (rbe T z).2.1, (rbe T z).2.2) else z)
              rw [if_pos ⟨(mtI_9 hv2.2.2.2.2).mp (Decidable.of_not_not c_88), Or.inr (by have t_0 := nI_toInt (n := z.2.1) (by have := hv2.2.2.2.1; have := T_lt hx; omega); have t_1 := nI_toInt (n := T.1) (by have := T_lt hx; omega); simp only [i_le] at c_104; omega)⟩]
    · -- behind the last
      intro g z hv
      obtain ⟨hv1, hv2, hv3, hv4⟩ := hv
      have hx0 := hx
      have hx : rx g r s num wid j T := by
        have h9 := rx_f2 hx0 hp hv1.2
        rw [← hv1.1] at h9; exact h9
      show bw_go _ _ _ _ _ _ _ 75 [(4, .int _), (0, .ref _), (1, .ref _), (2, .ref _), (3, .int _)] ([]) _ _
      refine go_iload dX3_readInto_75 rfl ?_
      refine go_bipush (6) dX3_readInto_77 rfl ?_
      refine go_icmp_gt (pc' := 126) dX3_readInto_79 rfl (fun c_79 => ?_) (fun c_79 => ?_)
      · -- gt at 79: yes
        show bw_go _ _ _ _ _ _ _ 126 [(4, .int _), (0, .ref _), (1, .ref _), (2, .ref _), (3, .int _)] ([]) _ _
        refine go_aload_n dX3_readInto_126 rfl ?_
        refine go_gfi dX3_readInto_127 fl_3_18 rfl hx.1.1 hx.1.2 ?_
        rw [hv2.2.2.1]
        refine go_iret dX3_readInto_130 rfl rfl ?_
        have e9 : z = rdt T := hv4
        subst e9
        rw [hv1.1]
        exact hQ _ hv1.2 (by rw [← hv1.1]; exact hv3) hv2.2.2.2.2
      · -- gt at 79: no
        exfalso; have l_7 : (nI 7).toInt = 7 := rfl; have l_6 : (6 : Int32).toInt = 6 := rfl; simp only [i_le, i_lt, i_eq, bi_eq] at c_79; omega
  · -- eq at 38: no
    show bw_go _ _ _ _ _ _ _ 41 [(0, .ref _), (1, .ref _), (2, .ref _), (3, .int _)] ([]) _ _
    refine go_aload_n dX3_readInto_41 rfl ?_
    refine go_gfi dX3_readInto_42 fl_3_9 rfl hx.1.1 hx.1.2 ?_
    rw [a1.1]
    refine go_iret dX3_readInto_45 rfl rfl ?_
    have c38 : ¬ by8 T (skp T 0) = 107 := c_38
    have e9 : rdt T = (ct0 0, skp T 0, some (skp T 0)) := by unfold rdt; rw [if_neg c38]
    rw [e9] at hQ
    exact hQ I1 g1 (fun z => by cases z) (fun p hp => by cases hp; have h8 := (skp_le T _ 0 rfl (Nat.zero_le _)).2; have h9 := T_lt hx; omega)
