/-! Reader: readInto -/
/-- a reader at r with its bytes at bb, and a shelf at s whose TEXT j is T -/
def sx (h : bw_H) (r bb s num wid j : Nat) (T : TX) : Prop := (r < bw_n h ∧ bw_k h r = .inl 3 ∧ bw_r h r 0 = some bb) ∧ bw_ce h bb (bb + 1) 60 ∧ bw_sf h s num wid ∧ j < num ∧ bw_i h (s + 2) j = oz (some T.1) ∧ sok (some T.1) wid ∧ T.1 ≤ 60 ∧ (∀ i, i < T.1 → bw_i h (s + 4) (j * wid + i) = T.2 i) ∧ (r ≠ s ∧ r ≠ s + 2 ∧ r ≠ s + 4) ∧ (bb + 1 ≠ s ∧ bb + 1 ≠ s + 2 ∧ bb + 1 ≠ s + 4) ∧ r ≠ bb + 1
theorem sx_wi {h : bw_H} {r bb s num wid j : Nat} {T : TX} {I : Nat → Nat → Int32} (hx : sx h r bb s num wid j T) (hf : ∀ x, x ≠ r → x ≠ bb + 1 → I x = bw_i h x) : sx (bw_wi h I) r bb s num wid j T := by
  obtain ⟨a1, a2, a3, a4, a5, a6, a7, a8, a9, a10, a11⟩ := hx
  obtain ⟨b1, b2, b3, b4, b5, b6⟩ := a3
  have h0 := hf s (fun z => a9.1 z.symm) (fun z => a10.1 z.symm)
  have h2 := hf (s + 2) (fun z => a9.2.1 z.symm) (fun z => a10.2.1 z.symm)
  have h4 := hf (s + 4) (fun z => a9.2.2 z.symm) (fun z => a10.2.2 z.symm)
  exact ⟨a1, a2, ⟨b1, b2, b3, by rw [i_wi, h0]; exact b4, by rw [i_wi, h0]; exact b5, b6⟩, a4, by rw [i_wi, h2]; exact a5, a6, a7, fun i hi => by rw [i_wi, h4]; exact a8 i hi, a9, a10, a11⟩
set_option maxRecDepth 100000 in
set_option maxHeartbeats 4000000 in
theorem me_X3_open {X : Nat × (Nat → Int32)} {Q : Option Value → bw_H → Prop} {h : bw_H} {r bb s num wid j : Nat} {T : TX} (hx : sx h r bb s num wid j T) (hQ : ∀ I : Nat → Nat → Int32, (∀ x, x ≠ r → x ≠ bb + 1 → I x = bw_i h x) → rx (bw_wi h I) r bb T → rst (bw_wi h I) r T.1 (0, none) → Q none (bw_wi h I)) : bw_me X 4 bm_X3_open false [.ref r, .ref s, .int (nI j)] h Q := by
  show bw_go _ 4 3 4 false none cX3_open 0 [(0, .ref _), (1, .ref _), (2, .int _)] [] _ _
  refine go_aload_n dX3_open_0 rfl ?_
  refine go_aload_n dX3_open_1 rfl ?_
  refine go_iload_n dX3_open_2 rfl ?_
  refine go_cv (as := [.int _]) 1 dX3_open_3 mt_3_56 (Or.inr rfl) rfl rfl hx.2.2.1.1.1 hx.2.2.1.1.2.1 (Nat.le_of_ble_eq_true rfl) (Nat.le_of_ble_eq_true rfl) (Nat.le_of_ble_eq_true rfl) (Nat.le_of_ble_eq_true rfl) (Nat.le_of_ble_eq_true rfl) ?_
  refine me_X4_sizeOf hx.2.2.1 hx.2.2.2.1 hx.2.2.2.2.1 ?_
  rw [show oz (some T.1) = nI T.1 from rfl]
  show bw_go _ _ _ _ _ _ _ 6 [(0, .ref _), (1, .ref _), (2, .int _)] ((.int _) :: (.ref _) :: []) _ _
  refine go_pfi dX3_open_6 fl_3_20 rfl hx.1.1 hx.1.2.1 (Nat.le_of_ble_eq_true rfl) (Or.inl rfl) ?_
  show bw_go _ _ _ _ _ _ _ 9 [(0, .ref _), (1, .ref _), (2, .int _)] ([]) _ _
  refine go_iconst (0) dX3_open_9 rfl ?_
  refine go_istore_n dX3_open_10 (Nat.lt_of_lt_of_le (Nat.lt_succ_self _) (Nat.le_of_ble_eq_true rfl)) ?_
  show bw_go _ _ _ _ _ _ _ 11 [(3, .int _), (0, .ref _), (1, .ref _), (2, .int _)] ([]) _ _
  have hv0 : (bw_si h r 1 (nI T.1)) = bw_wi h (bw_i (bw_si h r 1 (nI T.1))) ∧ (∀ x, x ≠ r → x ≠ bb + 1 → bw_i (bw_si h r 1 (nI T.1)) x = bw_i h x) ∧ bw_i (bw_si h r 1 (nI T.1)) r 1 = nI T.1 ∧ ∀ i, i < 0 → bw_i (bw_si h r 1 (nI T.1)) (bb + 1) i = T.2 i := ⟨rfl, fun x h1 _ => i_si_o h1, by rw [i_si_s, bw_up_s], fun i hi => absurd hi (Nat.not_lt_zero i)⟩
  refine go_for (P := fun k => ∀ (g : bw_H), (g = bw_wi h (bw_i g) ∧ (∀ x, x ≠ r → x ≠ bb + 1 → bw_i g x = bw_i h x) ∧ bw_i g r 1 = nI T.1 ∧ ∀ i, i < k → bw_i g (bb + 1) i = T.2 i) → bw_go X 4 3 4 false none cX3_open 11 [(3, .int (nI k)), (0, .ref (r)), (1, .ref (s)), (2, .int (nI j))] [] g Q) (N := T.1) (fun k hk K => ?_) ?_ (0) (Nat.zero_le _) _ hv0
  · -- a turn
    intro g hv
    obtain ⟨v1, v2, v3, v4⟩ := hv
    have h60 := hx.2.2.2.2.2.2.1
    have hg : sx g r bb s num wid j T := by
      have h9 := sx_wi (I := bw_i g) hx v2
      rw [← v1] at h9; exact h9
    show bw_go _ _ _ _ _ _ _ 11 [(3, .int _), (0, .ref _), (1, .ref _), (2, .int _)] ([]) _ _
    refine go_iload_n dX3_open_11 rfl ?_
    refine go_aload_n dX3_open_12 rfl ?_
    refine go_gfi dX3_open_13 fl_3_20 rfl hg.1.1 hg.1.2.1 ?_
    rw [v3]
    refine go_icmp_ge (pc' := 39) dX3_open_16 rfl (fun c_16 => ?_) (fun c_16 => ?_)
    · -- ge at 16: yes
      exfalso; have t_0 := nI_toInt (n := k) (by omega); have t_1 := nI_toInt (n := T.1) (by omega); simp only [i_le, i_lt, i_eq, bi_eq] at c_16; omega
    · -- ge at 16: no
      show bw_go _ _ _ _ _ _ _ 19 [(3, .int _), (0, .ref _), (1, .ref _), (2, .int _)] ([]) _ _
      refine go_aload_n dX3_open_19 rfl ?_
      refine go_gfr dX3_open_20 fl_3_14 rfl hg.1.1 hg.1.2.1 hg.1.2.2 ?_
      refine go_iload_n dX3_open_23 rfl ?_
      refine go_aload_n dX3_open_24 rfl ?_
      refine go_iload_n dX3_open_25 rfl ?_
      refine go_iload_n dX3_open_26 rfl ?_
      refine go_cv (as := [.int _, .int _]) 3 dX3_open_27 mt_3_62 (Or.inr rfl) rfl rfl hg.2.2.1.1.1 hg.2.2.1.1.2.1 (Nat.le_of_ble_eq_true rfl) (Nat.le_of_ble_eq_true rfl) (Nat.le_of_ble_eq_true rfl) (Nat.le_of_ble_eq_true rfl) (Nat.le_of_ble_eq_true rfl) ?_
      refine me_X4_get hg.2.2.1 hg.2.2.2.1 hg.2.2.2.2.1 hg.2.2.2.2.2.1 ?_
      rw [if_pos (pin_m hg.2.2.2.2.2.1 (i := k) (by omega) hg.2.2.1.2.2.2.2.2.2 (by omega)), nI_clamp (by omega), hg.2.2.2.2.2.2.2.1 _ (by omega)]
      show bw_go _ _ _ _ _ _ _ 30 [(3, .int _), (0, .ref _), (1, .ref _), (2, .int _)] ((.int _) :: (.int _) :: (.ref _) :: []) _ _
      refine go_cv (as := [.int _, .int _]) 0 dX3_open_30 mt_3_66 (Or.inr rfl) rfl rfl hg.2.1.1 hg.2.1.2.1 (Nat.le_of_ble_eq_true rfl) (Nat.le_of_ble_eq_true rfl) (Nat.le_of_ble_eq_true rfl) (Nat.le_of_ble_eq_true rfl) (Nat.le_of_ble_eq_true rfl) ?_
      refine me_X0_set hg.2.1 ?_
      rw [cs_n (by omega) (by decide)]
      show bw_go _ _ _ _ _ _ _ 33 [(3, .int _), (0, .ref _), (1, .ref _), (2, .int _)] ([]) _ _
      refine go_iinc dX3_open_33 rfl (nI_1 k) (Nat.lt_of_lt_of_le (Nat.lt_succ_self _) (Nat.le_of_ble_eq_true rfl)) ?_
      show bw_go _ _ _ _ _ _ _ 36 [(3, .int _), (0, .ref _), (1, .ref _), (2, .int _)] ([]) _ _
      refine go_goto (pc' := 11) dX3_open_36 rfl ?_
      refine K _ ⟨by rw [v1]; rfl, fun x h1 h2 => (i_sa_o h2).trans (v2 x h1 h2), (congrFun (i_sa_o hx.2.2.2.2.2.2.2.2.2.2) 1).trans v3, fun i hi => ?_⟩
      rw [i_sa_s]
      by_cases e : i = k
      · subst e; exact bw_up_s _ _ _
      · rw [bw_up_o e]; exact v4 i (by omega)
  · -- behind the last
    intro g hv
    obtain ⟨v1, v2, v3, v4⟩ := hv
    have h60 := hx.2.2.2.2.2.2.1
    have hg : sx g r bb s num wid j T := by
      have h9 := sx_wi (I := bw_i g) hx v2
      rw [← v1] at h9; exact h9
    show bw_go _ _ _ _ _ _ _ 11 [(3, .int _), (0, .ref _), (1, .ref _), (2, .int _)] ([]) _ _
    refine go_iload_n dX3_open_11 rfl ?_
    refine go_aload_n dX3_open_12 rfl ?_
    refine go_gfi dX3_open_13 fl_3_20 rfl hg.1.1 hg.1.2.1 ?_
    rw [v3]
    refine go_icmp_ge (pc' := 39) dX3_open_16 rfl (fun c_16 => ?_) (fun c_16 => ?_)
    · -- ge at 16: yes
      show bw_go _ _ _ _ _ _ _ 39 [(3, .int _), (0, .ref _), (1, .ref _), (2, .int _)] ([]) _ _
      refine go_aload_n dX3_open_39 rfl ?_
      refine go_iconst (0) dX3_open_40 rfl ?_
      refine go_pfi dX3_open_41 fl_3_24 rfl hg.1.1 hg.1.2.1 (Nat.le_of_ble_eq_true rfl) (Or.inl rfl) ?_
      show bw_go _ _ _ _ _ _ _ 44 [(3, .int _), (0, .ref _), (1, .ref _), (2, .int _)] ([]) _ _
      refine go_aload_n dX3_open_44 rfl ?_
      refine go_bipush (-9) dX3_open_45 rfl ?_
      refine go_pfi dX3_open_47 fl_3_27 rfl hg.1.1 hg.1.2.1 (Nat.le_of_ble_eq_true rfl) (Or.inl rfl) ?_
      show bw_go _ _ _ _ _ _ _ 50 [(3, .int _), (0, .ref _), (1, .ref _), (2, .int _)] ([]) _ _
      refine go_vret dX3_open_50 rfl ?_
      have hne := hx.2.2.2.2.2.2.2.2.2.2
      have hE : bw_si (bw_si g r 2 0) r 3 (-9) = bw_wi h (bw_i (bw_si (bw_si g r 2 0) r 3 (-9))) := by rw [v1]; rfl
      rw [hE]
      refine hQ _ (fun x h1 h2 => ((i_si_o h1).trans (i_si_o h1)).trans (v2 x h1 h2)) ?_ ?_
      · rw [← hE]
        exact rx_fr (I := bw_i (bw_si (bw_si g r 2 0) r 3 (-9))) (h := g) ⟨hg.1, hg.2.1, h60, v4, hne⟩ (fun x h1 => (i_si_o h1).trans (i_si_o h1))
      · rw [← hE]
        exact ⟨by rw [i_si_s, bw_up_o (by decide), i_si_s, bw_up_s]; rfl, by rw [i_si_s, bw_up_o (by decide), i_si_s, bw_up_o (by decide)]; exact v3, by rw [i_si_s, bw_up_s]; rfl, Nat.zero_le _, fun p hp => by cases hp⟩
    · -- ge at 16: no
      exfalso; have t_0 := nI_toInt (n := T.1) (by omega); simp only [i_le, i_lt, i_eq, bi_eq] at c_16; omega
theorem rf3_t {h : bw_H} {I J : Nat → Nat → Int32} {r bb c : Nat} (f1 : rf3 h I r bb c) (f2 : rf2 (bw_wi h I) J r c) : rf3 h J r bb c := fun x h1 h0 h2 h3 h4 h5 h6 => (f2 x h1 h2 h3 h4 h5 h6).trans (f1 x h1 h0 h2 h3 h4 h5 h6)
set_option maxRecDepth 100000 in
set_option maxHeartbeats 4000000 in
theorem me_X3_readInto {X : Nat × (Nat → Int32)} {Q : Option Value → bw_H → Prop} {h : bw_H} {r bb s c num wid j : Nat} {T : TX} (hs : sx h r bb s num wid j T) (hc : co_s h c) (hp : rsep r bb c) (hQ : ∀ I : Nat → Nat → Int32, rf3 h I r bb c → ((rdt T).2.2 = none → bw_ct (bw_wi h I) c (rdt T).1) → (∀ p, (rdt T).2.2 = some p → p < 1000) → Q (some (.int (mtI (rdt T).2.2))) (bw_wi h I)) : bw_me X 5 bm_X3_readInto false [.ref r, .ref c, .ref s, .int (nI j)] h Q := by
  show bw_go _ 5 3 5 false (some .int) cX3_readInto 0 [(0, .ref _), (1, .ref _), (2, .ref _), (3, .int _)] [] _ _
  refine go_aload_n dX3_readInto_0 rfl ?_
  refine go_aload_n dX3_readInto_1 rfl ?_
  refine go_iload_n dX3_readInto_2 rfl ?_
  refine go_cv (as := [.ref _, .int _]) 4 dX3_readInto_3 mt_3_30 (Or.inl rfl) rfl rfl hs.1.1 hs.1.2.1 (Nat.le_of_ble_eq_true rfl) (Nat.le_of_ble_eq_true rfl) (Nat.le_of_ble_eq_true rfl) (Nat.le_of_ble_eq_true rfl) (Nat.le_of_ble_eq_true rfl) ?_
  refine me_X3_open hs (fun Ix fx xo ao => ?_)
  show bw_go _ _ _ _ _ _ _ _ _ _ (bw_wi h Ix) _
  show bw_go _ _ _ _ _ _ _ 6 [(0, .ref _), (1, .ref _), (2, .ref _), (3, .int _)] ([]) _ _
  refine go_aload_n dX3_readInto_6 rfl ?_
  refine go_cv (as := []) 0 dX3_readInto_7 mt_3_34 (Or.inr rfl) rfl rfl hc.1.1 hc.1.2.1 (Nat.le_of_ble_eq_true rfl) (Nat.le_of_ble_eq_true rfl) (Nat.le_of_ble_eq_true rfl) (Nat.le_of_ble_eq_true rfl) (Nat.le_of_ble_eq_true rfl) ?_
  refine me_X1_clear (h := bw_wi h Ix) hc (fun I0 f0 => ?_)
  obtain ⟨d0, d1, d2, d3, dof⟩ := f0
  have hs2 := hp
  unfold rsep at hs2
  have hrb := xo.2.2.2.2
  have dof : ∀ x, x ≠ c → I0 x = Ix x := dof
  have g0 : rf3 h I0 r bb c := fun x h1 h0 h2 _ _ _ _ => (dof x h2).trans (fx x h1 h0)
  have a0 : rst (bw_wi h I0) r T.1 (0, none) := rst_wi (h := bw_wi h Ix) ao (dof r (by omega))
  have x0 : rx (bw_wi h I0) r bb T := rx_wi (h := bw_wi h Ix) xo (dof (bb + 1) (by omega))
  show bw_go _ _ _ _ _ _ _ _ _ _ (bw_wi h I0) _
  show bw_go _ _ _ _ _ _ _ 10 [(0, .ref _), (1, .ref _), (2, .ref _), (3, .int _)] ([]) _ _
  refine go_aload_n dX3_readInto_10 rfl ?_
  refine go_cv (as := []) 1 dX3_readInto_11 mt_3_39 (Or.inl rfl) rfl rfl hs.1.1 hs.1.2.1 (Nat.le_of_ble_eq_true rfl) (Nat.le_of_ble_eq_true rfl) (Nat.le_of_ble_eq_true rfl) (Nat.le_of_ble_eq_true rfl) (Nat.le_of_ble_eq_true rfl) ?_
  refine me_X3_skipBlanks x0 a0 (fun I1 f1 a1 => ?_)
  have x1 : rx (bw_wi h I1) r bb T := rx_fr (h := bw_wi h I0) x0 f1
  have a1 : rst (bw_wi h I1) r T.1 (skp T 0, none) := a1
  have g1 := rf3_t (h := h) g0 (rf2_1 (h := bw_wi h I0) f1)
  show bw_go _ _ _ _ _ _ _ _ _ _ (bw_wi h I1) _
  show bw_go _ _ _ _ _ _ _ 14 [(0, .ref _), (1, .ref _), (2, .ref _), (3, .int _)] ([]) _ _
  refine go_aload_n dX3_readInto_14 rfl ?_
  refine go_cv (as := []) 1 dX3_readInto_15 mt_3_42 (Or.inl rfl) rfl rfl hs.1.1 hs.1.2.1 (Nat.le_of_ble_eq_true rfl) (Nat.le_of_ble_eq_true rfl) (Nat.le_of_ble_eq_true rfl) (Nat.le_of_ble_eq_true rfl) (Nat.le_of_ble_eq_true rfl) ?_
  refine me_X3_byteHere (h := bw_wi h I1) x1 a1 ?_
  show bw_go _ _ _ _ _ _ _ 18 [(0, .ref _), (1, .ref _), (2, .ref _), (3, .int _)] ((.int _) :: []) _ _
  refine go_bipush (107) dX3_readInto_18 rfl ?_
  refine go_icmp_eq (pc' := 28) dX3_readInto_20 rfl (fun c_20 => ?_) (fun c_20 => ?_)
  · -- eq at 20: yes
    show bw_go _ _ _ _ _ _ _ 28 [(0, .ref _), (1, .ref _), (2, .ref _), (3, .int _)] ([]) _ _
    refine go_aload_n dX3_readInto_28 rfl ?_
    refine go_dupA dX3_readInto_29 ?_
    refine go_gfi dX3_readInto_30 fl_3_24 rfl hs.1.1 hs.1.2.1 ?_
    rw [a1.1]
    refine go_iconst (1) dX3_readInto_33 rfl ?_
    refine go_iadd dX3_readInto_34 ?_
    rw [nI_1]
    refine go_pfi dX3_readInto_35 fl_3_24 rfl hs.1.1 hs.1.2.1 (Nat.le_of_ble_eq_true rfl) (Or.inl rfl) ?_
    show bw_go _ _ _ _ _ _ _ 38 [(0, .ref _), (1, .ref _), (2, .ref _), (3, .int _)] ([]) _ _
    have c38 : by8 T (skp T 0) = 107 := c_20
    have l8 : skp T 0 < T.1 := by8_lt (by rw [c38]; decide)
    have a2 : rst (bw_si (bw_wi h I1) r 2 (nI (skp T 0 + 1))) r T.1 (skp T 0 + 1, none) := rst_si0 (h := bw_wi h I1) a1 l8
    have x2 : rx (bw_si (bw_wi h I1) r 2 (nI (skp T 0 + 1))) r bb T := rx_si (h := bw_wi h I1) x1
    refine go_aload_n dX3_readInto_38 rfl ?_
    refine go_aload_n dX3_readInto_39 rfl ?_
    refine go_cv (as := []) 3 dX3_readInto_40 mt_3_46 (Or.inl rfl) rfl rfl hs.1.1 hs.1.2.1 (Nat.le_of_ble_eq_true rfl) (Nat.le_of_ble_eq_true rfl) (Nat.le_of_ble_eq_true rfl) (Nat.le_of_ble_eq_true rfl) (Nat.le_of_ble_eq_true rfl) ?_
    refine me_X3_twoFigures x2 a2 (fun I2 f2 a3 => ?_)
    show bw_go _ _ _ _ _ _ _ 43 [(0, .ref _), (1, .ref _), (2, .ref _), (3, .int _)] ((.int _) :: (.ref _) :: []) _ _
    refine go_pfi dX3_readInto_43 fl_3_49 rfl hc.1.1 hc.1.2.1 (Nat.le_of_ble_eq_true rfl) (Or.inl rfl) ?_
    show bw_go _ _ _ _ _ _ _ 46 [(0, .ref _), (1, .ref _), (2, .ref _), (3, .int _)] ([]) _ _
    have g2 : rf3 h I2 r bb c := rf3_t (h := h) g1 (rf2_1 (h := bw_wi h I1) (fun x h1 => (f2 x h1).trans (i_si_o h1)))
    obtain ⟨I3, hI3⟩ : ∃ I3, I3 = bw_i (bw_si (bw_wi h I2) c 1 (nI (tfg T (skp T 0 + 1, none)).1)) := ⟨_, rfl⟩
    have e3 : bw_si (bw_wi h I2) c 1 (nI (tfg T (skp T 0 + 1, none)).1) = bw_wi h I3 := by rw [hI3]; rfl
    show bw_go _ _ _ _ _ _ _ _ _ _ (bw_si (bw_wi h I2) c 1 (nI (tfg T (skp T 0 + 1, none)).1)) _
    rw [e3]
    have f3 : rf2 (bw_wi h I2) I3 r c := fun x h1 h2 _ _ _ _ => by rw [hI3]; exact i_si_o h2
    have g3 := rf3_t (h := h) g2 f3
    have x3 : rx (bw_wi h I3) r bb T := rx_f2 (h := bw_wi h I2) (rx_fr (h := bw_si (bw_wi h I1) r 2 (nI (skp T 0 + 1))) x2 f2) hp f3
    have a3' : rst (bw_wi h I3) r T.1 (tfg T (skp T 0 + 1, none)).2 := rst_wi (h := bw_wi h I2) a3 (by rw [hI3]; exact i_si_o (by omega))
    have ec : I2 c = I0 c := (f2 c (by omega)).trans ((i_si_o (h := bw_wi h I1) (p := c) (by omega)).trans (f1 c (by omega)))
    have d3' : (tfg T (skp T 0 + 1, none)).2.2 = none → bw_ct (bw_wi h I3) c (ct0 (tfg T (skp T 0 + 1, none)).1) := fun z => by
      refine ⟨hc, ⟨?_, ?_, ?_, ?_, fun i hi => absurd hi (Nat.not_lt_zero i)⟩, Nat.zero_le _, tfg_v z, (by decide : 0 < 64), Nat.zero_le _, fun i hi => absurd hi (Nat.not_lt_zero i)⟩
      · rw [i_wi, hI3, i_si_s, bw_up_o (by decide)]; show I2 c 0 = _; rw [ec]; exact d0
      · rw [i_wi, hI3, i_si_s, bw_up_s]; rfl
      · rw [i_wi, hI3, i_si_s, bw_up_o (by decide)]; show I2 c 2 = _; rw [ec]; exact d2
      · rw [i_wi, hI3, i_si_s, bw_up_o (by decide)]; show I2 c 3 = _; rw [ec]; exact d3
    refine go_aload_n dX3_readInto_46 rfl ?_
    refine go_cv (as := []) 1 dX3_readInto_47 mt_3_39 (Or.inl rfl) rfl rfl hs.1.1 hs.1.2.1 (Nat.le_of_ble_eq_true rfl) (Nat.le_of_ble_eq_true rfl) (Nat.le_of_ble_eq_true rfl) (Nat.le_of_ble_eq_true rfl) (Nat.le_of_ble_eq_true rfl) ?_
    refine me_X3_skipBlanks x3 a3' (fun I4 f4 a4 => ?_)
    have g4 := rf3_t (h := h) g3 (rf2_1 (h := bw_wi h I3) f4)
    show bw_go _ _ _ _ _ _ _ 50 [(0, .ref _), (1, .ref _), (2, .ref _), (3, .int _)] ([]) _ _
    refine go_iconst (0) dX3_readInto_50 rfl ?_
    refine go_istore dX3_readInto_51 (Nat.lt_of_lt_of_le (Nat.lt_succ_self _) (Nat.le_of_ble_eq_true rfl)) ?_
    show bw_go _ _ _ _ _ _ _ 53 [(4, .int _), (0, .ref _), (1, .ref _), (2, .ref _), (3, .int _)] ([]) _ _
    have hl3 : lpf T 7 0 (ct0 (tfg T (skp T 0 + 1, none)).1, skp T (tfg T (skp T 0 + 1, none)).2.1, (tfg T (skp T 0 + 1, none)).2.2) = rdt T := by unfold rdt; rw [if_pos c38]
    have hv0 : ((bw_wi h I4) = bw_wi h (bw_i (bw_wi h I4)) ∧ rf3 h (bw_i (bw_wi h I4)) r bb c ∧ rx (bw_wi h I4) r bb T) ∧ rst (bw_wi h I4) r T.1 (skp T (tfg T (skp T 0 + 1, none)).2.1, (tfg T (skp T 0 + 1, none)).2.2) ∧ ((tfg T (skp T 0 + 1, none)).2.2 = none → bw_ct (bw_wi h I4) c (ct0 (tfg T (skp T 0 + 1, none)).1)) ∧ lpf T (7 - 0) 0 (ct0 (tfg T (skp T 0 + 1, none)).1, skp T (tfg T (skp T 0 + 1, none)).2.1, (tfg T (skp T 0 + 1, none)).2.2) = rdt T :=
      ⟨⟨rfl, g4, rx_fr (h := bw_wi h I3) x3 f4⟩, a4, fun z => ct_r (h := bw_wi h I3) (d3' z) hp f4, hl3⟩
    refine go_for (P := fun i => ∀ (g : bw_H) (z : CT × RS), ((g = bw_wi h (bw_i g) ∧ rf3 h (bw_i g) r bb c ∧ rx g r bb T) ∧ rst g r T.1 z.2 ∧ (z.2.2 = none → bw_ct g c z.1) ∧ lpf T (7 - i) i z = rdt T) → bw_go X 5 3 5 false (some .int) cX3_readInto 53 [(4, .int (nI i)), (0, .ref (r)), (1, .ref (c)), (2, .ref (s)), (3, .int (nI j))] [] g Q) (N := 7) (fun i hi K => ?_) ?_ (0) (Nat.zero_le _) (bw_wi h I4) (ct0 (tfg T (skp T 0 + 1, none)).1, skp T (tfg T (skp T 0 + 1, none)).2.1, (tfg T (skp T 0 + 1, none)).2.2) hv0
    · -- a turn
      intro g z hv
      obtain ⟨⟨hv1, hv5, hx⟩, hv2, hv3, hv4⟩ := hv
      show bw_go _ _ _ _ _ _ _ 53 [(4, .int _), (0, .ref _), (1, .ref _), (2, .ref _), (3, .int _)] ([]) _ _
      refine go_iload dX3_readInto_53 rfl ?_
      refine go_bipush (6) dX3_readInto_55 rfl ?_
      refine go_icmp_gt (pc' := 100) dX3_readInto_57 rfl (fun c_57 => ?_) (fun c_57 => ?_)
      · -- gt at 57: yes
        show bw_go _ _ _ _ _ _ _ 100 [(4, .int _), (0, .ref _), (1, .ref _), (2, .ref _), (3, .int _)] ([]) _ _
        refine go_aload_n dX3_readInto_100 rfl ?_
        refine go_gfi dX3_readInto_101 fl_3_27 rfl hx.1.1 hx.1.2.1 ?_
        rw [hv2.2.2.1]
        refine go_iret dX3_readInto_104 rfl rfl ?_
        exfalso; have t_0 := nI_toInt (n := i) (by omega); have l_0 : (6 : Int32).toInt = 6 := rfl; simp only [i_le, i_lt, i_eq, bi_eq] at c_57; omega
      · -- gt at 57: no
        show bw_go _ _ _ _ _ _ _ 60 [(4, .int _), (0, .ref _), (1, .ref _), (2, .ref _), (3, .int _)] ([]) _ _
        refine go_aload_n dX3_readInto_60 rfl ?_
        refine go_gfi dX3_readInto_61 fl_3_27 rfl hx.1.1 hx.1.2.1 ?_
        rw [hv2.2.2.1]
        refine go_bipush (-9) dX3_readInto_64 rfl ?_
        refine go_icmp_ne (pc' := 100) dX3_readInto_66 rfl (fun c_66 => ?_) (fun c_66 => ?_)
        · -- ne at 66: yes
          show bw_go _ _ _ _ _ _ _ 100 [(4, .int _), (0, .ref _), (1, .ref _), (2, .ref _), (3, .int _)] ([]) _ _
          refine go_aload_n dX3_readInto_100 rfl ?_
          refine go_gfi dX3_readInto_101 fl_3_27 rfl hx.1.1 hx.1.2.1 ?_
          rw [hv2.2.2.1]
          refine go_iret dX3_readInto_104 rfl rfl ?_
          have e9 : z = rdt T := by
            rw [← hv4]
            obtain ⟨k, hk⟩ : ∃ k, 7 - i = k + 1 := ⟨6 - i, by omega⟩
            rw [hk]
            show z = (if z.2.2 = none ∧ (i = 0 ∨ z.2.1 < T.1) then _ else z)
            rw [if_neg (fun y => c_66 ((mtI_9 hv2.2.2.2.2).mpr y.1))]
          subst e9
          rw [hv1]
          exact hQ _ hv5 (by rw [← hv1]; exact hv3) hv2.2.2.2.2
        · -- ne at 66: no
          show bw_go _ _ _ _ _ _ _ 69 [(4, .int _), (0, .ref _), (1, .ref _), (2, .ref _), (3, .int _)] ([]) _ _
          refine go_iload dX3_readInto_69 rfl ?_
          refine go_if_eq (pc' := 85) dX3_readInto_71 rfl (fun c_71 => ?_) (fun c_71 => ?_)
          · -- eq at 71: yes
            show bw_go _ _ _ _ _ _ _ 85 [(4, .int _), (0, .ref _), (1, .ref _), (2, .ref _), (3, .int _)] ([]) _ _
            refine go_aload_n dX3_readInto_85 rfl ?_
            refine go_aload_n dX3_readInto_86 rfl ?_
            refine go_cv (as := [.ref _]) 4 dX3_readInto_87 mt_3_52 (Or.inl rfl) rfl rfl hx.1.1 hx.1.2.1 (Nat.le_of_ble_eq_true rfl) (Nat.le_of_ble_eq_true rfl) (Nat.le_of_ble_eq_true rfl) (Nat.le_of_ble_eq_true rfl) (Nat.le_of_ble_eq_true rfl) ?_
            have hcz : bw_ct g c z.1 := hv3 ((mtI_9 hv2.2.2.2.2).mp (Decidable.of_not_not c_66))
            refine me_X3_readBear hx hv2 hcz hp (fun I1 f1 a1 d1 => ?_)
            have x1 := rx_f2 hx hp f1
            show bw_go _ _ _ _ _ _ _ 90 [(4, .int _), (0, .ref _), (1, .ref _), (2, .ref _), (3, .int _)] ([]) _ _
            refine go_aload_n dX3_readInto_90 rfl ?_
            refine go_cv (as := []) 1 dX3_readInto_91 mt_3_39 (Or.inl rfl) rfl rfl hx.1.1 hx.1.2.1 (Nat.le_of_ble_eq_true rfl) (Nat.le_of_ble_eq_true rfl) (Nat.le_of_ble_eq_true rfl) (Nat.le_of_ble_eq_true rfl) (Nat.le_of_ble_eq_true rfl) ?_
            refine me_X3_skipBlanks x1 a1 (fun I2 f2 a2 => ?_)
            show bw_go _ _ _ _ _ _ _ 94 [(4, .int _), (0, .ref _), (1, .ref _), (2, .ref _), (3, .int _)] ([]) _ _
            refine go_iinc dX3_readInto_94 rfl (nI_1 i) (Nat.lt_of_lt_of_le (Nat.lt_succ_self _) (Nat.le_of_ble_eq_true rfl)) ?_
            show bw_go _ _ _ _ _ _ _ 97 [(4, .int _), (0, .ref _), (1, .ref _), (2, .ref _), (3, .int _)] ([]) _ _
            refine go_goto (pc' := 53) dX3_readInto_97 rfl ?_
            have f3 := rf2_t (h := g) f1 (rf2_1 (h := bw_wi g I1) f2)
            refine K (bw_wi g I2) ((rbe T z).1, skp T (rbe T z).2.1, (rbe T z).2.2) ⟨⟨by rw [hv1]; rfl, fun x h1 h0 h2 h3 h4 h5 h6 => (f3 x h1 h2 h3 h4 h5 h6).trans (hv5 x h1 h0 h2 h3 h4 h5 h6), rx_fr (h := bw_wi g I1) x1 f2⟩, a2, fun _ => ct_r (h := bw_wi g I1) d1 hp f2, ?_⟩
            rw [← hv4]
            obtain ⟨k, hk⟩ : ∃ k, 7 - i = k + 1 := ⟨6 - i, by omega⟩
            rw [hk, show 7 - (i + 1) = k by omega]
            show _ = (if z.2.2 = none ∧ (i = 0 ∨ z.2.1 < T.1) then lpf T k (i + 1) ((rbe T z).1, skp T (rbe T z).2.1, (rbe T z).2.2) else z)
            rw [if_pos ⟨(mtI_9 hv2.2.2.2.2).mp (Decidable.of_not_not c_66), Or.inl (by have t_2 := nI_toInt (n := i) (by omega); have l_0 := i_0; simp only [i_eq] at c_71; omega)⟩]
          · -- eq at 71: no
            show bw_go _ _ _ _ _ _ _ 74 [(4, .int _), (0, .ref _), (1, .ref _), (2, .ref _), (3, .int _)] ([]) _ _
            refine go_aload_n dX3_readInto_74 rfl ?_
            refine go_gfi dX3_readInto_75 fl_3_24 rfl hx.1.1 hx.1.2.1 ?_
            rw [hv2.1]
            refine go_aload_n dX3_readInto_78 rfl ?_
            refine go_gfi dX3_readInto_79 fl_3_20 rfl hx.1.1 hx.1.2.1 ?_
            rw [hv2.2.1]
            refine go_icmp_ge (pc' := 100) dX3_readInto_82 rfl (fun c_82 => ?_) (fun c_82 => ?_)
            · -- ge at 82: yes
              show bw_go _ _ _ _ _ _ _ 100 [(4, .int _), (0, .ref _), (1, .ref _), (2, .ref _), (3, .int _)] ([]) _ _
              refine go_aload_n dX3_readInto_100 rfl ?_
              refine go_gfi dX3_readInto_101 fl_3_27 rfl hx.1.1 hx.1.2.1 ?_
              rw [hv2.2.2.1]
              refine go_iret dX3_readInto_104 rfl rfl ?_
              have e9 : z = rdt T := by
                rw [← hv4]
                obtain ⟨k, hk⟩ : ∃ k, 7 - i = k + 1 := ⟨6 - i, by omega⟩
                rw [hk]
                show z = (if z.2.2 = none ∧ (i = 0 ∨ z.2.1 < T.1) then _ else z)
                rw [if_neg (by have t_0 := nI_toInt (n := z.2.1) (by have := hv2.2.2.2.1; have := T_lt hx; omega); have t_1 := nI_toInt (n := T.1) (by have := T_lt hx; omega); have t_2 := nI_toInt (n := i) (by omega); have l_0 := i_0; simp only [i_le] at c_82; simp only [i_eq] at c_71; omega)]
              subst e9
              rw [hv1]
              exact hQ _ hv5 (by rw [← hv1]; exact hv3) hv2.2.2.2.2
            · -- ge at 82: no
              show bw_go _ _ _ _ _ _ _ 85 [(4, .int _), (0, .ref _), (1, .ref _), (2, .ref _), (3, .int _)] ([]) _ _
              refine go_aload_n dX3_readInto_85 rfl ?_
              refine go_aload_n dX3_readInto_86 rfl ?_
              refine go_cv (as := [.ref _]) 4 dX3_readInto_87 mt_3_52 (Or.inl rfl) rfl rfl hx.1.1 hx.1.2.1 (Nat.le_of_ble_eq_true rfl) (Nat.le_of_ble_eq_true rfl) (Nat.le_of_ble_eq_true rfl) (Nat.le_of_ble_eq_true rfl) (Nat.le_of_ble_eq_true rfl) ?_
              have hcz : bw_ct g c z.1 := hv3 ((mtI_9 hv2.2.2.2.2).mp (Decidable.of_not_not c_66))
              refine me_X3_readBear hx hv2 hcz hp (fun I1 f1 a1 d1 => ?_)
              have x1 := rx_f2 hx hp f1
              show bw_go _ _ _ _ _ _ _ 90 [(4, .int _), (0, .ref _), (1, .ref _), (2, .ref _), (3, .int _)] ([]) _ _
              refine go_aload_n dX3_readInto_90 rfl ?_
              refine go_cv (as := []) 1 dX3_readInto_91 mt_3_39 (Or.inl rfl) rfl rfl hx.1.1 hx.1.2.1 (Nat.le_of_ble_eq_true rfl) (Nat.le_of_ble_eq_true rfl) (Nat.le_of_ble_eq_true rfl) (Nat.le_of_ble_eq_true rfl) (Nat.le_of_ble_eq_true rfl) ?_
              refine me_X3_skipBlanks x1 a1 (fun I2 f2 a2 => ?_)
              show bw_go _ _ _ _ _ _ _ 94 [(4, .int _), (0, .ref _), (1, .ref _), (2, .ref _), (3, .int _)] ([]) _ _
              refine go_iinc dX3_readInto_94 rfl (nI_1 i) (Nat.lt_of_lt_of_le (Nat.lt_succ_self _) (Nat.le_of_ble_eq_true rfl)) ?_
              show bw_go _ _ _ _ _ _ _ 97 [(4, .int _), (0, .ref _), (1, .ref _), (2, .ref _), (3, .int _)] ([]) _ _
              refine go_goto (pc' := 53) dX3_readInto_97 rfl ?_
              have f3 := rf2_t (h := g) f1 (rf2_1 (h := bw_wi g I1) f2)
              refine K (bw_wi g I2) ((rbe T z).1, skp T (rbe T z).2.1, (rbe T z).2.2) ⟨⟨by rw [hv1]; rfl, fun x h1 h0 h2 h3 h4 h5 h6 => (f3 x h1 h2 h3 h4 h5 h6).trans (hv5 x h1 h0 h2 h3 h4 h5 h6), rx_fr (h := bw_wi g I1) x1 f2⟩, a2, fun _ => ct_r (h := bw_wi g I1) d1 hp f2, ?_⟩
              rw [← hv4]
              obtain ⟨k, hk⟩ : ∃ k, 7 - i = k + 1 := ⟨6 - i, by omega⟩
              rw [hk, show 7 - (i + 1) = k by omega]
              show _ = (if z.2.2 = none ∧ (i = 0 ∨ z.2.1 < T.1) then lpf T k (i + 1) ((rbe T z).1, skp T (rbe T z).2.1, (rbe T z).2.2) else z)
              rw [if_pos ⟨(mtI_9 hv2.2.2.2.2).mp (Decidable.of_not_not c_66), Or.inr (by have t_0 := nI_toInt (n := z.2.1) (by have := hv2.2.2.2.1; have := T_lt hx; omega); have t_1 := nI_toInt (n := T.1) (by have := T_lt hx; omega); simp only [i_le] at c_82; omega)⟩]
    · -- behind the last
      intro g z hv
      obtain ⟨⟨hv1, hv5, hx⟩, hv2, hv3, hv4⟩ := hv
      show bw_go _ _ _ _ _ _ _ 53 [(4, .int _), (0, .ref _), (1, .ref _), (2, .ref _), (3, .int _)] ([]) _ _
      refine go_iload dX3_readInto_53 rfl ?_
      refine go_bipush (6) dX3_readInto_55 rfl ?_
      refine go_icmp_gt (pc' := 100) dX3_readInto_57 rfl (fun c_57 => ?_) (fun c_57 => ?_)
      · -- gt at 57: yes
        show bw_go _ _ _ _ _ _ _ 100 [(4, .int _), (0, .ref _), (1, .ref _), (2, .ref _), (3, .int _)] ([]) _ _
        refine go_aload_n dX3_readInto_100 rfl ?_
        refine go_gfi dX3_readInto_101 fl_3_27 rfl hx.1.1 hx.1.2.1 ?_
        rw [hv2.2.2.1]
        refine go_iret dX3_readInto_104 rfl rfl ?_
        have e9 : z = rdt T := hv4
        subst e9
        rw [hv1]
        exact hQ _ hv5 (by rw [← hv1]; exact hv3) hv2.2.2.2.2
      · -- gt at 57: no
        exfalso; have l_7 : (nI 7).toInt = 7 := rfl; have l_6 : (6 : Int32).toInt = 6 := rfl; simp only [i_le, i_lt, i_eq, bi_eq] at c_57; omega
  · -- eq at 20: no
    show bw_go _ _ _ _ _ _ _ 23 [(0, .ref _), (1, .ref _), (2, .ref _), (3, .int _)] ([]) _ _
    refine go_aload_n dX3_readInto_23 rfl ?_
    refine go_gfi dX3_readInto_24 fl_3_24 rfl hs.1.1 hs.1.2.1 ?_
    rw [a1.1]
    refine go_iret dX3_readInto_27 rfl rfl ?_
    have c38 : ¬ by8 T (skp T 0) = 107 := c_20
    have e9 : rdt T = (ct0 0, skp T 0, some (skp T 0)) := by unfold rdt; rw [if_neg c38]
    rw [e9] at hQ
    exact hQ I1 g1 (fun z => by cases z) (fun p hp => by cases hp; have h8 := (skp_le T _ 0 rfl (Nat.zero_le _)).2; have h9 := T_lt x1; omega)
