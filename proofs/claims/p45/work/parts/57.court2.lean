/-! BearWitness: a court from a text -/
def nwA (C : CT) : AC := (C, fun _ => 0, fun _ => 0)
def yCourt (r : Int32) (S : ST) : Int32 × ST := if isn r 4 = true then (match sT S (rn r) with
    | none => (-3, fnd S 1)
    | some m => if (rdt (m, sTc S (rn r))).2.2 = none then (nI (cN (rdt (m, sTc S (rn r))).1), wK (wA S (nwA (rdt (m, sTc S (rn r))).1)) (fun _ => none)) else (-4, S)) else (-1, S)
theorem rbe_z (T : TX) (z : CT × RS) : cW (rbe T z).1 = cW z.1 ∧ cT (rbe T z).1 = cT z.1 := by
  unfold rbe
  split
  · exact ⟨rfl, rfl⟩
  · show cW (if _ then _ else _) = _ ∧ cT (if _ then _ else _) = _
    split
    · exact ⟨rfl, rfl⟩
    · exact ⟨rfl, rfl⟩
theorem lpf_z (T : TX) : ∀ (k i : Nat) (z : CT × RS), cW (lpf T k i z).1 = cW z.1 ∧ cT (lpf T k i z).1 = cT z.1
  | 0, _, _ => ⟨rfl, rfl⟩
  | k + 1, i, z => by
    show cW (if z.2.2 = none ∧ (i = 0 ∨ z.2.1 < T.1) then lpf T k (i + 1) ((rbe T z).1, skp T (rbe T z).2.1, (rbe T z).2.2) else z).1 = _ ∧ cT (if z.2.2 = none ∧ (i = 0 ∨ z.2.1 < T.1) then lpf T k (i + 1) ((rbe T z).1, skp T (rbe T z).2.1, (rbe T z).2.2) else z).1 = _
    split
    · have h1 := lpf_z T k (i + 1) ((rbe T z).1, skp T (rbe T z).2.1, (rbe T z).2.2)
      have h2 := rbe_z T z
      exact ⟨h1.1.trans h2.1, h1.2.trans h2.2⟩
    · exact ⟨rfl, rfl⟩
theorem rdt_z (T : TX) : cW (rdt T).1 = 0 ∧ cT (rdt T).1 = 0 := by
  unfold rdt
  split
  · exact lpf_z T 7 0 _
  · exact ⟨rfl, rfl⟩
theorem nw_e {C : CT} (h1 : cW C = 0) (h2 : cT C = 0) : hsT (nwA C) (cT C) = C := by
  obtain ⟨n, d, w, x, k, e, r, v⟩ := C
  have h3 : w = 0 := h1
  have h4 : x = 0 := h2
  subst h3; subst h4
  rfl
theorem nw_k {C : CT} (h1 : cW C = 0) (h2 : cT C = 0) (hk : co_k C) : ac_k (nwA C) := by
  obtain ⟨n, d, w, x, k, e, r, v⟩ := C
  have h3 : w = 0 := h1
  have h4 : x = 0 := h2
  subst h3; subst h4
  exact ⟨hk, Nat.zero_le _, fun j hj => absurd hj (Nat.not_lt_zero j)⟩
theorem xr_k3 {h : bw_H} {S : ST} {kp : Nat → Option AC} (hx : XR h S) (e : ∀ k, k < 3 → sK S k = kp k) : XR h (wK S kp) := by
  obtain ⟨h1, h2, h3, h4, h6, h7, h8⟩ := hx
  refine ⟨h1, h2, h3, h4, ⟨fun k hk => ?_, h6.2⟩, h7, h8⟩
  have h9 := h6.1 k hk
  rw [e k hk] at h9
  exact h9
set_option maxRecDepth 100000 in
set_option maxHeartbeats 4000000 in
theorem me_X7_court {X : Nat × (Nat → Int32)} {Q : Option Value → bw_H → Prop} {h : bw_H} {S : ST} {r : Int32} (hx : XR h S) (hQ : PX h Q (yCourt r S)) : bw_me X 6 bm_X7_court false [.ref 0, .int r] h Q := by
  have hc : bw_ct h 11 (nowC S) := hx.2.2.2.1.1.1
  have hN := hc.2.2.1
  show bw_go _ 6 7 3 false (some .int) cX7_court 0 [(0, .ref _), (1, .int _)] [] _ _
  refine go_aload_n dX7_court_0 rfl ?_
  refine go_gfr dX7_court_1 fl_7_18 rfl hx.1.1.1 hx.1.1.2.1 hx.1.1.2.2.2.1 ?_
  refine go_iload_n dX7_court_4 rfl ?_
  refine go_cv (as := [.int _]) 0 dX7_court_5 mt_7_86 (Or.inr rfl) rfl rfl hx.2.2.1.1.1.1 hx.2.2.1.1.1.2.1 (Nat.le_of_ble_eq_true rfl) (Nat.le_of_ble_eq_true rfl) (Nat.le_of_ble_eq_true rfl) (Nat.le_of_ble_eq_true rfl) (Nat.le_of_ble_eq_true rfl) ?_
  refine me_X4_isNumber hx.2.2.1.1 ?_
  show bw_go _ _ _ _ _ _ _ 8 [(0, .ref _), (1, .int _)] ((.int _) :: []) _ _
  refine go_ifb_ne (pc' := 13) dX7_court_8 rfl (fun c_8 => ?_) (fun c_8 => ?_)
  · -- ne at 8: yes
    show bw_go _ _ _ _ _ _ _ 13 [(0, .ref _), (1, .int _)] ([]) _ _
    obtain ⟨j, hj, rfl⟩ := isn_ex c_8 (by decide)
    refine go_aload_n dX7_court_13 rfl ?_
    refine go_gfr dX7_court_14 fl_7_18 rfl hx.1.1.1 hx.1.1.2.1 hx.1.1.2.2.2.1 ?_
    refine go_iload_n dX7_court_17 rfl ?_
    refine go_cv (as := [.int _]) 2 dX7_court_18 mt_7_109 (Or.inr rfl) rfl rfl hx.2.2.1.1.1.1 hx.2.2.1.1.1.2.1 (Nat.le_of_ble_eq_true rfl) (Nat.le_of_ble_eq_true rfl) (Nat.le_of_ble_eq_true rfl) (Nat.le_of_ble_eq_true rfl) (Nat.le_of_ble_eq_true rfl) ?_
    refine me_X4_has hx.2.2.1.1 hj (hx.2.2.1.2 j hj).1 (hx.2.2.1.2 j hj).2.1 ?_
    show bw_go _ _ _ _ _ _ _ 21 [(0, .ref _), (1, .int _)] ((.int _) :: []) _ _
    refine go_ifb_ne (pc' := 30) dX7_court_21 rfl (fun c_21 => ?_) (fun c_21 => ?_)
    · -- ne at 21: yes
      show bw_go _ _ _ _ _ _ _ 30 [(0, .ref _), (1, .int _)] ([]) _ _
      obtain ⟨m, e1⟩ := Option.isSome_iff_exists.mp c_21
      refine go_aload_n dX7_court_30 rfl ?_
      refine go_gfr dX7_court_31 fl_7_38 rfl hx.1.1.1 hx.1.1.2.1 hx.1.1.2.2.2.2.2.2.2.1 ?_
      refine go_aload_n dX7_court_34 rfl ?_
      refine go_gfr dX7_court_35 fl_7_28 rfl hx.1.1.1 hx.1.1.2.1 hx.1.1.2.2.2.2.2.1 ?_
      refine go_aload_n dX7_court_38 rfl ?_
      refine go_gfr dX7_court_39 fl_7_18 rfl hx.1.1.1 hx.1.1.2.1 hx.1.1.2.2.2.1 ?_
      refine go_iload_n dX7_court_42 rfl ?_
      refine go_cv (as := [.ref _, .ref _, .int _]) 5 dX7_court_43 mt_7_130 (Or.inr rfl) rfl rfl hx.1.2.2.1.1 hx.1.2.2.1.2.1 (Nat.le_of_ble_eq_true rfl) (Nat.le_of_ble_eq_true rfl) (Nat.le_of_ble_eq_true rfl) (Nat.le_of_ble_eq_true rfl) (Nat.le_of_ble_eq_true rfl) ?_
      refine me_X3_readInto (xr_rx hx hj e1) hx.1.2.2.2.1 (show rsep 38 60 24 from ⟨by decide, by decide⟩) (fun I fI dI bI => ?_)
      have hx1 : XR (bw_wi h I) S := xr_sc hx (fun q hq => fI q (by omega) (by omega) (by omega) (by omega) (by omega) (by omega) (by omega))
      have hf1 : frM h (bw_wi h I) := frM_wi rfl (fun q h1 h2 => fI q (by omega) (by omega) (by omega) (by omega) (by omega) (by omega) (by omega))
      show bw_go _ _ _ _ _ _ _ 46 [(0, .ref _), (1, .int _)] ((.int _) :: []) _ _
      refine go_bipush (-9) dX7_court_46 rfl ?_
      refine go_icmp_eq (pc' := 54) dX7_court_48 rfl (fun c_48 => ?_) (fun c_48 => ?_)
      · -- eq at 48: yes
        show bw_go _ _ _ _ _ _ _ 54 [(0, .ref _), (1, .int _)] ([]) _ _
        refine go_aload_n dX7_court_54 rfl ?_
        refine go_gfr dX7_court_55 fl_7_24 rfl hx.1.1.1 hx.1.1.2.1 hx.1.1.2.2.2.2.1 ?_
        refine go_aload_n dX7_court_58 rfl ?_
        refine go_gfr dX7_court_59 fl_7_28 rfl hx.1.1.1 hx.1.1.2.1 hx.1.1.2.2.2.2.2.1 ?_
        refine go_cv (as := [.ref _]) 2 dX7_court_62 mt_7_134 (Or.inr rfl) rfl rfl hc.1.1.1 hc.1.1.2.1 (Nat.le_of_ble_eq_true rfl) (Nat.le_of_ble_eq_true rfl) (Nat.le_of_ble_eq_true rfl) (Nat.le_of_ble_eq_true rfl) (Nat.le_of_ble_eq_true rfl) ?_
        have e9 : (rdt (m, sTc S j)).2.2 = none := (mtI_9 bI).mp c_48
        have hd := dI e9
        obtain ⟨z1, z2⟩ := rdt_z (m, sTc S j)
        refine me_X1_take (h := bw_wi h I) hx1.2.2.2.1.1.1.1 hd.1 (Or.inl (by decide)) (fun J hJ => ?_)
        have hJ2 : xco (bw_wi (bw_wi h I) J) 11 (nwA (rdt (m, sTc S j)).1) (cT (rdt (m, sTc S j)).1) := xco_take (h := bw_wi h I) (q := 24) (A := nwA (rdt (m, sTc S j)).1) ⟨by rw [show hsT (nwA (rdt (m, sTc S j)).1) (cT (nwA (rdt (m, sTc S j)).1).1) = (rdt (m, sTc S j)).1 from nw_e z1 z2]; exact hd, fun i hi => absurd hi (by rw [show cT (nwA (rdt (m, sTc S j)).1).1 = 0 from z2]; exact Nat.not_lt_zero i)⟩ (nw_k z1 z2 hd.2.2) hx1.2.2.2.1.1.1.1 hJ.1 hJ.2.1 hJ.2.2.1
        have hx3 : XR (bw_wi (bw_wi h I) J) (wA S (nwA (rdt (m, sTc S j)).1)) := xr_now hx1 hJ.2.2.2 hJ2 (nw_k z1 z2 hd.2.2)
        have hf3 : frM h (bw_wi (bw_wi h I) J) := frM_t hf1 (frM_wi (h := bw_wi h I) (g := bw_wi (bw_wi h I) J) rfl (fun q h1 h2 => hJ.2.2.2 q (by unfold co_pl; omega)))
        show bw_go _ _ _ _ _ _ _ 65 [(0, .ref _), (1, .int _)] ([]) _ _
        refine go_iconst (0) dX7_court_65 rfl ?_
        refine go_istore_n dX7_court_66 (Nat.lt_of_lt_of_le (Nat.lt_succ_self _) (Nat.le_of_ble_eq_true rfl)) ?_
        show bw_go _ _ _ _ _ _ _ 67 [(2, .int _), (0, .ref _), (1, .int _)] ([]) _ _
        refine go_for (P := fun k => ∀ (g : bw_H) (kp : Nat → Option AC), (XR g (wK (wA S (nwA (rdt (m, sTc S j)).1)) kp) ∧ frM h g ∧ (∀ l, l < k → kp l = none)) → bw_go X 6 7 3 false (some .int) cX7_court 67 [(2, .int (nI k)), (0, .ref (0)), (1, .int (nI j))] [] g Q) (N := 3) (fun k hk K => ?_) ?_ (0) (Nat.zero_le _) _ (sK S) ⟨hx3, hf3, fun l hl => absurd hl (Nat.not_lt_zero l)⟩
        · -- a turn
          intro g kp hv
          obtain ⟨hg, hf, hkp⟩ := hv
          have hx := hg
          show bw_go _ _ _ _ _ _ _ 67 [(2, .int _), (0, .ref _), (1, .int _)] ([]) _ _
          refine go_iload_n dX7_court_67 rfl ?_
          refine go_iconst (3) dX7_court_68 rfl ?_
          refine go_icmp_ge (pc' := 83) dX7_court_69 rfl (fun c_69 => ?_) (fun c_69 => ?_)
          · -- ge at 69: yes
            exfalso; have t_0 := nI_toInt (n := k) (by omega); have l_0 : (3 : Int32).toInt = 3 := rfl; simp only [i_le, i_lt, i_eq, bi_eq] at c_69; omega
          · -- ge at 69: no
            show bw_go _ _ _ _ _ _ _ 72 [(2, .int _), (0, .ref _), (1, .int _)] ([]) _ _
            refine go_aload_n dX7_court_72 rfl ?_
            refine go_iload_n dX7_court_73 rfl ?_
            refine go_cv (as := [.int _]) 1 dX7_court_74 mt_7_138 (Or.inl rfl) rfl rfl hx.1.1.1 hx.1.1.2.1 (Nat.le_of_ble_eq_true rfl) (Nat.le_of_ble_eq_true rfl) (Nat.le_of_ble_eq_true rfl) (Nat.le_of_ble_eq_true rfl) (Nat.le_of_ble_eq_true rfl) ?_
            refine me_X7_forgetKept hg hk (fun g2 hg2 hf2 => ?_)
            show bw_go _ _ _ _ _ _ _ 77 [(2, .int _), (0, .ref _), (1, .int _)] ([]) _ _
            refine go_iinc dX7_court_77 rfl (nI_1 k) (Nat.lt_of_lt_of_le (Nat.lt_succ_self _) (Nat.le_of_ble_eq_true rfl)) ?_
            show bw_go _ _ _ _ _ _ _ 80 [(2, .int _), (0, .ref _), (1, .int _)] ([]) _ _
            refine go_goto (pc' := 67) dX7_court_80 rfl ?_
            refine K g2 (bw_up kp k none) ⟨hg2, frM_t hf hf2, fun l hl => ?_⟩
            by_cases hlk : l = k
            · subst hlk; exact bw_up_s _ _ _
            · rw [bw_up_o hlk]; exact hkp l (by omega)
        · -- behind the last
          intro g kp hv
          obtain ⟨hg, hf, hkp⟩ := hv
          have hx := hg
          have hc : bw_ct g 11 (nowC (wK (wA S (nwA (rdt (m, sTc S j)).1)) kp)) := hx.2.2.2.1.1.1
          show bw_go _ _ _ _ _ _ _ 67 [(2, .int _), (0, .ref _), (1, .int _)] ([]) _ _
          refine go_iload_n dX7_court_67 rfl ?_
          refine go_iconst (3) dX7_court_68 rfl ?_
          refine go_icmp_ge (pc' := 83) dX7_court_69 rfl (fun c_69 => ?_) (fun c_69 => ?_)
          · -- ge at 69: yes
            show bw_go _ _ _ _ _ _ _ 83 [(2, .int _), (0, .ref _), (1, .int _)] ([]) _ _
            refine go_aload_n dX7_court_83 rfl ?_
            refine go_gfr dX7_court_84 fl_7_24 rfl hx.1.1.1 hx.1.1.2.1 hx.1.1.2.2.2.2.1 ?_
            refine go_gfi dX7_court_87 fl_7_141 rfl hc.1.1.1 hc.1.1.2.1 ?_
            rw [show bw_i g 11 0 = nI (cN (rdt (m, sTc S j)).1) from hg.2.2.2.1.1.1.2.1.1]
            refine go_iret dX7_court_90 rfl rfl ?_
            refine q_x hQ ?_ (xr_k3 (kp := fun _ => none) hg (fun l hl => hkp l hl)) hf
            unfold yCourt
            rw [if_pos (show isn (nI j) 4 = true from c_8), rn_n (by omega), e1]
            simp only
            rw [if_pos e9]
            rfl
          · -- ge at 69: no
            exfalso; have t_0 := nI_toInt (n := 3) (by omega); have l_0 : (3 : Int32).toInt = 3 := rfl; simp only [i_le, i_lt, i_eq, bi_eq] at c_69; omega
      · -- eq at 48: no
        show bw_go _ _ _ _ _ _ _ 51 [(0, .ref _), (1, .int _)] ([]) _ _
        refine go_bipush (-4) dX7_court_51 rfl ?_
        refine go_iret dX7_court_53 rfl rfl ?_
        refine q_x hQ ?_ hx1 hf1
        unfold yCourt
        rw [if_pos (show isn (nI j) 4 = true from c_8), rn_n (by omega), e1]
        simp only
        rw [if_neg (fun z => c_48 ((mtI_9 bI).mpr z))]
    · -- ne at 21: no
      show bw_go _ _ _ _ _ _ _ 24 [(0, .ref _), (1, .int _)] ([]) _ _
      refine go_aload_n dX7_court_24 rfl ?_
      refine go_iconst (1) dX7_court_25 rfl ?_
      refine go_cv (as := [.int _]) 1 dX7_court_26 mt_7_90 (Or.inl rfl) rfl rfl hx.1.1.1 hx.1.1.2.1 (Nat.le_of_ble_eq_true rfl) (Nat.le_of_ble_eq_true rfl) (Nat.le_of_ble_eq_true rfl) (Nat.le_of_ble_eq_true rfl) (Nat.le_of_ble_eq_true rfl) ?_
      rw [show (1 : Int32) = nI 1 from rfl]
      refine me_X7_found hx (f := 1) (by decide) (fun g hg hf => ?_)
      show bw_go _ _ _ _ _ _ _ 29 [(0, .ref _), (1, .int _)] ((.int _) :: []) _ _
      refine go_iret dX7_court_29 rfl rfl ?_
      have e1 : sT S j = none := by
        cases e : sT S j with
        | none => rfl
        | some _ => rw [e] at c_21; cases c_21
      refine q_x hQ ?_ hg hf
      unfold yCourt
      rw [if_pos (show isn (nI j) 4 = true from c_8), rn_n (by omega), e1]
  · -- ne at 8: no
    show bw_go _ _ _ _ _ _ _ 11 [(0, .ref _), (1, .int _)] ([]) _ _
    refine go_iconst (-1) dX7_court_11 rfl ?_
    refine go_iret dX7_court_12 rfl rfl ?_
    refine q_x hQ ?_ hx (frM_r h)
    unfold yCourt
    rw [if_neg (fun z => Bool.noConfusion ((show isn r 4 = false from c_8).symm.trans z))]
