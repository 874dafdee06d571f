/-! BearWitness: what all tell -/
def yShown (s : Int32) (S : ST) : Int32 × ST := if isn s (2 ^ cN (nowC S)) = true then (if cN (nowC S) = 0 then (-4, S) else (nI (sho (taC (nowC S)) (rn s)), wQ S (nI (tie (taC (nowC S)) (rn s) &&& tld (taC (nowC S)) (rn s))))) else (-1, S)
def cla (A : TA) (i j : Nat) : Nat := (A.2.1 i &&& A.2.2 j) ||| (A.2.2 i &&& A.2.1 j)
def yRivals (i j : Int32) (S : ST) : Int32 × ST := if isn i (cN (nowC S)) = true ∧ isn j (cN (nowC S)) = true ∧ ¬ i = j then (nI (cla (taC (nowC S)) (rn i) (rn j)), S) else (-1, S)
theorem ta_si {h : bw_H} {A : TA} {v : Int32} (ht : bw_ta h 46 A) : bw_ta (bw_si h 0 11 v) 46 A := by
  refine ⟨ht.1, ?_⟩
  unfold ta_v
  rw [i_si_o (by decide), i_si_o (by decide), i_si_o (by decide)]
  exact ht.2
theorem p2N {n : Nat} (h : n ≤ 6) : 2 ^ n ≤ 64 := Nat.pow_le_pow_right (n := 2) (by decide) h
set_option maxRecDepth 100000 in
set_option maxHeartbeats 4000000 in
theorem me_X7_shown {X : Nat × (Nat → Int32)} {Q : Option Value → bw_H → Prop} {h : bw_H} {S : ST} {s : Int32} (hx : XR h S) (hQ : PX h Q (yShown s S)) : bw_me X 4 bm_X7_shown false [.ref 0, .int s] h Q := by
  have hc : bw_ct h 11 (nowC S) := hx.2.2.2.1.1.1
  have hN := hc.2.2.1
  show bw_go _ 4 7 2 false (some .int) cX7_shown 0 [(0, .ref _), (1, .int _)] [] _ _
  refine go_aload_n dX7_shown_0 rfl ?_
  refine go_gfr dX7_shown_1 fl_7_24 rfl hx.1.1.1 hx.1.1.2.1 hx.1.1.2.2.2.2.1 ?_
  refine go_iload_n dX7_shown_4 rfl ?_
  refine go_cv (as := [.int _]) 1 dX7_shown_5 mt_7_181 (Or.inr rfl) rfl rfl hc.1.1.1 hc.1.1.2.1 (Nat.le_of_ble_eq_true rfl) (Nat.le_of_ble_eq_true rfl) (Nat.le_of_ble_eq_true rfl) (Nat.le_of_ble_eq_true rfl) (Nat.le_of_ble_eq_true rfl) ?_
  refine me_X1_isSet hc ?_
  show bw_go _ _ _ _ _ _ _ 8 [(0, .ref _), (1, .int _)] ((.int _) :: []) _ _
  refine go_ifb_ne (pc' := 13) dX7_shown_8 rfl (fun c_8 => ?_) (fun c_8 => ?_)
  · -- ne at 8: yes
    show bw_go _ _ _ _ _ _ _ 13 [(0, .ref _), (1, .int _)] ([]) _ _
    have h2N0 := p2N hN
    obtain ⟨y, hy, rfl⟩ := isn_ex (num := 2 ^ cN (nowC S)) c_8 (by omega)
    refine go_aload_n dX7_shown_13 rfl ?_
    refine go_gfr dX7_shown_14 fl_7_24 rfl hx.1.1.1 hx.1.1.2.1 hx.1.1.2.2.2.2.1 ?_
    refine go_gfi dX7_shown_17 fl_7_141 rfl hc.1.1.1 hc.1.1.2.1 ?_
    rw [hc.2.1.1]
    refine go_if_ne (pc' := 26) dX7_shown_20 rfl (fun c_20 => ?_) (fun c_20 => ?_)
    · -- ne at 20: yes
      show bw_go _ _ _ _ _ _ _ 26 [(0, .ref _), (1, .int _)] ([]) _ _
      refine go_aload_n dX7_shown_26 rfl ?_
      refine go_gfr dX7_shown_27 fl_7_52 rfl hx.1.1.1 hx.1.1.2.1 hx.1.1.2.2.2.2.2.2.2.2.2.1 ?_
      refine go_aload_n dX7_shown_30 rfl ?_
      refine go_gfr dX7_shown_31 fl_7_24 rfl hx.1.1.1 hx.1.1.2.1 hx.1.1.2.2.2.2.1 ?_
      refine go_cv (as := [.ref _]) 3 dX7_shown_34 mt_7_184 (Or.inr rfl) rfl rfl hx.1.2.2.2.2.2.1.1.1 hx.1.2.2.2.2.2.1.1.2.1 (Nat.le_of_ble_eq_true rfl) (Nat.le_of_ble_eq_true rfl) (Nat.le_of_ble_eq_true rfl) (Nat.le_of_ble_eq_true rfl) (Nat.le_of_ble_eq_true rfl) ?_
      refine me_X5_hear hx.1.2.2.2.2.2.1 hc (Or.inr (by decide)) (fun I hI => ?_)
      have hx2 : XR (bw_wi h I) S := xr_sc hx (fun q hq => hI.2 q (by omega) (by omega) (by omega))
      have hf2 : frM h (bw_wi h I) := frM_wi rfl (fun q h1 h2 => hI.2 q (by omega) (by omega) (by omega))
      have ht : bw_ta (bw_wi h I) 46 (taC (nowC S)) := hI.1
      have h2N := p2N hN
      show bw_go _ _ _ _ _ _ _ 37 [(0, .ref _), (1, .int _)] ([]) _ _
      refine go_aload_n dX7_shown_37 rfl ?_
      refine go_aload_n dX7_shown_38 rfl ?_
      refine go_gfr dX7_shown_39 fl_7_52 rfl hx.1.1.1 hx.1.1.2.1 hx.1.1.2.2.2.2.2.2.2.2.2.1 ?_
      refine go_iload_n dX7_shown_42 rfl ?_
      refine go_cv (as := [.int _]) 2 dX7_shown_43 mt_7_187 (Or.inr rfl) rfl rfl hx.1.2.2.2.2.2.1.1.1 hx.1.2.2.2.2.2.1.1.2.1 (Nat.le_of_ble_eq_true rfl) (Nat.le_of_ble_eq_true rfl) (Nat.le_of_ble_eq_true rfl) (Nat.le_of_ble_eq_true rfl) (Nat.le_of_ble_eq_true rfl) ?_
      refine me_X5_tiedBy ht (set := y) (by omega) ?_
      show bw_go _ _ _ _ _ _ _ 46 [(0, .ref _), (1, .int _)] ((.int _) :: (.ref _) :: []) _ _
      refine go_pfi dX7_shown_46 fl_7_76 rfl hx.1.1.1 hx.1.1.2.1 (Nat.le_of_ble_eq_true rfl) (Or.inl rfl) ?_
      show bw_go _ _ _ _ _ _ _ 49 [(0, .ref _), (1, .int _)] ([]) _ _
      refine go_aload_n dX7_shown_49 rfl ?_
      refine go_gfr dX7_shown_50 fl_7_52 rfl hx.1.1.1 hx.1.1.2.1 hx.1.1.2.2.2.2.2.2.2.2.2.1 ?_
      refine go_iload_n dX7_shown_53 rfl ?_
      refine go_cv (as := [.int _]) 2 dX7_shown_54 mt_7_190 (Or.inr rfl) rfl rfl hx.1.2.2.2.2.2.1.1.1 hx.1.2.2.2.2.2.1.1.2.1 (Nat.le_of_ble_eq_true rfl) (Nat.le_of_ble_eq_true rfl) (Nat.le_of_ble_eq_true rfl) (Nat.le_of_ble_eq_true rfl) (Nat.le_of_ble_eq_true rfl) ?_
      refine me_X5_shownBy (ta_si ht) (set := y) (by omega) ?_
      show bw_go _ _ _ _ _ _ _ 57 [(0, .ref _), (1, .int _)] ((.int _) :: []) _ _
      refine go_iret dX7_shown_57 rfl rfl ?_
      refine q_x hQ ?_ (xr_la hx2 _) (frM_t hf2 (frM_wi rfl (fun q h1 h2 => ?_)))
      · unfold yShown
        rw [if_pos (show isn (nI y) (2 ^ cN (nowC S)) = true from c_8), if_neg (fun z => c_20 ((nI_eq (a := cN (nowC S)) (b := 0) (by omega) (by omega)).mpr z)), rn_n (by omega)]
      · rw [i_si_o (by omega)]
    · -- ne at 20: no
      show bw_go _ _ _ _ _ _ _ 23 [(0, .ref _), (1, .int _)] ([]) _ _
      refine go_bipush (-4) dX7_shown_23 rfl ?_
      refine go_iret dX7_shown_25 rfl rfl ?_
      refine q_x hQ ?_ hx (frM_r h)
      unfold yShown
      rw [if_pos (show isn (nI y) (2 ^ cN (nowC S)) = true from c_8), if_pos ((nI_eq (a := cN (nowC S)) (b := 0) (by omega) (by omega)).mp (Decidable.of_not_not c_20))]
  · -- ne at 8: no
    show bw_go _ _ _ _ _ _ _ 11 [(0, .ref _), (1, .int _)] ([]) _ _
    refine go_iconst (-1) dX7_shown_11 rfl ?_
    refine go_iret dX7_shown_12 rfl rfl ?_
    refine q_x hQ ?_ hx (frM_r h)
    unfold yShown
    rw [if_neg (fun z => Bool.noConfusion ((show isn s (2 ^ cN (nowC S)) = false from c_8).symm.trans z))]
set_option maxRecDepth 100000 in
set_option maxHeartbeats 4000000 in
theorem me_X7_rivals {X : Nat × (Nat → Int32)} {Q : Option Value → bw_H → Prop} {h : bw_H} {S : ST} {i j : Int32} (hx : XR h S) (hQ : PX h Q (yRivals i j S)) : bw_me X 4 bm_X7_rivals false [.ref 0, .int i, .int j] h Q := by
  have hc : bw_ct h 11 (nowC S) := hx.2.2.2.1.1.1
  have hN := hc.2.2.1
  show bw_go _ 4 7 3 false (some .int) cX7_rivals 0 [(0, .ref _), (1, .int _), (2, .int _)] [] _ _
  refine go_aload_n dX7_rivals_0 rfl ?_
  refine go_gfr dX7_rivals_1 fl_7_24 rfl hx.1.1.1 hx.1.1.2.1 hx.1.1.2.2.2.2.1 ?_
  refine go_iload_n dX7_rivals_4 rfl ?_
  refine go_cv (as := [.int _]) 0 dX7_rivals_5 mt_7_144 (Or.inr rfl) rfl rfl hc.1.1.1 hc.1.1.2.1 (Nat.le_of_ble_eq_true rfl) (Nat.le_of_ble_eq_true rfl) (Nat.le_of_ble_eq_true rfl) (Nat.le_of_ble_eq_true rfl) (Nat.le_of_ble_eq_true rfl) ?_
  refine me_X1_hasBear hc ?_
  show bw_go _ _ _ _ _ _ _ 8 [(0, .ref _), (1, .int _), (2, .int _)] ((.int _) :: []) _ _
  refine go_ifb_eq (pc' := 27) dX7_rivals_8 rfl (fun c_8 => ?_) (fun c_8 => ?_)
  · -- eq at 8: yes
    show bw_go _ _ _ _ _ _ _ 27 [(0, .ref _), (1, .int _), (2, .int _)] ([]) _ _
    refine go_iconst (-1) dX7_rivals_27 rfl ?_
    refine go_iret dX7_rivals_28 rfl rfl ?_
    refine q_x hQ ?_ hx (frM_r h)
    unfold yRivals
    rw [if_neg (fun z => Bool.noConfusion ((show isn i (cN (nowC S)) = false from c_8).symm.trans z.1))]
  · -- eq at 8: no
    show bw_go _ _ _ _ _ _ _ 11 [(0, .ref _), (1, .int _), (2, .int _)] ([]) _ _
    refine go_aload_n dX7_rivals_11 rfl ?_
    refine go_gfr dX7_rivals_12 fl_7_24 rfl hx.1.1.1 hx.1.1.2.1 hx.1.1.2.2.2.2.1 ?_
    refine go_iload_n dX7_rivals_15 rfl ?_
    refine go_cv (as := [.int _]) 0 dX7_rivals_16 mt_7_144 (Or.inr rfl) rfl rfl hc.1.1.1 hc.1.1.2.1 (Nat.le_of_ble_eq_true rfl) (Nat.le_of_ble_eq_true rfl) (Nat.le_of_ble_eq_true rfl) (Nat.le_of_ble_eq_true rfl) (Nat.le_of_ble_eq_true rfl) ?_
    refine me_X1_hasBear hc ?_
    show bw_go _ _ _ _ _ _ _ 19 [(0, .ref _), (1, .int _), (2, .int _)] ((.int _) :: []) _ _
    refine go_ifb_eq (pc' := 27) dX7_rivals_19 rfl (fun c_19 => ?_) (fun c_19 => ?_)
    · -- eq at 19: yes
      show bw_go _ _ _ _ _ _ _ 27 [(0, .ref _), (1, .int _), (2, .int _)] ([]) _ _
      refine go_iconst (-1) dX7_rivals_27 rfl ?_
      refine go_iret dX7_rivals_28 rfl rfl ?_
      refine q_x hQ ?_ hx (frM_r h)
      unfold yRivals
      rw [if_neg (fun z => Bool.noConfusion ((show isn j (cN (nowC S)) = false from c_19).symm.trans z.2.1))]
    · -- eq at 19: no
      show bw_go _ _ _ _ _ _ _ 22 [(0, .ref _), (1, .int _), (2, .int _)] ([]) _ _
      refine go_iload_n dX7_rivals_22 rfl ?_
      refine go_iload_n dX7_rivals_23 rfl ?_
      refine go_icmp_ne (pc' := 29) dX7_rivals_24 rfl (fun c_24 => ?_) (fun c_24 => ?_)
      · -- ne at 24: yes
        show bw_go _ _ _ _ _ _ _ 29 [(0, .ref _), (1, .int _), (2, .int _)] ([]) _ _
        obtain ⟨i, hi, rfl⟩ := isn_ex (num := cN (nowC S)) c_8 (by omega)
        obtain ⟨k, hk, rfl⟩ := isn_ex (num := cN (nowC S)) c_19 (by omega)
        refine go_aload_n dX7_rivals_29 rfl ?_
        refine go_gfr dX7_rivals_30 fl_7_52 rfl hx.1.1.1 hx.1.1.2.1 hx.1.1.2.2.2.2.2.2.2.2.2.1 ?_
        refine go_aload_n dX7_rivals_33 rfl ?_
        refine go_gfr dX7_rivals_34 fl_7_24 rfl hx.1.1.1 hx.1.1.2.1 hx.1.1.2.2.2.2.1 ?_
        refine go_cv (as := [.ref _]) 3 dX7_rivals_37 mt_7_184 (Or.inr rfl) rfl rfl hx.1.2.2.2.2.2.1.1.1 hx.1.2.2.2.2.2.1.1.2.1 (Nat.le_of_ble_eq_true rfl) (Nat.le_of_ble_eq_true rfl) (Nat.le_of_ble_eq_true rfl) (Nat.le_of_ble_eq_true rfl) (Nat.le_of_ble_eq_true rfl) ?_
        refine me_X5_hear hx.1.2.2.2.2.2.1 hc (Or.inr (by decide)) (fun I hI => ?_)
        have hx2 : XR (bw_wi h I) S := xr_sc hx (fun q hq => hI.2 q (by omega) (by omega) (by omega))
        have hf2 : frM h (bw_wi h I) := frM_wi rfl (fun q h1 h2 => hI.2 q (by omega) (by omega) (by omega))
        have ht : bw_ta (bw_wi h I) 46 (taC (nowC S)) := hI.1
        have h2N := p2N hN
        show bw_go _ _ _ _ _ _ _ 40 [(0, .ref _), (1, .int _), (2, .int _)] ([]) _ _
        refine go_aload_n dX7_rivals_40 rfl ?_
        refine go_gfr dX7_rivals_41 fl_7_52 rfl hx.1.1.1 hx.1.1.2.1 hx.1.1.2.2.2.2.2.2.2.2.2.1 ?_
        refine go_iload_n dX7_rivals_44 rfl ?_
        refine go_iload_n dX7_rivals_45 rfl ?_
        refine go_cv (as := [.int _, .int _]) 1 dX7_rivals_46 mt_7_221 (Or.inr rfl) rfl rfl hx.1.2.2.2.2.2.1.1.1 hx.1.2.2.2.2.2.1.1.2.1 (Nat.le_of_ble_eq_true rfl) (Nat.le_of_ble_eq_true rfl) (Nat.le_of_ble_eq_true rfl) (Nat.le_of_ble_eq_true rfl) (Nat.le_of_ble_eq_true rfl) ?_
        refine me_X5_clash ht hi hk ?_
        show bw_go _ _ _ _ _ _ _ 49 [(0, .ref _), (1, .int _), (2, .int _)] ((.int _) :: []) _ _
        refine go_iret dX7_rivals_49 rfl rfl ?_
        refine q_x hQ ?_ hx2 hf2
        unfold yRivals cla
        rw [if_pos ⟨(show isn (nI i) (cN (nowC S)) = true from c_8), (show isn (nI k) (cN (nowC S)) = true from c_19), c_24⟩, rn_n (by omega), rn_n (by omega)]
      · -- ne at 24: no
        show bw_go _ _ _ _ _ _ _ 27 [(0, .ref _), (1, .int _), (2, .int _)] ([]) _ _
        refine go_iconst (-1) dX7_rivals_27 rfl ?_
        refine go_iret dX7_rivals_28 rfl rfl ?_
        refine q_x hQ ?_ hx (frM_r h)
        unfold yRivals
        rw [if_neg (fun z => z.2.2 (Decidable.of_not_not c_24))]
set_option maxRecDepth 100000 in
set_option maxHeartbeats 4000000 in
theorem me_X7_shownByAll {X : Nat × (Nat → Int32)} {Q : Option Value → bw_H → Prop} {h : bw_H} {S : ST} (hx : XR h S) (hQ : ∀ g, XR g S → frM h g → Q (some (.int (nI (sho (taC (nowC S)) (2 ^ cN (nowC S) - 1))))) g) : bw_me X 4 bm_X7_shownByAll false [.ref 0] h Q := by
  have hc : bw_ct h 11 (nowC S) := hx.2.2.2.1.1.1
  have hN := hc.2.2.1
  show bw_go _ 4 7 1 false (some .int) cX7_shownByAll 0 [(0, .ref _)] [] _ _
  refine go_aload_n dX7_shownByAll_0 rfl ?_
  refine go_gfr dX7_shownByAll_1 fl_7_52 rfl hx.1.1.1 hx.1.1.2.1 hx.1.1.2.2.2.2.2.2.2.2.2.1 ?_
  refine go_aload_n dX7_shownByAll_4 rfl ?_
  refine go_gfr dX7_shownByAll_5 fl_7_24 rfl hx.1.1.1 hx.1.1.2.1 hx.1.1.2.2.2.2.1 ?_
  refine go_cv (as := [.ref _]) 3 dX7_shownByAll_8 mt_7_184 (Or.inr rfl) rfl rfl hx.1.2.2.2.2.2.1.1.1 hx.1.2.2.2.2.2.1.1.2.1 (Nat.le_of_ble_eq_true rfl) (Nat.le_of_ble_eq_true rfl) (Nat.le_of_ble_eq_true rfl) (Nat.le_of_ble_eq_true rfl) (Nat.le_of_ble_eq_true rfl) ?_
  refine me_X5_hear hx.1.2.2.2.2.2.1 hc (Or.inr (by decide)) (fun I hI => ?_)
  have hx2 : XR (bw_wi h I) S := xr_sc hx (fun q hq => hI.2 q (by omega) (by omega) (by omega))
  have hf2 : frM h (bw_wi h I) := frM_wi rfl (fun q h1 h2 => hI.2 q (by omega) (by omega) (by omega))
  have ht : bw_ta (bw_wi h I) 46 (taC (nowC S)) := hI.1
  have h2N := p2N hN
  show bw_go _ _ _ _ _ _ _ 11 [(0, .ref _)] ([]) _ _
  refine go_aload_n dX7_shownByAll_11 rfl ?_
  refine go_gfr dX7_shownByAll_12 fl_7_52 rfl hx.1.1.1 hx.1.1.2.1 hx.1.1.2.2.2.2.2.2.2.2.2.1 ?_
  refine go_aload_n dX7_shownByAll_15 rfl ?_
  refine go_gfr dX7_shownByAll_16 fl_7_24 rfl hx.1.1.1 hx.1.1.2.1 hx.1.1.2.2.2.2.1 ?_
  refine go_cv (as := []) 0 dX7_shownByAll_19 mt_7_193 (Or.inr rfl) rfl rfl hc.1.1.1 hc.1.1.2.1 (Nat.le_of_ble_eq_true rfl) (Nat.le_of_ble_eq_true rfl) (Nat.le_of_ble_eq_true rfl) (Nat.le_of_ble_eq_true rfl) (Nat.le_of_ble_eq_true rfl) ?_
  refine me_X1_allBears hx2.2.2.2.1.1.1 ?_
  rw [show cN (hsT (sA S) (cT (sA S).1)) = cN (nowC S) from rfl]
  show bw_go _ _ _ _ _ _ _ 22 [(0, .ref _)] ((.int _) :: (.ref _) :: []) _ _
  refine go_cv (as := [.int _]) 2 dX7_shownByAll_22 mt_7_190 (Or.inr rfl) rfl rfl hx.1.2.2.2.2.2.1.1.1 hx.1.2.2.2.2.2.1.1.2.1 (Nat.le_of_ble_eq_true rfl) (Nat.le_of_ble_eq_true rfl) (Nat.le_of_ble_eq_true rfl) (Nat.le_of_ble_eq_true rfl) (Nat.le_of_ble_eq_true rfl) ?_
  refine me_X5_shownBy ht (set := 2 ^ cN (nowC S) - 1) (by omega) ?_
  show bw_go _ _ _ _ _ _ _ 25 [(0, .ref _)] ((.int _) :: []) _ _
  refine go_iret dX7_shownByAll_25 rfl rfl ?_
  exact hQ _ hx2 hf2
