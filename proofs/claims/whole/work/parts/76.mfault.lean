/-! the reference: a fault, a court from a text -/
theorem pst_0 (h : bw_H) : bw_si (bw_si h 60 14 0) 70 (0 : Int32).toNatClampNeg 0 = pst h 0 (bw_up (bw_i h 70) 0 (nI 0)) := by
  rw [show (0 : Int32).toNatClampNeg = 0 from rfl]
  unfold pst
  rw [si_sa, i_si_o (by decide)]
  rfl
set_option maxRecDepth 100000 in
set_option maxHeartbeats 4000000 in
theorem me_X8_faultOf {X : Nat × (Nat → Int32)} {Q : Option Value → bw_H → Prop} {h : bw_H} {j : Nat} {T : TX} (hm : MS h) (ht : mtx h j T) (hQ : ∀ F b, ((rdt T).2.2 = none → maw F (rdt T).1 ∧ co_k (rdt T).1 ∧ 0 < cN (rdt T).1) → Q (some (.int (mtI (rdt T).2.2))) (pst h b F)) : bw_me X 4 bm_X8_faultOf false [.ref 60, .int (nI j)] h Q := by
  have hj := ht.1
  have hT := ht.2.2.1
  have hsk := skp_le T _ 0 rfl (Nat.zero_le _)
  show bw_go _ 4 8 3 false (some .int) cX8_faultOf 0 [(0, .ref _), (1, .int _)] [] _ _
  refine go_aload_n dX8_faultOf_0 rfl ?_
  refine go_iconst (0) dX8_faultOf_1 rfl ?_
  refine go_pfi dX8_faultOf_2 fl_8_93 rfl (ms_lt hm (by decide)) hm.1.2 (Nat.le_of_ble_eq_true rfl) (Or.inl rfl) ?_
  show bw_go _ _ _ _ _ _ _ 5 [(0, .ref _), (1, .int _)] ([]) _ _
  refine go_aload_n dX8_faultOf_5 rfl ?_
  refine go_gfr dX8_faultOf_6 fl_8_42 rfl (ms_lt hm (by decide)) hm.1.2 hm.2.1.2.2.2.2.2.2.2.2.2.1 ?_
  refine go_iconst (0) dX8_faultOf_9 rfl ?_
  refine go_iconst (0) dX8_faultOf_10 rfl ?_
  refine go_ist dX8_faultOf_11 hm.2.2.2.2.2.2.2.2.2.2.2.1 (ms_lt hm (by decide)) (by decide) ?_
  show bw_go _ _ _ _ _ _ _ 12 [(0, .ref _), (1, .int _)] ([]) _ _
  rw [pst_0]
  cases e8 : frv T with
  | none =>
    refine go_aload_n dX8_faultOf_12 rfl ?_
    refine go_iload_n dX8_faultOf_13 rfl ?_
    refine go_cv (as := [.int _]) 3 dX8_faultOf_14 mt_8_116 (Or.inl rfl) rfl rfl (ms_lt hm (by decide)) hm.1.2 (Nat.le_of_ble_eq_true rfl) (Nat.le_of_ble_eq_true rfl) (Nat.le_of_ble_eq_true rfl) (Nat.le_of_ble_eq_true rfl) (Nat.le_of_ble_eq_true rfl) ?_
    refine me_X8_takesFirst hm ht (fun G b g1 g2 g3 => ?_)
    rw [e8]
    rw [show bi (none : Option Nat).isSome = 0 from rfl]
    obtain rfl := g2 e8
    show bw_go _ _ _ _ _ _ _ 17 [(0, .ref _), (1, .int _)] ((.int _) :: []) _ _
    refine go_istore_n dX8_faultOf_17 (Nat.lt_of_lt_of_le (Nat.lt_succ_self _) (Nat.le_of_ble_eq_true rfl)) ?_
    show bw_go _ _ _ _ _ _ _ 18 [(2, .int _), (0, .ref _), (1, .int _)] ([]) _ _
    refine go_iload_n dX8_faultOf_18 rfl ?_
    refine go_if_eq (pc' := 27) dX8_faultOf_19 rfl (fun _ => ?_) (fun c => absurd (by decide) c)
    show bw_go _ _ _ _ _ _ _ 27 [(2, .int _), (0, .ref _), (1, .int _)] ([]) _ _
    refine go_iload_n dX8_faultOf_27 rfl ?_
    refine go_if_eq (pc' := 62) dX8_faultOf_28 rfl (fun _ => ?_) (fun c => absurd (by decide) c)
    show bw_go _ _ _ _ _ _ _ 62 [(2, .int _), (0, .ref _), (1, .int _)] ([]) _ _
    refine go_iload_n dX8_faultOf_62 rfl ?_
    refine go_if_eq (pc' := 80) dX8_faultOf_63 rfl (fun _ => ?_) (fun c => absurd (by decide) c)
    show bw_go _ _ _ _ _ _ _ 80 [(2, .int _), (0, .ref _), (1, .int _)] ([]) _ _
    refine go_aload_n dX8_faultOf_80 rfl ?_
    refine go_gfi dX8_faultOf_81 fl_8_93 rfl (ms_lt hm (by decide)) hm.1.2 ?_
    rw [pst_i]
    refine go_iret dX8_faultOf_84 rfl rfl ?_
    have hr := rdt_n e8
    rw [hr] at hQ
    exact hQ G (frp T) (fun z => by cases z)
  | some v =>
    refine go_aload_n dX8_faultOf_12 rfl ?_
    refine go_iload_n dX8_faultOf_13 rfl ?_
    refine go_cv (as := [.int _]) 3 dX8_faultOf_14 mt_8_116 (Or.inl rfl) rfl rfl (ms_lt hm (by decide)) hm.1.2 (Nat.le_of_ble_eq_true rfl) (Nat.le_of_ble_eq_true rfl) (Nat.le_of_ble_eq_true rfl) (Nat.le_of_ble_eq_true rfl) (Nat.le_of_ble_eq_true rfl) ?_
    refine me_X8_takesFirst hm ht (fun G b g1 g2 g3 => ?_)
    rw [e8]
    rw [show bi (some v).isSome = 1 from rfl]
    obtain ⟨rfl, rfl⟩ := g1 v e8
    have hs3 : skp T 0 + 3 ≤ T.1 ∧ v ≤ 63 := by
      unfold frv at e8
      split at e8
      · refine ⟨?_, tsv_b e8⟩
        cases q1 : fg T 9 (skp T 0 + 1) with
        | none => rw [(tsv_n1 q1).1] at e8; cases e8
        | some a =>
          cases q2 : fg T 9 (skp T 0 + 1 + 1) with
          | none => rw [(tsv_n2 q1 q2).1] at e8; cases e8
          | some b => have := (fg_hr (by decide) q2).1; omega
      · cases e8
    have hsk2 := skp_le T _ (skp T 0 + 3) rfl (by omega)
    show bw_go _ _ _ _ _ _ _ 17 [(0, .ref _), (1, .int _)] ((.int _) :: []) _ _
    refine go_istore_n dX8_faultOf_17 (Nat.lt_of_lt_of_le (Nat.lt_succ_self _) (Nat.le_of_ble_eq_true rfl)) ?_
    show bw_go _ _ _ _ _ _ _ 18 [(2, .int _), (0, .ref _), (1, .int _)] ([]) _ _
    refine go_iload_n dX8_faultOf_18 rfl ?_
    refine go_if_eq (pc' := 27) dX8_faultOf_19 rfl (fun c => absurd c (by decide)) (fun _ => ?_)
    show bw_go _ _ _ _ _ _ _ 22 [(2, .int _), (0, .ref _), (1, .int _)] ([]) _ _
    refine go_aload_n dX8_faultOf_22 rfl ?_
    refine go_iload_n dX8_faultOf_23 rfl ?_
    refine go_cv (as := [.int _]) 1 dX8_faultOf_24 mt_8_105 (Or.inl rfl) rfl rfl (ms_lt hm (by decide)) hm.1.2 (Nat.le_of_ble_eq_true rfl) (Nat.le_of_ble_eq_true rfl) (Nat.le_of_ble_eq_true rfl) (Nat.le_of_ble_eq_true rfl) (Nat.le_of_ble_eq_true rfl) ?_
    refine me_X8_skip hm ht (a := skp T 0 + 3) (by omega) ?_
    refine go_for (P := fun k => ∀ (C : CT) (p : Nat) (F : Nat → Int32), (cN C = k ∧ (F 0 = nI (cN C) ∧ F 1 = nI (cD C) ∧ ∀ i, i < cN C → F (2 + i) = nI (cK C i) ∧ F (8 + i) = nI (cE C i) ∧ F (14 + i) = nI (cR C i) ∧ F (20 + i) = nI (cV C i)) ∧ co_k C ∧ p ≤ T.1 ∧ lpf T (7 - k) k (C, p, none) = rdt T) → bw_go X 4 8 3 false (some .int) cX8_faultOf 27 [(2, .int (1)), (0, .ref (60)), (1, .int (nI j))] [] (pst h p F) Q) (N := 7) (fun k hk K => ?_) ?_ (0) (Nat.zero_le _) (ct0 v) (skp T (skp T 0 + 3)) (bw_up (bw_up (bw_i h 70) 0 (nI 0)) 1 (nI v)) ⟨rfl, ⟨by rw [bw_up_o (by decide), bw_up_s]; rfl, by rw [bw_up_s]; rfl, fun i hi => absurd hi (Nat.not_lt_zero i)⟩, ⟨by show 0 ≤ 6; decide, by show v < 64; omega, by show 0 < 64; decide, by show 0 ≤ 40; decide, fun i hi => absurd hi (Nat.not_lt_zero i)⟩, by omega, (rdt_s e8).symm⟩
    · -- a turn
      intro C p F hv
      obtain ⟨h1, ⟨h2, h3, h4⟩, h5, h6, hv⟩ := hv
      have hk6 : k ≤ 6 := by have := h5.1; omega
      show bw_go _ _ _ _ _ _ _ 27 [(2, .int _), (0, .ref _), (1, .int _)] ([]) _ _
      refine go_iload_n dX8_faultOf_27 rfl ?_
      refine go_if_eq (pc' := 62) dX8_faultOf_28 rfl (fun c => absurd c (by decide)) (fun _ => ?_)
      show bw_go _ _ _ _ _ _ _ 31 [(2, .int _), (0, .ref _), (1, .int _)] ([]) _ _
      refine go_aload_n dX8_faultOf_31 rfl ?_
      refine go_gfi dX8_faultOf_32 fl_8_93 rfl (ms_lt hm (by decide)) hm.1.2 ?_
      rw [pst_i]
      refine go_aload_n dX8_faultOf_35 rfl ?_
      refine go_gfr dX8_faultOf_36 fl_8_29 rfl (ms_lt hm (by decide)) hm.1.2 hm.2.1.2.2.2.2.2.2.1 ?_
      refine go_iload_n dX8_faultOf_39 rfl ?_
      refine go_ia dX8_faultOf_40 hm.2.2.2.2.2.2.2.2.1 (ms_lt hm (by decide)) (n_in (N := 4) ht.1 (by decide)) ?_
      rw [nI_clamp (by omega), pst_o (by decide) (by decide), ht.2.1]
      refine go_icmp_ge (pc' := 62) dX8_faultOf_41 rfl (fun c_41 => ?_) (fun c_41 => ?_)
      · -- ge at 41: yes
        show bw_go _ _ _ _ _ _ _ 62 [(2, .int _), (0, .ref _), (1, .int _)] ([]) _ _
        have hge : ¬ p < T.1 := by have t_0 := nI_toInt (n := T.1) (by omega); have t_1 := nI_toInt (n := p) (by omega); simp only [i_le] at c_41; omega
        refine go_iload_n dX8_faultOf_62 rfl ?_
        refine go_if_eq (pc' := 80) dX8_faultOf_63 rfl (fun c => absurd c (by decide)) (fun _ => ?_)
        show bw_go _ _ _ _ _ _ _ 66 [(2, .int _), (0, .ref _), (1, .int _)] ([]) _ _
        refine go_aload_n dX8_faultOf_66 rfl ?_
        refine go_gfr dX8_faultOf_67 fl_8_42 rfl (ms_lt hm (by decide)) hm.1.2 hm.2.1.2.2.2.2.2.2.2.2.2.1 ?_
        refine go_iconst (0) dX8_faultOf_70 rfl ?_
        refine go_ia dX8_faultOf_71 hm.2.2.2.2.2.2.2.2.2.2.2.1 (ms_lt hm (by decide)) (by decide) ?_
        rw [pst_f, show (0 : Int32).toNatClampNeg = 0 from rfl, h2, h1]
        refine go_if_le (pc' := 80) dX8_faultOf_72 rfl (fun c_72 => ?_) (fun c_72 => ?_)
        · -- le at 72: yes
          show bw_go _ _ _ _ _ _ _ 80 [(2, .int _), (0, .ref _), (1, .int _)] ([]) _ _
          refine go_aload_n dX8_faultOf_80 rfl ?_
          refine go_gfi dX8_faultOf_81 fl_8_93 rfl (ms_lt hm (by decide)) hm.1.2 ?_
          first | rw [pst_i] | skip
          refine go_iret dX8_faultOf_84 rfl rfl ?_
          first
          | (have hk0 : k = 0 := by have t_0 := nI_toInt (n := k) (by omega); have l_0 := i_0; simp only [i_le] at c_72; omega
             subst hk0
             have hr : (rdt T).2.2 = some p := by
               rw [← hv]
               have z := lpf_n (T := T) (C := C) (p := p) (k := 6) (i := 0) (Or.inl rfl) (brv_o hge).1
               rw [(brv_o hge).2] at z
               exact z
             rw [hr] at hQ
             exact hQ F p (fun z => by cases z))
          | (have hk0 : 0 < k := by have t_0 := nI_toInt (n := k) (by omega); have l_0 := i_0; simp only [i_le] at c_72; omega
             have hr : rdt T = (C, p, none) := by rw [← hv]; exact lpf_x hk0 (by omega)
             rw [hr] at hQ
             exact hQ F p (fun _ => ⟨⟨h2, h3, h4⟩, h5, by show 0 < cN C; omega⟩))
        · -- le at 72: no
          show bw_go _ _ _ _ _ _ _ 75 [(2, .int _), (0, .ref _), (1, .int _)] ([]) _ _
          refine go_bipush (-9) dX8_faultOf_75 rfl ?_
          refine go_goto (pc' := 84) dX8_faultOf_77 rfl ?_
          show bw_go _ _ _ _ _ _ _ 84 [(2, .int _), (0, .ref _), (1, .int _)] ((.int _) :: []) _ _
          first | rw [pst_i] | skip
          refine go_iret dX8_faultOf_84 rfl rfl ?_
          first
          | (have hk0 : k = 0 := by have t_0 := nI_toInt (n := k) (by omega); have l_0 := i_0; simp only [i_le] at c_72; omega
             subst hk0
             have hr : (rdt T).2.2 = some p := by
               rw [← hv]
               have z := lpf_n (T := T) (C := C) (p := p) (k := 6) (i := 0) (Or.inl rfl) (brv_o hge).1
               rw [(brv_o hge).2] at z
               exact z
             rw [hr] at hQ
             exact hQ F p (fun z => by cases z))
          | (have hk0 : 0 < k := by have t_0 := nI_toInt (n := k) (by omega); have l_0 := i_0; simp only [i_le] at c_72; omega
             have hr : rdt T = (C, p, none) := by rw [← hv]; exact lpf_x hk0 (by omega)
             rw [hr] at hQ
             exact hQ F p (fun _ => ⟨⟨h2, h3, h4⟩, h5, by show 0 < cN C; omega⟩))
      · -- ge at 41: no
        have hlt : p < T.1 := by have t_0 := nI_toInt (n := T.1) (by omega); have t_1 := nI_toInt (n := p) (by omega); simp only [i_le] at c_41; omega
        cases e9 : brv T k p with
        | none =>
          refine go_aload_n dX8_faultOf_44 rfl ?_
          refine go_iload_n dX8_faultOf_45 rfl ?_
          refine go_cv (as := [.int _]) 3 dX8_faultOf_46 mt_8_119 (Or.inl rfl) rfl rfl (ms_lt hm (by decide)) hm.1.2 (Nat.le_of_ble_eq_true rfl) (Nat.le_of_ble_eq_true rfl) (Nat.le_of_ble_eq_true rfl) (Nat.le_of_ble_eq_true rfl) (Nat.le_of_ble_eq_true rfl) ?_
          refine me_X8_takesBear (n := k) hm ht (by omega) (by rw [h2, h1]) (by omega) (fun G b g1 g2 => ?_)
          rw [e9]
          rw [show bi (none : Option (Nat × Nat × Nat × Nat)).isSome = 0 from rfl]
          obtain rfl := g2 e9
          show bw_go _ _ _ _ _ _ _ 49 [(2, .int _), (0, .ref _), (1, .int _)] ((.int _) :: []) _ _
          refine go_istore_n dX8_faultOf_49 (Nat.lt_of_lt_of_le (Nat.lt_succ_self _) (Nat.le_of_ble_eq_true rfl)) ?_
          show bw_go _ _ _ _ _ _ _ 50 [(2, .int _), (0, .ref _), (1, .int _)] ([]) _ _
          refine go_iload_n dX8_faultOf_50 rfl ?_
          refine go_if_eq (pc' := 27) dX8_faultOf_51 rfl (fun _ => ?_) (fun c => absurd (by decide) c)
          refine go_iload_n dX8_faultOf_27 rfl ?_
          refine go_if_eq (pc' := 62) dX8_faultOf_28 rfl (fun _ => ?_) (fun c => absurd (by decide) c)
          show bw_go _ _ _ _ _ _ _ 62 [(2, .int _), (0, .ref _), (1, .int _)] ([]) _ _
          refine go_iload_n dX8_faultOf_62 rfl ?_
          refine go_if_eq (pc' := 80) dX8_faultOf_63 rfl (fun _ => ?_) (fun c => absurd (by decide) c)
          show bw_go _ _ _ _ _ _ _ 80 [(2, .int _), (0, .ref _), (1, .int _)] ([]) _ _
          refine go_aload_n dX8_faultOf_80 rfl ?_
          refine go_gfi dX8_faultOf_81 fl_8_93 rfl (ms_lt hm (by decide)) hm.1.2 ?_
          rw [pst_i]
          refine go_iret dX8_faultOf_84 rfl rfl ?_
          have hr : (rdt T).2.2 = some (brp T k p) := by
            rw [← hv]
            have z := lpf_n (T := T) (C := C) (p := p) (k := 6 - k) (i := k) (Or.inr hlt) (by rw [h1]; exact e9)
            rw [show 6 - k + 1 = 7 - k by omega, h1] at z
            exact z
          rw [hr] at hQ
          exact hQ G (brp T k p) (fun z => by cases z)
        | some val =>
          obtain ⟨kk, e, w, v⟩ := val
          refine go_aload_n dX8_faultOf_44 rfl ?_
          refine go_iload_n dX8_faultOf_45 rfl ?_
          refine go_cv (as := [.int _]) 3 dX8_faultOf_46 mt_8_119 (Or.inl rfl) rfl rfl (ms_lt hm (by decide)) hm.1.2 (Nat.le_of_ble_eq_true rfl) (Nat.le_of_ble_eq_true rfl) (Nat.le_of_ble_eq_true rfl) (Nat.le_of_ble_eq_true rfl) (Nat.le_of_ble_eq_true rfl) ?_
          refine me_X8_takesBear (n := k) hm ht (by omega) (by rw [h2, h1]) (by omega) (fun G b g1 g2 => ?_)
          rw [e9]
          rw [show bi (some (kk, e, w, v)).isSome = 1 from rfl]
          obtain ⟨rfl, rfl⟩ := g1 kk e w v e9
          obtain ⟨z1, z2, z3, z4, z5, z6, z7⟩ := brv_bd e9
          have z8 := skp_le T _ (p + 5) rfl (by omega)
          show bw_go _ _ _ _ _ _ _ 49 [(2, .int _), (0, .ref _), (1, .int _)] ((.int _) :: []) _ _
          refine go_istore_n dX8_faultOf_49 (Nat.lt_of_lt_of_le (Nat.lt_succ_self _) (Nat.le_of_ble_eq_true rfl)) ?_
          show bw_go _ _ _ _ _ _ _ 50 [(2, .int _), (0, .ref _), (1, .int _)] ([]) _ _
          refine go_iload_n dX8_faultOf_50 rfl ?_
          refine go_if_eq (pc' := 27) dX8_faultOf_51 rfl (fun c => absurd c (by decide)) (fun _ => ?_)
          show bw_go _ _ _ _ _ _ _ 54 [(2, .int _), (0, .ref _), (1, .int _)] ([]) _ _
          refine go_aload_n dX8_faultOf_54 rfl ?_
          refine go_iload_n dX8_faultOf_55 rfl ?_
          refine go_cv (as := [.int _]) 1 dX8_faultOf_56 mt_8_105 (Or.inl rfl) rfl rfl (ms_lt hm (by decide)) hm.1.2 (Nat.le_of_ble_eq_true rfl) (Nat.le_of_ble_eq_true rfl) (Nat.le_of_ble_eq_true rfl) (Nat.le_of_ble_eq_true rfl) (Nat.le_of_ble_eq_true rfl) ?_
          refine me_X8_skip hm ht (a := p + 5) (by omega) ?_
          show bw_go _ _ _ _ _ _ _ 59 [(2, .int _), (0, .ref _), (1, .int _)] ([]) _ _
          refine go_goto (pc' := 27) dX8_faultOf_59 rfl ?_
          exact K (stt C kk e w v) (skp T (p + 5)) (brF F k kk e w v) ⟨by show cN C + 1 = k + 1; omega, by rw [← h1]; exact maw_s ⟨h2, h3, h4⟩ (by omega), co_stt h5 (by omega) z2 z3 z4 z5, by omega, by
            rw [← hv, show 7 - k = (6 - k) + 1 by omega, lpf_s (Or.inr hlt) (by rw [h1]; exact e9), show 6 - k = 7 - (k + 1) by omega]⟩
    · -- behind the last
      intro C p F hv
      have h5 := hv.2.2.1.1
      have h1 := hv.1
      omega
theorem mr_tx {h : bw_H} {S : ST} {j m : Nat} (hm : MR h S) (hj : j < 4) (e : sT S j = some m) : mtx h j (m, sTc S j) := by
  obtain ⟨h1, h2, h3⟩ := hm.2.2.2.2.1 j hj
  rw [e] at h1
  exact ⟨hj, h1, h2 m e, fun i hi => h3 m e i hi⟩
set_option maxRecDepth 100000 in
set_option maxHeartbeats 4000000 in
theorem me_X8_fault {X : Nat × (Nat → Int32)} {Q : Option Value → bw_H → Prop} {h : bw_H} {S : ST} {r : Int32} (hm : MR h S) (hQ : PM h Q (yFault r S)) : bw_me X 5 bm_X8_fault false [.ref 60, .int r] h Q := by
  show bw_go _ 5 8 2 false (some .int) cX8_fault 0 [(0, .ref _), (1, .int _)] [] _ _
  refine go_iload_n dX8_fault_0 rfl ?_
  refine go_cs (as := [.int _]) 1 dX8_fault_1 rfl rfl mt_8_90 (Nat.le_of_ble_eq_true rfl) rfl rfl (Nat.le_of_ble_eq_true rfl) (Nat.le_of_ble_eq_true rfl) (Nat.le_of_ble_eq_true rfl) (Nat.le_of_ble_eq_true rfl) ?_
  refine me_X8_isText ?_
  show bw_go _ _ _ _ _ _ _ 4 [(0, .ref _), (1, .int _)] ((.int _) :: []) _ _
  refine go_ifb_ne (pc' := 9) dX8_fault_4 rfl (fun c_4 => ?_) (fun c_4 => ?_)
  · -- ne at 4: yes
    show bw_go _ _ _ _ _ _ _ 9 [(0, .ref _), (1, .int _)] ([]) _ _
    obtain ⟨j, hj, rfl⟩ := isn_ex (r := r) (num := 4) c_4 (by decide)
    refine go_aload_n dX8_fault_9 rfl ?_
    refine go_gfr dX8_fault_10 fl_8_29 rfl (ms_lt hm.1 (by decide)) hm.1.1.2 hm.1.2.1.2.2.2.2.2.2.1 ?_
    refine go_iload_n dX8_fault_13 rfl ?_
    refine go_ia dX8_fault_14 hm.1.2.2.2.2.2.2.2.2.1 (ms_lt hm.1 (by decide)) (n_in (N := 4) hj (by decide)) ?_
    rw [nI_clamp (by omega), (hm.2.2.2.2.1 j hj).1]
    refine go_if_ge (pc' := 26) dX8_fault_15 rfl (fun c_15 => ?_) (fun c_15 => ?_)
    · -- ge at 15: yes
      show bw_go _ _ _ _ _ _ _ 26 [(0, .ref _), (1, .int _)] ([]) _ _
      obtain ⟨m, em, hml⟩ := oz_some (hm.2.2.2.2.1 j hj).2.1 (by decide) c_15
      refine go_aload_n dX8_fault_26 rfl ?_
      refine go_iload_n dX8_fault_27 rfl ?_
      refine go_cv (as := [.int _]) 4 dX8_fault_28 mt_8_122 (Or.inl rfl) rfl rfl (ms_lt hm.1 (by decide)) hm.1.1.2 (Nat.le_of_ble_eq_true rfl) (Nat.le_of_ble_eq_true rfl) (Nat.le_of_ble_eq_true rfl) (Nat.le_of_ble_eq_true rfl) (Nat.le_of_ble_eq_true rfl) ?_
      refine me_X8_faultOf hm.1 (mr_tx hm hj em) (fun F b hF => ?_)
      show bw_go _ _ _ _ _ _ _ 31 [(0, .ref _), (1, .int _)] ((.int _) :: []) _ _
      refine go_iret dX8_fault_31 rfl rfl ?_
      refine q_m hQ ?_ (pst_mr hm _ _) (pst_fr _ _ _)
      unfold yFault
      rw [if_pos (show isn (nI j) 4 = true from c_4), rn_n (by omega), em]
    · -- ge at 15: no
      show bw_go _ _ _ _ _ _ _ 18 [(0, .ref _), (1, .int _)] ([]) _ _
      refine go_aload_n dX8_fault_18 rfl ?_
      refine go_iconst (1) dX8_fault_19 rfl ?_
      refine go_cv (as := [.int _]) 0 dX8_fault_20 mt_8_79 (Or.inl rfl) rfl rfl (ms_lt hm.1 (by decide)) hm.1.1.2 (Nat.le_of_ble_eq_true rfl) (Nat.le_of_ble_eq_true rfl) (Nat.le_of_ble_eq_true rfl) (Nat.le_of_ble_eq_true rfl) (Nat.le_of_ble_eq_true rfl) ?_
      rw [show (1 : Int32) = nI 1 from rfl]
      refine me_X8_finds hm (f := 1) (by decide) (fun g hg hf => ?_)
      show bw_go _ _ _ _ _ _ _ 23 [(0, .ref _), (1, .int _)] ((.int _) :: []) _ _
      refine go_goto (pc' := 31) dX8_fault_23 rfl ?_
      show bw_go _ _ _ _ _ _ _ 31 [(0, .ref _), (1, .int _)] ((.int _) :: []) _ _
      refine go_iret dX8_fault_31 rfl rfl ?_
      refine q_m hQ ?_ hg hf
      unfold yFault
      rw [if_pos (show isn (nI j) 4 = true from c_4), rn_n (by omega), oz_none (hm.2.2.2.2.1 j hj).2.1 (by decide) c_15]
  · -- ne at 4: no
    show bw_go _ _ _ _ _ _ _ 7 [(0, .ref _), (1, .int _)] ([]) _ _
    refine go_iconst (-1) dX8_fault_7 rfl ?_
    refine go_iret dX8_fault_8 rfl rfl ?_
    refine q_m hQ ?_ hm (frX_r h)
    unfold yFault
    rw [if_neg (fun z => Bool.noConfusion ((show isn r 4 = false from c_4).symm.trans z))]
/-- a row of a court as it is at first -/
def bgk (F : Nat → Int32) (k : Nat) : Nat → Int32 := fun x => if 67 ≤ x ∧ x < 67 + k then F (8 + (x - 67)) else if 73 ≤ x ∧ x < 73 + k then F (14 + (x - 73)) else F x
def bgF (F : Nat → Int32) : Nat → Int32 := bw_up (bgk F 6) 79 0
theorem bgk_0 (F : Nat → Int32) : bgk F 0 = F := by funext x; unfold bgk; rw [if_neg (by omega), if_neg (by omega)]
theorem bgk_lo {F : Nat → Int32} {k x : Nat} (h : x < 67) : bgk F k x = F x := by unfold bgk; rw [if_neg (by omega), if_neg (by omega)]
theorem bgk_s {F : Nat → Int32} {k : Nat} (hk : k < 6) : bw_up (bw_up (bgk F k) (67 + k) (F (8 + k))) (73 + k) (F (14 + k)) = bgk F (k + 1) := by
  funext x
  by_cases e1 : x = 73 + k
  · subst e1; rw [bw_up_s]; unfold bgk; rw [if_neg (by omega), if_pos (by omega), show 73 + k - 73 = k by omega]
  · rw [bw_up_o e1]
    by_cases e2 : x = 67 + k
    · subst e2; rw [bw_up_s]; unfold bgk; rw [if_pos (by omega), show 67 + k - 67 = k by omega]
    · rw [bw_up_o e2]
      unfold bgk
      by_cases e3 : 67 ≤ x ∧ x < 67 + k
      · rw [if_pos e3, if_pos (by omega)]
      · rw [if_neg e3, if_neg (show ¬ (67 ≤ x ∧ x < 67 + (k + 1)) by omega)]
        by_cases e4 : 73 ≤ x ∧ x < 73 + k
        · rw [if_pos e4, if_pos (by omega)]
        · rw [if_neg e4, if_neg (by omega)]
set_option maxRecDepth 100000 in
set_option maxHeartbeats 4000000 in
theorem me_X8_begin {X : Nat × (Nat → Int32)} {Q : Option Value → bw_H → Prop} {h : bw_H} (hm : MS h) (hQ : Q none (bw_sa h 61 (bgF (bw_i h 61)))) : bw_me X 0 bm_X8_begin false [.ref 61] h Q := by
  show bw_go _ 0 8 2 false none cX8_begin 0 [(0, .ref _)] [] _ _
  refine go_iconst (0) dX8_begin_0 rfl ?_
  refine go_istore_n dX8_begin_1 (Nat.lt_of_lt_of_le (Nat.lt_succ_self _) (Nat.le_of_ble_eq_true rfl)) ?_
  show bw_go _ _ _ _ _ _ _ 2 [(1, .int _), (0, .ref _)] ([]) _ _
  rw [show h = bw_sa h 61 (bgk (bw_i h 61) 0) from by rw [bgk_0]; exact (sa_id _ _).symm]
  refine go_for (P := fun k => bw_go X 0 8 2 false none cX8_begin 2 [(1, .int (nI k)), (0, .ref (61))] [] (bw_sa h 61 (bgk (bw_i h 61) k)) Q) (N := 6) (fun k hk K => ?_) ?_ (0) (Nat.zero_le _)
  · -- a turn
    show bw_go _ _ _ _ _ _ _ 2 [(1, .int _), (0, .ref _)] ([]) _ _
    refine go_iload_n dX8_begin_2 rfl ?_
    refine go_bipush (6) dX8_begin_3 rfl ?_
    refine go_icmp_ge (pc' := 38) dX8_begin_5 rfl (fun c_5 => ?_) (fun c_5 => ?_)
    · -- ge at 5: yes
      exfalso; have t_0 := nI_toInt (n := k) (by omega); have l_0 : (6 : Int32).toInt = 6 := rfl; simp only [i_le, i_lt, i_eq, bi_eq] at c_5; omega
    · -- ge at 5: no
      show bw_go _ _ _ _ _ _ _ 8 [(1, .int _), (0, .ref _)] ([]) _ _
      refine go_aload_n dX8_begin_8 rfl ?_
      refine go_bipush (67) dX8_begin_9 rfl ?_
      refine go_iload_n dX8_begin_11 rfl ?_
      refine go_iadd dX8_begin_12 ?_
      rw [show (67 : Int32) = nI 67 from rfl, nI_add]
      refine go_aload_n dX8_begin_13 rfl ?_
      refine go_bipush (8) dX8_begin_14 rfl ?_
      refine go_iload_n dX8_begin_16 rfl ?_
      refine go_iadd dX8_begin_17 ?_
      rw [show (8 : Int32) = nI 8 from rfl, nI_add]
      refine go_ia dX8_begin_18 hm.2.2.1 (ms_lt hm (by decide)) (n_in (N := 80) (by omega) (by decide)) ?_
      rw [nI_clamp (by omega), i_sa_s, bgk_lo (by omega)]
      refine go_ist dX8_begin_19 hm.2.2.1 (ms_lt hm (by decide)) (n_in (N := 80) (by omega) (by decide)) ?_
      show bw_go _ _ _ _ _ _ _ 20 [(1, .int _), (0, .ref _)] ([]) _ _
      rw [nI_clamp (by omega), si_sa, i_sa_s, sa_sa]
      refine go_aload_n dX8_begin_20 rfl ?_
      refine go_bipush (73) dX8_begin_21 rfl ?_
      refine go_iload_n dX8_begin_23 rfl ?_
      refine go_iadd dX8_begin_24 ?_
      rw [show (73 : Int32) = nI 73 from rfl, nI_add]
      refine go_aload_n dX8_begin_25 rfl ?_
      refine go_bipush (14) dX8_begin_26 rfl ?_
      refine go_iload_n dX8_begin_28 rfl ?_
      refine go_iadd dX8_begin_29 ?_
      rw [show (14 : Int32) = nI 14 from rfl, nI_add]
      refine go_ia dX8_begin_30 hm.2.2.1 (ms_lt hm (by decide)) (n_in (N := 80) (by omega) (by decide)) ?_
      rw [nI_clamp (by omega), i_sa_s, bw_up_o (by omega), bgk_lo (by omega)]
      refine go_ist dX8_begin_31 hm.2.2.1 (ms_lt hm (by decide)) (n_in (N := 80) (by omega) (by decide)) ?_
      show bw_go _ _ _ _ _ _ _ 32 [(1, .int _), (0, .ref _)] ([]) _ _
      rw [nI_clamp (by omega), si_sa, i_sa_s, sa_sa, bgk_s hk]
      refine go_iinc dX8_begin_32 rfl (nI_1 k) (Nat.lt_of_lt_of_le (Nat.lt_succ_self _) (Nat.le_of_ble_eq_true rfl)) ?_
      show bw_go _ _ _ _ _ _ _ 35 [(1, .int _), (0, .ref _)] ([]) _ _
      refine go_goto (pc' := 2) dX8_begin_35 rfl ?_
      exact K
  · -- behind the last
    show bw_go _ _ _ _ _ _ _ 2 [(1, .int _), (0, .ref _)] ([]) _ _
    refine go_iload_n dX8_begin_2 rfl ?_
    refine go_bipush (6) dX8_begin_3 rfl ?_
    refine go_icmp_ge (pc' := 38) dX8_begin_5 rfl (fun c_5 => ?_) (fun c_5 => ?_)
    · -- ge at 5: yes
      show bw_go _ _ _ _ _ _ _ 38 [(1, .int _), (0, .ref _)] ([]) _ _
      refine go_aload_n dX8_begin_38 rfl ?_
      refine go_bipush (79) dX8_begin_39 rfl ?_
      refine go_iconst (0) dX8_begin_41 rfl ?_
      refine go_ist dX8_begin_42 hm.2.2.1 (ms_lt hm (by decide)) (by decide) ?_
      show bw_go _ _ _ _ _ _ _ 43 [(1, .int _), (0, .ref _)] ([]) _ _
      refine go_vret dX8_begin_43 rfl ?_
      rw [show (79 : Int32).toNatClampNeg = 79 from rfl, si_sa, i_sa_s, sa_sa]
      exact hQ
    · -- ge at 5: no
      exfalso; have t_0 := nI_toInt (n := 6) (by omega); have l_0 : (6 : Int32).toInt = 6 := rfl; simp only [i_le, i_lt, i_eq, bi_eq] at c_5; omega
