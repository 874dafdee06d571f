/-! the reference: undo, keep, on, lots -/
theorem in_nI {m : Nat} {n : Int32} (hm : m < 1000) : inr n.toInt64 0 (nI m).toInt64 = decide (0 ≤ n.toInt ∧ n.toInt ≤ m) := by
  unfold inr
  rw [l_i, l_i, nI_toInt (by omega), show (0 : Int64).toInt = 0 from rfl]
theorem mcv_0 {F : Nat → Int32} {A : AC} (hr : mcr F A) (hN : cN A.1 ≤ 6) : mcv (bgF F) (hst A 0) := by
  obtain ⟨⟨h1, h2, h3, h4⟩, d1, d2, d3⟩ := hr
  refine ⟨?_, ?_, ?_, fun i hi => ?_⟩
  · unfold bgF; rw [bw_up_o (by decide), bgk_lo (by decide)]; exact h1
  · unfold bgF; rw [bw_up_o (by decide), bgk_lo (by decide)]; exact h2
  · exact bw_up_s _ _ _
  · have hi : i < cN A.1 := hi
    obtain ⟨v1, v2, v3, v4⟩ := h4 i hi
    obtain ⟨w1, w2⟩ := d2 i hi
    unfold bgF
    rw [bw_up_o (by omega), bw_up_o (by omega), bw_up_o (by omega), bw_up_o (by omega), bgk_lo (by omega), bgk_lo (x := 20 + i) (by omega)]
    refine ⟨v1, ?_, ?_, v4⟩
    · unfold bgk; rw [if_pos (by omega), show 67 + i - 67 = i by omega]; exact w1
    · unfold bgk; rw [if_neg (by omega), if_pos (by omega), show 73 + i - 73 = i by omega]; exact w2
theorem bg_lo {F : Nat → Int32} {x : Nat} (h : x < 67) : bgF F x = F x := by unfold bgF; rw [bw_up_o (by omega), bgk_lo h]
theorem mcr_acT {F G : Nat → Int32} {A : AC} {n : Nat} (hr : mcr F A) (hA : ac_k A) (hn : n ≤ cT A.1) (hv : mcv G (hst A n)) (hlo : ∀ x, x < 67 → G x = F x) : mcr (bw_up G 26 (nI n)) (acT A n) := by
  have hN : cN A.1 ≤ 6 := (hsT_k hA (Nat.le_refl _)).1
  obtain ⟨f1, f2, f3, f4, f5⟩ := hst_f A n
  obtain ⟨d1, d2, d3⟩ := hr.2
  have h40 := hA.2.1
  refine ⟨?_, bw_up_s _ _ _, fun i hi => ?_, fun k hk => ?_⟩
  · show mcv _ (hsT (acT A n) n)
    rw [hsT_acT]
    have h1 : mcv (bw_up G 26 (nI n)) (hst A n) := mcv_x hv (by rw [f1]; exact hN) (fun x hx => by rw [bw_up_o (by omega)])
    exact mcv_sam h1 (sam_s (sam_hsT A n)) f1 f2 f4 f5
  · have hi : i < cN A.1 := hi
    rw [bw_up_o (by omega), bw_up_o (by omega), hlo _ (by omega), hlo _ (by omega)]
    exact d2 i hi
  · have hk : k < n := hk
    rw [bw_up_o (by omega), hlo _ (by omega)]
    exact d3 k (by omega)
theorem mcr_c {F G : Nat → Int32} {A : AC} (hr : mcr F A) (hA : ac_k A) (e : ∀ x, x < 80 → G x = F x) : mcr G A := by
  have hN : cN A.1 ≤ 6 := (hsT_k hA (Nat.le_refl _)).1
  have h40 := hA.2.1
  obtain ⟨⟨h1, h2, h3, h4⟩, d1, d2, d3⟩ := hr
  refine ⟨⟨by rw [e _ (by omega)]; exact h1, by rw [e _ (by omega)]; exact h2, by rw [e _ (by omega)]; exact h3, fun i hi => ?_⟩, by rw [e _ (by omega)]; exact d1, fun i hi => ?_, fun k hk => ?_⟩
  · have hi2 : i < cN A.1 := hi
    rw [e _ (by omega), e _ (by omega), e _ (by omega), e _ (by omega)]; exact h4 i hi
  · rw [e _ (by omega), e _ (by omega)]; exact d2 i hi
  · rw [e _ (by omega)]; exact d3 k hk
set_option maxRecDepth 100000 in
set_option maxHeartbeats 4000000 in
theorem me_X8_undo {X : Nat × (Nat → Int32)} {Q : Option Value → bw_H → Prop} {h : bw_H} {S : ST} {n : Int32} (hm : MR h S) (hQ : PM h Q (yUndo n S)) : bw_me X 1 bm_X8_undo false [.ref 60, .int n] h Q := by
  have hv := mr_v hm
  have hk := mr_k hm
  have k1 := hk.1
  have hA := hm.2.2.2.2.2.2.2.1
  have h40 := hA.2.1
  have k6 : cN (sA S).1 ≤ 6 := k1
  show bw_go _ 1 8 4 false (some .int) cX8_undo 0 [(0, .ref _), (1, .int _)] [] _ _
  refine go_iload_n dX8_undo_0 rfl ?_
  refine go_i2l dX8_undo_1 ?_
  refine go_lconst (0) dX8_undo_2 rfl ?_
  refine go_aload_n dX8_undo_3 rfl ?_
  refine go_gfr dX8_undo_4 fl_8_7 rfl (ms_lt hm.1 (by decide)) hm.1.1.2 hm.1.2.1.1 ?_
  refine go_bipush (26) dX8_undo_7 rfl ?_
  refine go_ia dX8_undo_9 hm.1.2.2.1 (ms_lt hm.1 (by decide)) (by decide) ?_
  rw [show (26 : Int32).toNatClampNeg = 26 from rfl, hm.2.1.2.1]
  refine go_i2l dX8_undo_10 ?_
  refine go_cs (as := [.long _, .long _, .long _]) 0 dX8_undo_11 rfl rfl mt_8_69 (Nat.le_of_ble_eq_true rfl) rfl rfl (Nat.le_of_ble_eq_true rfl) (Nat.le_of_ble_eq_true rfl) (Nat.le_of_ble_eq_true rfl) (Nat.le_of_ble_eq_true rfl) ?_
  refine me_X8_in ?_
  rw [in_nI (by omega)]
  show bw_go _ _ _ _ _ _ _ 14 [(0, .ref _), (1, .int _)] ((.int _) :: []) _ _
  refine go_ifb_ne (pc' := 19) dX8_undo_14 rfl (fun c_14 => ?_) (fun c_14 => ?_)
  · -- ne at 14: yes
    show bw_go _ _ _ _ _ _ _ 19 [(0, .ref _), (1, .int _)] ([]) _ _
    have hn4 := of_decide_eq_true c_14
    obtain ⟨n, hn, rfl⟩ := isn_ex (r := n) (num := cT (sA S).1 + 1) (decide_eq_true (by omega)) (by omega)
    have hn2 : n ≤ cT (sA S).1 := by omega
    refine go_aload_n dX8_undo_19 rfl ?_
    refine go_gfr dX8_undo_20 fl_8_7 rfl (ms_lt hm.1 (by decide)) hm.1.1.2 hm.1.2.1.1 ?_
    refine go_bipush (26) dX8_undo_23 rfl ?_
    refine go_ia dX8_undo_25 hm.1.2.2.1 (ms_lt hm.1 (by decide)) (by decide) ?_
    rw [show (26 : Int32).toNatClampNeg = 26 from rfl, hm.2.1.2.1]
    refine go_iload_n dX8_undo_26 rfl ?_
    refine go_isub dX8_undo_27 ?_
    rw [pk_sub hn2]
    refine go_istore_n dX8_undo_28 (Nat.lt_of_lt_of_le (Nat.lt_succ_self _) (Nat.le_of_ble_eq_true rfl)) ?_
    show bw_go _ _ _ _ _ _ _ 29 [(2, .int _), (0, .ref _), (1, .int _)] ([]) _ _
    refine go_aload_n dX8_undo_29 rfl ?_
    refine go_gfr dX8_undo_30 fl_8_7 rfl (ms_lt hm.1 (by decide)) hm.1.1.2 hm.1.2.1.1 ?_
    refine go_cs (as := [.ref _]) 0 dX8_undo_33 rfl rfl mt_8_125 (Nat.le_of_ble_eq_true rfl) rfl rfl (Nat.le_of_ble_eq_true rfl) (Nat.le_of_ble_eq_true rfl) (Nat.le_of_ble_eq_true rfl) (Nat.le_of_ble_eq_true rfl) ?_
    refine me_X8_begin hm.1 ?_
    show bw_go _ _ _ _ _ _ _ 36 [(2, .int _), (0, .ref _), (1, .int _)] ([]) _ _
    refine go_iconst (0) dX8_undo_36 rfl ?_
    refine go_istore_n dX8_undo_37 (Nat.lt_of_lt_of_le (Nat.lt_succ_self _) (Nat.le_of_ble_eq_true rfl)) ?_
    show bw_go _ _ _ _ _ _ _ 38 [(3, .int _), (2, .int _), (0, .ref _), (1, .int _)] ([]) _ _
    refine go_for (P := fun k => ∀ (G : Nat → Int32), (mcv G (hst (sA S) k) ∧ ∀ x, x < 67 → G x = bw_i h 61 x) → bw_go X 1 8 4 false (some .int) cX8_undo 38 [(3, .int (nI k)), (2, .int (nI (cT (sA S).1 - n))), (0, .ref (60)), (1, .int (nI n))] [] (bw_sa h 61 G) Q) (N := n) (fun k hk K => ?_) ?_ (0) (Nat.zero_le _) (bgF (bw_i h 61)) ⟨mcv_0 hm.2.1 k1, fun x hx => bg_lo hx⟩
    · -- a turn
      intro G hv2
      obtain ⟨hg, hlo⟩ := hv2
      obtain ⟨q1, q2, q3⟩ := hA.2.2 k (by omega)
      have q4 : (sA S).2.2 k < 6 := by omega
      show bw_go _ _ _ _ _ _ _ 38 [(3, .int _), (2, .int _), (0, .ref _), (1, .int _)] ([]) _ _
      refine go_iload_n dX8_undo_38 rfl ?_
      refine go_iload_n dX8_undo_39 rfl ?_
      refine go_icmp_ge (pc' := 65) dX8_undo_40 rfl (fun c_40 => ?_) (fun c_40 => ?_)
      · -- ge at 40: yes
        exfalso; have t_0 := nI_toInt (n := k) (by omega); have t_1 := nI_toInt (n := n) (by omega); simp only [i_le, i_lt, i_eq, bi_eq] at c_40; omega
      · -- ge at 40: no
        show bw_go _ _ _ _ _ _ _ 43 [(3, .int _), (2, .int _), (0, .ref _), (1, .int _)] ([]) _ _
        refine go_aload_n dX8_undo_43 rfl ?_
        refine go_gfr dX8_undo_44 fl_8_7 rfl (ms_lt hm.1 (by decide)) hm.1.1.2 hm.1.2.1.1 ?_
        refine go_aload_n dX8_undo_47 rfl ?_
        refine go_gfr dX8_undo_48 fl_8_7 rfl (ms_lt hm.1 (by decide)) hm.1.1.2 hm.1.2.1.1 ?_
        refine go_bipush (27) dX8_undo_51 rfl ?_
        refine go_iload_n dX8_undo_53 rfl ?_
        refine go_iadd dX8_undo_54 ?_
        rw [show (27 : Int32) = nI 27 from rfl, nI_add]
        refine go_ia dX8_undo_55 hm.1.2.2.1 (ms_lt hm.1 (by decide)) (n_in (N := 80) (by omega) (by decide)) ?_
        rw [nI_clamp (by omega), i_sa_s, hlo _ (by omega), hm.2.1.2.2.2 k (by omega)]
        refine go_cs (as := [.ref _, .int _]) 0 dX8_undo_56 rfl rfl mt_8_172 (Nat.le_of_ble_eq_true rfl) rfl rfl (Nat.le_of_ble_eq_true rfl) (Nat.le_of_ble_eq_true rfl) (Nat.le_of_ble_eq_true rfl) (Nat.le_of_ble_eq_true rfl) ?_
        refine me_X8_goDeed (ms_f hm.1 (frX_sa (by decide))) (ms_lt hm.1 (by decide)) hm.1.2.2.1 q1 (by omega) ?_
        rw [i_sa_s, sa_sa]
        show bw_go _ _ _ _ _ _ _ 59 [(3, .int _), (2, .int _), (0, .ref _), (1, .int _)] ([]) _ _
        refine go_iinc dX8_undo_59 rfl (nI_1 k) (Nat.lt_of_lt_of_le (Nat.lt_succ_self _) (Nat.le_of_ble_eq_true rfl)) ?_
        show bw_go _ _ _ _ _ _ _ 62 [(3, .int _), (2, .int _), (0, .ref _), (1, .int _)] ([]) _ _
        refine go_goto (pc' := 38) dX8_undo_62 rfl ?_
        exact K (gdF G ((sA S).2.1 k) ((sA S).2.2 k)) ⟨mcv_gd hg (hst_k hA k (by omega)) q1 (by rw [(hst_f (sA S) k).1]; exact q2) q3, fun x hx => by rw [gd_lo hx]; exact hlo x hx⟩
    · -- behind the last
      intro G hv2
      obtain ⟨hg, hlo⟩ := hv2
      show bw_go _ _ _ _ _ _ _ 38 [(3, .int _), (2, .int _), (0, .ref _), (1, .int _)] ([]) _ _
      refine go_iload_n dX8_undo_38 rfl ?_
      refine go_iload_n dX8_undo_39 rfl ?_
      refine go_icmp_ge (pc' := 65) dX8_undo_40 rfl (fun c_40 => ?_) (fun c_40 => ?_)
      · -- ge at 40: yes
        show bw_go _ _ _ _ _ _ _ 65 [(3, .int _), (2, .int _), (0, .ref _), (1, .int _)] ([]) _ _
        refine go_aload_n dX8_undo_65 rfl ?_
        refine go_gfr dX8_undo_66 fl_8_7 rfl (ms_lt hm.1 (by decide)) hm.1.1.2 hm.1.2.1.1 ?_
        refine go_bipush (26) dX8_undo_69 rfl ?_
        refine go_iload_n dX8_undo_71 rfl ?_
        refine go_ist dX8_undo_72 hm.1.2.2.1 (ms_lt hm.1 (by decide)) (by decide) ?_
        show bw_go _ _ _ _ _ _ _ 73 [(3, .int _), (2, .int _), (0, .ref _), (1, .int _)] ([]) _ _
        rw [show (26 : Int32).toNatClampNeg = 26 from rfl, si_sa, i_sa_s, sa_sa]
        refine go_iload_n dX8_undo_73 rfl ?_
        refine go_iret dX8_undo_74 rfl rfl ?_
        refine q_m hQ ?_ (mr_now hm (frX_sa (by decide)) (fun q h1 h2 => i_sa_o (by omega)) (mr_flg hm (i_sa_o (by decide)) rfl) (by rw [i_sa_s]; exact mcr_acT hm.2.1 hA hn2 hg hlo) ⟨ac_acT hA hn2, hm.2.2.2.2.2.2.2.2⟩) (frX_sa (by decide))
        unfold yUndo
        rw [if_pos (show 0 ≤ (nI n).toInt ∧ (nI n).toInt ≤ cT (sA S).1 from of_decide_eq_true c_14), rn_n (by omega)]
      · -- ge at 40: no
        exfalso; have t_0 := nI_toInt (n := n) (by omega); simp only [i_le, i_lt, i_eq, bi_eq] at c_40; omega
  · -- ne at 14: no
    show bw_go _ _ _ _ _ _ _ 17 [(0, .ref _), (1, .int _)] ([]) _ _
    refine go_iconst (-1) dX8_undo_17 rfl ?_
    refine go_iret dX8_undo_18 rfl rfl ?_
    refine q_m hQ ?_ hm (frX_r h)
    unfold yUndo
    rw [if_neg (of_decide_eq_false c_14)]
set_option maxRecDepth 100000 in
set_option maxHeartbeats 4000000 in
theorem me_X8_keep {X : Nat × (Nat → Int32)} {Q : Option Value → bw_H → Prop} {h : bw_H} {S : ST} {k : Int32} (hm : MR h S) (hQ : PM h Q (yKeep k S)) : bw_me X 2 bm_X8_keep false [.ref 60, .int k] h Q := by
  have hv := mr_v hm
  have hk := mr_k hm
  have k1 := hk.1
  show bw_go _ 2 8 3 false (some .int) cX8_keep 0 [(0, .ref _), (1, .int _)] [] _ _
  refine go_iload_n dX8_keep_0 rfl ?_
  refine go_cs (as := [.int _]) 1 dX8_keep_1 rfl rfl mt_8_188 (Nat.le_of_ble_eq_true rfl) rfl rfl (Nat.le_of_ble_eq_true rfl) (Nat.le_of_ble_eq_true rfl) (Nat.le_of_ble_eq_true rfl) (Nat.le_of_ble_eq_true rfl) ?_
  refine me_X8_isShelf ?_
  show bw_go _ _ _ _ _ _ _ 4 [(0, .ref _), (1, .int _)] ((.int _) :: []) _ _
  refine go_ifb_ne (pc' := 9) dX8_keep_4 rfl (fun c_4 => ?_) (fun c_4 => ?_)
  · -- ne at 4: yes
    show bw_go _ _ _ _ _ _ _ 9 [(0, .ref _), (1, .int _)] ([]) _ _
    obtain ⟨a, ha, rfl⟩ := isn_ex (r := k) (num := 3) c_4 (by decide)
    refine go_aload_n dX8_keep_9 rfl ?_
    refine go_gfr dX8_keep_10 fl_8_7 rfl (ms_lt hm.1 (by decide)) hm.1.1.2 hm.1.2.1.1 ?_
    refine go_iconst (0) dX8_keep_13 rfl ?_
    refine go_ia dX8_keep_14 hm.1.2.2.1 (ms_lt hm.1 (by decide)) (by decide) ?_
    rw [show (0 : Int32).toNatClampNeg = 0 from rfl, hv.1]
    refine go_if_ne (pc' := 21) dX8_keep_15 rfl (fun c_15 => ?_) (fun c_15 => ?_)
    · -- ne at 15: yes
      show bw_go _ _ _ _ _ _ _ 21 [(0, .ref _), (1, .int _)] ([]) _ _
      have h0 : ¬ cN (nowC S) = 0 := fun z => c_15 ((nI_eq (a := cN (nowC S)) (b := 0) (by omega) (by omega)).mpr z)
      refine go_iconst (0) dX8_keep_21 rfl ?_
      refine go_istore_n dX8_keep_22 (Nat.lt_of_lt_of_le (Nat.lt_succ_self _) (Nat.le_of_ble_eq_true rfl)) ?_
      show bw_go _ _ _ _ _ _ _ 23 [(2, .int _), (0, .ref _), (1, .int _)] ([]) _ _
      rw [show h = (bw_sa h 62 (va_cpy (bw_i h 61) (bw_i h 62) 0 (80 * a) 0)) from by rw [cpy_0]; exact (sa_id _ _).symm]
      refine go_for (P := fun k => bw_go X 2 8 3 false (some .int) cX8_keep 23 [(2, .int (nI k)), (0, .ref (60)), (1, .int (nI a))] [] (bw_sa h 62 (va_cpy (bw_i h 61) (bw_i h 62) 0 (80 * a) k)) Q) (N := 80) (fun k hk K => ?_) ?_ (0) (Nat.zero_le _)
      · -- a turn
        show bw_go _ _ _ _ _ _ _ 23 [(2, .int _), (0, .ref _), (1, .int _)] ([]) _ _
        refine go_iload_n dX8_keep_23 rfl ?_
        refine go_bipush (80) dX8_keep_24 rfl ?_
        refine go_icmp_ge (pc' := 52) dX8_keep_26 rfl (fun c_26 => ?_) (fun c_26 => ?_)
        · -- ge at 26: yes
          exfalso; have t_0 := nI_toInt (n := k) (by omega); have l_0 : (80 : Int32).toInt = 80 := rfl; simp only [i_le, i_lt, i_eq, bi_eq] at c_26; omega
        · -- ge at 26: no
          show bw_go _ _ _ _ _ _ _ 29 [(2, .int _), (0, .ref _), (1, .int _)] ([]) _ _
          refine go_aload_n dX8_keep_29 rfl ?_
          refine go_gfr dX8_keep_30 fl_8_13 rfl (ms_lt hm.1 (by decide)) hm.1.1.2 hm.1.2.1.2.1 ?_
          refine go_bipush (80) dX8_keep_33 rfl ?_
          refine go_iload_n dX8_keep_35 rfl ?_
          refine go_imul dX8_keep_36 ?_
          rw [show (80 : Int32) = nI 80 from rfl, nmul]
          refine go_iload_n dX8_keep_37 rfl ?_
          refine go_iadd dX8_keep_38 ?_
          rw [nI_add]
          refine go_aload_n dX8_keep_39 rfl ?_
          refine go_gfr dX8_keep_40 fl_8_7 rfl (ms_lt hm.1 (by decide)) hm.1.1.2 hm.1.2.1.1 ?_
          refine go_iload_n dX8_keep_43 rfl ?_
          refine go_ia dX8_keep_44 hm.1.2.2.1 (ms_lt hm.1 (by decide)) (n_in (N := 80) hk (by decide)) ?_
          rw [nI_clamp (by omega), i_sa_o (by decide)]
          refine go_ist dX8_keep_45 hm.1.2.2.2.1 (ms_lt hm.1 (by decide)) (n_in (N := 240) (by omega) (by decide)) ?_
          show bw_go _ _ _ _ _ _ _ 46 [(2, .int _), (0, .ref _), (1, .int _)] ([]) _ _
          rw [nI_clamp (by omega), si_sa, i_sa_s, sa_sa, show bw_i h 61 k = bw_i h 61 (0 + k) by rw [Nat.zero_add], cpy_s]
          refine go_iinc dX8_keep_46 rfl (nI_1 k) (Nat.lt_of_lt_of_le (Nat.lt_succ_self _) (Nat.le_of_ble_eq_true rfl)) ?_
          show bw_go _ _ _ _ _ _ _ 49 [(2, .int _), (0, .ref _), (1, .int _)] ([]) _ _
          refine go_goto (pc' := 23) dX8_keep_49 rfl ?_
          exact K
      · -- behind the last
        show bw_go _ _ _ _ _ _ _ 23 [(2, .int _), (0, .ref _), (1, .int _)] ([]) _ _
        refine go_iload_n dX8_keep_23 rfl ?_
        refine go_bipush (80) dX8_keep_24 rfl ?_
        refine go_icmp_ge (pc' := 52) dX8_keep_26 rfl (fun c_26 => ?_) (fun c_26 => ?_)
        · -- ge at 26: yes
          show bw_go _ _ _ _ _ _ _ 52 [(2, .int _), (0, .ref _), (1, .int _)] ([]) _ _
          refine go_aload_n dX8_keep_52 rfl ?_
          refine go_gfr dX8_keep_53 fl_8_16 rfl (ms_lt hm.1 (by decide)) hm.1.1.2 hm.1.2.1.2.2.1 ?_
          refine go_iload_n dX8_keep_56 rfl ?_
          refine go_iconst (1) dX8_keep_57 rfl ?_
          refine go_bst dX8_keep_58 hm.1.2.2.2.2.1 (ms_lt hm.1 (by decide)) (n_in (N := 3) ha (by decide)) ?_
          show bw_go _ _ _ _ _ _ _ 59 [(2, .int _), (0, .ref _), (1, .int _)] ([]) _ _
          rw [nI_clamp (by omega), show vp_nar .boolean 1 = 1 from rfl]
          refine go_aload_n dX8_keep_59 rfl ?_
          refine go_gfr dX8_keep_60 fl_8_7 rfl (ms_lt hm.1 (by decide)) hm.1.1.2 hm.1.2.1.1 ?_
          refine go_bipush (26) dX8_keep_63 rfl ?_
          refine go_ia dX8_keep_65 hm.1.2.2.1 (ms_lt hm.1 (by decide)) (by decide) ?_
          rw [show (26 : Int32).toNatClampNeg = 26 from rfl, i_si_o (by decide), i_sa_o (by decide), hm.2.1.2.1]
          refine go_iret dX8_keep_66 rfl rfl ?_
          refine q_m hQ ?_ (mr_kep (kp := bw_up (sK S) a (some (sA S))) hm (frX_t (frX_sa (by decide)) (frX_si (by decide))) (fun q h1 h2 h3 h4 => ?_) (mr_flg hm ?_ rfl) (fun l hl => ?_)) (frX_t (frX_sa (by decide)) (frX_si (by decide)))
          · unfold yKeep
            rw [if_pos (show isn (nI a) 3 = true from c_4), if_neg h0, rn_n (by omega)]
          · rw [i_si_o h4, i_sa_o h3]
          · rw [i_si_o (by decide), i_sa_o (by decide)]
          · rw [i_si_s, i_si_o (by decide), i_sa_s, i_sa_o (by decide)]
            by_cases e : l = a
            · subst e
              rw [bw_up_s, bw_up_s]
              refine ⟨(fun z => by cases z), fun A hA => ?_⟩
              cases hA
              refine ⟨rfl, mcr_c hm.2.1 hm.2.2.2.2.2.2.2.1 (fun x hx => ?_), hm.2.2.2.2.2.2.2.1, by show 0 < cN (nowC S); omega⟩
              rw [cpy_i (by omega) (by omega), show 0 + (80 * l + x - 80 * l) = x by omega]
            · rw [bw_up_o e, bw_up_o e]
              obtain ⟨g1, g2⟩ := hm.2.2.1 l hl
              refine ⟨g1, fun A hA => ?_⟩
              obtain ⟨w1, w2, w3, w4⟩ := g2 A hA
              refine ⟨w1, mcr_c w2 w3 (fun x hx => ?_), w3, w4⟩
              exact cpy_o (by omega)
        · -- ge at 26: no
          exfalso; have t_0 := nI_toInt (n := 80) (by omega); have l_0 : (80 : Int32).toInt = 80 := rfl; simp only [i_le, i_lt, i_eq, bi_eq] at c_26; omega
    · -- ne at 15: no
      show bw_go _ _ _ _ _ _ _ 18 [(0, .ref _), (1, .int _)] ([]) _ _
      refine go_bipush (-4) dX8_keep_18 rfl ?_
      refine go_iret dX8_keep_20 rfl rfl ?_
      refine q_m hQ ?_ hm (frX_r h)
      unfold yKeep
      rw [if_pos (show isn (nI a) 3 = true from c_4), if_pos ((nI_eq (a := cN (nowC S)) (b := 0) (by omega) (by omega)).mp (Decidable.of_not_not c_15))]
  · -- ne at 4: no
    show bw_go _ _ _ _ _ _ _ 7 [(0, .ref _), (1, .int _)] ([]) _ _
    refine go_iconst (-1) dX8_keep_7 rfl ?_
    refine go_iret dX8_keep_8 rfl rfl ?_
    refine q_m hQ ?_ hm (frX_r h)
    unfold yKeep
    rw [if_neg (fun z => Bool.noConfusion ((show isn k 3 = false from c_4).symm.trans z))]
set_option maxRecDepth 100000 in
set_option maxHeartbeats 4000000 in
theorem me_X8_on {X : Nat × (Nat → Int32)} {Q : Option Value → bw_H → Prop} {h : bw_H} {S : ST} {k : Int32} (hm : MR h S) (hQ : PM h Q (yOn k S)) : bw_me X 2 bm_X8_on false [.ref 60, .int k] h Q := by
  have hv := mr_v hm
  have hk := mr_k hm
  have k1 := hk.1
  show bw_go _ 2 8 3 false (some .int) cX8_on 0 [(0, .ref _), (1, .int _)] [] _ _
  refine go_iload_n dX8_on_0 rfl ?_
  refine go_cs (as := [.int _]) 1 dX8_on_1 rfl rfl mt_8_188 (Nat.le_of_ble_eq_true rfl) rfl rfl (Nat.le_of_ble_eq_true rfl) (Nat.le_of_ble_eq_true rfl) (Nat.le_of_ble_eq_true rfl) (Nat.le_of_ble_eq_true rfl) ?_
  refine me_X8_isShelf ?_
  show bw_go _ _ _ _ _ _ _ 4 [(0, .ref _), (1, .int _)] ((.int _) :: []) _ _
  refine go_ifb_ne (pc' := 9) dX8_on_4 rfl (fun c_4 => ?_) (fun c_4 => ?_)
  · -- ne at 4: yes
    show bw_go _ _ _ _ _ _ _ 9 [(0, .ref _), (1, .int _)] ([]) _ _
    obtain ⟨a, ha, rfl⟩ := isn_ex (r := k) (num := 3) c_4 (by decide)
    obtain ⟨g1, g2⟩ := hm.2.2.1 a ha
    refine go_aload_n dX8_on_9 rfl ?_
    refine go_gfr dX8_on_10 fl_8_16 rfl (ms_lt hm.1 (by decide)) hm.1.1.2 hm.1.2.1.2.2.1 ?_
    refine go_iload_n dX8_on_13 rfl ?_
    refine go_ba dX8_on_14 hm.1.2.2.2.2.1 (ms_lt hm.1 (by decide)) (n_in (N := 3) ha (by decide)) ?_
    rw [nI_clamp (by omega)]
    refine go_if_ne (pc' := 24) dX8_on_15 rfl (fun c_15 => ?_) (fun c_15 => ?_)
    · -- ne at 15: yes
      show bw_go _ _ _ _ _ _ _ 24 [(0, .ref _), (1, .int _)] ([]) _ _
      obtain ⟨A, e9⟩ : ∃ A, sK S a = some A := by
        cases e : sK S a with
        | none => exact absurd (g1 e) c_15
        | some A => exact ⟨A, rfl⟩
      obtain ⟨w1, w2, w3, w4⟩ := g2 A e9
      refine go_iconst (0) dX8_on_24 rfl ?_
      refine go_istore_n dX8_on_25 (Nat.lt_of_lt_of_le (Nat.lt_succ_self _) (Nat.le_of_ble_eq_true rfl)) ?_
      show bw_go _ _ _ _ _ _ _ 26 [(2, .int _), (0, .ref _), (1, .int _)] ([]) _ _
      rw [show h = (bw_sa h 61 (mix (fun j => bw_i h 62 (80 * a + j)) (bw_i h 61) 0)) from by rw [mix_0]; exact (sa_id _ _).symm]
      refine go_for (P := fun k => bw_go X 2 8 3 false (some .int) cX8_on 26 [(2, .int (nI k)), (0, .ref (60)), (1, .int (nI a))] [] (bw_sa h 61 (mix (fun j => bw_i h 62 (80 * a + j)) (bw_i h 61) k)) Q) (N := 80) (fun k hk K => ?_) ?_ (0) (Nat.zero_le _)
      · -- a turn
        show bw_go _ _ _ _ _ _ _ 26 [(2, .int _), (0, .ref _), (1, .int _)] ([]) _ _
        refine go_iload_n dX8_on_26 rfl ?_
        refine go_bipush (80) dX8_on_27 rfl ?_
        refine go_icmp_ge (pc' := 55) dX8_on_29 rfl (fun c_29 => ?_) (fun c_29 => ?_)
        · -- ge at 29: yes
          exfalso; have t_0 := nI_toInt (n := k) (by omega); have l_0 : (80 : Int32).toInt = 80 := rfl; simp only [i_le, i_lt, i_eq, bi_eq] at c_29; omega
        · -- ge at 29: no
          show bw_go _ _ _ _ _ _ _ 32 [(2, .int _), (0, .ref _), (1, .int _)] ([]) _ _
          refine go_aload_n dX8_on_32 rfl ?_
          refine go_gfr dX8_on_33 fl_8_7 rfl (ms_lt hm.1 (by decide)) hm.1.1.2 hm.1.2.1.1 ?_
          refine go_iload_n dX8_on_36 rfl ?_
          refine go_aload_n dX8_on_37 rfl ?_
          refine go_gfr dX8_on_38 fl_8_13 rfl (ms_lt hm.1 (by decide)) hm.1.1.2 hm.1.2.1.2.1 ?_
          refine go_bipush (80) dX8_on_41 rfl ?_
          refine go_iload_n dX8_on_43 rfl ?_
          refine go_imul dX8_on_44 ?_
          rw [show (80 : Int32) = nI 80 from rfl, nmul]
          refine go_iload_n dX8_on_45 rfl ?_
          refine go_iadd dX8_on_46 ?_
          rw [nI_add]
          refine go_ia dX8_on_47 hm.1.2.2.2.1 (ms_lt hm.1 (by decide)) (n_in (N := 240) (by omega) (by decide)) ?_
          rw [nI_clamp (by omega), i_sa_o (by decide)]
          refine go_ist dX8_on_48 hm.1.2.2.1 (ms_lt hm.1 (by decide)) (n_in (N := 80) hk (by decide)) ?_
          show bw_go _ _ _ _ _ _ _ 49 [(2, .int _), (0, .ref _), (1, .int _)] ([]) _ _
          rw [nI_clamp (by omega), si_sa, i_sa_s, sa_sa, mix_s (fun j => bw_i h 62 (80 * a + j))]
          refine go_iinc dX8_on_49 rfl (nI_1 k) (Nat.lt_of_lt_of_le (Nat.lt_succ_self _) (Nat.le_of_ble_eq_true rfl)) ?_
          show bw_go _ _ _ _ _ _ _ 52 [(2, .int _), (0, .ref _), (1, .int _)] ([]) _ _
          refine go_goto (pc' := 26) dX8_on_52 rfl ?_
          exact K
      · -- behind the last
        show bw_go _ _ _ _ _ _ _ 26 [(2, .int _), (0, .ref _), (1, .int _)] ([]) _ _
        refine go_iload_n dX8_on_26 rfl ?_
        refine go_bipush (80) dX8_on_27 rfl ?_
        refine go_icmp_ge (pc' := 55) dX8_on_29 rfl (fun c_29 => ?_) (fun c_29 => ?_)
        · -- ge at 29: yes
          show bw_go _ _ _ _ _ _ _ 55 [(2, .int _), (0, .ref _), (1, .int _)] ([]) _ _
          refine go_aload_n dX8_on_55 rfl ?_
          refine go_gfr dX8_on_56 fl_8_7 rfl (ms_lt hm.1 (by decide)) hm.1.1.2 hm.1.2.1.1 ?_
          refine go_bipush (26) dX8_on_59 rfl ?_
          refine go_ia dX8_on_61 hm.1.2.2.1 (ms_lt hm.1 (by decide)) (by decide) ?_
          rw [show (26 : Int32).toNatClampNeg = 26 from rfl, i_sa_s, show mix (fun j => bw_i h 62 (80 * a + j)) (bw_i h 61) 80 26 = nI (cT A.1) from (if_pos (by decide)).trans w2.2.1]
          refine go_iret dX8_on_62 rfl rfl ?_
          refine q_m hQ ?_ (mr_now hm (frX_sa (by decide)) (fun q h1 h2 => i_sa_o (by omega)) (mr_flg hm (i_sa_o (by decide)) rfl) (A := A) ?_ ⟨w3, fun z => absurd z (by omega)⟩) (frX_sa (by decide))
          · unfold yOn
            rw [if_pos (show isn (nI a) 3 = true from c_4), rn_n (by omega), e9]
          · rw [i_sa_s]
            exact mcr_c w2 w3 (fun x hx => if_pos hx)
        · -- ge at 29: no
          exfalso; have t_0 := nI_toInt (n := 80) (by omega); have l_0 : (80 : Int32).toInt = 80 := rfl; simp only [i_le, i_lt, i_eq, bi_eq] at c_29; omega
    · -- ne at 15: no
      show bw_go _ _ _ _ _ _ _ 18 [(0, .ref _), (1, .int _)] ([]) _ _
      refine go_aload_n dX8_on_18 rfl ?_
      refine go_iconst (1) dX8_on_19 rfl ?_
      refine go_cv (as := [.int _]) 0 dX8_on_20 mt_8_79 (Or.inl rfl) rfl rfl (ms_lt hm.1 (by decide)) hm.1.1.2 (Nat.le_of_ble_eq_true rfl) (Nat.le_of_ble_eq_true rfl) (Nat.le_of_ble_eq_true rfl) (Nat.le_of_ble_eq_true rfl) (Nat.le_of_ble_eq_true rfl) ?_
      rw [show (1 : Int32) = nI 1 from rfl]
      refine me_X8_finds hm (f := 1) (by decide) (fun g hg hf => ?_)
      show bw_go _ _ _ _ _ _ _ 23 [(0, .ref _), (1, .int _)] ((.int _) :: []) _ _
      refine go_iret dX8_on_23 rfl rfl ?_
      have e9 : sK S a = none := by
        cases e : sK S a with
        | none => rfl
        | some A => rw [(g2 A e).1] at c_15; exact absurd (by decide) c_15
      refine q_m hQ ?_ hg hf
      unfold yOn
      rw [if_pos (show isn (nI a) 3 = true from c_4), rn_n (by omega), e9]
  · -- ne at 4: no
    show bw_go _ _ _ _ _ _ _ 7 [(0, .ref _), (1, .int _)] ([]) _ _
    refine go_iconst (-1) dX8_on_7 rfl ?_
    refine go_iret dX8_on_8 rfl rfl ?_
    refine q_m hQ ?_ hm (frX_r h)
    unfold yOn
    rw [if_neg (fun z => Bool.noConfusion ((show isn k 3 = false from c_4).symm.trans z))]
theorem in_L (n : Int32) (m : Int64) : inr n.toInt64 1 m = decide (1 ≤ n.toInt ∧ n.toInt ≤ m.toInt) := by
  unfold inr
  rw [l_i, show (1 : Int64).toInt = 1 from rfl]
set_option maxRecDepth 100000 in
set_option maxHeartbeats 4000000 in
theorem me_X8_lots {X : Nat × (Nat → Int32)} {Q : Option Value → bw_H → Prop} {h : bw_H} {S : ST} {n s : Int32} (hm : MR h S) (hQ : PM h Q (yLots n s S)) : bw_me X 7 bm_X8_lots false [.ref 60, .int n, .int s] h Q := by
  have hv := mr_v hm
  have hk := mr_k hm
  have k1 := hk.1
  show bw_go _ 7 8 8 false (some .int) cX8_lots 0 [(0, .ref _), (1, .int _), (2, .int _)] [] _ _
  refine go_iload_n dX8_lots_0 rfl ?_
  refine go_i2l dX8_lots_1 ?_
  refine go_lconst (1) dX8_lots_2 rfl ?_
  refine go_ldc2_w dX8_lots_3 kc_8_251 ?_
  refine go_cs (as := [.long _, .long _, .long _]) 0 dX8_lots_6 rfl rfl mt_8_69 (Nat.le_of_ble_eq_true rfl) rfl rfl (Nat.le_of_ble_eq_true rfl) (Nat.le_of_ble_eq_true rfl) (Nat.le_of_ble_eq_true rfl) (Nat.le_of_ble_eq_true rfl) ?_
  refine me_X8_in ?_
  rw [in_L, show (20 : Int64).toInt = 20 from rfl]
  show bw_go _ _ _ _ _ _ _ 9 [(0, .ref _), (1, .int _), (2, .int _)] ((.int _) :: []) _ _
  refine go_ifb_eq (pc' := 24) dX8_lots_9 rfl (fun c_9 => ?_) (fun c_9 => ?_)
  · -- eq at 9: yes
    show bw_go _ _ _ _ _ _ _ 24 [(0, .ref _), (1, .int _), (2, .int _)] ([]) _ _
    refine go_iconst (-1) dX8_lots_24 rfl ?_
    refine go_iret dX8_lots_25 rfl rfl ?_
    refine q_m hQ ?_ hm (frX_r h)
    unfold yLots
    first
    | (have z9 := of_decide_eq_false c_21; rw [if_neg (fun z => z9 ⟨z.2.2.1, z.2.2.2⟩)])
    | (have z9 := of_decide_eq_false c_9; rw [if_neg (fun z => z9 ⟨z.1, z.2.1⟩)])
  · -- eq at 9: no
    show bw_go _ _ _ _ _ _ _ 12 [(0, .ref _), (1, .int _), (2, .int _)] ([]) _ _
    refine go_iload_n dX8_lots_12 rfl ?_
    refine go_i2l dX8_lots_13 ?_
    refine go_lconst (1) dX8_lots_14 rfl ?_
    refine go_ldc2_w dX8_lots_15 kc_8_253 ?_
    refine go_cs (as := [.long _, .long _, .long _]) 0 dX8_lots_18 rfl rfl mt_8_69 (Nat.le_of_ble_eq_true rfl) rfl rfl (Nat.le_of_ble_eq_true rfl) (Nat.le_of_ble_eq_true rfl) (Nat.le_of_ble_eq_true rfl) (Nat.le_of_ble_eq_true rfl) ?_
    refine me_X8_in ?_
    rw [in_L, show (2147483646 : Int64).toInt = 2147483646 from rfl]
    show bw_go _ _ _ _ _ _ _ 21 [(0, .ref _), (1, .int _), (2, .int _)] ((.int _) :: []) _ _
    refine go_ifb_ne (pc' := 26) dX8_lots_21 rfl (fun c_21 => ?_) (fun c_21 => ?_)
    · -- ne at 21: yes
      show bw_go _ _ _ _ _ _ _ 26 [(0, .ref _), (1, .int _), (2, .int _)] ([]) _ _
      have hin1 := of_decide_eq_true c_9
      have hin2 := of_decide_eq_true c_21
      have hin : 1 ≤ n.toInt ∧ n.toInt ≤ 20 ∧ 1 ≤ s.toInt ∧ s.toInt ≤ 2147483646 := ⟨hin1.1, hin1.2, hin2.1, hin2.2⟩
      obtain ⟨y, hy, rfl⟩ := isn_ex (r := n) (num := 21) (decide_eq_true (by omega)) (by decide)
      obtain ⟨w, hw, rfl⟩ := nn (a := s) (by rw [i_lt, i_0]; omega)
      have hw3 : w < 2147483647 := by have := nI_toInt hw; omega
      have hrw : rn (nI w) = w := nI_clamp hw
      have t40 : cT (sA S).1 ≤ 40 := hm.2.2.2.2.2.2.2.1.2.1
      refine go_aload_n dX8_lots_26 rfl ?_
      refine go_gfr dX8_lots_27 fl_8_7 rfl (ms_lt hm.1 (by decide)) hm.1.1.2 hm.1.2.1.1 ?_
      refine go_iconst (0) dX8_lots_30 rfl ?_
      refine go_ia dX8_lots_31 hm.1.2.2.1 (ms_lt hm.1 (by decide)) (by decide) ?_
      rw [show (0 : Int32).toNatClampNeg = 0 from rfl, hv.1]
      refine go_if_ne (pc' := 38) dX8_lots_32 rfl (fun c_32 => ?_) (fun c_32 => ?_)
      · -- ne at 32: yes
        show bw_go _ _ _ _ _ _ _ 38 [(0, .ref _), (1, .int _), (2, .int _)] ([]) _ _
        have h0 : ¬ cN (nowC S) = 0 := fun z => c_32 ((nI_eq (a := cN (nowC S)) (b := 0) (by omega) (by omega)).mpr z)
        refine go_aload_n dX8_lots_38 rfl ?_
        refine go_gfr dX8_lots_39 fl_8_7 rfl (ms_lt hm.1 (by decide)) hm.1.1.2 hm.1.2.1.1 ?_
        refine go_bipush (26) dX8_lots_42 rfl ?_
        refine go_ia dX8_lots_44 hm.1.2.2.1 (ms_lt hm.1 (by decide)) (by decide) ?_
        rw [show (26 : Int32).toNatClampNeg = 26 from rfl, hm.2.1.2.1]
        refine go_iload_n dX8_lots_45 rfl ?_
        refine go_iadd dX8_lots_46 ?_
        rw [nI_add]
        refine go_bipush (40) dX8_lots_47 rfl ?_
        refine go_icmp_le (pc' := 55) dX8_lots_49 rfl (fun c_49 => ?_) (fun c_49 => ?_)
        · -- le at 49: yes
          show bw_go _ _ _ _ _ _ _ 55 [(0, .ref _), (1, .int _), (2, .int _)] ([]) _ _
          have h40 : cT (sA S).1 + y ≤ 40 := by
            have t_0 := nI_toInt (n := cT (sA S).1 + y) (by omega)
            have l_0 : (40 : Int32).toInt = 40 := rfl
            simp only [i_le] at c_49
            omega
          refine go_iload_n dX8_lots_55 rfl ?_
          refine go_i2l dX8_lots_56 ?_
          rw [nI_l hw]
          refine go_lstore_n dX8_lots_57 (Nat.lt_of_lt_of_le (Nat.lt_succ_self _) (Nat.le_of_ble_eq_true rfl)) ?_
          show bw_go _ _ _ _ _ _ _ 58 [(3, .long _), (0, .ref _), (1, .int _), (2, .int _)] ([]) _ _
          refine go_iconst (0) dX8_lots_58 rfl ?_
          refine go_istore dX8_lots_59 (Nat.lt_of_lt_of_le (Nat.lt_succ_self _) (Nat.le_of_ble_eq_true rfl)) ?_
          show bw_go _ _ _ _ _ _ _ 61 [(5, .int _), (3, .long _), (0, .ref _), (1, .int _), (2, .int _)] ([]) _ _
          refine go_for (P := fun k => ∀ (g : bw_H), (MR g (wA S (ltk w (sA S) k).2) ∧ frX h g) → bw_go X 7 8 8 false (some .int) cX8_lots 61 [(5, .int (nI k)), (3, .long (lN (ltk w (sA S) k).1)), (0, .ref (60)), (1, .int (nI y)), (2, .int (nI w))] [] g Q) (N := y) (fun k hk K => ?_) ?_ (0) (Nat.zero_le _) _ ⟨hm, frX_r h⟩
          · -- a turn
            intro g hv
            obtain ⟨hm2, hf⟩ := hv
            have hm0 := hm
            have hm := hm2
            obtain ⟨l1, l2, l3⟩ := ltk_b (A := sA S) hw3 k
            have hv2 := mr_v hm2
            have hk2 := mr_k hm2
            have hit : (ltk w (sA S) k).1 * 48271 % 2147483647 < 2147483647 := Nat.mod_lt _ (by decide)
            have him2 : (ltk w (sA S) k).1 * 48271 % 2147483647 % cN (nowC S) < cN (nowC (wA S (ltk w (sA S) k).2)) := by rw [show cN (nowC (wA S (ltk w (sA S) k).2)) = cN (nowC S) from l2]; exact Nat.mod_lt _ (by omega)
            have hal := aol_lt ((ltk w (sA S) k).1 * 48271 % 2147483647 / 8 % 8)
            have hcT : cT (sA (wA S (ltk w (sA S) k).2)).1 < 40 := by show cT (ltk w (sA S) k).2.1 < 40; omega
            show bw_go _ _ _ _ _ _ _ 61 [(5, .int _), (3, .long _), (0, .ref _), (1, .int _), (2, .int _)] ([]) _ _
            refine go_iload dX8_lots_61 rfl ?_
            refine go_iload_n dX8_lots_63 rfl ?_
            refine go_icmp_ge (pc' := 167) dX8_lots_64 rfl (fun c_64 => ?_) (fun c_64 => ?_)
            · -- ge at 64: yes
              exfalso; have t_0 := nI_toInt (n := k) (by omega); have t_1 := nI_toInt (n := y) (by omega); simp only [i_le, i_lt, i_eq, bi_eq] at c_64; omega
            · -- ge at 64: no
              show bw_go _ _ _ _ _ _ _ 67 [(5, .int _), (3, .long _), (0, .ref _), (1, .int _), (2, .int _)] ([]) _ _
              refine go_lload_n dX8_lots_67 rfl ?_
              refine go_ldc2_w dX8_lots_68 kc_8_255 ?_
              refine go_lmul dX8_lots_71 ?_
              rw [show (48271 : Int64) = lN 48271 from rfl, lN_mul]
              refine go_ldc2_w dX8_lots_72 kc_8_257 ?_
              refine go_lrem dX8_lots_75 (by decide) ?_
              rw [show (2147483647 : Int64) = lN 2147483647 from rfl, pk_lRem (by omega) (by decide) (by decide)]
              refine go_lstore_n dX8_lots_76 (Nat.lt_of_lt_of_le (Nat.lt_succ_self _) (Nat.le_of_ble_eq_true rfl)) ?_
              show bw_go _ _ _ _ _ _ _ 77 [(3, .long _), (5, .int _), (0, .ref _), (1, .int _), (2, .int _)] ([]) _ _
              refine go_lload_n dX8_lots_77 rfl ?_
              refine go_ldc2_w dX8_lots_78 kc_8_259 ?_
              refine go_ldiv dX8_lots_81 (by decide) ?_
              rw [show (8 : Int64) = lN 8 from rfl, pk_lDiv (by omega) (by decide) (by decide)]
              refine go_ldc2_w dX8_lots_82 kc_8_259 ?_
              refine go_lrem dX8_lots_85 (by decide) ?_
              rw [show (8 : Int64) = lN 8 from rfl, pk_lRem (by omega) (by decide) (by decide)]
              refine go_l2i dX8_lots_86 ?_
              rw [lN_i]
              refine go_istore dX8_lots_87 (Nat.lt_of_lt_of_le (Nat.lt_succ_self _) (Nat.le_of_ble_eq_true rfl)) ?_
              show bw_go _ _ _ _ _ _ _ 89 [(6, .int _), (3, .long _), (5, .int _), (0, .ref _), (1, .int _), (2, .int _)] ([]) _ _
              refine go_iload dX8_lots_89 rfl ?_
              refine go_iconst (4) dX8_lots_91 rfl ?_
              refine go_icmp_ge (pc' := 100) dX8_lots_92 rfl (fun c_92 => ?_) (fun c_92 => ?_)
              · -- ge at 92: yes
                show bw_go _ _ _ _ _ _ _ 100 [(6, .int _), (3, .long _), (5, .int _), (0, .ref _), (1, .int _), (2, .int _)] ([]) _ _
                refine go_iload dX8_lots_100 rfl ?_
                refine go_bipush (6) dX8_lots_102 rfl ?_
                refine go_icmp_ge (pc' := 112) dX8_lots_104 rfl (fun c_104 => ?_) (fun c_104 => ?_)
                · -- ge at 104: yes
                  show bw_go _ _ _ _ _ _ _ 112 [(6, .int _), (3, .long _), (5, .int _), (0, .ref _), (1, .int _), (2, .int _)] ([]) _ _
                  refine go_iload dX8_lots_112 rfl ?_
                  refine go_bipush (6) dX8_lots_114 rfl ?_
                  refine go_icmp_ne (pc' := 124) dX8_lots_116 rfl (fun c_116 => ?_) (fun c_116 => ?_)
                  · -- ne at 116: yes
                    show bw_go _ _ _ _ _ _ _ 124 [(6, .int _), (3, .long _), (5, .int _), (0, .ref _), (1, .int _), (2, .int _)] ([]) _ _
                    refine go_bipush (40) dX8_lots_124 rfl ?_
                    have haol : nI 40 = nI (10 * (aol ((ltk w (sA S) k).1 * 48271 % 2147483647 / 8 % 8) + 1)) := by
                      congr 1
                      have t_0 := nI_toInt (n := (ltk w (sA S) k).1 * 48271 % 2147483647 / 8 % 8) (by omega)
                      have l_4 : (4 : Int32).toInt = 4 := rfl
                      have l_6 : (6 : Int32).toInt = 6 := rfl
                      try simp only [i_le] at c_92
                      try simp only [i_le] at c_104
                      try (have z6 := (nI_eq (a := (ltk w (sA S) k).1 * 48271 % 2147483647 / 8 % 8) (b := 6) (by omega) (by decide)).mp (Decidable.of_not_not c_116))
                      try (have z7 : ¬ (ltk w (sA S) k).1 * 48271 % 2147483647 / 8 % 8 = 6 := fun z => c_116 (by rw [z]; rfl))
                      unfold aol
                      repeat' split
                      all_goals omega
                    rw [show (40 : Int32) = nI 40 from rfl, haol]
                    refine go_lload_n dX8_lots_126 rfl ?_
                    refine go_aload_n dX8_lots_127 rfl ?_
                    refine go_gfr dX8_lots_128 fl_8_7 rfl (ms_lt hm.1 (by decide)) hm.1.1.2 hm.1.2.1.1 ?_
                    refine go_iconst (0) dX8_lots_131 rfl ?_
                    refine go_ia dX8_lots_132 hm.1.2.2.1 (ms_lt hm.1 (by decide)) (by decide) ?_
                    rw [show (0 : Int32).toNatClampNeg = 0 from rfl, hv2.1, show cN (nowC (wA S (ltk w (sA S) k).2)) = cN (nowC S) from l2]
                    refine go_i2l dX8_lots_133 ?_
                    rw [nI_l (by omega)]
                    refine go_lrem dX8_lots_134 (fun z => h0 ((lz (by omega)).mp z)) ?_
                    rw [pk_lRem (by omega) (by omega) (by omega)]
                    refine go_l2i dX8_lots_135 ?_
                    rw [lN_i]
                    refine go_iadd dX8_lots_136 ?_
                    rw [nI_add, show 10 * (aol ((ltk w (sA S) k).1 * 48271 % 2147483647 / 8 % 8) + 1) + (ltk w (sA S) k).1 * 48271 % 2147483647 % cN (nowC S) = dcd (aol ((ltk w (sA S) k).1 * 48271 % 2147483647 / 8 % 8)) ((ltk w (sA S) k).1 * 48271 % 2147483647 % cN (nowC S)) from (by unfold dcd; rw [if_neg (by omega)])]
                    refine go_istore dX8_lots_137 (Nat.lt_of_lt_of_le (Nat.lt_succ_self _) (Nat.le_of_ble_eq_true rfl)) ?_
                    show bw_go _ _ _ _ _ _ _ 139 [(7, .int _), (6, .int _), (3, .long _), (5, .int _), (0, .ref _), (1, .int _), (2, .int _)] ([]) _ _
                    refine go_aload_n dX8_lots_139 rfl ?_
                    refine go_aload_n dX8_lots_140 rfl ?_
                    refine go_gfr dX8_lots_141 fl_8_7 rfl (ms_lt hm.1 (by decide)) hm.1.1.2 hm.1.2.1.1 ?_
                    refine go_iload dX8_lots_144 rfl ?_
                    refine go_cs (as := [.ref _, .int _]) 0 dX8_lots_146 rfl rfl mt_8_176 (Nat.le_of_ble_eq_true rfl) rfl rfl (Nat.le_of_ble_eq_true rfl) (Nat.le_of_ble_eq_true rfl) (Nat.le_of_ble_eq_true rfl) (Nat.le_of_ble_eq_true rfl) ?_
                    refine me_X8_may hm2.1 (ms_lt hm2.1 (by decide)) hm2.1.2.2.1 hv2 hk2 (a := aol ((ltk w (sA S) k).1 * 48271 % 2147483647 / 8 % 8)) (by omega) him2 ?_
                    show bw_go _ _ _ _ _ _ _ 149 [(7, .int _), (6, .int _), (3, .long _), (5, .int _), (0, .ref _), (1, .int _), (2, .int _)] ((.int _) :: (.ref _) :: []) _ _
                    refine go_ifb_eq (pc' := 157) dX8_lots_149 rfl (fun c_149 => ?_) (fun c_149 => ?_)
                    · -- eq at 149: yes
                      show bw_go _ _ _ _ _ _ _ 157 [(7, .int _), (6, .int _), (3, .long _), (5, .int _), (0, .ref _), (1, .int _), (2, .int _)] ((.ref _) :: []) _ _
                      refine go_iconst (0) dX8_lots_157 rfl ?_
                      refine go_cv (as := [.int _]) 1 dX8_lots_158 mt_8_180 (Or.inl rfl) rfl rfl (ms_lt hm.1 (by decide)) hm.1.1.2 (Nat.le_of_ble_eq_true rfl) (Nat.le_of_ble_eq_true rfl) (Nat.le_of_ble_eq_true rfl) (Nat.le_of_ble_eq_true rfl) (Nat.le_of_ble_eq_true rfl) ?_
                      rw [show (0 : Int32) = nI (dcd 4 ((ltk w (sA S) k).1 * 48271 % 2147483647 % cN (nowC S))) from rfl]
                      refine me_X8_does hm2 hcT (a := 4) (b := (ltk w (sA S) k).1 * 48271 % 2147483647 % cN (nowC S)) (by omega) him2 rfl (fun g2 hg2 hf2 => ?_)
                      have e3 : (ltk w (sA S) (k + 1)).2 = acP (ltk w (sA S) k).2 (4) ((ltk w (sA S) k).1 * 48271 % 2147483647 % cN (nowC S)) := by
                        show acP _ (if cbe (hsT (ltk w (sA S) k).2 (cT (ltk w (sA S) k).2.1)) (aol ((ltk w (sA S) k).1 * 48271 % 2147483647 / 8 % 8)) ((ltk w (sA S) k).1 * 48271 % 2147483647 % cN (ltk w (sA S) k).2.1) = true then aol ((ltk w (sA S) k).1 * 48271 % 2147483647 / 8 % 8) else 4) ((ltk w (sA S) k).1 * 48271 % 2147483647 % cN (ltk w (sA S) k).2.1) = _
                        rw [show cN (ltk w (sA S) k).2.1 = cN (nowC S) from l2, if_neg (show ¬ cbe (hsT (ltk w (sA S) k).2 (cT (ltk w (sA S) k).2.1)) (aol ((ltk w (sA S) k).1 * 48271 % 2147483647 / 8 % 8)) ((ltk w (sA S) k).1 * 48271 % 2147483647 % cN (nowC S)) = true from fun z => Bool.noConfusion (c_149.symm.trans z))]
                      show bw_go _ _ _ _ _ _ _ 161 [(7, .int _), (6, .int _), (3, .long _), (5, .int _), (0, .ref _), (1, .int _), (2, .int _)] ([]) _ _
                      refine go_iinc dX8_lots_161 rfl (nI_1 k) (Nat.lt_of_lt_of_le (Nat.lt_succ_self _) (Nat.le_of_ble_eq_true rfl)) ?_
                      show bw_go _ _ _ _ _ _ _ 164 [(5, .int _), (7, .int _), (6, .int _), (3, .long _), (0, .ref _), (1, .int _), (2, .int _)] ([]) _ _
                      refine go_goto (pc' := 61) dX8_lots_164 rfl ?_
                      refine go_ls [(5, .int _), (3, .long _), (0, .ref _), (1, .int _), (2, .int _)] (by show List.Nodup ([5, 3, 0, 1, 2] : List Nat); decide) (by show List.Nodup ([5, 7, 6, 3, 0, 1, 2] : List Nat); decide) (le_cons rfl (le_cons rfl (le_cons rfl (le_cons rfl (le_cons rfl (le_nil _)))))) ?_
                      have hg3 : MR g2 (wA S (ltk w (sA S) (k + 1)).2) := by rw [e3]; exact hg2
                      exact K _ ⟨hg3, frX_t hf hf2⟩
                    · -- eq at 149: no
                      show bw_go _ _ _ _ _ _ _ 152 [(7, .int _), (6, .int _), (3, .long _), (5, .int _), (0, .ref _), (1, .int _), (2, .int _)] ((.ref _) :: []) _ _
                      refine go_iload dX8_lots_152 rfl ?_
                      refine go_goto (pc' := 158) dX8_lots_154 rfl ?_
                      show bw_go _ _ _ _ _ _ _ 158 [(7, .int _), (6, .int _), (3, .long _), (5, .int _), (0, .ref _), (1, .int _), (2, .int _)] ((.int _) :: (.ref _) :: []) _ _
                      refine go_cv (as := [.int _]) 1 dX8_lots_158 mt_8_180 (Or.inl rfl) rfl rfl (ms_lt hm.1 (by decide)) hm.1.1.2 (Nat.le_of_ble_eq_true rfl) (Nat.le_of_ble_eq_true rfl) (Nat.le_of_ble_eq_true rfl) (Nat.le_of_ble_eq_true rfl) (Nat.le_of_ble_eq_true rfl) ?_
                      refine me_X8_does hm2 hcT (a := aol ((ltk w (sA S) k).1 * 48271 % 2147483647 / 8 % 8)) (b := (ltk w (sA S) k).1 * 48271 % 2147483647 % cN (nowC S)) (by omega) him2 c_149 (fun g2 hg2 hf2 => ?_)
                      have e3 : (ltk w (sA S) (k + 1)).2 = acP (ltk w (sA S) k).2 (aol ((ltk w (sA S) k).1 * 48271 % 2147483647 / 8 % 8)) ((ltk w (sA S) k).1 * 48271 % 2147483647 % cN (nowC S)) := by
                        show acP _ (if cbe (hsT (ltk w (sA S) k).2 (cT (ltk w (sA S) k).2.1)) (aol ((ltk w (sA S) k).1 * 48271 % 2147483647 / 8 % 8)) ((ltk w (sA S) k).1 * 48271 % 2147483647 % cN (ltk w (sA S) k).2.1) = true then aol ((ltk w (sA S) k).1 * 48271 % 2147483647 / 8 % 8) else 4) ((ltk w (sA S) k).1 * 48271 % 2147483647 % cN (ltk w (sA S) k).2.1) = _
                        rw [show cN (ltk w (sA S) k).2.1 = cN (nowC S) from l2, if_pos (show cbe (hsT (ltk w (sA S) k).2 (cT (ltk w (sA S) k).2.1)) (aol ((ltk w (sA S) k).1 * 48271 % 2147483647 / 8 % 8)) ((ltk w (sA S) k).1 * 48271 % 2147483647 % cN (nowC S)) = true from c_149)]
                      show bw_go _ _ _ _ _ _ _ 161 [(7, .int _), (6, .int _), (3, .long _), (5, .int _), (0, .ref _), (1, .int _), (2, .int _)] ([]) _ _
                      refine go_iinc dX8_lots_161 rfl (nI_1 k) (Nat.lt_of_lt_of_le (Nat.lt_succ_self _) (Nat.le_of_ble_eq_true rfl)) ?_
                      show bw_go _ _ _ _ _ _ _ 164 [(5, .int _), (7, .int _), (6, .int _), (3, .long _), (0, .ref _), (1, .int _), (2, .int _)] ([]) _ _
                      refine go_goto (pc' := 61) dX8_lots_164 rfl ?_
                      refine go_ls [(5, .int _), (3, .long _), (0, .ref _), (1, .int _), (2, .int _)] (by show List.Nodup ([5, 3, 0, 1, 2] : List Nat); decide) (by show List.Nodup ([5, 7, 6, 3, 0, 1, 2] : List Nat); decide) (le_cons rfl (le_cons rfl (le_cons rfl (le_cons rfl (le_cons rfl (le_nil _)))))) ?_
                      have hg3 : MR g2 (wA S (ltk w (sA S) (k + 1)).2) := by rw [e3]; exact hg2
                      exact K _ ⟨hg3, frX_t hf hf2⟩
                  · -- ne at 116: no
                    show bw_go _ _ _ _ _ _ _ 119 [(6, .int _), (3, .long _), (5, .int _), (0, .ref _), (1, .int _), (2, .int _)] ([]) _ _
                    refine go_bipush (30) dX8_lots_119 rfl ?_
                    refine go_goto (pc' := 126) dX8_lots_121 rfl ?_
                    show bw_go _ _ _ _ _ _ _ 126 [(6, .int _), (3, .long _), (5, .int _), (0, .ref _), (1, .int _), (2, .int _)] ((.int _) :: []) _ _
                    have haol : nI 30 = nI (10 * (aol ((ltk w (sA S) k).1 * 48271 % 2147483647 / 8 % 8) + 1)) := by
                      congr 1
                      have t_0 := nI_toInt (n := (ltk w (sA S) k).1 * 48271 % 2147483647 / 8 % 8) (by omega)
                      have l_4 : (4 : Int32).toInt = 4 := rfl
                      have l_6 : (6 : Int32).toInt = 6 := rfl
                      try simp only [i_le] at c_92
                      try simp only [i_le] at c_104
                      try (have z6 := (nI_eq (a := (ltk w (sA S) k).1 * 48271 % 2147483647 / 8 % 8) (b := 6) (by omega) (by decide)).mp (Decidable.of_not_not c_116))
                      try (have z7 : ¬ (ltk w (sA S) k).1 * 48271 % 2147483647 / 8 % 8 = 6 := fun z => c_116 (by rw [z]; rfl))
                      unfold aol
                      repeat' split
                      all_goals omega
                    rw [show (30 : Int32) = nI 30 from rfl, haol]
                    refine go_lload_n dX8_lots_126 rfl ?_
                    refine go_aload_n dX8_lots_127 rfl ?_
                    refine go_gfr dX8_lots_128 fl_8_7 rfl (ms_lt hm.1 (by decide)) hm.1.1.2 hm.1.2.1.1 ?_
                    refine go_iconst (0) dX8_lots_131 rfl ?_
                    refine go_ia dX8_lots_132 hm.1.2.2.1 (ms_lt hm.1 (by decide)) (by decide) ?_
                    rw [show (0 : Int32).toNatClampNeg = 0 from rfl, hv2.1, show cN (nowC (wA S (ltk w (sA S) k).2)) = cN (nowC S) from l2]
                    refine go_i2l dX8_lots_133 ?_
                    rw [nI_l (by omega)]
                    refine go_lrem dX8_lots_134 (fun z => h0 ((lz (by omega)).mp z)) ?_
                    rw [pk_lRem (by omega) (by omega) (by omega)]
                    refine go_l2i dX8_lots_135 ?_
                    rw [lN_i]
                    refine go_iadd dX8_lots_136 ?_
                    rw [nI_add, show 10 * (aol ((ltk w (sA S) k).1 * 48271 % 2147483647 / 8 % 8) + 1) + (ltk w (sA S) k).1 * 48271 % 2147483647 % cN (nowC S) = dcd (aol ((ltk w (sA S) k).1 * 48271 % 2147483647 / 8 % 8)) ((ltk w (sA S) k).1 * 48271 % 2147483647 % cN (nowC S)) from (by unfold dcd; rw [if_neg (by omega)])]
                    refine go_istore dX8_lots_137 (Nat.lt_of_lt_of_le (Nat.lt_succ_self _) (Nat.le_of_ble_eq_true rfl)) ?_
                    show bw_go _ _ _ _ _ _ _ 139 [(7, .int _), (6, .int _), (3, .long _), (5, .int _), (0, .ref _), (1, .int _), (2, .int _)] ([]) _ _
                    refine go_aload_n dX8_lots_139 rfl ?_
                    refine go_aload_n dX8_lots_140 rfl ?_
                    refine go_gfr dX8_lots_141 fl_8_7 rfl (ms_lt hm.1 (by decide)) hm.1.1.2 hm.1.2.1.1 ?_
                    refine go_iload dX8_lots_144 rfl ?_
                    refine go_cs (as := [.ref _, .int _]) 0 dX8_lots_146 rfl rfl mt_8_176 (Nat.le_of_ble_eq_true rfl) rfl rfl (Nat.le_of_ble_eq_true rfl) (Nat.le_of_ble_eq_true rfl) (Nat.le_of_ble_eq_true rfl) (Nat.le_of_ble_eq_true rfl) ?_
                    refine me_X8_may hm2.1 (ms_lt hm2.1 (by decide)) hm2.1.2.2.1 hv2 hk2 (a := aol ((ltk w (sA S) k).1 * 48271 % 2147483647 / 8 % 8)) (by omega) him2 ?_
                    show bw_go _ _ _ _ _ _ _ 149 [(7, .int _), (6, .int _), (3, .long _), (5, .int _), (0, .ref _), (1, .int _), (2, .int _)] ((.int _) :: (.ref _) :: []) _ _
                    refine go_ifb_eq (pc' := 157) dX8_lots_149 rfl (fun c_149 => ?_) (fun c_149 => ?_)
                    · -- eq at 149: yes
                      show bw_go _ _ _ _ _ _ _ 157 [(7, .int _), (6, .int _), (3, .long _), (5, .int _), (0, .ref _), (1, .int _), (2, .int _)] ((.ref _) :: []) _ _
                      refine go_iconst (0) dX8_lots_157 rfl ?_
                      refine go_cv (as := [.int _]) 1 dX8_lots_158 mt_8_180 (Or.inl rfl) rfl rfl (ms_lt hm.1 (by decide)) hm.1.1.2 (Nat.le_of_ble_eq_true rfl) (Nat.le_of_ble_eq_true rfl) (Nat.le_of_ble_eq_true rfl) (Nat.le_of_ble_eq_true rfl) (Nat.le_of_ble_eq_true rfl) ?_
                      rw [show (0 : Int32) = nI (dcd 4 ((ltk w (sA S) k).1 * 48271 % 2147483647 % cN (nowC S))) from rfl]
                      refine me_X8_does hm2 hcT (a := 4) (b := (ltk w (sA S) k).1 * 48271 % 2147483647 % cN (nowC S)) (by omega) him2 rfl (fun g2 hg2 hf2 => ?_)
                      have e3 : (ltk w (sA S) (k + 1)).2 = acP (ltk w (sA S) k).2 (4) ((ltk w (sA S) k).1 * 48271 % 2147483647 % cN (nowC S)) := by
                        show acP _ (if cbe (hsT (ltk w (sA S) k).2 (cT (ltk w (sA S) k).2.1)) (aol ((ltk w (sA S) k).1 * 48271 % 2147483647 / 8 % 8)) ((ltk w (sA S) k).1 * 48271 % 2147483647 % cN (ltk w (sA S) k).2.1) = true then aol ((ltk w (sA S) k).1 * 48271 % 2147483647 / 8 % 8) else 4) ((ltk w (sA S) k).1 * 48271 % 2147483647 % cN (ltk w (sA S) k).2.1) = _
                        rw [show cN (ltk w (sA S) k).2.1 = cN (nowC S) from l2, if_neg (show ¬ cbe (hsT (ltk w (sA S) k).2 (cT (ltk w (sA S) k).2.1)) (aol ((ltk w (sA S) k).1 * 48271 % 2147483647 / 8 % 8)) ((ltk w (sA S) k).1 * 48271 % 2147483647 % cN (nowC S)) = true from fun z => Bool.noConfusion (c_149.symm.trans z))]
                      show bw_go _ _ _ _ _ _ _ 161 [(7, .int _), (6, .int _), (3, .long _), (5, .int _), (0, .ref _), (1, .int _), (2, .int _)] ([]) _ _
                      refine go_iinc dX8_lots_161 rfl (nI_1 k) (Nat.lt_of_lt_of_le (Nat.lt_succ_self _) (Nat.le_of_ble_eq_true rfl)) ?_
                      show bw_go _ _ _ _ _ _ _ 164 [(5, .int _), (7, .int _), (6, .int _), (3, .long _), (0, .ref _), (1, .int _), (2, .int _)] ([]) _ _
                      refine go_goto (pc' := 61) dX8_lots_164 rfl ?_
                      refine go_ls [(5, .int _), (3, .long _), (0, .ref _), (1, .int _), (2, .int _)] (by show List.Nodup ([5, 3, 0, 1, 2] : List Nat); decide) (by show List.Nodup ([5, 7, 6, 3, 0, 1, 2] : List Nat); decide) (le_cons rfl (le_cons rfl (le_cons rfl (le_cons rfl (le_cons rfl (le_nil _)))))) ?_
                      have hg3 : MR g2 (wA S (ltk w (sA S) (k + 1)).2) := by rw [e3]; exact hg2
                      exact K _ ⟨hg3, frX_t hf hf2⟩
                    · -- eq at 149: no
                      show bw_go _ _ _ _ _ _ _ 152 [(7, .int _), (6, .int _), (3, .long _), (5, .int _), (0, .ref _), (1, .int _), (2, .int _)] ((.ref _) :: []) _ _
                      refine go_iload dX8_lots_152 rfl ?_
                      refine go_goto (pc' := 158) dX8_lots_154 rfl ?_
                      show bw_go _ _ _ _ _ _ _ 158 [(7, .int _), (6, .int _), (3, .long _), (5, .int _), (0, .ref _), (1, .int _), (2, .int _)] ((.int _) :: (.ref _) :: []) _ _
                      refine go_cv (as := [.int _]) 1 dX8_lots_158 mt_8_180 (Or.inl rfl) rfl rfl (ms_lt hm.1 (by decide)) hm.1.1.2 (Nat.le_of_ble_eq_true rfl) (Nat.le_of_ble_eq_true rfl) (Nat.le_of_ble_eq_true rfl) (Nat.le_of_ble_eq_true rfl) (Nat.le_of_ble_eq_true rfl) ?_
                      refine me_X8_does hm2 hcT (a := aol ((ltk w (sA S) k).1 * 48271 % 2147483647 / 8 % 8)) (b := (ltk w (sA S) k).1 * 48271 % 2147483647 % cN (nowC S)) (by omega) him2 c_149 (fun g2 hg2 hf2 => ?_)
                      have e3 : (ltk w (sA S) (k + 1)).2 = acP (ltk w (sA S) k).2 (aol ((ltk w (sA S) k).1 * 48271 % 2147483647 / 8 % 8)) ((ltk w (sA S) k).1 * 48271 % 2147483647 % cN (nowC S)) := by
                        show acP _ (if cbe (hsT (ltk w (sA S) k).2 (cT (ltk w (sA S) k).2.1)) (aol ((ltk w (sA S) k).1 * 48271 % 2147483647 / 8 % 8)) ((ltk w (sA S) k).1 * 48271 % 2147483647 % cN (ltk w (sA S) k).2.1) = true then aol ((ltk w (sA S) k).1 * 48271 % 2147483647 / 8 % 8) else 4) ((ltk w (sA S) k).1 * 48271 % 2147483647 % cN (ltk w (sA S) k).2.1) = _
                        rw [show cN (ltk w (sA S) k).2.1 = cN (nowC S) from l2, if_pos (show cbe (hsT (ltk w (sA S) k).2 (cT (ltk w (sA S) k).2.1)) (aol ((ltk w (sA S) k).1 * 48271 % 2147483647 / 8 % 8)) ((ltk w (sA S) k).1 * 48271 % 2147483647 % cN (nowC S)) = true from c_149)]
                      show bw_go _ _ _ _ _ _ _ 161 [(7, .int _), (6, .int _), (3, .long _), (5, .int _), (0, .ref _), (1, .int _), (2, .int _)] ([]) _ _
                      refine go_iinc dX8_lots_161 rfl (nI_1 k) (Nat.lt_of_lt_of_le (Nat.lt_succ_self _) (Nat.le_of_ble_eq_true rfl)) ?_
                      show bw_go _ _ _ _ _ _ _ 164 [(5, .int _), (7, .int _), (6, .int _), (3, .long _), (0, .ref _), (1, .int _), (2, .int _)] ([]) _ _
                      refine go_goto (pc' := 61) dX8_lots_164 rfl ?_
                      refine go_ls [(5, .int _), (3, .long _), (0, .ref _), (1, .int _), (2, .int _)] (by show List.Nodup ([5, 3, 0, 1, 2] : List Nat); decide) (by show List.Nodup ([5, 7, 6, 3, 0, 1, 2] : List Nat); decide) (le_cons rfl (le_cons rfl (le_cons rfl (le_cons rfl (le_cons rfl (le_nil _)))))) ?_
                      have hg3 : MR g2 (wA S (ltk w (sA S) (k + 1)).2) := by rw [e3]; exact hg2
                      exact K _ ⟨hg3, frX_t hf hf2⟩
                · -- ge at 104: no
                  show bw_go _ _ _ _ _ _ _ 107 [(6, .int _), (3, .long _), (5, .int _), (0, .ref _), (1, .int _), (2, .int _)] ([]) _ _
                  refine go_bipush (20) dX8_lots_107 rfl ?_
                  refine go_goto (pc' := 126) dX8_lots_109 rfl ?_
                  show bw_go _ _ _ _ _ _ _ 126 [(6, .int _), (3, .long _), (5, .int _), (0, .ref _), (1, .int _), (2, .int _)] ((.int _) :: []) _ _
                  have haol : nI 20 = nI (10 * (aol ((ltk w (sA S) k).1 * 48271 % 2147483647 / 8 % 8) + 1)) := by
                    congr 1
                    have t_0 := nI_toInt (n := (ltk w (sA S) k).1 * 48271 % 2147483647 / 8 % 8) (by omega)
                    have l_4 : (4 : Int32).toInt = 4 := rfl
                    have l_6 : (6 : Int32).toInt = 6 := rfl
                    try simp only [i_le] at c_92
                    try simp only [i_le] at c_104
                    try (have z6 := (nI_eq (a := (ltk w (sA S) k).1 * 48271 % 2147483647 / 8 % 8) (b := 6) (by omega) (by decide)).mp (Decidable.of_not_not c_116))
                    try (have z7 : ¬ (ltk w (sA S) k).1 * 48271 % 2147483647 / 8 % 8 = 6 := fun z => c_116 (by rw [z]; rfl))
                    unfold aol
                    repeat' split
                    all_goals omega
                  rw [show (20 : Int32) = nI 20 from rfl, haol]
                  refine go_lload_n dX8_lots_126 rfl ?_
                  refine go_aload_n dX8_lots_127 rfl ?_
                  refine go_gfr dX8_lots_128 fl_8_7 rfl (ms_lt hm.1 (by decide)) hm.1.1.2 hm.1.2.1.1 ?_
                  refine go_iconst (0) dX8_lots_131 rfl ?_
                  refine go_ia dX8_lots_132 hm.1.2.2.1 (ms_lt hm.1 (by decide)) (by decide) ?_
                  rw [show (0 : Int32).toNatClampNeg = 0 from rfl, hv2.1, show cN (nowC (wA S (ltk w (sA S) k).2)) = cN (nowC S) from l2]
                  refine go_i2l dX8_lots_133 ?_
                  rw [nI_l (by omega)]
                  refine go_lrem dX8_lots_134 (fun z => h0 ((lz (by omega)).mp z)) ?_
                  rw [pk_lRem (by omega) (by omega) (by omega)]
                  refine go_l2i dX8_lots_135 ?_
                  rw [lN_i]
                  refine go_iadd dX8_lots_136 ?_
                  rw [nI_add, show 10 * (aol ((ltk w (sA S) k).1 * 48271 % 2147483647 / 8 % 8) + 1) + (ltk w (sA S) k).1 * 48271 % 2147483647 % cN (nowC S) = dcd (aol ((ltk w (sA S) k).1 * 48271 % 2147483647 / 8 % 8)) ((ltk w (sA S) k).1 * 48271 % 2147483647 % cN (nowC S)) from (by unfold dcd; rw [if_neg (by omega)])]
                  refine go_istore dX8_lots_137 (Nat.lt_of_lt_of_le (Nat.lt_succ_self _) (Nat.le_of_ble_eq_true rfl)) ?_
                  show bw_go _ _ _ _ _ _ _ 139 [(7, .int _), (6, .int _), (3, .long _), (5, .int _), (0, .ref _), (1, .int _), (2, .int _)] ([]) _ _
                  refine go_aload_n dX8_lots_139 rfl ?_
                  refine go_aload_n dX8_lots_140 rfl ?_
                  refine go_gfr dX8_lots_141 fl_8_7 rfl (ms_lt hm.1 (by decide)) hm.1.1.2 hm.1.2.1.1 ?_
                  refine go_iload dX8_lots_144 rfl ?_
                  refine go_cs (as := [.ref _, .int _]) 0 dX8_lots_146 rfl rfl mt_8_176 (Nat.le_of_ble_eq_true rfl) rfl rfl (Nat.le_of_ble_eq_true rfl) (Nat.le_of_ble_eq_true rfl) (Nat.le_of_ble_eq_true rfl) (Nat.le_of_ble_eq_true rfl) ?_
                  refine me_X8_may hm2.1 (ms_lt hm2.1 (by decide)) hm2.1.2.2.1 hv2 hk2 (a := aol ((ltk w (sA S) k).1 * 48271 % 2147483647 / 8 % 8)) (by omega) him2 ?_
                  show bw_go _ _ _ _ _ _ _ 149 [(7, .int _), (6, .int _), (3, .long _), (5, .int _), (0, .ref _), (1, .int _), (2, .int _)] ((.int _) :: (.ref _) :: []) _ _
                  refine go_ifb_eq (pc' := 157) dX8_lots_149 rfl (fun c_149 => ?_) (fun c_149 => ?_)
                  · -- eq at 149: yes
                    show bw_go _ _ _ _ _ _ _ 157 [(7, .int _), (6, .int _), (3, .long _), (5, .int _), (0, .ref _), (1, .int _), (2, .int _)] ((.ref _) :: []) _ _
                    refine go_iconst (0) dX8_lots_157 rfl ?_
                    refine go_cv (as := [.int _]) 1 dX8_lots_158 mt_8_180 (Or.inl rfl) rfl rfl (ms_lt hm.1 (by decide)) hm.1.1.2 (Nat.le_of_ble_eq_true rfl) (Nat.le_of_ble_eq_true rfl) (Nat.le_of_ble_eq_true rfl) (Nat.le_of_ble_eq_true rfl) (Nat.le_of_ble_eq_true rfl) ?_
                    rw [show (0 : Int32) = nI (dcd 4 ((ltk w (sA S) k).1 * 48271 % 2147483647 % cN (nowC S))) from rfl]
                    refine me_X8_does hm2 hcT (a := 4) (b := (ltk w (sA S) k).1 * 48271 % 2147483647 % cN (nowC S)) (by omega) him2 rfl (fun g2 hg2 hf2 => ?_)
                    have e3 : (ltk w (sA S) (k + 1)).2 = acP (ltk w (sA S) k).2 (4) ((ltk w (sA S) k).1 * 48271 % 2147483647 % cN (nowC S)) := by
                      show acP _ (if cbe (hsT (ltk w (sA S) k).2 (cT (ltk w (sA S) k).2.1)) (aol ((ltk w (sA S) k).1 * 48271 % 2147483647 / 8 % 8)) ((ltk w (sA S) k).1 * 48271 % 2147483647 % cN (ltk w (sA S) k).2.1) = true then aol ((ltk w (sA S) k).1 * 48271 % 2147483647 / 8 % 8) else 4) ((ltk w (sA S) k).1 * 48271 % 2147483647 % cN (ltk w (sA S) k).2.1) = _
                      rw [show cN (ltk w (sA S) k).2.1 = cN (nowC S) from l2, if_neg (show ¬ cbe (hsT (ltk w (sA S) k).2 (cT (ltk w (sA S) k).2.1)) (aol ((ltk w (sA S) k).1 * 48271 % 2147483647 / 8 % 8)) ((ltk w (sA S) k).1 * 48271 % 2147483647 % cN (nowC S)) = true from fun z => Bool.noConfusion (c_149.symm.trans z))]
                    show bw_go _ _ _ _ _ _ _ 161 [(7, .int _), (6, .int _), (3, .long _), (5, .int _), (0, .ref _), (1, .int _), (2, .int _)] ([]) _ _
                    refine go_iinc dX8_lots_161 rfl (nI_1 k) (Nat.lt_of_lt_of_le (Nat.lt_succ_self _) (Nat.le_of_ble_eq_true rfl)) ?_
                    show bw_go _ _ _ _ _ _ _ 164 [(5, .int _), (7, .int _), (6, .int _), (3, .long _), (0, .ref _), (1, .int _), (2, .int _)] ([]) _ _
                    refine go_goto (pc' := 61) dX8_lots_164 rfl ?_
                    refine go_ls [(5, .int _), (3, .long _), (0, .ref _), (1, .int _), (2, .int _)] (by show List.Nodup ([5, 3, 0, 1, 2] : List Nat); decide) (by show List.Nodup ([5, 7, 6, 3, 0, 1, 2] : List Nat); decide) (le_cons rfl (le_cons rfl (le_cons rfl (le_cons rfl (le_cons rfl (le_nil _)))))) ?_
                    have hg3 : MR g2 (wA S (ltk w (sA S) (k + 1)).2) := by rw [e3]; exact hg2
                    exact K _ ⟨hg3, frX_t hf hf2⟩
                  · -- eq at 149: no
                    show bw_go _ _ _ _ _ _ _ 152 [(7, .int _), (6, .int _), (3, .long _), (5, .int _), (0, .ref _), (1, .int _), (2, .int _)] ((.ref _) :: []) _ _
                    refine go_iload dX8_lots_152 rfl ?_
                    refine go_goto (pc' := 158) dX8_lots_154 rfl ?_
                    show bw_go _ _ _ _ _ _ _ 158 [(7, .int _), (6, .int _), (3, .long _), (5, .int _), (0, .ref _), (1, .int _), (2, .int _)] ((.int _) :: (.ref _) :: []) _ _
                    refine go_cv (as := [.int _]) 1 dX8_lots_158 mt_8_180 (Or.inl rfl) rfl rfl (ms_lt hm.1 (by decide)) hm.1.1.2 (Nat.le_of_ble_eq_true rfl) (Nat.le_of_ble_eq_true rfl) (Nat.le_of_ble_eq_true rfl) (Nat.le_of_ble_eq_true rfl) (Nat.le_of_ble_eq_true rfl) ?_
                    refine me_X8_does hm2 hcT (a := aol ((ltk w (sA S) k).1 * 48271 % 2147483647 / 8 % 8)) (b := (ltk w (sA S) k).1 * 48271 % 2147483647 % cN (nowC S)) (by omega) him2 c_149 (fun g2 hg2 hf2 => ?_)
                    have e3 : (ltk w (sA S) (k + 1)).2 = acP (ltk w (sA S) k).2 (aol ((ltk w (sA S) k).1 * 48271 % 2147483647 / 8 % 8)) ((ltk w (sA S) k).1 * 48271 % 2147483647 % cN (nowC S)) := by
                      show acP _ (if cbe (hsT (ltk w (sA S) k).2 (cT (ltk w (sA S) k).2.1)) (aol ((ltk w (sA S) k).1 * 48271 % 2147483647 / 8 % 8)) ((ltk w (sA S) k).1 * 48271 % 2147483647 % cN (ltk w (sA S) k).2.1) = true then aol ((ltk w (sA S) k).1 * 48271 % 2147483647 / 8 % 8) else 4) ((ltk w (sA S) k).1 * 48271 % 2147483647 % cN (ltk w (sA S) k).2.1) = _
                      rw [show cN (ltk w (sA S) k).2.1 = cN (nowC S) from l2, if_pos (show cbe (hsT (ltk w (sA S) k).2 (cT (ltk w (sA S) k).2.1)) (aol ((ltk w (sA S) k).1 * 48271 % 2147483647 / 8 % 8)) ((ltk w (sA S) k).1 * 48271 % 2147483647 % cN (nowC S)) = true from c_149)]
                    show bw_go _ _ _ _ _ _ _ 161 [(7, .int _), (6, .int _), (3, .long _), (5, .int _), (0, .ref _), (1, .int _), (2, .int _)] ([]) _ _
                    refine go_iinc dX8_lots_161 rfl (nI_1 k) (Nat.lt_of_lt_of_le (Nat.lt_succ_self _) (Nat.le_of_ble_eq_true rfl)) ?_
                    show bw_go _ _ _ _ _ _ _ 164 [(5, .int _), (7, .int _), (6, .int _), (3, .long _), (0, .ref _), (1, .int _), (2, .int _)] ([]) _ _
                    refine go_goto (pc' := 61) dX8_lots_164 rfl ?_
                    refine go_ls [(5, .int _), (3, .long _), (0, .ref _), (1, .int _), (2, .int _)] (by show List.Nodup ([5, 3, 0, 1, 2] : List Nat); decide) (by show List.Nodup ([5, 7, 6, 3, 0, 1, 2] : List Nat); decide) (le_cons rfl (le_cons rfl (le_cons rfl (le_cons rfl (le_cons rfl (le_nil _)))))) ?_
                    have hg3 : MR g2 (wA S (ltk w (sA S) (k + 1)).2) := by rw [e3]; exact hg2
                    exact K _ ⟨hg3, frX_t hf hf2⟩
              · -- ge at 92: no
                show bw_go _ _ _ _ _ _ _ 95 [(6, .int _), (3, .long _), (5, .int _), (0, .ref _), (1, .int _), (2, .int _)] ([]) _ _
                refine go_bipush (10) dX8_lots_95 rfl ?_
                refine go_goto (pc' := 126) dX8_lots_97 rfl ?_
                show bw_go _ _ _ _ _ _ _ 126 [(6, .int _), (3, .long _), (5, .int _), (0, .ref _), (1, .int _), (2, .int _)] ((.int _) :: []) _ _
                have haol : nI 10 = nI (10 * (aol ((ltk w (sA S) k).1 * 48271 % 2147483647 / 8 % 8) + 1)) := by
                  congr 1
                  have t_0 := nI_toInt (n := (ltk w (sA S) k).1 * 48271 % 2147483647 / 8 % 8) (by omega)
                  have l_4 : (4 : Int32).toInt = 4 := rfl
                  have l_6 : (6 : Int32).toInt = 6 := rfl
                  try simp only [i_le] at c_92
                  try simp only [i_le] at c_104
                  try (have z6 := (nI_eq (a := (ltk w (sA S) k).1 * 48271 % 2147483647 / 8 % 8) (b := 6) (by omega) (by decide)).mp (Decidable.of_not_not c_116))
                  try (have z7 : ¬ (ltk w (sA S) k).1 * 48271 % 2147483647 / 8 % 8 = 6 := fun z => c_116 (by rw [z]; rfl))
                  unfold aol
                  repeat' split
                  all_goals omega
                rw [show (10 : Int32) = nI 10 from rfl, haol]
                refine go_lload_n dX8_lots_126 rfl ?_
                refine go_aload_n dX8_lots_127 rfl ?_
                refine go_gfr dX8_lots_128 fl_8_7 rfl (ms_lt hm.1 (by decide)) hm.1.1.2 hm.1.2.1.1 ?_
                refine go_iconst (0) dX8_lots_131 rfl ?_
                refine go_ia dX8_lots_132 hm.1.2.2.1 (ms_lt hm.1 (by decide)) (by decide) ?_
                rw [show (0 : Int32).toNatClampNeg = 0 from rfl, hv2.1, show cN (nowC (wA S (ltk w (sA S) k).2)) = cN (nowC S) from l2]
                refine go_i2l dX8_lots_133 ?_
                rw [nI_l (by omega)]
                refine go_lrem dX8_lots_134 (fun z => h0 ((lz (by omega)).mp z)) ?_
                rw [pk_lRem (by omega) (by omega) (by omega)]
                refine go_l2i dX8_lots_135 ?_
                rw [lN_i]
                refine go_iadd dX8_lots_136 ?_
                rw [nI_add, show 10 * (aol ((ltk w (sA S) k).1 * 48271 % 2147483647 / 8 % 8) + 1) + (ltk w (sA S) k).1 * 48271 % 2147483647 % cN (nowC S) = dcd (aol ((ltk w (sA S) k).1 * 48271 % 2147483647 / 8 % 8)) ((ltk w (sA S) k).1 * 48271 % 2147483647 % cN (nowC S)) from (by unfold dcd; rw [if_neg (by omega)])]
                refine go_istore dX8_lots_137 (Nat.lt_of_lt_of_le (Nat.lt_succ_self _) (Nat.le_of_ble_eq_true rfl)) ?_
                show bw_go _ _ _ _ _ _ _ 139 [(7, .int _), (6, .int _), (3, .long _), (5, .int _), (0, .ref _), (1, .int _), (2, .int _)] ([]) _ _
                refine go_aload_n dX8_lots_139 rfl ?_
                refine go_aload_n dX8_lots_140 rfl ?_
                refine go_gfr dX8_lots_141 fl_8_7 rfl (ms_lt hm.1 (by decide)) hm.1.1.2 hm.1.2.1.1 ?_
                refine go_iload dX8_lots_144 rfl ?_
                refine go_cs (as := [.ref _, .int _]) 0 dX8_lots_146 rfl rfl mt_8_176 (Nat.le_of_ble_eq_true rfl) rfl rfl (Nat.le_of_ble_eq_true rfl) (Nat.le_of_ble_eq_true rfl) (Nat.le_of_ble_eq_true rfl) (Nat.le_of_ble_eq_true rfl) ?_
                refine me_X8_may hm2.1 (ms_lt hm2.1 (by decide)) hm2.1.2.2.1 hv2 hk2 (a := aol ((ltk w (sA S) k).1 * 48271 % 2147483647 / 8 % 8)) (by omega) him2 ?_
                show bw_go _ _ _ _ _ _ _ 149 [(7, .int _), (6, .int _), (3, .long _), (5, .int _), (0, .ref _), (1, .int _), (2, .int _)] ((.int _) :: (.ref _) :: []) _ _
                refine go_ifb_eq (pc' := 157) dX8_lots_149 rfl (fun c_149 => ?_) (fun c_149 => ?_)
                · -- eq at 149: yes
                  show bw_go _ _ _ _ _ _ _ 157 [(7, .int _), (6, .int _), (3, .long _), (5, .int _), (0, .ref _), (1, .int _), (2, .int _)] ((.ref _) :: []) _ _
                  refine go_iconst (0) dX8_lots_157 rfl ?_
                  refine go_cv (as := [.int _]) 1 dX8_lots_158 mt_8_180 (Or.inl rfl) rfl rfl (ms_lt hm.1 (by decide)) hm.1.1.2 (Nat.le_of_ble_eq_true rfl) (Nat.le_of_ble_eq_true rfl) (Nat.le_of_ble_eq_true rfl) (Nat.le_of_ble_eq_true rfl) (Nat.le_of_ble_eq_true rfl) ?_
                  rw [show (0 : Int32) = nI (dcd 4 ((ltk w (sA S) k).1 * 48271 % 2147483647 % cN (nowC S))) from rfl]
                  refine me_X8_does hm2 hcT (a := 4) (b := (ltk w (sA S) k).1 * 48271 % 2147483647 % cN (nowC S)) (by omega) him2 rfl (fun g2 hg2 hf2 => ?_)
                  have e3 : (ltk w (sA S) (k + 1)).2 = acP (ltk w (sA S) k).2 (4) ((ltk w (sA S) k).1 * 48271 % 2147483647 % cN (nowC S)) := by
                    show acP _ (if cbe (hsT (ltk w (sA S) k).2 (cT (ltk w (sA S) k).2.1)) (aol ((ltk w (sA S) k).1 * 48271 % 2147483647 / 8 % 8)) ((ltk w (sA S) k).1 * 48271 % 2147483647 % cN (ltk w (sA S) k).2.1) = true then aol ((ltk w (sA S) k).1 * 48271 % 2147483647 / 8 % 8) else 4) ((ltk w (sA S) k).1 * 48271 % 2147483647 % cN (ltk w (sA S) k).2.1) = _
                    rw [show cN (ltk w (sA S) k).2.1 = cN (nowC S) from l2, if_neg (show ¬ cbe (hsT (ltk w (sA S) k).2 (cT (ltk w (sA S) k).2.1)) (aol ((ltk w (sA S) k).1 * 48271 % 2147483647 / 8 % 8)) ((ltk w (sA S) k).1 * 48271 % 2147483647 % cN (nowC S)) = true from fun z => Bool.noConfusion (c_149.symm.trans z))]
                  show bw_go _ _ _ _ _ _ _ 161 [(7, .int _), (6, .int _), (3, .long _), (5, .int _), (0, .ref _), (1, .int _), (2, .int _)] ([]) _ _
                  refine go_iinc dX8_lots_161 rfl (nI_1 k) (Nat.lt_of_lt_of_le (Nat.lt_succ_self _) (Nat.le_of_ble_eq_true rfl)) ?_
                  show bw_go _ _ _ _ _ _ _ 164 [(5, .int _), (7, .int _), (6, .int _), (3, .long _), (0, .ref _), (1, .int _), (2, .int _)] ([]) _ _
                  refine go_goto (pc' := 61) dX8_lots_164 rfl ?_
                  refine go_ls [(5, .int _), (3, .long _), (0, .ref _), (1, .int _), (2, .int _)] (by show List.Nodup ([5, 3, 0, 1, 2] : List Nat); decide) (by show List.Nodup ([5, 7, 6, 3, 0, 1, 2] : List Nat); decide) (le_cons rfl (le_cons rfl (le_cons rfl (le_cons rfl (le_cons rfl (le_nil _)))))) ?_
                  have hg3 : MR g2 (wA S (ltk w (sA S) (k + 1)).2) := by rw [e3]; exact hg2
                  exact K _ ⟨hg3, frX_t hf hf2⟩
                · -- eq at 149: no
                  show bw_go _ _ _ _ _ _ _ 152 [(7, .int _), (6, .int _), (3, .long _), (5, .int _), (0, .ref _), (1, .int _), (2, .int _)] ((.ref _) :: []) _ _
                  refine go_iload dX8_lots_152 rfl ?_
                  refine go_goto (pc' := 158) dX8_lots_154 rfl ?_
                  show bw_go _ _ _ _ _ _ _ 158 [(7, .int _), (6, .int _), (3, .long _), (5, .int _), (0, .ref _), (1, .int _), (2, .int _)] ((.int _) :: (.ref _) :: []) _ _
                  refine go_cv (as := [.int _]) 1 dX8_lots_158 mt_8_180 (Or.inl rfl) rfl rfl (ms_lt hm.1 (by decide)) hm.1.1.2 (Nat.le_of_ble_eq_true rfl) (Nat.le_of_ble_eq_true rfl) (Nat.le_of_ble_eq_true rfl) (Nat.le_of_ble_eq_true rfl) (Nat.le_of_ble_eq_true rfl) ?_
                  refine me_X8_does hm2 hcT (a := aol ((ltk w (sA S) k).1 * 48271 % 2147483647 / 8 % 8)) (b := (ltk w (sA S) k).1 * 48271 % 2147483647 % cN (nowC S)) (by omega) him2 c_149 (fun g2 hg2 hf2 => ?_)
                  have e3 : (ltk w (sA S) (k + 1)).2 = acP (ltk w (sA S) k).2 (aol ((ltk w (sA S) k).1 * 48271 % 2147483647 / 8 % 8)) ((ltk w (sA S) k).1 * 48271 % 2147483647 % cN (nowC S)) := by
                    show acP _ (if cbe (hsT (ltk w (sA S) k).2 (cT (ltk w (sA S) k).2.1)) (aol ((ltk w (sA S) k).1 * 48271 % 2147483647 / 8 % 8)) ((ltk w (sA S) k).1 * 48271 % 2147483647 % cN (ltk w (sA S) k).2.1) = true then aol ((ltk w (sA S) k).1 * 48271 % 2147483647 / 8 % 8) else 4) ((ltk w (sA S) k).1 * 48271 % 2147483647 % cN (ltk w (sA S) k).2.1) = _
                    rw [show cN (ltk w (sA S) k).2.1 = cN (nowC S) from l2, if_pos (show cbe (hsT (ltk w (sA S) k).2 (cT (ltk w (sA S) k).2.1)) (aol ((ltk w (sA S) k).1 * 48271 % 2147483647 / 8 % 8)) ((ltk w (sA S) k).1 * 48271 % 2147483647 % cN (nowC S)) = true from c_149)]
                  show bw_go _ _ _ _ _ _ _ 161 [(7, .int _), (6, .int _), (3, .long _), (5, .int _), (0, .ref _), (1, .int _), (2, .int _)] ([]) _ _
                  refine go_iinc dX8_lots_161 rfl (nI_1 k) (Nat.lt_of_lt_of_le (Nat.lt_succ_self _) (Nat.le_of_ble_eq_true rfl)) ?_
                  show bw_go _ _ _ _ _ _ _ 164 [(5, .int _), (7, .int _), (6, .int _), (3, .long _), (0, .ref _), (1, .int _), (2, .int _)] ([]) _ _
                  refine go_goto (pc' := 61) dX8_lots_164 rfl ?_
                  refine go_ls [(5, .int _), (3, .long _), (0, .ref _), (1, .int _), (2, .int _)] (by show List.Nodup ([5, 3, 0, 1, 2] : List Nat); decide) (by show List.Nodup ([5, 7, 6, 3, 0, 1, 2] : List Nat); decide) (le_cons rfl (le_cons rfl (le_cons rfl (le_cons rfl (le_cons rfl (le_nil _)))))) ?_
                  have hg3 : MR g2 (wA S (ltk w (sA S) (k + 1)).2) := by rw [e3]; exact hg2
                  exact K _ ⟨hg3, frX_t hf hf2⟩
          · -- behind the last
            intro g hv
            obtain ⟨hm2, hf⟩ := hv
            have hm := hm2
            have p6 := p2N (mr_k hm2).1
            show bw_go _ _ _ _ _ _ _ 61 [(5, .int _), (3, .long _), (0, .ref _), (1, .int _), (2, .int _)] ([]) _ _
            refine go_iload dX8_lots_61 rfl ?_
            refine go_iload_n dX8_lots_63 rfl ?_
            refine go_icmp_ge (pc' := 167) dX8_lots_64 rfl (fun c_64 => ?_) (fun c_64 => ?_)
            · -- ge at 64: yes
              show bw_go _ _ _ _ _ _ _ 167 [(5, .int _), (3, .long _), (0, .ref _), (1, .int _), (2, .int _)] ([]) _ _
              refine go_aload_n dX8_lots_167 rfl ?_
              refine go_aload_n dX8_lots_168 rfl ?_
              refine go_cv (as := []) 0 dX8_lots_169 mt_8_194 (Or.inl rfl) rfl rfl (ms_lt hm.1 (by decide)) hm.1.1.2 (Nat.le_of_ble_eq_true rfl) (Nat.le_of_ble_eq_true rfl) (Nat.le_of_ble_eq_true rfl) (Nat.le_of_ble_eq_true rfl) (Nat.le_of_ble_eq_true rfl) ?_
              refine me_X8_allBears hm2 ?_
              show bw_go _ _ _ _ _ _ _ 172 [(5, .int _), (3, .long _), (0, .ref _), (1, .int _), (2, .int _)] ((.int _) :: (.ref _) :: []) _ _
              refine go_cv (as := [.int _]) 6 dX8_lots_172 mt_8_198 (Or.inl rfl) rfl rfl (ms_lt hm.1 (by decide)) hm.1.1.2 (Nat.le_of_ble_eq_true rfl) (Nat.le_of_ble_eq_true rfl) (Nat.le_of_ble_eq_true rfl) (Nat.le_of_ble_eq_true rfl) (Nat.le_of_ble_eq_true rfl) ?_
              refine me_X8_shownBy hm2 (by omega) ?_
              show bw_go _ _ _ _ _ _ _ 175 [(5, .int _), (3, .long _), (0, .ref _), (1, .int _), (2, .int _)] ((.int _) :: []) _ _
              refine go_cs (as := [.int _]) 0 dX8_lots_175 rfl rfl mt_8_166 (Nat.le_of_ble_eq_true rfl) rfl rfl (Nat.le_of_ble_eq_true rfl) (Nat.le_of_ble_eq_true rfl) (Nat.le_of_ble_eq_true rfl) (Nat.le_of_ble_eq_true rfl) ?_
              refine me_X8_bits (sho_lt _ _) ?_
              show bw_go _ _ _ _ _ _ _ 178 [(5, .int _), (3, .long _), (0, .ref _), (1, .int _), (2, .int _)] ((.int _) :: []) _ _
              refine go_iret dX8_lots_178 rfl rfl ?_
              refine q_m hQ ?_ hm2 hf
              unfold yLots
              rw [if_pos hin, if_neg h0, rn_n (by omega), hrw, if_neg (by omega)]
            · -- ge at 64: no
              exfalso; have t_0 := nI_toInt (n := y) (by omega); simp only [i_le, i_lt, i_eq, bi_eq] at c_64; omega
        · -- le at 49: no
          show bw_go _ _ _ _ _ _ _ 52 [(0, .ref _), (1, .int _), (2, .int _)] ([]) _ _
          refine go_bipush (-2) dX8_lots_52 rfl ?_
          refine go_iret dX8_lots_54 rfl rfl ?_
          have h40 : 40 < cT (sA S).1 + y := by
            have t_0 := nI_toInt (n := cT (sA S).1 + y) (by omega)
            have l_0 : (40 : Int32).toInt = 40 := rfl
            simp only [i_le] at c_49
            omega
          refine q_m hQ ?_ hm (frX_r h)
          unfold yLots
          rw [if_pos hin, if_neg h0, rn_n (by omega), if_pos h40]
      · -- ne at 32: no
        show bw_go _ _ _ _ _ _ _ 35 [(0, .ref _), (1, .int _), (2, .int _)] ([]) _ _
        refine go_bipush (-4) dX8_lots_35 rfl ?_
        refine go_iret dX8_lots_37 rfl rfl ?_
        refine q_m hQ ?_ hm (frX_r h)
        unfold yLots
        rw [if_pos hin, if_pos ((nI_eq (a := cN (nowC S)) (b := 0) (by omega) (by omega)).mp (Decidable.of_not_not c_32))]
    · -- ne at 21: no
      show bw_go _ _ _ _ _ _ _ 24 [(0, .ref _), (1, .int _), (2, .int _)] ([]) _ _
      refine go_iconst (-1) dX8_lots_24 rfl ?_
      refine go_iret dX8_lots_25 rfl rfl ?_
      refine q_m hQ ?_ hm (frX_r h)
      unfold yLots
      first
      | (have z9 := of_decide_eq_false c_21; rw [if_neg (fun z => z9 ⟨z.2.2.1, z.2.2.2⟩)])
      | (have z9 := of_decide_eq_false c_9; rw [if_neg (fun z => z9 ⟨z.1, z.2.1⟩)])
