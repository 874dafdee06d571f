/-! the reference: count, findings, the digest -/
theorem in_0b (n : Int32) : inr n.toInt64 0 11 = isn n 12 := by
  unfold inr isn
  rw [l_i, show (0 : Int64).toInt = 0 from rfl, show (11 : Int64).toInt = 11 from rfl]
  exact decide_eq_decide.mpr (by omega)
theorem osz_w {s : Option Nat} {wid : Nat} (h : sok s wid) : osz s ≤ wid := by
  cases e : s with
  | none => exact Nat.zero_le _
  | some m => exact h m e
theorem mrow_v {h : bw_H} {p q num wid r i : Nat} {s : Nat → Option Nat} {c : Nat → Nat → Int32} (hr : mRow h p q num wid s c) (h1 : r < num) (h2 : i < osz (s r)) : bw_i h p (wid * r + i) = c r (0 + i) ∧ i < wid := by
  have e1 := hr r h1
  cases e : s r with
  | none => rw [e] at h2; exact absurd h2 (Nat.not_lt_zero i)
  | some m =>
    rw [e] at h2
    rw [Nat.zero_add]
    exact ⟨e1.2.2 m e i h2, Nat.lt_of_lt_of_le h2 (e1.2.1 m e)⟩
set_option maxRecDepth 100000 in
set_option maxHeartbeats 4000000 in
theorem me_X8_count {X : Nat × (Nat → Int32)} {Q : Option Value → bw_H → Prop} {h : bw_H} {S : ST} {w : Int32} (hm : MR h S) (hQ : PM h Q (yCount w S)) : bw_me X 8 bm_X8_count false [.ref 60, .int w] h Q := by
  show bw_go _ 8 8 2 false (some .int) cX8_count 0 [(0, .ref _), (1, .int _)] [] _ _
  refine go_iload_n dX8_count_0 rfl ?_
  refine go_i2l dX8_count_1 ?_
  refine go_lconst (0) dX8_count_2 rfl ?_
  refine go_ldc2_w dX8_count_3 kc_8_271 ?_
  refine go_cs (as := [.long _, .long _, .long _]) 0 dX8_count_6 rfl rfl mt_8_69 (Nat.le_of_ble_eq_true rfl) rfl rfl (Nat.le_of_ble_eq_true rfl) (Nat.le_of_ble_eq_true rfl) (Nat.le_of_ble_eq_true rfl) (Nat.le_of_ble_eq_true rfl) ?_
  refine me_X8_in ?_
  rw [in_0b]
  show bw_go _ _ _ _ _ _ _ 9 [(0, .ref _), (1, .int _)] ((.int _) :: []) _ _
  refine go_ifb_eq (pc' := 20) dX8_count_9 rfl (fun c_9 => ?_) (fun c_9 => ?_)
  · -- eq at 9: yes
    show bw_go _ _ _ _ _ _ _ 20 [(0, .ref _), (1, .int _)] ([]) _ _
    refine go_iconst (-1) dX8_count_20 rfl ?_
    refine go_iret dX8_count_21 rfl rfl ?_
    refine q_m hQ ?_ hm (frX_r h)
    unfold yCount
    first
    | (rw [if_neg (fun z => Bool.noConfusion ((show isn w 12 = false from c_9).symm.trans z))])
    | (rw [if_pos c_9, rn_n (by omega)])
  · -- eq at 9: no
    show bw_go _ _ _ _ _ _ _ 12 [(0, .ref _), (1, .int _)] ([]) _ _
    obtain ⟨j, hj, rfl⟩ := isn_ex (r := w) (num := 12) c_9 (by decide)
    refine go_aload_n dX8_count_12 rfl ?_
    refine go_iload_n dX8_count_13 rfl ?_
    refine go_cv (as := [.int _]) 7 dX8_count_14 mt_8_273 (Or.inl rfl) rfl rfl (ms_lt hm.1 (by decide)) hm.1.1.2 (Nat.le_of_ble_eq_true rfl) (Nat.le_of_ble_eq_true rfl) (Nat.le_of_ble_eq_true rfl) (Nat.le_of_ble_eq_true rfl) (Nat.le_of_ble_eq_true rfl) ?_
    refine me_X8_counted hm hj ?_
    show bw_go _ _ _ _ _ _ _ 17 [(0, .ref _), (1, .int _)] ((.int _) :: []) _ _
    refine go_goto (pc' := 21) dX8_count_17 rfl ?_
    show bw_go _ _ _ _ _ _ _ 21 [(0, .ref _), (1, .int _)] ((.int _) :: []) _ _
    refine go_iret dX8_count_21 rfl rfl ?_
    refine q_m hQ ?_ hm (frX_r h)
    unfold yCount
    first
    | (rw [if_neg (fun z => Bool.noConfusion ((show isn w 12 = false from c_9).symm.trans z))])
    | (rw [if_pos c_9, rn_n (by omega)])
set_option maxRecDepth 100000 in
set_option maxHeartbeats 4000000 in
theorem me_X8_finding {X : Nat × (Nat → Int32)} {Q : Option Value → bw_H → Prop} {h : bw_H} {S : ST} (hm : MR h S) (hQ : PM h Q (sL S, S)) : bw_me X 0 bm_X8_finding false [.ref 60] h Q := by
  show bw_go _ 0 8 1 false (some .int) cX8_finding 0 [(0, .ref _)] [] _ _
  refine go_aload_n dX8_finding_0 rfl ?_
  refine go_gfi dX8_finding_1 fl_8_60 rfl (ms_lt hm.1 (by decide)) hm.1.1.2 ?_
  rw [hm.2.2.2.2.2.2.1.1]
  refine go_iret dX8_finding_4 rfl rfl ?_
  exact hQ h hm (frX_r h)
set_option maxRecDepth 100000 in
set_option maxHeartbeats 4000000 in
theorem me_X8_asked {X : Nat × (Nat → Int32)} {Q : Option Value → bw_H → Prop} {h : bw_H} {S : ST} (hm : MR h S) (hQ : PM h Q (sQ S, S)) : bw_me X 0 bm_X8_asked false [.ref 60] h Q := by
  show bw_go _ 0 8 1 false (some .int) cX8_asked 0 [(0, .ref _)] [] _ _
  refine go_aload_n dX8_asked_0 rfl ?_
  refine go_gfi dX8_asked_1 fl_8_64 rfl (ms_lt hm.1 (by decide)) hm.1.1.2 ?_
  rw [hm.2.2.2.2.2.2.1.2.1]
  refine go_iret dX8_asked_4 rfl rfl ?_
  exact hQ h hm (frX_r h)
set_option maxRecDepth 100000 in
set_option maxHeartbeats 4000000 in
theorem me_X8_upper {X : Nat × (Nat → Int32)} {Q : Option Value → bw_H → Prop} {h : bw_H} {S : ST} (hm : MR h S) (hQ : ∀ g, MR g S → frX h g → Q (some (.long (sU S))) g) : bw_me X 0 bm_X8_upper false [.ref 60] h Q := by
  show bw_go _ 0 8 1 false (some .long) cX8_upper 0 [(0, .ref _)] [] _ _
  refine go_aload_n dX8_upper_0 rfl ?_
  refine go_gfl dX8_upper_1 fl_8_228 rfl (ms_lt hm.1 (by decide)) hm.1.1.2 ?_
  rw [hm.2.2.2.2.2.2.1.2.2.1]
  refine go_lret dX8_upper_4 rfl ?_
  exact hQ h hm (frX_r h)
set_option maxRecDepth 100000 in
set_option maxHeartbeats 4000000 in
theorem me_X8_lower {X : Nat × (Nat → Int32)} {Q : Option Value → bw_H → Prop} {h : bw_H} {S : ST} (hm : MR h S) (hQ : ∀ g, MR g S → frX h g → Q (some (.long (sO S))) g) : bw_me X 0 bm_X8_lower false [.ref 60] h Q := by
  show bw_go _ 0 8 1 false (some .long) cX8_lower 0 [(0, .ref _)] [] _ _
  refine go_aload_n dX8_lower_0 rfl ?_
  refine go_gfl dX8_lower_1 fl_8_35 rfl (ms_lt hm.1 (by decide)) hm.1.1.2 ?_
  rw [hm.2.2.2.2.2.2.1.2.2.2]
  refine go_lret dX8_lower_4 rfl ?_
  exact hQ h hm (frX_r h)
set_option maxRecDepth 100000 in
set_option maxHeartbeats 4000000 in
theorem me_X8_findings {X : Nat × (Nat → Int32)} {Q : Option Value → bw_H → Prop} {h : bw_H} {S : ST} {f : Int32} (hm : MR h S) (hQ : PM h Q (yFindings f S)) : bw_me X 1 bm_X8_findings false [.ref 60, .int f] h Q := by
  show bw_go _ 1 8 2 false (some .int) cX8_findings 0 [(0, .ref _), (1, .int _)] [] _ _
  refine go_iload_n dX8_findings_0 rfl ?_
  refine go_i2l dX8_findings_1 ?_
  refine go_lconst (1) dX8_findings_2 rfl ?_
  refine go_ldc2_w dX8_findings_3 kc_8_67 ?_
  refine go_cs (as := [.long _, .long _, .long _]) 0 dX8_findings_6 rfl rfl mt_8_69 (Nat.le_of_ble_eq_true rfl) rfl rfl (Nat.le_of_ble_eq_true rfl) (Nat.le_of_ble_eq_true rfl) (Nat.le_of_ble_eq_true rfl) (Nat.le_of_ble_eq_true rfl) ?_
  refine me_X8_in ?_
  rw [in_15]
  show bw_go _ _ _ _ _ _ _ 9 [(0, .ref _), (1, .int _)] ((.int _) :: []) _ _
  refine go_ifb_eq (pc' := 21) dX8_findings_9 rfl (fun c_9 => ?_) (fun c_9 => ?_)
  · -- eq at 9: yes
    show bw_go _ _ _ _ _ _ _ 21 [(0, .ref _), (1, .int _)] ([]) _ _
    refine go_iconst (-1) dX8_findings_21 rfl ?_
    refine go_iret dX8_findings_22 rfl rfl ?_
    refine q_m hQ ?_ hm (frX_r h)
    unfold yFindings
    first
    | (have c9 := of_decide_eq_false c_9; rw [if_neg (fun z => c9 ⟨z.1, by omega⟩)])
    | (rw [if_pos ⟨h5.1, by omega⟩, rn_n (by omega)])
  · -- eq at 9: no
    show bw_go _ _ _ _ _ _ _ 12 [(0, .ref _), (1, .int _)] ([]) _ _
    have h5 : 1 ≤ f.toInt ∧ f.toInt < 6 := of_decide_eq_true c_9
    obtain ⟨j, hj, rfl⟩ := isn_ex (r := f) (num := 6) (decide_eq_true (by omega)) (by decide)
    refine go_aload_n dX8_findings_12 rfl ?_
    refine go_gfr dX8_findings_13 fl_8_32 rfl (ms_lt hm.1 (by decide)) hm.1.1.2 hm.1.2.1.2.2.2.2.2.2.2.1 ?_
    refine go_iload_n dX8_findings_16 rfl ?_
    refine go_ia dX8_findings_17 hm.1.2.2.2.2.2.2.2.2.2.1 (ms_lt hm.1 (by decide)) (n_in (N := 6) hj (by decide)) ?_
    rw [nI_clamp (by omega), hm.2.2.2.2.2.1 j hj]
    refine go_goto (pc' := 22) dX8_findings_18 rfl ?_
    show bw_go _ _ _ _ _ _ _ 22 [(0, .ref _), (1, .int _)] ((.int _) :: []) _ _
    refine go_iret dX8_findings_22 rfl rfl ?_
    refine q_m hQ ?_ hm (frX_r h)
    unfold yFindings
    first
    | (have c9 := of_decide_eq_false c_9; rw [if_neg (fun z => c9 ⟨z.1, by omega⟩)])
    | (rw [if_pos ⟨h5.1, by omega⟩, rn_n (by omega)])
set_option maxRecDepth 100000 in
set_option maxHeartbeats 4000000 in
theorem me_X8_digest {X : Nat × (Nat → Int32)} {Q : Option Value → bw_H → Prop} {h : bw_H} {S : ST} (hm : MR h S) (hQ : ∀ g, MR g S → frX h g → Q (some (.long (digS S))) g) : bw_me X 8 bm_X8_digest false [.ref 60] h Q := by
  have hv := mr_v hm
  have hkC := mr_k hm
  have k1 := hkC.1
  show bw_go _ 8 8 5 false (some .long) cX8_digest 0 [(0, .ref _)] [] _ _
  refine go_ldc2_w dX8_digest_0 kc_8_276 ?_
  refine go_lstore_n dX8_digest_3 (Nat.lt_of_lt_of_le (Nat.lt_succ_self _) (Nat.le_of_ble_eq_true rfl)) ?_
  show bw_go _ _ _ _ _ _ _ 4 [(1, .long _), (0, .ref _)] ([]) _ _
  refine go_iconst (0) dX8_digest_4 rfl ?_
  refine go_istore_n dX8_digest_5 (Nat.lt_of_lt_of_le (Nat.lt_succ_self _) (Nat.le_of_ble_eq_true rfl)) ?_
  show bw_go _ _ _ _ _ _ _ 6 [(3, .int _), (1, .long _), (0, .ref _)] ([]) _ _
  refine go_for (P := fun k => bw_go X 8 8 5 false (some .long) cX8_digest 6 [(3, .int (nI k)), (1, .long (dgC S k)), (0, .ref (60))] [] h Q) (N := 12) (fun k hk K => ?_) ?_ (0) (Nat.zero_le _)
  · -- a turn
    show bw_go _ _ _ _ _ _ _ 6 [(3, .int _), (1, .long _), (0, .ref _)] ([]) _ _
    refine go_iload_n dX8_digest_6 rfl ?_
    refine go_bipush (12) dX8_digest_7 rfl ?_
    refine go_icmp_ge (pc' := 31) dX8_digest_9 rfl (fun c_9 => ?_) (fun c_9 => ?_)
    · -- ge at 9: yes
      exfalso; have t_0 := nI_toInt (n := k) (by omega); have l_0 : (12 : Int32).toInt = 12 := rfl; simp only [i_le, i_lt, i_eq, bi_eq] at c_9; omega
    · -- ge at 9: no
      show bw_go _ _ _ _ _ _ _ 12 [(3, .int _), (1, .long _), (0, .ref _)] ([]) _ _
      refine go_ldc2_w dX8_digest_12 kc_8_278 ?_
      refine go_lload_n dX8_digest_15 rfl ?_
      refine go_lmul dX8_digest_16 ?_
      refine go_aload_n dX8_digest_17 rfl ?_
      refine go_iload_n dX8_digest_18 rfl ?_
      refine go_cv (as := [.int _]) 7 dX8_digest_19 mt_8_273 (Or.inl rfl) rfl rfl (ms_lt hm.1 (by decide)) hm.1.1.2 (Nat.le_of_ble_eq_true rfl) (Nat.le_of_ble_eq_true rfl) (Nat.le_of_ble_eq_true rfl) (Nat.le_of_ble_eq_true rfl) (Nat.le_of_ble_eq_true rfl) ?_
      refine me_X8_counted hm hk ?_
      show bw_go _ _ _ _ _ _ _ 22 [(3, .int _), (1, .long _), (0, .ref _)] ((.int _) :: (.long _) :: []) _ _
      refine go_i2l dX8_digest_22 ?_
      refine go_ladd dX8_digest_23 ?_
      refine go_lstore_n dX8_digest_24 (Nat.lt_of_lt_of_le (Nat.lt_succ_self _) (Nat.le_of_ble_eq_true rfl)) ?_
      show bw_go _ _ _ _ _ _ _ 25 [(1, .long _), (3, .int _), (0, .ref _)] ([]) _ _
      refine go_iinc dX8_digest_25 rfl (nI_1 k) (Nat.lt_of_lt_of_le (Nat.lt_succ_self _) (Nat.le_of_ble_eq_true rfl)) ?_
      show bw_go _ _ _ _ _ _ _ 28 [(3, .int _), (1, .long _), (0, .ref _)] ([]) _ _
      refine go_goto (pc' := 6) dX8_digest_28 rfl ?_
      exact K
  · -- behind the last
    show bw_go _ _ _ _ _ _ _ 6 [(3, .int _), (1, .long _), (0, .ref _)] ([]) _ _
    refine go_iload_n dX8_digest_6 rfl ?_
    refine go_bipush (12) dX8_digest_7 rfl ?_
    refine go_icmp_ge (pc' := 31) dX8_digest_9 rfl (fun c_9 => ?_) (fun c_9 => ?_)
    · -- ge at 9: yes
      show bw_go _ _ _ _ _ _ _ 31 [(3, .int _), (1, .long _), (0, .ref _)] ([]) _ _
      refine go_iconst (0) dX8_digest_31 rfl ?_
      refine go_istore_n dX8_digest_32 (Nat.lt_of_lt_of_le (Nat.lt_succ_self _) (Nat.le_of_ble_eq_true rfl)) ?_
      show bw_go _ _ _ _ _ _ _ 33 [(3, .int _), (1, .long _), (0, .ref _)] ([]) _ _
      refine go_for (P := fun i => bw_go X 8 8 5 false (some .long) cX8_digest 33 [(3, .int (nI i)), (1, .long (dgB (nowC S) (dgC S 12) i)), (0, .ref (60))] [] h Q) (N := cN (nowC S)) (fun i hi K => ?_) ?_ (0) (Nat.zero_le _)
      · -- a turn
        show bw_go _ _ _ _ _ _ _ 33 [(3, .int _), (1, .long _), (0, .ref _)] ([]) _ _
        refine go_iload_n dX8_digest_33 rfl ?_
        refine go_aload_n dX8_digest_34 rfl ?_
        refine go_gfr dX8_digest_35 fl_8_7 rfl (ms_lt hm.1 (by decide)) hm.1.1.2 hm.1.2.1.1 ?_
        refine go_iconst (0) dX8_digest_38 rfl ?_
        refine go_ia dX8_digest_39 hm.1.2.2.1 (ms_lt hm.1 (by decide)) (by decide) ?_
        rw [show (0 : Int32).toNatClampNeg = 0 from rfl, hv.1]
        refine go_icmp_ge (pc' := 111) dX8_digest_40 rfl (fun c_40 => ?_) (fun c_40 => ?_)
        · -- ge at 40: yes
          exfalso; have t_0 := nI_toInt (n := i) (by omega); have t_1 := nI_toInt (n := cN (nowC S)) (by omega); simp only [i_le, i_lt, i_eq, bi_eq] at c_40; omega
        · -- ge at 40: no
          show bw_go _ _ _ _ _ _ _ 43 [(3, .int _), (1, .long _), (0, .ref _)] ([]) _ _
          refine go_iconst (0) dX8_digest_43 rfl ?_
          refine go_istore dX8_digest_44 (Nat.lt_of_lt_of_le (Nat.lt_succ_self _) (Nat.le_of_ble_eq_true rfl)) ?_
          show bw_go _ _ _ _ _ _ _ 46 [(4, .int _), (3, .int _), (1, .long _), (0, .ref _)] ([]) _ _
          refine go_for (P := fun w => bw_go X 8 8 5 false (some .long) cX8_digest 46 [(4, .int (nI w)), (3, .int (nI i)), (1, .long (dg1 (nowC S) i (dgB (nowC S) (dgC S 12) i) w)), (0, .ref (60))] [] h Q) (N := 6) (fun w hw K => ?_) ?_ (0) (Nat.zero_le _)
          · -- a turn
            show bw_go _ _ _ _ _ _ _ 46 [(4, .int _), (3, .int _), (1, .long _), (0, .ref _)] ([]) _ _
            refine go_iload dX8_digest_46 rfl ?_
            refine go_bipush (6) dX8_digest_48 rfl ?_
            refine go_icmp_ge (pc' := 74) dX8_digest_50 rfl (fun c_50 => ?_) (fun c_50 => ?_)
            · -- ge at 50: yes
              exfalso; have t_0 := nI_toInt (n := w) (by omega); have l_0 : (6 : Int32).toInt = 6 := rfl; simp only [i_le, i_lt, i_eq, bi_eq] at c_50; omega
            · -- ge at 50: no
              show bw_go _ _ _ _ _ _ _ 53 [(4, .int _), (3, .int _), (1, .long _), (0, .ref _)] ([]) _ _
              refine go_ldc2_w dX8_digest_53 kc_8_278 ?_
              refine go_lload_n dX8_digest_56 rfl ?_
              refine go_lmul dX8_digest_57 ?_
              refine go_aload_n dX8_digest_58 rfl ?_
              refine go_iload_n dX8_digest_59 rfl ?_
              refine go_iload dX8_digest_60 rfl ?_
              refine go_cv (as := [.int _, .int _]) 7 dX8_digest_62 mt_8_160 (Or.inl rfl) rfl rfl (ms_lt hm.1 (by decide)) hm.1.1.2 (Nat.le_of_ble_eq_true rfl) (Nat.le_of_ble_eq_true rfl) (Nat.le_of_ble_eq_true rfl) (Nat.le_of_ble_eq_true rfl) (Nat.le_of_ble_eq_true rfl) ?_
              refine me_X8_toldOf hm hi hw ?_
              show bw_go _ _ _ _ _ _ _ 65 [(4, .int _), (3, .int _), (1, .long _), (0, .ref _)] ((.int _) :: (.long _) :: []) _ _
              refine go_i2l dX8_digest_65 ?_
              refine go_ladd dX8_digest_66 ?_
              refine go_lstore_n dX8_digest_67 (Nat.lt_of_lt_of_le (Nat.lt_succ_self _) (Nat.le_of_ble_eq_true rfl)) ?_
              show bw_go _ _ _ _ _ _ _ 68 [(1, .long _), (4, .int _), (3, .int _), (0, .ref _)] ([]) _ _
              refine go_iinc dX8_digest_68 rfl (nI_1 w) (Nat.lt_of_lt_of_le (Nat.lt_succ_self _) (Nat.le_of_ble_eq_true rfl)) ?_
              show bw_go _ _ _ _ _ _ _ 71 [(4, .int _), (1, .long _), (3, .int _), (0, .ref _)] ([]) _ _
              refine go_goto (pc' := 46) dX8_digest_71 rfl ?_
              refine go_ls [(4, .int _), (3, .int _), (1, .long _), (0, .ref _)] (by show List.Nodup ([4, 3, 1, 0] : List Nat); decide) (by show List.Nodup ([4, 1, 3, 0] : List Nat); decide) (le_cons rfl (le_cons rfl (le_cons rfl (le_cons rfl (le_nil _))))) ?_
              exact K
          · -- behind the last
            show bw_go _ _ _ _ _ _ _ 46 [(4, .int _), (3, .int _), (1, .long _), (0, .ref _)] ([]) _ _
            refine go_iload dX8_digest_46 rfl ?_
            refine go_bipush (6) dX8_digest_48 rfl ?_
            refine go_icmp_ge (pc' := 74) dX8_digest_50 rfl (fun c_50 => ?_) (fun c_50 => ?_)
            · -- ge at 50: yes
              show bw_go _ _ _ _ _ _ _ 74 [(4, .int _), (3, .int _), (1, .long _), (0, .ref _)] ([]) _ _
              refine go_iconst (0) dX8_digest_74 rfl ?_
              refine go_istore dX8_digest_75 (Nat.lt_of_lt_of_le (Nat.lt_succ_self _) (Nat.le_of_ble_eq_true rfl)) ?_
              show bw_go _ _ _ _ _ _ _ 77 [(4, .int _), (3, .int _), (1, .long _), (0, .ref _)] ([]) _ _
              refine go_for (P := fun y => bw_go X 8 8 5 false (some .long) cX8_digest 77 [(4, .int (nI y)), (3, .int (nI i)), (1, .long (dg2 (nowC S) i (dg1 (nowC S) i (dgB (nowC S) (dgC S 12) i) 6) y)), (0, .ref (60))] [] h Q) (N := 6) (fun y hy K => ?_) ?_ (0) (Nat.zero_le _)
              · -- a turn
                show bw_go _ _ _ _ _ _ _ 77 [(4, .int _), (3, .int _), (1, .long _), (0, .ref _)] ([]) _ _
                refine go_iload dX8_digest_77 rfl ?_
                refine go_bipush (6) dX8_digest_79 rfl ?_
                refine go_icmp_ge (pc' := 105) dX8_digest_81 rfl (fun c_81 => ?_) (fun c_81 => ?_)
                · -- ge at 81: yes
                  exfalso; have t_0 := nI_toInt (n := y) (by omega); have l_0 : (6 : Int32).toInt = 6 := rfl; simp only [i_le, i_lt, i_eq, bi_eq] at c_81; omega
                · -- ge at 81: no
                  show bw_go _ _ _ _ _ _ _ 84 [(4, .int _), (3, .int _), (1, .long _), (0, .ref _)] ([]) _ _
                  refine go_ldc2_w dX8_digest_84 kc_8_278 ?_
                  refine go_lload_n dX8_digest_87 rfl ?_
                  refine go_lmul dX8_digest_88 ?_
                  refine go_aload_n dX8_digest_89 rfl ?_
                  refine go_iload_n dX8_digest_90 rfl ?_
                  refine go_iload dX8_digest_91 rfl ?_
                  refine go_cv (as := [.int _, .int _]) 5 dX8_digest_93 mt_8_147 (Or.inl rfl) rfl rfl (ms_lt hm.1 (by decide)) hm.1.1.2 (Nat.le_of_ble_eq_true rfl) (Nat.le_of_ble_eq_true rfl) (Nat.le_of_ble_eq_true rfl) (Nat.le_of_ble_eq_true rfl) (Nat.le_of_ble_eq_true rfl) ?_
                  refine me_X8_tellNow hm hi hy ?_
                  show bw_go _ _ _ _ _ _ _ 96 [(4, .int _), (3, .int _), (1, .long _), (0, .ref _)] ((.int _) :: (.long _) :: []) _ _
                  refine go_i2l dX8_digest_96 ?_
                  refine go_ladd dX8_digest_97 ?_
                  refine go_lstore_n dX8_digest_98 (Nat.lt_of_lt_of_le (Nat.lt_succ_self _) (Nat.le_of_ble_eq_true rfl)) ?_
                  show bw_go _ _ _ _ _ _ _ 99 [(1, .long _), (4, .int _), (3, .int _), (0, .ref _)] ([]) _ _
                  refine go_iinc dX8_digest_99 rfl (nI_1 y) (Nat.lt_of_lt_of_le (Nat.lt_succ_self _) (Nat.le_of_ble_eq_true rfl)) ?_
                  show bw_go _ _ _ _ _ _ _ 102 [(4, .int _), (1, .long _), (3, .int _), (0, .ref _)] ([]) _ _
                  refine go_goto (pc' := 77) dX8_digest_102 rfl ?_
                  refine go_ls [(4, .int _), (3, .int _), (1, .long _), (0, .ref _)] (by show List.Nodup ([4, 3, 1, 0] : List Nat); decide) (by show List.Nodup ([4, 1, 3, 0] : List Nat); decide) (le_cons rfl (le_cons rfl (le_cons rfl (le_cons rfl (le_nil _))))) ?_
                  exact K
              · -- behind the last
                show bw_go _ _ _ _ _ _ _ 77 [(4, .int _), (3, .int _), (1, .long _), (0, .ref _)] ([]) _ _
                refine go_iload dX8_digest_77 rfl ?_
                refine go_bipush (6) dX8_digest_79 rfl ?_
                refine go_icmp_ge (pc' := 105) dX8_digest_81 rfl (fun c_81 => ?_) (fun c_81 => ?_)
                · -- ge at 81: yes
                  show bw_go _ _ _ _ _ _ _ 105 [(4, .int _), (3, .int _), (1, .long _), (0, .ref _)] ([]) _ _
                  refine go_iinc dX8_digest_105 rfl (nI_1 i) (Nat.lt_of_lt_of_le (Nat.lt_succ_self _) (Nat.le_of_ble_eq_true rfl)) ?_
                  show bw_go _ _ _ _ _ _ _ 108 [(3, .int _), (4, .int _), (1, .long _), (0, .ref _)] ([]) _ _
                  refine go_goto (pc' := 33) dX8_digest_108 rfl ?_
                  refine go_ls [(3, .int _), (1, .long _), (0, .ref _)] (by show List.Nodup ([3, 1, 0] : List Nat); decide) (by show List.Nodup ([3, 4, 1, 0] : List Nat); decide) (le_cons rfl (le_cons rfl (le_cons rfl (le_nil _)))) ?_
                  exact K
                · -- ge at 81: no
                  exfalso; have t_0 := nI_toInt (n := 6) (by omega); have l_0 : (6 : Int32).toInt = 6 := rfl; simp only [i_le, i_lt, i_eq, bi_eq] at c_81; omega
            · -- ge at 50: no
              exfalso; have t_0 := nI_toInt (n := 6) (by omega); have l_0 : (6 : Int32).toInt = 6 := rfl; simp only [i_le, i_lt, i_eq, bi_eq] at c_50; omega
      · -- behind the last
        show bw_go _ _ _ _ _ _ _ 33 [(3, .int _), (1, .long _), (0, .ref _)] ([]) _ _
        refine go_iload_n dX8_digest_33 rfl ?_
        refine go_aload_n dX8_digest_34 rfl ?_
        refine go_gfr dX8_digest_35 fl_8_7 rfl (ms_lt hm.1 (by decide)) hm.1.1.2 hm.1.2.1.1 ?_
        refine go_iconst (0) dX8_digest_38 rfl ?_
        refine go_ia dX8_digest_39 hm.1.2.2.1 (ms_lt hm.1 (by decide)) (by decide) ?_
        rw [show (0 : Int32).toNatClampNeg = 0 from rfl, hv.1]
        refine go_icmp_ge (pc' := 111) dX8_digest_40 rfl (fun c_40 => ?_) (fun c_40 => ?_)
        · -- ge at 40: yes
          show bw_go _ _ _ _ _ _ _ 111 [(3, .int _), (1, .long _), (0, .ref _)] ([]) _ _
          refine go_iconst (0) dX8_digest_111 rfl ?_
          refine go_istore_n dX8_digest_112 (Nat.lt_of_lt_of_le (Nat.lt_succ_self _) (Nat.le_of_ble_eq_true rfl)) ?_
          show bw_go _ _ _ _ _ _ _ 113 [(3, .int _), (1, .long _), (0, .ref _)] ([]) _ _
          refine go_for (P := fun k => bw_go X 8 8 5 false (some .long) cX8_digest 113 [(3, .int (nI k)), (1, .long (dgK S (dgB (nowC S) (dgC S 12) (cN (nowC S))) k)), (0, .ref (60))] [] h Q) (N := 3) (fun k hk K => ?_) ?_ (0) (Nat.zero_le _)
          · -- a turn
            show bw_go _ _ _ _ _ _ _ 113 [(3, .int _), (1, .long _), (0, .ref _)] ([]) _ _
            refine go_iload_n dX8_digest_113 rfl ?_
            refine go_iconst (3) dX8_digest_114 rfl ?_
            refine go_icmp_ge (pc' := 157) dX8_digest_115 rfl (fun c_115 => ?_) (fun c_115 => ?_)
            · -- ge at 115: yes
              exfalso; have t_0 := nI_toInt (n := k) (by omega); have l_0 : (3 : Int32).toInt = 3 := rfl; simp only [i_le, i_lt, i_eq, bi_eq] at c_115; omega
            · -- ge at 115: no
              show bw_go _ _ _ _ _ _ _ 118 [(3, .int _), (1, .long _), (0, .ref _)] ([]) _ _
              refine go_ldc2_w dX8_digest_118 kc_8_278 ?_
              refine go_lload_n dX8_digest_121 rfl ?_
              refine go_lmul dX8_digest_122 ?_
              refine go_aload_n dX8_digest_123 rfl ?_
              refine go_gfr dX8_digest_124 fl_8_16 rfl (ms_lt hm.1 (by decide)) hm.1.1.2 hm.1.2.1.2.2.1 ?_
              refine go_iload_n dX8_digest_127 rfl ?_
              refine go_ba dX8_digest_128 hm.1.2.2.2.2.1 (ms_lt hm.1 (by decide)) (n_in (N := 3) hk (by decide)) ?_
              rw [nI_clamp (by omega), mkp_0 hm hk]
              have e1 : dgK S (dgB (nowC S) (dgC S 12) (cN (nowC S))) (k + 1) = 31 * dgK S (dgB (nowC S) (dgC S 12) (cN (nowC S))) k + (kpv (sK S k)).toInt64 := rfl
              refine go_if_eq (pc' := 147) dX8_digest_129 rfl (fun c_129 => ?_) (fun c_129 => ?_)
              · -- eq at 129: yes
                show bw_go _ _ _ _ _ _ _ 147 [(3, .int _), (1, .long _), (0, .ref _)] ((.long _) :: []) _ _
                have eA : sK S k = none := by simp only [bi_e0] at c_129; cases z : sK S k with
                  | none => rfl
                  | some A => rw [z] at c_129; exact Bool.noConfusion c_129
                rw [eA] at e1
                refine go_iconst (-1) dX8_digest_147 rfl ?_
                refine go_i2l dX8_digest_148 ?_
                refine go_ladd dX8_digest_149 ?_
                refine go_lstore_n dX8_digest_150 (Nat.lt_of_lt_of_le (Nat.lt_succ_self _) (Nat.le_of_ble_eq_true rfl)) ?_
                show bw_go _ _ _ _ _ _ _ 151 [(1, .long _), (3, .int _), (0, .ref _)] ([]) _ _
                refine go_iinc dX8_digest_151 rfl (nI_1 k) (Nat.lt_of_lt_of_le (Nat.lt_succ_self _) (Nat.le_of_ble_eq_true rfl)) ?_
                show bw_go _ _ _ _ _ _ _ 154 [(3, .int _), (1, .long _), (0, .ref _)] ([]) _ _
                refine go_goto (pc' := 113) dX8_digest_154 rfl ?_
                rw [e1] at K
                exact K
              · -- eq at 129: no
                show bw_go _ _ _ _ _ _ _ 132 [(3, .int _), (1, .long _), (0, .ref _)] ((.long _) :: []) _ _
                refine go_aload_n dX8_digest_132 rfl ?_
                refine go_gfr dX8_digest_133 fl_8_13 rfl (ms_lt hm.1 (by decide)) hm.1.1.2 hm.1.2.1.2.1 ?_
                refine go_bipush (80) dX8_digest_136 rfl ?_
                refine go_iload_n dX8_digest_138 rfl ?_
                refine go_imul dX8_digest_139 ?_
                rw [show (80 : Int32) = nI 80 from rfl, nmul]
                refine go_bipush (26) dX8_digest_140 rfl ?_
                refine go_iadd dX8_digest_142 ?_
                rw [show (26 : Int32) = nI 26 from rfl, nI_add]
                obtain ⟨A, eA⟩ : ∃ A, sK S k = some A := Option.isSome_iff_exists.mp (by simp only [bi_e0, Bool.not_eq_false] at c_129; exact c_129)
                rw [eA] at e1
                refine go_ia dX8_digest_143 hm.1.2.2.2.1 (ms_lt hm.1 (by decide)) (n_in (N := 240) (by omega) (by decide)) ?_
                rw [nI_clamp (by omega), show bw_i h 62 (80 * k + 26) = nI (cT A.1) from ((hm.2.2.1 k hk).2 A eA).2.1.2.1]
                refine go_goto (pc' := 148) dX8_digest_144 rfl ?_
                show bw_go _ _ _ _ _ _ _ 148 [(3, .int _), (1, .long _), (0, .ref _)] ((.int _) :: (.long _) :: []) _ _
                refine go_i2l dX8_digest_148 ?_
                refine go_ladd dX8_digest_149 ?_
                refine go_lstore_n dX8_digest_150 (Nat.lt_of_lt_of_le (Nat.lt_succ_self _) (Nat.le_of_ble_eq_true rfl)) ?_
                show bw_go _ _ _ _ _ _ _ 151 [(1, .long _), (3, .int _), (0, .ref _)] ([]) _ _
                refine go_iinc dX8_digest_151 rfl (nI_1 k) (Nat.lt_of_lt_of_le (Nat.lt_succ_self _) (Nat.le_of_ble_eq_true rfl)) ?_
                show bw_go _ _ _ _ _ _ _ 154 [(3, .int _), (1, .long _), (0, .ref _)] ([]) _ _
                refine go_goto (pc' := 113) dX8_digest_154 rfl ?_
                rw [e1] at K
                exact K
          · -- behind the last
            show bw_go _ _ _ _ _ _ _ 113 [(3, .int _), (1, .long _), (0, .ref _)] ([]) _ _
            refine go_iload_n dX8_digest_113 rfl ?_
            refine go_iconst (3) dX8_digest_114 rfl ?_
            refine go_icmp_ge (pc' := 157) dX8_digest_115 rfl (fun c_115 => ?_) (fun c_115 => ?_)
            · -- ge at 115: yes
              show bw_go _ _ _ _ _ _ _ 157 [(3, .int _), (1, .long _), (0, .ref _)] ([]) _ _
              refine go_iconst (0) dX8_digest_157 rfl ?_
              refine go_istore_n dX8_digest_158 (Nat.lt_of_lt_of_le (Nat.lt_succ_self _) (Nat.le_of_ble_eq_true rfl)) ?_
              show bw_go _ _ _ _ _ _ _ 159 [(3, .int _), (1, .long _), (0, .ref _)] ([]) _ _
              refine go_for (P := fun r => bw_go X 8 8 5 false (some .long) cX8_digest 159 [(3, .int (nI r)), (1, .long (dgR (sR S) (sRc S) (dgK S (dgB (nowC S) (dgC S 12) (cN (nowC S))) 3) r)), (0, .ref (60))] [] h Q) (N := 6) (fun r hr K => ?_) ?_ (0) (Nat.zero_le _)
              · -- a turn
                show bw_go _ _ _ _ _ _ _ 159 [(3, .int _), (1, .long _), (0, .ref _)] ([]) _ _
                refine go_iload_n dX8_digest_159 rfl ?_
                refine go_bipush (6) dX8_digest_160 rfl ?_
                refine go_icmp_ge (pc' := 225) dX8_digest_162 rfl (fun c_162 => ?_) (fun c_162 => ?_)
                · -- ge at 162: yes
                  exfalso; have t_0 := nI_toInt (n := r) (by omega); have l_0 : (6 : Int32).toInt = 6 := rfl; simp only [i_le, i_lt, i_eq, bi_eq] at c_162; omega
                · -- ge at 162: no
                  show bw_go _ _ _ _ _ _ _ 165 [(3, .int _), (1, .long _), (0, .ref _)] ([]) _ _
                  refine go_ldc2_w dX8_digest_165 kc_8_278 ?_
                  refine go_lload_n dX8_digest_168 rfl ?_
                  refine go_lmul dX8_digest_169 ?_
                  refine go_aload_n dX8_digest_170 rfl ?_
                  refine go_gfr dX8_digest_171 fl_8_23 rfl (ms_lt hm.1 (by decide)) hm.1.1.2 hm.1.2.1.2.2.2.2.1 ?_
                  refine go_iload_n dX8_digest_174 rfl ?_
                  refine go_ia dX8_digest_175 hm.1.2.2.2.2.2.2.1 (ms_lt hm.1 (by decide)) (n_in (N := 6) hr (by decide)) ?_
                  rw [nI_clamp (by omega), (hm.2.2.2.1 r hr).1]
                  refine go_i2l dX8_digest_176 ?_
                  refine go_ladd dX8_digest_177 ?_
                  refine go_lstore_n dX8_digest_178 (Nat.lt_of_lt_of_le (Nat.lt_succ_self _) (Nat.le_of_ble_eq_true rfl)) ?_
                  show bw_go _ _ _ _ _ _ _ 179 [(1, .long _), (3, .int _), (0, .ref _)] ([]) _ _
                  refine go_iconst (0) dX8_digest_179 rfl ?_
                  refine go_istore dX8_digest_180 (Nat.lt_of_lt_of_le (Nat.lt_succ_self _) (Nat.le_of_ble_eq_true rfl)) ?_
                  show bw_go _ _ _ _ _ _ _ 182 [(4, .int _), (1, .long _), (3, .int _), (0, .ref _)] ([]) _ _
                  refine go_ls [(4, .int _), (3, .int _), (1, .long _), (0, .ref _)] (by show List.Nodup ([4, 3, 1, 0] : List Nat); decide) (by show List.Nodup ([4, 1, 3, 0] : List Nat); decide) (le_cons rfl (le_cons rfl (le_cons rfl (le_cons rfl (le_nil _))))) ?_
                  refine go_for (P := fun i => bw_go X 8 8 5 false (some .long) cX8_digest 182 [(4, .int (nI i)), (3, .int (nI r)), (1, .long (dg (sRc S r) 0 (31 * dgR (sR S) (sRc S) (dgK S (dgB (nowC S) (dgC S 12) (cN (nowC S))) 3) r + (oz (sR S r)).toInt64) i)), (0, .ref (60))] [] h Q) (N := osz (sR S r)) (fun i hi K => ?_) ?_ (0) (Nat.zero_le _)
                  · -- a turn
                    show bw_go _ _ _ _ _ _ _ 182 [(4, .int _), (3, .int _), (1, .long _), (0, .ref _)] ([]) _ _
                    refine go_iload dX8_digest_182 rfl ?_
                    refine go_aload_n dX8_digest_184 rfl ?_
                    refine go_gfr dX8_digest_185 fl_8_23 rfl (ms_lt hm.1 (by decide)) hm.1.1.2 hm.1.2.1.2.2.2.2.1 ?_
                    refine go_iload_n dX8_digest_188 rfl ?_
                    refine go_ia dX8_digest_189 hm.1.2.2.2.2.2.2.1 (ms_lt hm.1 (by decide)) (n_in (N := 6) hr (by decide)) ?_
                    rw [nI_clamp (by omega), (hm.2.2.2.1 r hr).1]
                    refine go_icmp_ge (pc' := 219) dX8_digest_190 rfl (fun c_190 => ?_) (fun c_190 => ?_)
                    · -- ge at 190: yes
                      have e7 := osz_w (hm.2.2.2.1 r hr).2.1
                      exact absurd ((oz_lt (hm.2.2.2.1 r hr).2.1 (by decide) (by omega)).mp c_190) (by omega)
                    · -- ge at 190: no
                      show bw_go _ _ _ _ _ _ _ 193 [(4, .int _), (3, .int _), (1, .long _), (0, .ref _)] ([]) _ _
                      refine go_ldc2_w dX8_digest_193 kc_8_278 ?_
                      refine go_lload_n dX8_digest_196 rfl ?_
                      refine go_lmul dX8_digest_197 ?_
                      refine go_aload_n dX8_digest_198 rfl ?_
                      refine go_gfr dX8_digest_199 fl_8_20 rfl (ms_lt hm.1 (by decide)) hm.1.1.2 hm.1.2.1.2.2.2.1 ?_
                      refine go_bipush (40) dX8_digest_202 rfl ?_
                      refine go_iload_n dX8_digest_204 rfl ?_
                      refine go_imul dX8_digest_205 ?_
                      rw [show (40 : Int32) = nI 40 from rfl, nmul]
                      refine go_iload dX8_digest_206 rfl ?_
                      refine go_iadd dX8_digest_208 ?_
                      rw [nI_add]
                      have e9 := mrow_v hm.2.2.2.1 hr hi
                      refine go_ia dX8_digest_209 hm.1.2.2.2.2.2.1 (ms_lt hm.1 (by decide)) (n_in (N := 240) (by have := e9.2; omega) (by decide)) ?_
                      rw [nI_clamp (by have := e9.2; omega), e9.1]
                      refine go_i2l dX8_digest_210 ?_
                      refine go_ladd dX8_digest_211 ?_
                      refine go_lstore_n dX8_digest_212 (Nat.lt_of_lt_of_le (Nat.lt_succ_self _) (Nat.le_of_ble_eq_true rfl)) ?_
                      show bw_go _ _ _ _ _ _ _ 213 [(1, .long _), (4, .int _), (3, .int _), (0, .ref _)] ([]) _ _
                      refine go_iinc dX8_digest_213 rfl (nI_1 i) (Nat.lt_of_lt_of_le (Nat.lt_succ_self _) (Nat.le_of_ble_eq_true rfl)) ?_
                      show bw_go _ _ _ _ _ _ _ 216 [(4, .int _), (1, .long _), (3, .int _), (0, .ref _)] ([]) _ _
                      refine go_goto (pc' := 182) dX8_digest_216 rfl ?_
                      refine go_ls [(4, .int _), (3, .int _), (1, .long _), (0, .ref _)] (by show List.Nodup ([4, 3, 1, 0] : List Nat); decide) (by show List.Nodup ([4, 1, 3, 0] : List Nat); decide) (le_cons rfl (le_cons rfl (le_cons rfl (le_cons rfl (le_nil _))))) ?_
                      exact K
                  · -- behind the last
                    show bw_go _ _ _ _ _ _ _ 182 [(4, .int _), (3, .int _), (1, .long _), (0, .ref _)] ([]) _ _
                    refine go_iload dX8_digest_182 rfl ?_
                    refine go_aload_n dX8_digest_184 rfl ?_
                    refine go_gfr dX8_digest_185 fl_8_23 rfl (ms_lt hm.1 (by decide)) hm.1.1.2 hm.1.2.1.2.2.2.2.1 ?_
                    refine go_iload_n dX8_digest_188 rfl ?_
                    refine go_ia dX8_digest_189 hm.1.2.2.2.2.2.2.1 (ms_lt hm.1 (by decide)) (n_in (N := 6) hr (by decide)) ?_
                    rw [nI_clamp (by omega), (hm.2.2.2.1 r hr).1]
                    refine go_icmp_ge (pc' := 219) dX8_digest_190 rfl (fun c_190 => ?_) (fun c_190 => ?_)
                    · -- ge at 190: yes
                      show bw_go _ _ _ _ _ _ _ 219 [(4, .int _), (3, .int _), (1, .long _), (0, .ref _)] ([]) _ _
                      refine go_iinc dX8_digest_219 rfl (nI_1 r) (Nat.lt_of_lt_of_le (Nat.lt_succ_self _) (Nat.le_of_ble_eq_true rfl)) ?_
                      show bw_go _ _ _ _ _ _ _ 222 [(3, .int _), (4, .int _), (1, .long _), (0, .ref _)] ([]) _ _
                      refine go_goto (pc' := 159) dX8_digest_222 rfl ?_
                      refine go_ls [(3, .int _), (1, .long _), (0, .ref _)] (by show List.Nodup ([3, 1, 0] : List Nat); decide) (by show List.Nodup ([3, 4, 1, 0] : List Nat); decide) (le_cons rfl (le_cons rfl (le_cons rfl (le_nil _)))) ?_
                      exact K
                    · -- ge at 190: no
                      have e7 := osz_w (hm.2.2.2.1 r hr).2.1
                      exact absurd ((oz_lt (hm.2.2.2.1 r hr).2.1 (by decide) (by omega)).mpr (Nat.le_refl _)) c_190
              · -- behind the last
                show bw_go _ _ _ _ _ _ _ 159 [(3, .int _), (1, .long _), (0, .ref _)] ([]) _ _
                refine go_iload_n dX8_digest_159 rfl ?_
                refine go_bipush (6) dX8_digest_160 rfl ?_
                refine go_icmp_ge (pc' := 225) dX8_digest_162 rfl (fun c_162 => ?_) (fun c_162 => ?_)
                · -- ge at 162: yes
                  show bw_go _ _ _ _ _ _ _ 225 [(3, .int _), (1, .long _), (0, .ref _)] ([]) _ _
                  refine go_iconst (0) dX8_digest_225 rfl ?_
                  refine go_istore_n dX8_digest_226 (Nat.lt_of_lt_of_le (Nat.lt_succ_self _) (Nat.le_of_ble_eq_true rfl)) ?_
                  show bw_go _ _ _ _ _ _ _ 227 [(3, .int _), (1, .long _), (0, .ref _)] ([]) _ _
                  refine go_for (P := fun r => bw_go X 8 8 5 false (some .long) cX8_digest 227 [(3, .int (nI r)), (1, .long (dgR (sT S) (sTc S) (dgR (sR S) (sRc S) (dgK S (dgB (nowC S) (dgC S 12) (cN (nowC S))) 3) 6) r)), (0, .ref (60))] [] h Q) (N := 4) (fun r hr K => ?_) ?_ (0) (Nat.zero_le _)
                  · -- a turn
                    show bw_go _ _ _ _ _ _ _ 227 [(3, .int _), (1, .long _), (0, .ref _)] ([]) _ _
                    refine go_iload_n dX8_digest_227 rfl ?_
                    refine go_iconst (4) dX8_digest_228 rfl ?_
                    refine go_icmp_ge (pc' := 292) dX8_digest_229 rfl (fun c_229 => ?_) (fun c_229 => ?_)
                    · -- ge at 229: yes
                      exfalso; have t_0 := nI_toInt (n := r) (by omega); have l_0 : (4 : Int32).toInt = 4 := rfl; simp only [i_le, i_lt, i_eq, bi_eq] at c_229; omega
                    · -- ge at 229: no
                      show bw_go _ _ _ _ _ _ _ 232 [(3, .int _), (1, .long _), (0, .ref _)] ([]) _ _
                      refine go_ldc2_w dX8_digest_232 kc_8_278 ?_
                      refine go_lload_n dX8_digest_235 rfl ?_
                      refine go_lmul dX8_digest_236 ?_
                      refine go_aload_n dX8_digest_237 rfl ?_
                      refine go_gfr dX8_digest_238 fl_8_29 rfl (ms_lt hm.1 (by decide)) hm.1.1.2 hm.1.2.1.2.2.2.2.2.2.1 ?_
                      refine go_iload_n dX8_digest_241 rfl ?_
                      refine go_ia dX8_digest_242 hm.1.2.2.2.2.2.2.2.2.1 (ms_lt hm.1 (by decide)) (n_in (N := 4) hr (by decide)) ?_
                      rw [nI_clamp (by omega), (hm.2.2.2.2.1 r hr).1]
                      refine go_i2l dX8_digest_243 ?_
                      refine go_ladd dX8_digest_244 ?_
                      refine go_lstore_n dX8_digest_245 (Nat.lt_of_lt_of_le (Nat.lt_succ_self _) (Nat.le_of_ble_eq_true rfl)) ?_
                      show bw_go _ _ _ _ _ _ _ 246 [(1, .long _), (3, .int _), (0, .ref _)] ([]) _ _
                      refine go_iconst (0) dX8_digest_246 rfl ?_
                      refine go_istore dX8_digest_247 (Nat.lt_of_lt_of_le (Nat.lt_succ_self _) (Nat.le_of_ble_eq_true rfl)) ?_
                      show bw_go _ _ _ _ _ _ _ 249 [(4, .int _), (1, .long _), (3, .int _), (0, .ref _)] ([]) _ _
                      refine go_ls [(4, .int _), (3, .int _), (1, .long _), (0, .ref _)] (by show List.Nodup ([4, 3, 1, 0] : List Nat); decide) (by show List.Nodup ([4, 1, 3, 0] : List Nat); decide) (le_cons rfl (le_cons rfl (le_cons rfl (le_cons rfl (le_nil _))))) ?_
                      refine go_for (P := fun i => bw_go X 8 8 5 false (some .long) cX8_digest 249 [(4, .int (nI i)), (3, .int (nI r)), (1, .long (dg (sTc S r) 0 (31 * dgR (sT S) (sTc S) (dgR (sR S) (sRc S) (dgK S (dgB (nowC S) (dgC S 12) (cN (nowC S))) 3) 6) r + (oz (sT S r)).toInt64) i)), (0, .ref (60))] [] h Q) (N := osz (sT S r)) (fun i hi K => ?_) ?_ (0) (Nat.zero_le _)
                      · -- a turn
                        show bw_go _ _ _ _ _ _ _ 249 [(4, .int _), (3, .int _), (1, .long _), (0, .ref _)] ([]) _ _
                        refine go_iload dX8_digest_249 rfl ?_
                        refine go_aload_n dX8_digest_251 rfl ?_
                        refine go_gfr dX8_digest_252 fl_8_29 rfl (ms_lt hm.1 (by decide)) hm.1.1.2 hm.1.2.1.2.2.2.2.2.2.1 ?_
                        refine go_iload_n dX8_digest_255 rfl ?_
                        refine go_ia dX8_digest_256 hm.1.2.2.2.2.2.2.2.2.1 (ms_lt hm.1 (by decide)) (n_in (N := 4) hr (by decide)) ?_
                        rw [nI_clamp (by omega), (hm.2.2.2.2.1 r hr).1]
                        refine go_icmp_ge (pc' := 286) dX8_digest_257 rfl (fun c_257 => ?_) (fun c_257 => ?_)
                        · -- ge at 257: yes
                          have e7 := osz_w (hm.2.2.2.2.1 r hr).2.1
                          exact absurd ((oz_lt (hm.2.2.2.2.1 r hr).2.1 (by decide) (by omega)).mp c_257) (by omega)
                        · -- ge at 257: no
                          show bw_go _ _ _ _ _ _ _ 260 [(4, .int _), (3, .int _), (1, .long _), (0, .ref _)] ([]) _ _
                          refine go_ldc2_w dX8_digest_260 kc_8_278 ?_
                          refine go_lload_n dX8_digest_263 rfl ?_
                          refine go_lmul dX8_digest_264 ?_
                          refine go_aload_n dX8_digest_265 rfl ?_
                          refine go_gfr dX8_digest_266 fl_8_26 rfl (ms_lt hm.1 (by decide)) hm.1.1.2 hm.1.2.1.2.2.2.2.2.1 ?_
                          refine go_bipush (60) dX8_digest_269 rfl ?_
                          refine go_iload_n dX8_digest_271 rfl ?_
                          refine go_imul dX8_digest_272 ?_
                          rw [show (60 : Int32) = nI 60 from rfl, nmul]
                          refine go_iload dX8_digest_273 rfl ?_
                          refine go_iadd dX8_digest_275 ?_
                          rw [nI_add]
                          have e9 := mrow_v hm.2.2.2.2.1 hr hi
                          refine go_ia dX8_digest_276 hm.1.2.2.2.2.2.2.2.1 (ms_lt hm.1 (by decide)) (n_in (N := 240) (by have := e9.2; omega) (by decide)) ?_
                          rw [nI_clamp (by have := e9.2; omega), e9.1]
                          refine go_i2l dX8_digest_277 ?_
                          refine go_ladd dX8_digest_278 ?_
                          refine go_lstore_n dX8_digest_279 (Nat.lt_of_lt_of_le (Nat.lt_succ_self _) (Nat.le_of_ble_eq_true rfl)) ?_
                          show bw_go _ _ _ _ _ _ _ 280 [(1, .long _), (4, .int _), (3, .int _), (0, .ref _)] ([]) _ _
                          refine go_iinc dX8_digest_280 rfl (nI_1 i) (Nat.lt_of_lt_of_le (Nat.lt_succ_self _) (Nat.le_of_ble_eq_true rfl)) ?_
                          show bw_go _ _ _ _ _ _ _ 283 [(4, .int _), (1, .long _), (3, .int _), (0, .ref _)] ([]) _ _
                          refine go_goto (pc' := 249) dX8_digest_283 rfl ?_
                          refine go_ls [(4, .int _), (3, .int _), (1, .long _), (0, .ref _)] (by show List.Nodup ([4, 3, 1, 0] : List Nat); decide) (by show List.Nodup ([4, 1, 3, 0] : List Nat); decide) (le_cons rfl (le_cons rfl (le_cons rfl (le_cons rfl (le_nil _))))) ?_
                          exact K
                      · -- behind the last
                        show bw_go _ _ _ _ _ _ _ 249 [(4, .int _), (3, .int _), (1, .long _), (0, .ref _)] ([]) _ _
                        refine go_iload dX8_digest_249 rfl ?_
                        refine go_aload_n dX8_digest_251 rfl ?_
                        refine go_gfr dX8_digest_252 fl_8_29 rfl (ms_lt hm.1 (by decide)) hm.1.1.2 hm.1.2.1.2.2.2.2.2.2.1 ?_
                        refine go_iload_n dX8_digest_255 rfl ?_
                        refine go_ia dX8_digest_256 hm.1.2.2.2.2.2.2.2.2.1 (ms_lt hm.1 (by decide)) (n_in (N := 4) hr (by decide)) ?_
                        rw [nI_clamp (by omega), (hm.2.2.2.2.1 r hr).1]
                        refine go_icmp_ge (pc' := 286) dX8_digest_257 rfl (fun c_257 => ?_) (fun c_257 => ?_)
                        · -- ge at 257: yes
                          show bw_go _ _ _ _ _ _ _ 286 [(4, .int _), (3, .int _), (1, .long _), (0, .ref _)] ([]) _ _
                          refine go_iinc dX8_digest_286 rfl (nI_1 r) (Nat.lt_of_lt_of_le (Nat.lt_succ_self _) (Nat.le_of_ble_eq_true rfl)) ?_
                          show bw_go _ _ _ _ _ _ _ 289 [(3, .int _), (4, .int _), (1, .long _), (0, .ref _)] ([]) _ _
                          refine go_goto (pc' := 227) dX8_digest_289 rfl ?_
                          refine go_ls [(3, .int _), (1, .long _), (0, .ref _)] (by show List.Nodup ([3, 1, 0] : List Nat); decide) (by show List.Nodup ([3, 4, 1, 0] : List Nat); decide) (le_cons rfl (le_cons rfl (le_cons rfl (le_nil _)))) ?_
                          exact K
                        · -- ge at 257: no
                          have e7 := osz_w (hm.2.2.2.2.1 r hr).2.1
                          exact absurd ((oz_lt (hm.2.2.2.2.1 r hr).2.1 (by decide) (by omega)).mpr (Nat.le_refl _)) c_257
                  · -- behind the last
                    show bw_go _ _ _ _ _ _ _ 227 [(3, .int _), (1, .long _), (0, .ref _)] ([]) _ _
                    refine go_iload_n dX8_digest_227 rfl ?_
                    refine go_iconst (4) dX8_digest_228 rfl ?_
                    refine go_icmp_ge (pc' := 292) dX8_digest_229 rfl (fun c_229 => ?_) (fun c_229 => ?_)
                    · -- ge at 229: yes
                      show bw_go _ _ _ _ _ _ _ 292 [(3, .int _), (1, .long _), (0, .ref _)] ([]) _ _
                      refine go_lload_n dX8_digest_292 rfl ?_
                      refine go_lret dX8_digest_293 rfl ?_
                      exact hQ h hm (frX_r h)
                    · -- ge at 229: no
                      exfalso; have t_0 := nI_toInt (n := 4) (by omega); have l_0 : (4 : Int32).toInt = 4 := rfl; simp only [i_le, i_lt, i_eq, bi_eq] at c_229; omega
                · -- ge at 162: no
                  exfalso; have t_0 := nI_toInt (n := 6) (by omega); have l_0 : (6 : Int32).toInt = 6 := rfl; simp only [i_le, i_lt, i_eq, bi_eq] at c_162; omega
            · -- ge at 115: no
              exfalso; have t_0 := nI_toInt (n := 3) (by omega); have l_0 : (3 : Int32).toInt = 3 := rfl; simp only [i_le, i_lt, i_eq, bi_eq] at c_115; omega
        · -- ge at 40: no
          exfalso; have t_0 := nI_toInt (n := cN (nowC S)) (by omega); simp only [i_le, i_lt, i_eq, bi_eq] at c_40; omega
    · -- ge at 9: no
      exfalso; have t_0 := nI_toInt (n := 12) (by omega); have l_0 : (12 : Int32).toInt = 12 := rfl; simp only [i_le, i_lt, i_eq, bi_eq] at c_9; omega
