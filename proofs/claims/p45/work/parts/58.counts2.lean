/-! BearWitness: how many courts are kept -/
set_option maxRecDepth 100000 in
set_option maxHeartbeats 4000000 in
theorem me_X7_keptCourts {X : Nat × (Nat → Int32)} {Q : Option Value → bw_H → Prop} {h : bw_H} {S : ST} (hx : XR h S) (hQ : Q (some (.int (nI (cnt (fun l => (sK S l).isSome) 3)))) h) : bw_me X 1 bm_X7_keptCourts false [.ref 0] h Q := by
  show bw_go _ 1 7 3 false (some .int) cX7_keptCourts 0 [(0, .ref _)] [] _ _
  refine go_iconst (0) dX7_keptCourts_0 rfl ?_
  refine go_istore_n dX7_keptCourts_1 (Nat.lt_of_lt_of_le (Nat.lt_succ_self _) (Nat.le_of_ble_eq_true rfl)) ?_
  show bw_go _ _ _ _ _ _ _ 2 [(1, .int _), (0, .ref _)] ([]) _ _
  refine go_iconst (0) dX7_keptCourts_2 rfl ?_
  refine go_istore_n dX7_keptCourts_3 (Nat.lt_of_lt_of_le (Nat.lt_succ_self _) (Nat.le_of_ble_eq_true rfl)) ?_
  show bw_go _ _ _ _ _ _ _ 4 [(2, .int _), (1, .int _), (0, .ref _)] ([]) _ _
  refine go_for (P := fun k => bw_go X 1 7 3 false (some .int) cX7_keptCourts 4 [(2, .int (nI k)), (1, .int (nI (cnt (fun l => (sK S l).isSome) k))), (0, .ref (0))] [] h Q) (N := 3) (fun k hk K => ?_) ?_ (0) (Nat.zero_le _)
  · -- a turn
    show bw_go _ _ _ _ _ _ _ 4 [(2, .int _), (1, .int _), (0, .ref _)] ([]) _ _
    refine go_iload_n dX7_keptCourts_4 rfl ?_
    refine go_iconst (3) dX7_keptCourts_5 rfl ?_
    refine go_icmp_ge (pc' := 26) dX7_keptCourts_6 rfl (fun c_6 => ?_) (fun c_6 => ?_)
    · -- ge at 6: yes
      exfalso; have t_0 := nI_toInt (n := k) (by omega); have l_0 : (3 : Int32).toInt = 3 := rfl; simp only [i_le, i_lt, i_eq, bi_eq] at c_6; omega
    · -- ge at 6: no
      cases e9 : sK S k with
      | none =>
        refine go_aload_n dX7_keptCourts_9 rfl ?_
        refine go_iload_n dX7_keptCourts_10 rfl ?_
        refine go_cv (as := [.int _]) 0 dX7_keptCourts_11 mt_7_171 (Or.inl rfl) rfl rfl hx.1.1.1 hx.1.1.2.1 (Nat.le_of_ble_eq_true rfl) (Nat.le_of_ble_eq_true rfl) (Nat.le_of_ble_eq_true rfl) (Nat.le_of_ble_eq_true rfl) (Nat.le_of_ble_eq_true rfl) ?_
        refine me_keptIn_N hx hk e9 ?_
        show bw_go _ _ _ _ _ _ _ 14 [(2, .int _), (1, .int _), (0, .ref _)] (.null :: []) _ _
        refine go_nuN (pc' := 20) dX7_keptCourts_14 rfl ?_
        show bw_go _ _ _ _ _ _ _ 20 [(2, .int _), (1, .int _), (0, .ref _)] ([]) _ _
        refine go_iinc dX7_keptCourts_20 rfl (nI_1 k) (Nat.lt_of_lt_of_le (Nat.lt_succ_self _) (Nat.le_of_ble_eq_true rfl)) ?_
        show bw_go _ _ _ _ _ _ _ 23 [(2, .int _), (1, .int _), (0, .ref _)] ([]) _ _
        refine go_goto (pc' := 4) dX7_keptCourts_23 rfl ?_
        have ef : (sK S k).isSome = false := by rw [e9]; rfl
        rw [← cnt_f (P := (fun l => (sK S l).isSome)) ef] at K
        exact K
      | some A =>
        refine go_aload_n dX7_keptCourts_9 rfl ?_
        refine go_iload_n dX7_keptCourts_10 rfl ?_
        refine go_cv (as := [.int _]) 0 dX7_keptCourts_11 mt_7_171 (Or.inl rfl) rfl rfl hx.1.1.1 hx.1.1.2.1 (Nat.le_of_ble_eq_true rfl) (Nat.le_of_ble_eq_true rfl) (Nat.le_of_ble_eq_true rfl) (Nat.le_of_ble_eq_true rfl) (Nat.le_of_ble_eq_true rfl) ?_
        refine me_keptIn_R hx hk e9 (fun q r1 r2 r3 hq r5 r6 r7 => ?_)
        show bw_go _ _ _ _ _ _ _ 14 [(2, .int _), (1, .int _), (0, .ref _)] ((.ref _) :: []) _ _
        refine go_nuR dX7_keptCourts_14 ?_
        show bw_go _ _ _ _ _ _ _ 17 [(2, .int _), (1, .int _), (0, .ref _)] ([]) _ _
        refine go_iinc dX7_keptCourts_17 rfl rfl (Nat.lt_of_lt_of_le (Nat.lt_succ_self _) (Nat.le_of_ble_eq_true rfl)) ?_
        show bw_go _ _ _ _ _ _ _ 20 [(1, .int _), (2, .int _), (0, .ref _)] ([]) _ _
        refine go_iinc dX7_keptCourts_20 rfl (nI_1 k) (Nat.lt_of_lt_of_le (Nat.lt_succ_self _) (Nat.le_of_ble_eq_true rfl)) ?_
        show bw_go _ _ _ _ _ _ _ 23 [(2, .int _), (1, .int _), (0, .ref _)] ([]) _ _
        refine go_goto (pc' := 4) dX7_keptCourts_23 rfl ?_
        have et : (sK S k).isSome = true := by rw [e9]; rfl
        rw [← cnt_t (P := (fun l => (sK S l).isSome)) et] at K
        exact K
  · -- behind the last
    show bw_go _ _ _ _ _ _ _ 4 [(2, .int _), (1, .int _), (0, .ref _)] ([]) _ _
    refine go_iload_n dX7_keptCourts_4 rfl ?_
    refine go_iconst (3) dX7_keptCourts_5 rfl ?_
    refine go_icmp_ge (pc' := 26) dX7_keptCourts_6 rfl (fun c_6 => ?_) (fun c_6 => ?_)
    · -- ge at 6: yes
      show bw_go _ _ _ _ _ _ _ 26 [(2, .int _), (1, .int _), (0, .ref _)] ([]) _ _
      refine go_iload_n dX7_keptCourts_26 rfl ?_
      refine go_iret dX7_keptCourts_27 rfl rfl ?_
      exact hQ
    · -- ge at 6: no
      exfalso; have t_0 := nI_toInt (n := 3) (by omega); have l_0 : (3 : Int32).toInt = 3 := rfl; simp only [i_le, i_lt, i_eq, bi_eq] at c_6; omega
