/-! the reference: counts, findings -/
theorem oz_is {s : Option Nat} {wid : Nat} (hs : sok s wid) (hw : wid < 100) : s.isSome = decide (0 ≤ (oz s).toInt) := by
  rcases oz_t hs hw with ⟨e, z⟩ | ⟨m, e, z1, z2⟩
  · rw [e, decide_eq_false (by rw [e] at z; omega)]; rfl
  · rw [e, decide_eq_true (by rw [e] at z2; omega)]; rfl
set_option maxRecDepth 100000 in
set_option maxHeartbeats 4000000 in
theorem me_X8_manyThere {X : Nat × (Nat → Int32)} {Q : Option Value → bw_H → Prop} {h : bw_H} {p num wid : Nat} {s : Nat → Option Nat} (hp : p < bw_n h) (hn : num < 100) (hw : wid < 100) (hk0 : bw_k h p = .inr (.int, num)) (hr : ∀ r, r < num → bw_i h p r = oz (s r) ∧ sok (s r) wid) (hQ : Q (some (.int (nI (cnt (fun r => (s r).isSome) num)))) h) : bw_me X 0 bm_X8_manyThere false [.ref p, .int (nI num)] h Q := by
  have l_z : (0 : Int32).toInt = 0 := rfl
  show bw_go _ 0 8 4 false (some .int) cX8_manyThere 0 [(0, .ref _), (1, .int _)] [] _ _
  refine go_iconst (0) dX8_manyThere_0 rfl ?_
  refine go_istore_n dX8_manyThere_1 (Nat.lt_of_lt_of_le (Nat.lt_succ_self _) (Nat.le_of_ble_eq_true rfl)) ?_
  show bw_go _ _ _ _ _ _ _ 2 [(2, .int _), (0, .ref _), (1, .int _)] ([]) _ _
  refine go_iconst (0) dX8_manyThere_2 rfl ?_
  refine go_istore_n dX8_manyThere_3 (Nat.lt_of_lt_of_le (Nat.lt_succ_self _) (Nat.le_of_ble_eq_true rfl)) ?_
  show bw_go _ _ _ _ _ _ _ 4 [(3, .int _), (2, .int _), (0, .ref _), (1, .int _)] ([]) _ _
  refine go_for (P := fun k => bw_go X 0 8 4 false (some .int) cX8_manyThere 4 [(3, .int (nI k)), (2, .int (nI (cnt (fun r => (s r).isSome) k))), (0, .ref (p)), (1, .int (nI num))] [] h Q) (N := num) (fun k hk K => ?_) ?_ (0) (Nat.zero_le _)
  · -- a turn
    show bw_go _ _ _ _ _ _ _ 4 [(3, .int _), (2, .int _), (0, .ref _), (1, .int _)] ([]) _ _
    refine go_iload_n dX8_manyThere_4 rfl ?_
    refine go_iload_n dX8_manyThere_5 rfl ?_
    refine go_icmp_ge (pc' := 29) dX8_manyThere_6 rfl (fun c_6 => ?_) (fun c_6 => ?_)
    · -- ge at 6: yes
      exfalso; have t_0 := nI_toInt (n := k) (by omega); have t_1 := nI_toInt (n := num) (by omega); simp only [i_le, i_lt, i_eq, bi_eq] at c_6; omega
    · -- ge at 6: no
      show bw_go _ _ _ _ _ _ _ 9 [(3, .int _), (2, .int _), (0, .ref _), (1, .int _)] ([]) _ _
      refine go_iload_n dX8_manyThere_9 rfl ?_
      refine go_aload_n dX8_manyThere_10 rfl ?_
      refine go_iload_n dX8_manyThere_11 rfl ?_
      refine go_ia dX8_manyThere_12 hk0 hp (n_in hk (by omega)) ?_
      rw [nI_clamp (by omega), (hr k hk).1]
      have oe := oz_is (hr k hk).2 hw
      refine go_if_ge (pc' := 20) dX8_manyThere_13 rfl (fun c_13 => ?_) (fun c_13 => ?_)
      · -- ge at 13: yes
        show bw_go _ _ _ _ _ _ _ 20 [(3, .int _), (2, .int _), (0, .ref _), (1, .int _)] ((.int _) :: []) _ _
        refine go_iconst (1) dX8_manyThere_20 rfl ?_
        refine go_iadd dX8_manyThere_21 ?_
        first
        | rw [cnt_t (P := (fun r => (s r).isSome)) (k := k) (oe.trans (decide_eq_true (by simp only [i_le, i_lt] at c_13; omega)))]
        | rw [show nI (cnt (fun r => (s r).isSome) k) + 0 = nI (cnt (fun r => (s r).isSome) k) from nI_add _ 0, cnt_f (P := (fun r => (s r).isSome)) (k := k) (oe.trans (decide_eq_false (by simp only [i_le, i_lt] at c_13; omega)))]
        refine go_istore_n dX8_manyThere_22 (Nat.lt_of_lt_of_le (Nat.lt_succ_self _) (Nat.le_of_ble_eq_true rfl)) ?_
        show bw_go _ _ _ _ _ _ _ 23 [(2, .int _), (3, .int _), (0, .ref _), (1, .int _)] ([]) _ _
        refine go_iinc dX8_manyThere_23 rfl (nI_1 k) (Nat.lt_of_lt_of_le (Nat.lt_succ_self _) (Nat.le_of_ble_eq_true rfl)) ?_
        show bw_go _ _ _ _ _ _ _ 26 [(3, .int _), (2, .int _), (0, .ref _), (1, .int _)] ([]) _ _
        refine go_goto (pc' := 4) dX8_manyThere_26 rfl ?_
        exact K
      · -- ge at 13: no
        show bw_go _ _ _ _ _ _ _ 16 [(3, .int _), (2, .int _), (0, .ref _), (1, .int _)] ((.int _) :: []) _ _
        refine go_iconst (0) dX8_manyThere_16 rfl ?_
        refine go_goto (pc' := 21) dX8_manyThere_17 rfl ?_
        show bw_go _ _ _ _ _ _ _ 21 [(3, .int _), (2, .int _), (0, .ref _), (1, .int _)] ((.int _) :: (.int _) :: []) _ _
        refine go_iadd dX8_manyThere_21 ?_
        first
        | rw [cnt_t (P := (fun r => (s r).isSome)) (k := k) (oe.trans (decide_eq_true (by simp only [i_le, i_lt] at c_13; omega)))]
        | rw [show nI (cnt (fun r => (s r).isSome) k) + 0 = nI (cnt (fun r => (s r).isSome) k) from nI_add _ 0, cnt_f (P := (fun r => (s r).isSome)) (k := k) (oe.trans (decide_eq_false (by simp only [i_le, i_lt] at c_13; omega)))]
        refine go_istore_n dX8_manyThere_22 (Nat.lt_of_lt_of_le (Nat.lt_succ_self _) (Nat.le_of_ble_eq_true rfl)) ?_
        show bw_go _ _ _ _ _ _ _ 23 [(2, .int _), (3, .int _), (0, .ref _), (1, .int _)] ([]) _ _
        refine go_iinc dX8_manyThere_23 rfl (nI_1 k) (Nat.lt_of_lt_of_le (Nat.lt_succ_self _) (Nat.le_of_ble_eq_true rfl)) ?_
        show bw_go _ _ _ _ _ _ _ 26 [(3, .int _), (2, .int _), (0, .ref _), (1, .int _)] ([]) _ _
        refine go_goto (pc' := 4) dX8_manyThere_26 rfl ?_
        exact K
  · -- behind the last
    show bw_go _ _ _ _ _ _ _ 4 [(3, .int _), (2, .int _), (0, .ref _), (1, .int _)] ([]) _ _
    refine go_iload_n dX8_manyThere_4 rfl ?_
    refine go_iload_n dX8_manyThere_5 rfl ?_
    refine go_icmp_ge (pc' := 29) dX8_manyThere_6 rfl (fun c_6 => ?_) (fun c_6 => ?_)
    · -- ge at 6: yes
      show bw_go _ _ _ _ _ _ _ 29 [(3, .int _), (2, .int _), (0, .ref _), (1, .int _)] ([]) _ _
      refine go_iload_n dX8_manyThere_29 rfl ?_
      refine go_iret dX8_manyThere_30 rfl rfl ?_
      exact hQ
    · -- ge at 6: no
      exfalso; have t_0 := nI_toInt (n := num) (by omega); simp only [i_le, i_lt, i_eq, bi_eq] at c_6; omega
set_option maxRecDepth 100000 in
set_option maxHeartbeats 4000000 in
theorem me_X8_manyOf {X : Nat × (Nat → Int32)} {Q : Option Value → bw_H → Prop} {h : bw_H} {S : ST} {w : Nat} (hm : MR h S) (hw1 : 1 ≤ w) (hw : w < 6) (hQ : Q (some (.int (nI (cnt (fun i => ofk (cK (nowC S) i) w) (cN (nowC S)))))) h) : bw_me X 1 bm_X8_manyOf false [.ref 60, .int (nI w)] h Q := by
  have hv := mr_v hm
  have hkC := mr_k hm
  have k1 := hkC.1
  show bw_go _ 1 8 4 false (some .int) cX8_manyOf 0 [(0, .ref _), (1, .int _)] [] _ _
  refine go_iconst (0) dX8_manyOf_0 rfl ?_
  refine go_istore_n dX8_manyOf_1 (Nat.lt_of_lt_of_le (Nat.lt_succ_self _) (Nat.le_of_ble_eq_true rfl)) ?_
  show bw_go _ _ _ _ _ _ _ 2 [(2, .int _), (0, .ref _), (1, .int _)] ([]) _ _
  refine go_iconst (0) dX8_manyOf_2 rfl ?_
  refine go_istore_n dX8_manyOf_3 (Nat.lt_of_lt_of_le (Nat.lt_succ_self _) (Nat.le_of_ble_eq_true rfl)) ?_
  show bw_go _ _ _ _ _ _ _ 4 [(3, .int _), (2, .int _), (0, .ref _), (1, .int _)] ([]) _ _
  refine go_for (P := fun k => bw_go X 1 8 4 false (some .int) cX8_manyOf 4 [(3, .int (nI k)), (2, .int (nI (cnt (fun i => ofk (cK (nowC S) i) w) k))), (0, .ref (60)), (1, .int (nI w))] [] h Q) (N := cN (nowC S)) (fun k hk K => ?_) ?_ (0) (Nat.zero_le _)
  · -- a turn
    have hk0 := hk
    show bw_go _ _ _ _ _ _ _ 4 [(3, .int _), (2, .int _), (0, .ref _), (1, .int _)] ([]) _ _
    refine go_iload_n dX8_manyOf_4 rfl ?_
    refine go_aload_n dX8_manyOf_5 rfl ?_
    refine go_gfr dX8_manyOf_6 fl_8_7 rfl (ms_lt hm.1 (by decide)) hm.1.1.2 hm.1.2.1.1 ?_
    refine go_iconst (0) dX8_manyOf_9 rfl ?_
    refine go_ia dX8_manyOf_10 hm.1.2.2.1 (ms_lt hm.1 (by decide)) (by decide) ?_
    rw [show (0 : Int32).toNatClampNeg = 0 from rfl, hv.1]
    refine go_icmp_ge (pc' := 43) dX8_manyOf_11 rfl (fun c_11 => ?_) (fun c_11 => ?_)
    · -- ge at 11: yes
      exfalso; have t_0 := nI_toInt (n := k) (by omega); have t_1 := nI_toInt (n := cN (nowC S)) (by omega); simp only [i_le, i_lt, i_eq, bi_eq] at c_11; omega
    · -- ge at 11: no
      show bw_go _ _ _ _ _ _ _ 14 [(3, .int _), (2, .int _), (0, .ref _), (1, .int _)] ([]) _ _
      refine go_iload_n dX8_manyOf_14 rfl ?_
      refine go_aload_n dX8_manyOf_15 rfl ?_
      refine go_gfr dX8_manyOf_16 fl_8_7 rfl (ms_lt hm.1 (by decide)) hm.1.1.2 hm.1.2.1.1 ?_
      refine go_iconst (2) dX8_manyOf_19 rfl ?_
      refine go_iload_n dX8_manyOf_20 rfl ?_
      refine go_iadd dX8_manyOf_21 ?_
      rw [show (2 : Int32) = nI 2 from rfl, nI_add]
      refine go_ia dX8_manyOf_22 hm.1.2.2.1 (ms_lt hm.1 (by decide)) (n_in (N := 80) (by omega) (by decide)) ?_
      rw [nI_clamp (by omega), (hv.2.2.2 k hk0).1]
      have k2 := hkC.2.2.2.2 k hk0
      refine go_iload_n dX8_manyOf_23 rfl ?_
      refine go_cs (as := [.int _, .int _]) 0 dX8_manyOf_24 rfl rfl mt_8_163 (Nat.le_of_ble_eq_true rfl) rfl rfl (Nat.le_of_ble_eq_true rfl) (Nat.le_of_ble_eq_true rfl) (Nat.le_of_ble_eq_true rfl) (Nat.le_of_ble_eq_true rfl) ?_
      refine me_X8_isOf k2.1 hw1 hw ?_
      show bw_go _ _ _ _ _ _ _ 27 [(3, .int _), (2, .int _), (0, .ref _), (1, .int _)] ((.int _) :: (.int _) :: []) _ _
      refine go_ifb_eq (pc' := 34) dX8_manyOf_27 rfl (fun c_27 => ?_) (fun c_27 => ?_)
      · -- eq at 27: yes
        show bw_go _ _ _ _ _ _ _ 34 [(3, .int _), (2, .int _), (0, .ref _), (1, .int _)] ((.int _) :: []) _ _
        refine go_iconst (0) dX8_manyOf_34 rfl ?_
        refine go_iadd dX8_manyOf_35 ?_
        first
        | rw [cnt_t (P := (fun i => ofk (cK (nowC S) i) w)) (k := k) (show ofk (cK (nowC S) k) w = true from c_27)]
        | rw [show nI (cnt (fun i => ofk (cK (nowC S) i) w) k) + 0 = nI (cnt (fun i => ofk (cK (nowC S) i) w) k) from nI_add _ 0, cnt_f (P := (fun i => ofk (cK (nowC S) i) w)) (k := k) (show ofk (cK (nowC S) k) w = false from c_27)]
        refine go_istore_n dX8_manyOf_36 (Nat.lt_of_lt_of_le (Nat.lt_succ_self _) (Nat.le_of_ble_eq_true rfl)) ?_
        show bw_go _ _ _ _ _ _ _ 37 [(2, .int _), (3, .int _), (0, .ref _), (1, .int _)] ([]) _ _
        refine go_iinc dX8_manyOf_37 rfl (nI_1 k) (Nat.lt_of_lt_of_le (Nat.lt_succ_self _) (Nat.le_of_ble_eq_true rfl)) ?_
        show bw_go _ _ _ _ _ _ _ 40 [(3, .int _), (2, .int _), (0, .ref _), (1, .int _)] ([]) _ _
        refine go_goto (pc' := 4) dX8_manyOf_40 rfl ?_
        exact K
      · -- eq at 27: no
        show bw_go _ _ _ _ _ _ _ 30 [(3, .int _), (2, .int _), (0, .ref _), (1, .int _)] ((.int _) :: []) _ _
        refine go_iconst (1) dX8_manyOf_30 rfl ?_
        refine go_goto (pc' := 35) dX8_manyOf_31 rfl ?_
        show bw_go _ _ _ _ _ _ _ 35 [(3, .int _), (2, .int _), (0, .ref _), (1, .int _)] ((.int _) :: (.int _) :: []) _ _
        refine go_iadd dX8_manyOf_35 ?_
        first
        | rw [cnt_t (P := (fun i => ofk (cK (nowC S) i) w)) (k := k) (show ofk (cK (nowC S) k) w = true from c_27)]
        | rw [show nI (cnt (fun i => ofk (cK (nowC S) i) w) k) + 0 = nI (cnt (fun i => ofk (cK (nowC S) i) w) k) from nI_add _ 0, cnt_f (P := (fun i => ofk (cK (nowC S) i) w)) (k := k) (show ofk (cK (nowC S) k) w = false from c_27)]
        refine go_istore_n dX8_manyOf_36 (Nat.lt_of_lt_of_le (Nat.lt_succ_self _) (Nat.le_of_ble_eq_true rfl)) ?_
        show bw_go _ _ _ _ _ _ _ 37 [(2, .int _), (3, .int _), (0, .ref _), (1, .int _)] ([]) _ _
        refine go_iinc dX8_manyOf_37 rfl (nI_1 k) (Nat.lt_of_lt_of_le (Nat.lt_succ_self _) (Nat.le_of_ble_eq_true rfl)) ?_
        show bw_go _ _ _ _ _ _ _ 40 [(3, .int _), (2, .int _), (0, .ref _), (1, .int _)] ([]) _ _
        refine go_goto (pc' := 4) dX8_manyOf_40 rfl ?_
        exact K
  · -- behind the last
    show bw_go _ _ _ _ _ _ _ 4 [(3, .int _), (2, .int _), (0, .ref _), (1, .int _)] ([]) _ _
    refine go_iload_n dX8_manyOf_4 rfl ?_
    refine go_aload_n dX8_manyOf_5 rfl ?_
    refine go_gfr dX8_manyOf_6 fl_8_7 rfl (ms_lt hm.1 (by decide)) hm.1.1.2 hm.1.2.1.1 ?_
    refine go_iconst (0) dX8_manyOf_9 rfl ?_
    refine go_ia dX8_manyOf_10 hm.1.2.2.1 (ms_lt hm.1 (by decide)) (by decide) ?_
    rw [show (0 : Int32).toNatClampNeg = 0 from rfl, hv.1]
    refine go_icmp_ge (pc' := 43) dX8_manyOf_11 rfl (fun c_11 => ?_) (fun c_11 => ?_)
    · -- ge at 11: yes
      show bw_go _ _ _ _ _ _ _ 43 [(3, .int _), (2, .int _), (0, .ref _), (1, .int _)] ([]) _ _
      refine go_iload_n dX8_manyOf_43 rfl ?_
      refine go_iret dX8_manyOf_44 rfl rfl ?_
      exact hQ
    · -- ge at 11: no
      exfalso; have t_0 := nI_toInt (n := cN (nowC S)) (by omega); simp only [i_le, i_lt, i_eq, bi_eq] at c_11; omega
set_option maxRecDepth 100000 in
set_option maxHeartbeats 4000000 in
theorem me_X8_sumOf {X : Nat × (Nat → Int32)} {Q : Option Value → bw_H → Prop} {h : bw_H} {S : ST} {w : Nat} {f : Nat → Nat} (hm : MR h S) (hw : w < 74) (hf : ∀ i, i < cN (nowC S) → bw_i h 61 (w + i) = nI (f i)) (hQ : Q (some (.int (nI (smN f (cN (nowC S)))))) h) : bw_me X 0 bm_X8_sumOf false [.ref 60, .int (nI w)] h Q := by
  have hv := mr_v hm
  have hk := mr_k hm
  have k1 := hk.1
  show bw_go _ 0 8 4 false (some .int) cX8_sumOf 0 [(0, .ref _), (1, .int _)] [] _ _
  refine go_iconst (0) dX8_sumOf_0 rfl ?_
  refine go_istore_n dX8_sumOf_1 (Nat.lt_of_lt_of_le (Nat.lt_succ_self _) (Nat.le_of_ble_eq_true rfl)) ?_
  show bw_go _ _ _ _ _ _ _ 2 [(2, .int _), (0, .ref _), (1, .int _)] ([]) _ _
  refine go_iconst (0) dX8_sumOf_2 rfl ?_
  refine go_istore_n dX8_sumOf_3 (Nat.lt_of_lt_of_le (Nat.lt_succ_self _) (Nat.le_of_ble_eq_true rfl)) ?_
  show bw_go _ _ _ _ _ _ _ 4 [(3, .int _), (2, .int _), (0, .ref _), (1, .int _)] ([]) _ _
  refine go_for (P := fun k => bw_go X 0 8 4 false (some .int) cX8_sumOf 4 [(3, .int (nI k)), (2, .int (nI (smN f k))), (0, .ref (60)), (1, .int (nI w))] [] h Q) (N := cN (nowC S)) (fun k hk K => ?_) ?_ (0) (Nat.zero_le _)
  · -- a turn
    show bw_go _ _ _ _ _ _ _ 4 [(3, .int _), (2, .int _), (0, .ref _), (1, .int _)] ([]) _ _
    refine go_iload_n dX8_sumOf_4 rfl ?_
    refine go_aload_n dX8_sumOf_5 rfl ?_
    refine go_gfr dX8_sumOf_6 fl_8_7 rfl (ms_lt hm.1 (by decide)) hm.1.1.2 hm.1.2.1.1 ?_
    refine go_iconst (0) dX8_sumOf_9 rfl ?_
    refine go_ia dX8_sumOf_10 hm.1.2.2.1 (ms_lt hm.1 (by decide)) (by decide) ?_
    rw [show (0 : Int32).toNatClampNeg = 0 from rfl, hv.1]
    refine go_icmp_ge (pc' := 31) dX8_sumOf_11 rfl (fun c_11 => ?_) (fun c_11 => ?_)
    · -- ge at 11: yes
      exfalso; have t_0 := nI_toInt (n := k) (by omega); have t_1 := nI_toInt (n := cN (nowC S)) (by omega); simp only [i_le, i_lt, i_eq, bi_eq] at c_11; omega
    · -- ge at 11: no
      show bw_go _ _ _ _ _ _ _ 14 [(3, .int _), (2, .int _), (0, .ref _), (1, .int _)] ([]) _ _
      refine go_iload_n dX8_sumOf_14 rfl ?_
      refine go_aload_n dX8_sumOf_15 rfl ?_
      refine go_gfr dX8_sumOf_16 fl_8_7 rfl (ms_lt hm.1 (by decide)) hm.1.1.2 hm.1.2.1.1 ?_
      refine go_iload_n dX8_sumOf_19 rfl ?_
      refine go_iload_n dX8_sumOf_20 rfl ?_
      refine go_iadd dX8_sumOf_21 ?_
      rw [nI_add]
      refine go_ia dX8_sumOf_22 hm.1.2.2.1 (ms_lt hm.1 (by decide)) (n_in (N := 80) (by omega) (by decide)) ?_
      rw [nI_clamp (by omega), hf k hk]
      refine go_iadd dX8_sumOf_23 ?_
      rw [show nI (smN f k) + nI (f k) = nI (smN f (k + 1)) from nI_add _ _]
      refine go_istore_n dX8_sumOf_24 (Nat.lt_of_lt_of_le (Nat.lt_succ_self _) (Nat.le_of_ble_eq_true rfl)) ?_
      show bw_go _ _ _ _ _ _ _ 25 [(2, .int _), (3, .int _), (0, .ref _), (1, .int _)] ([]) _ _
      refine go_iinc dX8_sumOf_25 rfl (nI_1 k) (Nat.lt_of_lt_of_le (Nat.lt_succ_self _) (Nat.le_of_ble_eq_true rfl)) ?_
      show bw_go _ _ _ _ _ _ _ 28 [(3, .int _), (2, .int _), (0, .ref _), (1, .int _)] ([]) _ _
      refine go_goto (pc' := 4) dX8_sumOf_28 rfl ?_
      exact K
  · -- behind the last
    show bw_go _ _ _ _ _ _ _ 4 [(3, .int _), (2, .int _), (0, .ref _), (1, .int _)] ([]) _ _
    refine go_iload_n dX8_sumOf_4 rfl ?_
    refine go_aload_n dX8_sumOf_5 rfl ?_
    refine go_gfr dX8_sumOf_6 fl_8_7 rfl (ms_lt hm.1 (by decide)) hm.1.1.2 hm.1.2.1.1 ?_
    refine go_iconst (0) dX8_sumOf_9 rfl ?_
    refine go_ia dX8_sumOf_10 hm.1.2.2.1 (ms_lt hm.1 (by decide)) (by decide) ?_
    rw [show (0 : Int32).toNatClampNeg = 0 from rfl, hv.1]
    refine go_icmp_ge (pc' := 31) dX8_sumOf_11 rfl (fun c_11 => ?_) (fun c_11 => ?_)
    · -- ge at 11: yes
      show bw_go _ _ _ _ _ _ _ 31 [(3, .int _), (2, .int _), (0, .ref _), (1, .int _)] ([]) _ _
      refine go_iload_n dX8_sumOf_31 rfl ?_
      refine go_iret dX8_sumOf_32 rfl rfl ?_
      exact hQ
    · -- ge at 11: no
      exfalso; have t_0 := nI_toInt (n := cN (nowC S)) (by omega); simp only [i_le, i_lt, i_eq, bi_eq] at c_11; omega
theorem bi_e0 {b : Bool} : bi b = 0 ↔ b = false := by cases b <;> decide
theorem mkp_0 {h : bw_H} {S : ST} (hm : MR h S) {k : Nat} (hk : k < 3) : bw_i h 63 k = bi (sK S k).isSome := by
  have h1 := hm.2.2.1 k hk
  cases e : sK S k with
  | none => exact h1.1 e
  | some A => exact (h1.2 A e).1
set_option maxRecDepth 100000 in
set_option maxHeartbeats 4000000 in
theorem me_X8_counted {X : Nat × (Nat → Int32)} {Q : Option Value → bw_H → Prop} {h : bw_H} {S : ST} {w : Nat} (hm : MR h S) (hw : w < 12) (hQ : Q (some (.int (nI (cnf S w)))) h) : bw_me X 7 bm_X8_counted false [.ref 60, .int (nI w)] h Q := by
  have hv := mr_v hm
  have hk := mr_k hm
  have k1 := hk.1
  have hkC := hk
  have h2N := p2N k1
  have hp0 : 0 < 2 ^ cN (nowC S) := Nat.two_pow_pos _
  show bw_go _ 7 8 2 false (some .int) cX8_counted 0 [(0, .ref _), (1, .int _)] [] _ _
  refine go_iload_n dX8_counted_0 rfl ?_
  rcases (show w = 0 ∨ w = 1 ∨ w = 2 ∨ w = 3 ∨ w = 4 ∨ w = 5 ∨ w = 6 ∨ w = 7 ∨ w = 8 ∨ w = 9 ∨ w = 10 ∨ w = 11 by omega) with rfl | rfl | rfl | rfl | rfl | rfl | rfl | rfl | rfl | rfl | rfl | rfl
  · -- w = 0
    refine go_tsIn (pc' := 60) dX8_counted_1 (by decide) (by decide) rfl rfl ?_
    show bw_go _ _ _ _ _ _ _ 60 [(0, .ref _), (1, .int _)] ([]) _ _
    refine go_aload_n dX8_counted_60 rfl ?_
    refine go_gfr dX8_counted_61 fl_8_7 rfl (ms_lt hm.1 (by decide)) hm.1.1.2 hm.1.2.1.1 ?_
    refine go_iconst (0) dX8_counted_64 rfl ?_
    refine go_ia dX8_counted_65 hm.1.2.2.1 (ms_lt hm.1 (by decide)) (by decide) ?_
    rw [show (0 : Int32).toNatClampNeg = 0 from rfl, hv.1]
    refine go_iret dX8_counted_66 rfl rfl ?_
    exact hQ
  · -- w = 1
    refine go_tsIn (pc' := 67) dX8_counted_1 (by decide) (by decide) rfl rfl ?_
    show bw_go _ _ _ _ _ _ _ 67 [(0, .ref _), (1, .int _)] ([]) _ _
    refine go_aload_n dX8_counted_67 rfl ?_
    refine go_gfr dX8_counted_68 fl_8_7 rfl (ms_lt hm.1 (by decide)) hm.1.1.2 hm.1.2.1.1 ?_
    refine go_iconst (0) dX8_counted_71 rfl ?_
    refine go_ia dX8_counted_72 hm.1.2.2.1 (ms_lt hm.1 (by decide)) (by decide) ?_
    rw [show (0 : Int32).toNatClampNeg = 0 from rfl, hv.1]
    refine go_if_ne (pc' := 80) dX8_counted_73 rfl (fun c_73 => ?_) (fun c_73 => ?_)
    · -- ne at 73: yes
      show bw_go _ _ _ _ _ _ _ 80 [(0, .ref _), (1, .int _)] ([]) _ _
      refine go_aload_n dX8_counted_80 rfl ?_
      refine go_gfr dX8_counted_81 fl_8_7 rfl (ms_lt hm.1 (by decide)) hm.1.1.2 hm.1.2.1.1 ?_
      refine go_iconst (1) dX8_counted_84 rfl ?_
      refine go_ia dX8_counted_85 hm.1.2.2.1 (ms_lt hm.1 (by decide)) (by decide) ?_
      rw [show (1 : Int32).toNatClampNeg = 1 from rfl, hv.2.1]
      refine go_iret dX8_counted_86 rfl rfl ?_
      exact hQ
    · -- ne at 73: no
      show bw_go _ _ _ _ _ _ _ 76 [(0, .ref _), (1, .int _)] ([]) _ _
      refine go_iconst (0) dX8_counted_76 rfl ?_
      refine go_goto (pc' := 86) dX8_counted_77 rfl ?_
      show bw_go _ _ _ _ _ _ _ 86 [(0, .ref _), (1, .int _)] ((.int _) :: []) _ _
      skip
      refine go_iret dX8_counted_86 rfl rfl ?_
      refine qi hQ ?_
      show (0 : Int32) = nI (cD (nowC S))
      rw [show cD (nowC S) = 0 from hm.2.2.2.2.2.2.2.2 ((nI_eq (a := cN (nowC S)) (b := 0) (by omega) (by omega)).mp (Decidable.of_not_not c_73))]
      rfl
  · -- w = 2
    refine go_tsIn (pc' := 87) dX8_counted_1 (by decide) (by decide) rfl rfl ?_
    show bw_go _ _ _ _ _ _ _ 87 [(0, .ref _), (1, .int _)] ([]) _ _
    refine go_aload_n dX8_counted_87 rfl ?_
    refine go_gfr dX8_counted_88 fl_8_7 rfl (ms_lt hm.1 (by decide)) hm.1.1.2 hm.1.2.1.1 ?_
    refine go_bipush (26) dX8_counted_91 rfl ?_
    refine go_ia dX8_counted_93 hm.1.2.2.1 (ms_lt hm.1 (by decide)) (by decide) ?_
    rw [show (26 : Int32).toNatClampNeg = 26 from rfl, hm.2.1.2.1]
    refine go_iret dX8_counted_94 rfl rfl ?_
    exact hQ
  · -- w = 3
    refine go_tsIn (pc' := 95) dX8_counted_1 (by decide) (by decide) rfl rfl ?_
    show bw_go _ _ _ _ _ _ _ 95 [(0, .ref _), (1, .int _)] ([]) _ _
    refine go_aload_n dX8_counted_95 rfl ?_
    refine go_gfr dX8_counted_96 fl_8_7 rfl (ms_lt hm.1 (by decide)) hm.1.1.2 hm.1.2.1.1 ?_
    refine go_bipush (79) dX8_counted_99 rfl ?_
    refine go_ia dX8_counted_101 hm.1.2.2.1 (ms_lt hm.1 (by decide)) (by decide) ?_
    rw [show (79 : Int32).toNatClampNeg = 79 from rfl, hv.2.2.1]
    refine go_iret dX8_counted_102 rfl rfl ?_
    exact hQ
  · -- w = 4
    refine go_tsIn (pc' := 103) dX8_counted_1 (by decide) (by decide) rfl rfl ?_
    show bw_go _ _ _ _ _ _ _ 103 [(0, .ref _), (1, .int _)] ([]) _ _
    refine go_aload_n dX8_counted_103 rfl ?_
    refine go_aload_n dX8_counted_104 rfl ?_
    refine go_cv (as := []) 0 dX8_counted_105 mt_8_194 (Or.inl rfl) rfl rfl (ms_lt hm.1 (by decide)) hm.1.1.2 (Nat.le_of_ble_eq_true rfl) (Nat.le_of_ble_eq_true rfl) (Nat.le_of_ble_eq_true rfl) (Nat.le_of_ble_eq_true rfl) (Nat.le_of_ble_eq_true rfl) ?_
    refine me_X8_allBears hm ?_
    show bw_go _ _ _ _ _ _ _ 108 [(0, .ref _), (1, .int _)] ((.int _) :: (.ref _) :: []) _ _
    refine go_cv (as := [.int _]) 6 dX8_counted_108 mt_8_198 (Or.inl rfl) rfl rfl (ms_lt hm.1 (by decide)) hm.1.1.2 (Nat.le_of_ble_eq_true rfl) (Nat.le_of_ble_eq_true rfl) (Nat.le_of_ble_eq_true rfl) (Nat.le_of_ble_eq_true rfl) (Nat.le_of_ble_eq_true rfl) ?_
    refine me_X8_shownBy hm (by omega) ?_
    show bw_go _ _ _ _ _ _ _ 111 [(0, .ref _), (1, .int _)] ((.int _) :: []) _ _
    refine go_iret dX8_counted_111 rfl rfl ?_
    exact hQ
  · -- w = 5
    refine go_tsIn (pc' := 112) dX8_counted_1 (by decide) (by decide) rfl rfl ?_
    show bw_go _ _ _ _ _ _ _ 112 [(0, .ref _), (1, .int _)] ([]) _ _
    refine go_aload_n dX8_counted_112 rfl ?_
    refine go_bipush (73) dX8_counted_113 rfl ?_
    refine go_cv (as := [.int _]) 0 dX8_counted_115 mt_8_261 (Or.inl rfl) rfl rfl (ms_lt hm.1 (by decide)) hm.1.1.2 (Nat.le_of_ble_eq_true rfl) (Nat.le_of_ble_eq_true rfl) (Nat.le_of_ble_eq_true rfl) (Nat.le_of_ble_eq_true rfl) (Nat.le_of_ble_eq_true rfl) ?_
    rw [show (73 : Int32) = nI 73 from rfl]
    refine me_X8_sumOf hm (f := cR (nowC S)) (by decide) (fun i hi => (hv.2.2.2 i hi).2.2.1) ?_
    show bw_go _ _ _ _ _ _ _ 118 [(0, .ref _), (1, .int _)] ((.int _) :: []) _ _
    refine go_iret dX8_counted_118 rfl rfl ?_
    exact hQ
  · -- w = 6
    refine go_tsIn (pc' := 119) dX8_counted_1 (by decide) (by decide) rfl rfl ?_
    show bw_go _ _ _ _ _ _ _ 119 [(0, .ref _), (1, .int _)] ([]) _ _
    refine go_aload_n dX8_counted_119 rfl ?_
    refine go_bipush (67) dX8_counted_120 rfl ?_
    refine go_cv (as := [.int _]) 0 dX8_counted_122 mt_8_261 (Or.inl rfl) rfl rfl (ms_lt hm.1 (by decide)) hm.1.1.2 (Nat.le_of_ble_eq_true rfl) (Nat.le_of_ble_eq_true rfl) (Nat.le_of_ble_eq_true rfl) (Nat.le_of_ble_eq_true rfl) (Nat.le_of_ble_eq_true rfl) ?_
    rw [show (67 : Int32) = nI 67 from rfl]
    refine me_X8_sumOf hm (f := cE (nowC S)) (by decide) (fun i hi => (hv.2.2.2 i hi).2.1) ?_
    show bw_go _ _ _ _ _ _ _ 125 [(0, .ref _), (1, .int _)] ((.int _) :: []) _ _
    refine go_iret dX8_counted_125 rfl rfl ?_
    exact hQ
  · -- w = 7
    refine go_tsIn (pc' := 126) dX8_counted_1 (by decide) (by decide) rfl rfl ?_
    show bw_go _ _ _ _ _ _ _ 126 [(0, .ref _), (1, .int _)] ([]) _ _
    refine go_aload_n dX8_counted_126 rfl ?_
    refine go_iconst (1) dX8_counted_127 rfl ?_
    refine go_cv (as := [.int _]) 1 dX8_counted_128 mt_8_264 (Or.inl rfl) rfl rfl (ms_lt hm.1 (by decide)) hm.1.1.2 (Nat.le_of_ble_eq_true rfl) (Nat.le_of_ble_eq_true rfl) (Nat.le_of_ble_eq_true rfl) (Nat.le_of_ble_eq_true rfl) (Nat.le_of_ble_eq_true rfl) ?_
    rw [show (1 : Int32) = nI 1 from rfl]
    refine me_X8_manyOf hm (w := 1) (by decide) (by decide) ?_
    show bw_go _ _ _ _ _ _ _ 131 [(0, .ref _), (1, .int _)] ((.int _) :: []) _ _
    refine go_iret dX8_counted_131 rfl rfl ?_
    exact hQ
  · -- w = 8
    refine go_tsIn (pc' := 132) dX8_counted_1 (by decide) (by decide) rfl rfl ?_
    show bw_go _ _ _ _ _ _ _ 132 [(0, .ref _), (1, .int _)] ([]) _ _
    refine go_aload_n dX8_counted_132 rfl ?_
    refine go_iconst (3) dX8_counted_133 rfl ?_
    refine go_cv (as := [.int _]) 1 dX8_counted_134 mt_8_264 (Or.inl rfl) rfl rfl (ms_lt hm.1 (by decide)) hm.1.1.2 (Nat.le_of_ble_eq_true rfl) (Nat.le_of_ble_eq_true rfl) (Nat.le_of_ble_eq_true rfl) (Nat.le_of_ble_eq_true rfl) (Nat.le_of_ble_eq_true rfl) ?_
    rw [show (3 : Int32) = nI 3 from rfl]
    refine me_X8_manyOf hm (w := 3) (by decide) (by decide) ?_
    show bw_go _ _ _ _ _ _ _ 137 [(0, .ref _), (1, .int _)] ((.int _) :: []) _ _
    refine go_iret dX8_counted_137 rfl rfl ?_
    exact hQ
  · -- w = 9
    refine go_tsIn (pc' := 138) dX8_counted_1 (by decide) (by decide) rfl rfl ?_
    show bw_go _ _ _ _ _ _ _ 138 [(0, .ref _), (1, .int _)] ([]) _ _
    refine go_aload_n dX8_counted_138 rfl ?_
    refine go_gfr dX8_counted_139 fl_8_23 rfl (ms_lt hm.1 (by decide)) hm.1.1.2 hm.1.2.1.2.2.2.2.1 ?_
    refine go_bipush (6) dX8_counted_142 rfl ?_
    refine go_cs (as := [.ref _, .int _]) 0 dX8_counted_144 rfl rfl mt_8_267 (Nat.le_of_ble_eq_true rfl) rfl rfl (Nat.le_of_ble_eq_true rfl) (Nat.le_of_ble_eq_true rfl) (Nat.le_of_ble_eq_true rfl) (Nat.le_of_ble_eq_true rfl) ?_
    rw [show (6 : Int32) = nI 6 from rfl]
    refine me_X8_manyThere (ms_lt hm.1 (by decide)) (by decide) (wid := 40) (by decide) hm.1.2.2.2.2.2.2.1 (s := sR S) (fun r hr => ⟨(hm.2.2.2.1 r hr).1, (hm.2.2.2.1 r hr).2.1⟩) ?_
    show bw_go _ _ _ _ _ _ _ 147 [(0, .ref _), (1, .int _)] ((.int _) :: []) _ _
    refine go_iret dX8_counted_147 rfl rfl ?_
    exact hQ
  · -- w = 10
    refine go_tsIn (pc' := 148) dX8_counted_1 (by decide) (by decide) rfl rfl ?_
    show bw_go _ _ _ _ _ _ _ 148 [(0, .ref _), (1, .int _)] ([]) _ _
    refine go_aload_n dX8_counted_148 rfl ?_
    refine go_gfr dX8_counted_149 fl_8_29 rfl (ms_lt hm.1 (by decide)) hm.1.1.2 hm.1.2.1.2.2.2.2.2.2.1 ?_
    refine go_iconst (4) dX8_counted_152 rfl ?_
    refine go_cs (as := [.ref _, .int _]) 0 dX8_counted_153 rfl rfl mt_8_267 (Nat.le_of_ble_eq_true rfl) rfl rfl (Nat.le_of_ble_eq_true rfl) (Nat.le_of_ble_eq_true rfl) (Nat.le_of_ble_eq_true rfl) (Nat.le_of_ble_eq_true rfl) ?_
    rw [show (4 : Int32) = nI 4 from rfl]
    refine me_X8_manyThere (ms_lt hm.1 (by decide)) (by decide) (wid := 60) (by decide) hm.1.2.2.2.2.2.2.2.2.1 (s := sT S) (fun r hr => ⟨(hm.2.2.2.2.1 r hr).1, (hm.2.2.2.2.1 r hr).2.1⟩) ?_
    show bw_go _ _ _ _ _ _ _ 156 [(0, .ref _), (1, .int _)] ((.int _) :: []) _ _
    refine go_iret dX8_counted_156 rfl rfl ?_
    exact hQ
  · -- w = 11
    refine go_tsOut (pc' := 157) dX8_counted_1 (by decide) rfl ?_
    show bw_go _ _ _ _ _ _ _ 157 [(0, .ref _), (1, .int _)] ([]) _ _
    refine go_aload_n dX8_counted_157 rfl ?_
    refine go_gfr dX8_counted_158 fl_8_16 rfl (ms_lt hm.1 (by decide)) hm.1.1.2 hm.1.2.1.2.2.1 ?_
    refine go_iconst (0) dX8_counted_161 rfl ?_
    refine go_ba dX8_counted_162 hm.1.2.2.2.2.1 (ms_lt hm.1 (by decide)) (by decide) ?_
    rw [show (0 : Int32).toNatClampNeg = 0 from rfl, mkp_0 hm (by decide)]
    refine go_if_eq (pc' := 170) dX8_counted_163 rfl (fun c_163 => ?_) (fun c_163 => ?_)
    · -- eq at 163: yes
      show bw_go _ _ _ _ _ _ _ 170 [(0, .ref _), (1, .int _)] ([]) _ _
      refine go_iconst (0) dX8_counted_170 rfl ?_
      refine go_aload_n dX8_counted_171 rfl ?_
      refine go_gfr dX8_counted_172 fl_8_16 rfl (ms_lt hm.1 (by decide)) hm.1.1.2 hm.1.2.1.2.2.1 ?_
      refine go_iconst (1) dX8_counted_175 rfl ?_
      refine go_ba dX8_counted_176 hm.1.2.2.2.2.1 (ms_lt hm.1 (by decide)) (by decide) ?_
      rw [show (1 : Int32).toNatClampNeg = 1 from rfl, mkp_0 hm (by decide)]
      refine go_if_eq (pc' := 184) dX8_counted_177 rfl (fun c_177 => ?_) (fun c_177 => ?_)
      · -- eq at 177: yes
        show bw_go _ _ _ _ _ _ _ 184 [(0, .ref _), (1, .int _)] ((.int _) :: []) _ _
        refine go_iconst (0) dX8_counted_184 rfl ?_
        refine go_iadd dX8_counted_185 ?_
        refine go_aload_n dX8_counted_186 rfl ?_
        refine go_gfr dX8_counted_187 fl_8_16 rfl (ms_lt hm.1 (by decide)) hm.1.1.2 hm.1.2.1.2.2.1 ?_
        refine go_iconst (2) dX8_counted_190 rfl ?_
        refine go_ba dX8_counted_191 hm.1.2.2.2.2.1 (ms_lt hm.1 (by decide)) (by decide) ?_
        rw [show (2 : Int32).toNatClampNeg = 2 from rfl, mkp_0 hm (by decide)]
        refine go_if_eq (pc' := 199) dX8_counted_192 rfl (fun c_192 => ?_) (fun c_192 => ?_)
        · -- eq at 192: yes
          show bw_go _ _ _ _ _ _ _ 199 [(0, .ref _), (1, .int _)] ((.int _) :: []) _ _
          refine go_iconst (0) dX8_counted_199 rfl ?_
          refine go_iadd dX8_counted_200 ?_
          refine go_iret dX8_counted_201 rfl rfl ?_
          refine qi hQ ?_
          show _ = nI (cnt (fun k => (sK S k).isSome) 3)
          have e3 : cnt (fun k => (sK S k).isSome) 3 = (0 + (if (sK S 0).isSome = true then 1 else 0)) + (if (sK S 1).isSome = true then 1 else 0) + (if (sK S 2).isSome = true then 1 else 0) := rfl
          rw [e3]
          simp only [bi_e0, Bool.not_eq_false] at c_163
          simp only [bi_e0, Bool.not_eq_false] at c_177
          simp only [bi_e0, Bool.not_eq_false] at c_192
          simp only [c_163, c_177, c_192, if_true, Bool.false_eq_true, if_false]
          first | rfl | decide
        · -- eq at 192: no
          show bw_go _ _ _ _ _ _ _ 195 [(0, .ref _), (1, .int _)] ((.int _) :: []) _ _
          refine go_iconst (1) dX8_counted_195 rfl ?_
          refine go_goto (pc' := 200) dX8_counted_196 rfl ?_
          show bw_go _ _ _ _ _ _ _ 200 [(0, .ref _), (1, .int _)] ((.int _) :: (.int _) :: []) _ _
          refine go_iadd dX8_counted_200 ?_
          refine go_iret dX8_counted_201 rfl rfl ?_
          refine qi hQ ?_
          show _ = nI (cnt (fun k => (sK S k).isSome) 3)
          have e3 : cnt (fun k => (sK S k).isSome) 3 = (0 + (if (sK S 0).isSome = true then 1 else 0)) + (if (sK S 1).isSome = true then 1 else 0) + (if (sK S 2).isSome = true then 1 else 0) := rfl
          rw [e3]
          simp only [bi_e0, Bool.not_eq_false] at c_163
          simp only [bi_e0, Bool.not_eq_false] at c_177
          simp only [bi_e0, Bool.not_eq_false] at c_192
          simp only [c_163, c_177, c_192, if_true, Bool.false_eq_true, if_false]
          first | rfl | decide
      · -- eq at 177: no
        show bw_go _ _ _ _ _ _ _ 180 [(0, .ref _), (1, .int _)] ((.int _) :: []) _ _
        refine go_iconst (1) dX8_counted_180 rfl ?_
        refine go_goto (pc' := 185) dX8_counted_181 rfl ?_
        show bw_go _ _ _ _ _ _ _ 185 [(0, .ref _), (1, .int _)] ((.int _) :: (.int _) :: []) _ _
        refine go_iadd dX8_counted_185 ?_
        refine go_aload_n dX8_counted_186 rfl ?_
        refine go_gfr dX8_counted_187 fl_8_16 rfl (ms_lt hm.1 (by decide)) hm.1.1.2 hm.1.2.1.2.2.1 ?_
        refine go_iconst (2) dX8_counted_190 rfl ?_
        refine go_ba dX8_counted_191 hm.1.2.2.2.2.1 (ms_lt hm.1 (by decide)) (by decide) ?_
        rw [show (2 : Int32).toNatClampNeg = 2 from rfl, mkp_0 hm (by decide)]
        refine go_if_eq (pc' := 199) dX8_counted_192 rfl (fun c_192 => ?_) (fun c_192 => ?_)
        · -- eq at 192: yes
          show bw_go _ _ _ _ _ _ _ 199 [(0, .ref _), (1, .int _)] ((.int _) :: []) _ _
          refine go_iconst (0) dX8_counted_199 rfl ?_
          refine go_iadd dX8_counted_200 ?_
          refine go_iret dX8_counted_201 rfl rfl ?_
          refine qi hQ ?_
          show _ = nI (cnt (fun k => (sK S k).isSome) 3)
          have e3 : cnt (fun k => (sK S k).isSome) 3 = (0 + (if (sK S 0).isSome = true then 1 else 0)) + (if (sK S 1).isSome = true then 1 else 0) + (if (sK S 2).isSome = true then 1 else 0) := rfl
          rw [e3]
          simp only [bi_e0, Bool.not_eq_false] at c_163
          simp only [bi_e0, Bool.not_eq_false] at c_177
          simp only [bi_e0, Bool.not_eq_false] at c_192
          simp only [c_163, c_177, c_192, if_true, Bool.false_eq_true, if_false]
          first | rfl | decide
        · -- eq at 192: no
          show bw_go _ _ _ _ _ _ _ 195 [(0, .ref _), (1, .int _)] ((.int _) :: []) _ _
          refine go_iconst (1) dX8_counted_195 rfl ?_
          refine go_goto (pc' := 200) dX8_counted_196 rfl ?_
          show bw_go _ _ _ _ _ _ _ 200 [(0, .ref _), (1, .int _)] ((.int _) :: (.int _) :: []) _ _
          refine go_iadd dX8_counted_200 ?_
          refine go_iret dX8_counted_201 rfl rfl ?_
          refine qi hQ ?_
          show _ = nI (cnt (fun k => (sK S k).isSome) 3)
          have e3 : cnt (fun k => (sK S k).isSome) 3 = (0 + (if (sK S 0).isSome = true then 1 else 0)) + (if (sK S 1).isSome = true then 1 else 0) + (if (sK S 2).isSome = true then 1 else 0) := rfl
          rw [e3]
          simp only [bi_e0, Bool.not_eq_false] at c_163
          simp only [bi_e0, Bool.not_eq_false] at c_177
          simp only [bi_e0, Bool.not_eq_false] at c_192
          simp only [c_163, c_177, c_192, if_true, Bool.false_eq_true, if_false]
          first | rfl | decide
    · -- eq at 163: no
      show bw_go _ _ _ _ _ _ _ 166 [(0, .ref _), (1, .int _)] ([]) _ _
      refine go_iconst (1) dX8_counted_166 rfl ?_
      refine go_goto (pc' := 171) dX8_counted_167 rfl ?_
      show bw_go _ _ _ _ _ _ _ 171 [(0, .ref _), (1, .int _)] ((.int _) :: []) _ _
      refine go_aload_n dX8_counted_171 rfl ?_
      refine go_gfr dX8_counted_172 fl_8_16 rfl (ms_lt hm.1 (by decide)) hm.1.1.2 hm.1.2.1.2.2.1 ?_
      refine go_iconst (1) dX8_counted_175 rfl ?_
      refine go_ba dX8_counted_176 hm.1.2.2.2.2.1 (ms_lt hm.1 (by decide)) (by decide) ?_
      rw [show (1 : Int32).toNatClampNeg = 1 from rfl, mkp_0 hm (by decide)]
      refine go_if_eq (pc' := 184) dX8_counted_177 rfl (fun c_177 => ?_) (fun c_177 => ?_)
      · -- eq at 177: yes
        show bw_go _ _ _ _ _ _ _ 184 [(0, .ref _), (1, .int _)] ((.int _) :: []) _ _
        refine go_iconst (0) dX8_counted_184 rfl ?_
        refine go_iadd dX8_counted_185 ?_
        refine go_aload_n dX8_counted_186 rfl ?_
        refine go_gfr dX8_counted_187 fl_8_16 rfl (ms_lt hm.1 (by decide)) hm.1.1.2 hm.1.2.1.2.2.1 ?_
        refine go_iconst (2) dX8_counted_190 rfl ?_
        refine go_ba dX8_counted_191 hm.1.2.2.2.2.1 (ms_lt hm.1 (by decide)) (by decide) ?_
        rw [show (2 : Int32).toNatClampNeg = 2 from rfl, mkp_0 hm (by decide)]
        refine go_if_eq (pc' := 199) dX8_counted_192 rfl (fun c_192 => ?_) (fun c_192 => ?_)
        · -- eq at 192: yes
          show bw_go _ _ _ _ _ _ _ 199 [(0, .ref _), (1, .int _)] ((.int _) :: []) _ _
          refine go_iconst (0) dX8_counted_199 rfl ?_
          refine go_iadd dX8_counted_200 ?_
          refine go_iret dX8_counted_201 rfl rfl ?_
          refine qi hQ ?_
          show _ = nI (cnt (fun k => (sK S k).isSome) 3)
          have e3 : cnt (fun k => (sK S k).isSome) 3 = (0 + (if (sK S 0).isSome = true then 1 else 0)) + (if (sK S 1).isSome = true then 1 else 0) + (if (sK S 2).isSome = true then 1 else 0) := rfl
          rw [e3]
          simp only [bi_e0, Bool.not_eq_false] at c_163
          simp only [bi_e0, Bool.not_eq_false] at c_177
          simp only [bi_e0, Bool.not_eq_false] at c_192
          simp only [c_163, c_177, c_192, if_true, Bool.false_eq_true, if_false]
          first | rfl | decide
        · -- eq at 192: no
          show bw_go _ _ _ _ _ _ _ 195 [(0, .ref _), (1, .int _)] ((.int _) :: []) _ _
          refine go_iconst (1) dX8_counted_195 rfl ?_
          refine go_goto (pc' := 200) dX8_counted_196 rfl ?_
          show bw_go _ _ _ _ _ _ _ 200 [(0, .ref _), (1, .int _)] ((.int _) :: (.int _) :: []) _ _
          refine go_iadd dX8_counted_200 ?_
          refine go_iret dX8_counted_201 rfl rfl ?_
          refine qi hQ ?_
          show _ = nI (cnt (fun k => (sK S k).isSome) 3)
          have e3 : cnt (fun k => (sK S k).isSome) 3 = (0 + (if (sK S 0).isSome = true then 1 else 0)) + (if (sK S 1).isSome = true then 1 else 0) + (if (sK S 2).isSome = true then 1 else 0) := rfl
          rw [e3]
          simp only [bi_e0, Bool.not_eq_false] at c_163
          simp only [bi_e0, Bool.not_eq_false] at c_177
          simp only [bi_e0, Bool.not_eq_false] at c_192
          simp only [c_163, c_177, c_192, if_true, Bool.false_eq_true, if_false]
          first | rfl | decide
      · -- eq at 177: no
        show bw_go _ _ _ _ _ _ _ 180 [(0, .ref _), (1, .int _)] ((.int _) :: []) _ _
        refine go_iconst (1) dX8_counted_180 rfl ?_
        refine go_goto (pc' := 185) dX8_counted_181 rfl ?_
        show bw_go _ _ _ _ _ _ _ 185 [(0, .ref _), (1, .int _)] ((.int _) :: (.int _) :: []) _ _
        refine go_iadd dX8_counted_185 ?_
        refine go_aload_n dX8_counted_186 rfl ?_
        refine go_gfr dX8_counted_187 fl_8_16 rfl (ms_lt hm.1 (by decide)) hm.1.1.2 hm.1.2.1.2.2.1 ?_
        refine go_iconst (2) dX8_counted_190 rfl ?_
        refine go_ba dX8_counted_191 hm.1.2.2.2.2.1 (ms_lt hm.1 (by decide)) (by decide) ?_
        rw [show (2 : Int32).toNatClampNeg = 2 from rfl, mkp_0 hm (by decide)]
        refine go_if_eq (pc' := 199) dX8_counted_192 rfl (fun c_192 => ?_) (fun c_192 => ?_)
        · -- eq at 192: yes
          show bw_go _ _ _ _ _ _ _ 199 [(0, .ref _), (1, .int _)] ((.int _) :: []) _ _
          refine go_iconst (0) dX8_counted_199 rfl ?_
          refine go_iadd dX8_counted_200 ?_
          refine go_iret dX8_counted_201 rfl rfl ?_
          refine qi hQ ?_
          show _ = nI (cnt (fun k => (sK S k).isSome) 3)
          have e3 : cnt (fun k => (sK S k).isSome) 3 = (0 + (if (sK S 0).isSome = true then 1 else 0)) + (if (sK S 1).isSome = true then 1 else 0) + (if (sK S 2).isSome = true then 1 else 0) := rfl
          rw [e3]
          simp only [bi_e0, Bool.not_eq_false] at c_163
          simp only [bi_e0, Bool.not_eq_false] at c_177
          simp only [bi_e0, Bool.not_eq_false] at c_192
          simp only [c_163, c_177, c_192, if_true, Bool.false_eq_true, if_false]
          first | rfl | decide
        · -- eq at 192: no
          show bw_go _ _ _ _ _ _ _ 195 [(0, .ref _), (1, .int _)] ((.int _) :: []) _ _
          refine go_iconst (1) dX8_counted_195 rfl ?_
          refine go_goto (pc' := 200) dX8_counted_196 rfl ?_
          show bw_go _ _ _ _ _ _ _ 200 [(0, .ref _), (1, .int _)] ((.int _) :: (.int _) :: []) _ _
          refine go_iadd dX8_counted_200 ?_
          refine go_iret dX8_counted_201 rfl rfl ?_
          refine qi hQ ?_
          show _ = nI (cnt (fun k => (sK S k).isSome) 3)
          have e3 : cnt (fun k => (sK S k).isSome) 3 = (0 + (if (sK S 0).isSome = true then 1 else 0)) + (if (sK S 1).isSome = true then 1 else 0) + (if (sK S 2).isSome = true then 1 else 0) := rfl
          rw [e3]
          simp only [bi_e0, Bool.not_eq_false] at c_163
          simp only [bi_e0, Bool.not_eq_false] at c_177
          simp only [bi_e0, Bool.not_eq_false] at c_192
          simp only [c_163, c_177, c_192, if_true, Bool.false_eq_true, if_false]
          first | rfl | decide
