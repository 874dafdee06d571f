/-! Court: reads -/
abbrev CT : Type := Nat × Nat × Nat × Nat × (Nat → Nat) × (Nat → Nat) × (Nat → Nat) × (Nat → Nat)
def cN (C : CT) : Nat := C.1
def cD (C : CT) : Nat := C.2.1
def cW (C : CT) : Nat := C.2.2.1
def cT (C : CT) : Nat := C.2.2.2.1
def cK (C : CT) : Nat → Nat := C.2.2.2.2.1
def cE (C : CT) : Nat → Nat := C.2.2.2.2.2.1
def cR (C : CT) : Nat → Nat := C.2.2.2.2.2.2.1
def cV (C : CT) : Nat → Nat := C.2.2.2.2.2.2.2
def co_s (h : bw_H) (p : Nat) : Prop := (p < bw_n h ∧ bw_k h p = .inl 1 ∧ bw_r h p 4 = some (p + 1) ∧ bw_r h p 5 = some (p + 3) ∧ bw_r h p 6 = some (p + 5) ∧ bw_r h p 7 = some (p + 7) ∧ bw_r h p 8 = some (p + 9) ∧ bw_r h p 9 = some (p + 11)) ∧
  bw_ce h (p + 1) (p + 2) 6 ∧ bw_ce h (p + 3) (p + 4) 6 ∧ bw_ce h (p + 5) (p + 6) 6 ∧ bw_ce h (p + 7) (p + 8) 6 ∧ bw_ce h (p + 9) (p + 10) 40 ∧ bw_ce h (p + 11) (p + 12) 40
def co_v (h : bw_H) (p : Nat) (C : CT) : Prop := bw_i h p 0 = nI (cN C) ∧ bw_i h p 1 = nI (cD C) ∧ bw_i h p 2 = nI (cW C) ∧ bw_i h p 3 = nI (cT C) ∧ ∀ i, i < cN C → bw_i h (p + 2) i = nI (cK C i) ∧ bw_i h (p + 4) i = nI (cE C i) ∧ bw_i h (p + 6) i = nI (cR C i) ∧ bw_i h (p + 8) i = nI (cV C i)
def co_k (C : CT) : Prop := cN C ≤ 6 ∧ cD C < 64 ∧ cW C < 64 ∧ cT C ≤ 40 ∧ ∀ i, i < cN C → cK C i < 6 ∧ cE C i ≤ 2 ∧ cR C i ≤ 9 ∧ cV C i < 64
def bw_ct (h : bw_H) (p : Nat) (C : CT) : Prop := co_s h p ∧ co_v h p C ∧ co_k C
theorem ct_sa {h : bw_H} {p q : Nat} {C : CT} {F : Nat → Int32} (hc : bw_ct h p C) (n0 : p ≠ q) (n2 : p + 2 ≠ q) (n4 : p + 4 ≠ q) (n6 : p + 6 ≠ q) (n8 : p + 8 ≠ q) : bw_ct (bw_sa h q F) p C := by
  refine ⟨hc.1, ?_, hc.2.2⟩
  unfold co_v
  rw [i_sa_o n0, i_sa_o n2, i_sa_o n4, i_sa_o n6, i_sa_o n8]
  exact hc.2.1
theorem ct_i {h h' : bw_H} {p : Nat} {C : CT} (hc : bw_ct h p C) (hs : co_s h' p) (n0 : bw_i h' p = bw_i h p) (n2 : bw_i h' (p + 2) = bw_i h (p + 2)) (n4 : bw_i h' (p + 4) = bw_i h (p + 4)) (n6 : bw_i h' (p + 6) = bw_i h (p + 6)) (n8 : bw_i h' (p + 8) = bw_i h (p + 8)) : bw_ct h' p C := by
  refine ⟨hs, ?_, hc.2.2⟩
  unfold co_v
  rw [n0, n2, n4, n6, n8]
  exact hc.2.1
set_option maxRecDepth 100000 in
set_option maxHeartbeats 4000000 in
theorem me_X1_hasBear {X : Nat × (Nat → Int32)} {Q : Option Value → bw_H → Prop} {h : bw_H} {p : Nat} {C : CT} (hc : bw_ct h p C) {i : Int32} (hQ : Q (some (.int (bi (decide (0 ≤ i.toInt ∧ i.toInt < cN C))))) h) : bw_me X 0 bm_X1_hasBear false [.ref p, .int i] h Q := by
  show bw_go _ 0 1 2 false (some .boolean) cX1_hasBear 0 [(0, .ref _), (1, .int _)] [] _ _
  refine go_iload_n dX1_hasBear_0 rfl ?_
  refine go_if_lt (pc' := 16) dX1_hasBear_1 rfl (fun c_1 => ?_) (fun c_1 => ?_)
  · -- lt at 1: yes
    show bw_go _ _ _ _ _ _ _ 16 [(0, .ref _), (1, .int _)] ([]) _ _
    refine go_iconst (0) dX1_hasBear_16 rfl ?_
    refine go_iret dX1_hasBear_17 rfl rfl ?_
    exact bi_0 (by have k1 := hc.2.2.1; have t_0 := nI_toInt (n := cN C) (by omega); have l_0 := i_0; simp only [i_le, i_lt] at *; first | exact decide_eq_true (by omega) | exact decide_eq_false (by omega)) hQ
  · -- lt at 1: no
    show bw_go _ _ _ _ _ _ _ 4 [(0, .ref _), (1, .int _)] ([]) _ _
    refine go_iload_n dX1_hasBear_4 rfl ?_
    refine go_aload_n dX1_hasBear_5 rfl ?_
    refine go_gfi dX1_hasBear_6 fl_1_9 rfl hc.1.1.1 hc.1.1.2.1 ?_
    rw [hc.2.1.1]
    refine go_icmp_ge (pc' := 16) dX1_hasBear_9 rfl (fun c_9 => ?_) (fun c_9 => ?_)
    · -- ge at 9: yes
      show bw_go _ _ _ _ _ _ _ 16 [(0, .ref _), (1, .int _)] ([]) _ _
      refine go_iconst (0) dX1_hasBear_16 rfl ?_
      refine go_iret dX1_hasBear_17 rfl rfl ?_
      exact bi_0 (by have k1 := hc.2.2.1; have t_0 := nI_toInt (n := cN C) (by omega); have l_0 := i_0; simp only [i_le, i_lt] at *; first | exact decide_eq_true (by omega) | exact decide_eq_false (by omega)) hQ
    · -- ge at 9: no
      show bw_go _ _ _ _ _ _ _ 12 [(0, .ref _), (1, .int _)] ([]) _ _
      refine go_iconst (1) dX1_hasBear_12 rfl ?_
      refine go_goto (pc' := 17) dX1_hasBear_13 rfl ?_
      show bw_go _ _ _ _ _ _ _ 17 [(0, .ref _), (1, .int _)] ((.int _) :: []) _ _
      refine go_iret dX1_hasBear_17 rfl rfl ?_
      exact bi_1 (by have k1 := hc.2.2.1; have t_0 := nI_toInt (n := cN C) (by omega); have l_0 := i_0; simp only [i_le, i_lt] at *; first | exact decide_eq_true (by omega) | exact decide_eq_false (by omega)) hQ
theorem all_t : ∀ n, n < 7 → (((1 : Int32) <<< (nI n &&& 31)) - 1) = nI (2 ^ n - 1) := by decide +kernel
set_option maxRecDepth 100000 in
set_option maxHeartbeats 4000000 in
theorem me_X1_allBears {X : Nat × (Nat → Int32)} {Q : Option Value → bw_H → Prop} {h : bw_H} {p : Nat} {C : CT} (hc : bw_ct h p C) (hQ : Q (some (.int (nI (2 ^ cN C - 1)))) h) : bw_me X 0 bm_X1_allBears false [.ref p] h Q := by
  show bw_go _ 0 1 1 false (some .int) cX1_allBears 0 [(0, .ref _)] [] _ _
  refine go_iconst (1) dX1_allBears_0 rfl ?_
  refine go_aload_n dX1_allBears_1 rfl ?_
  refine go_gfi dX1_allBears_2 fl_1_9 rfl hc.1.1.1 hc.1.1.2.1 ?_
  rw [hc.2.1.1]
  refine go_ishl dX1_allBears_5 ?_
  refine go_iconst (1) dX1_allBears_6 rfl ?_
  refine go_isub dX1_allBears_7 ?_
  refine go_iret dX1_allBears_8 rfl rfl ?_
  exact qi hQ (all_t _ (Nat.lt_succ_of_le hc.2.2.1))
theorem pw6 {n : Nat} (h : n ≤ 6) : 1 ≤ 2 ^ n ∧ 2 ^ n ≤ 64 := by
  rcases (show n = 0 ∨ n = 1 ∨ n = 2 ∨ n = 3 ∨ n = 4 ∨ n = 5 ∨ n = 6 by omega) with rfl | rfl | rfl | rfl | rfl | rfl | rfl <;> decide
set_option maxRecDepth 100000 in
set_option maxHeartbeats 4000000 in
theorem me_X1_isSet {X : Nat × (Nat → Int32)} {Q : Option Value → bw_H → Prop} {h : bw_H} {p : Nat} {C : CT} (hc : bw_ct h p C) {i : Int32} (hQ : Q (some (.int (bi (decide (0 ≤ i.toInt ∧ i.toInt < (2 ^ cN C : Nat)))))) h) : bw_me X 1 bm_X1_isSet false [.ref p, .int i] h Q := by
  show bw_go _ 1 1 2 false (some .boolean) cX1_isSet 0 [(0, .ref _), (1, .int _)] [] _ _
  refine go_iload_n dX1_isSet_0 rfl ?_
  refine go_if_lt (pc' := 16) dX1_isSet_1 rfl (fun c_1 => ?_) (fun c_1 => ?_)
  · -- lt at 1: yes
    show bw_go _ _ _ _ _ _ _ 16 [(0, .ref _), (1, .int _)] ([]) _ _
    refine go_iconst (0) dX1_isSet_16 rfl ?_
    refine go_iret dX1_isSet_17 rfl rfl ?_
    exact bi_0 (by have k1 := pw6 hc.2.2.1; have t_0 := nI_toInt (n := 2 ^ cN C - 1) (by omega); have l_0 := i_0; simp only [i_le, i_lt] at *; first | exact decide_eq_true (by omega) | exact decide_eq_false (by omega)) hQ
  · -- lt at 1: no
    show bw_go _ _ _ _ _ _ _ 4 [(0, .ref _), (1, .int _)] ([]) _ _
    refine go_iload_n dX1_isSet_4 rfl ?_
    refine go_aload_n dX1_isSet_5 rfl ?_
    refine go_cv (as := []) 0 dX1_isSet_6 mt_1_56 (Or.inl rfl) rfl rfl hc.1.1.1 hc.1.1.2.1 (Nat.le_of_ble_eq_true rfl) (Nat.le_of_ble_eq_true rfl) (Nat.le_of_ble_eq_true rfl) (Nat.le_of_ble_eq_true rfl) (Nat.le_of_ble_eq_true rfl) ?_
    refine me_X1_allBears hc ?_
    show bw_go _ _ _ _ _ _ _ 9 [(0, .ref _), (1, .int _)] ((.int _) :: (.int _) :: []) _ _
    refine go_icmp_gt (pc' := 16) dX1_isSet_9 rfl (fun c_9 => ?_) (fun c_9 => ?_)
    · -- gt at 9: yes
      show bw_go _ _ _ _ _ _ _ 16 [(0, .ref _), (1, .int _)] ([]) _ _
      refine go_iconst (0) dX1_isSet_16 rfl ?_
      refine go_iret dX1_isSet_17 rfl rfl ?_
      exact bi_0 (by have k1 := pw6 hc.2.2.1; have t_0 := nI_toInt (n := 2 ^ cN C - 1) (by omega); have l_0 := i_0; simp only [i_le, i_lt] at *; first | exact decide_eq_true (by omega) | exact decide_eq_false (by omega)) hQ
    · -- gt at 9: no
      show bw_go _ _ _ _ _ _ _ 12 [(0, .ref _), (1, .int _)] ([]) _ _
      refine go_iconst (1) dX1_isSet_12 rfl ?_
      refine go_goto (pc' := 17) dX1_isSet_13 rfl ?_
      show bw_go _ _ _ _ _ _ _ 17 [(0, .ref _), (1, .int _)] ((.int _) :: []) _ _
      refine go_iret dX1_isSet_17 rfl rfl ?_
      exact bi_1 (by have k1 := pw6 hc.2.2.1; have t_0 := nI_toInt (n := 2 ^ cN C - 1) (by omega); have l_0 := i_0; simp only [i_le, i_lt] at *; first | exact decide_eq_true (by omega) | exact decide_eq_false (by omega)) hQ
set_option maxRecDepth 100000 in
set_option maxHeartbeats 4000000 in
theorem me_X1_thoseOfKind {X : Nat × (Nat → Int32)} {Q : Option Value → bw_H → Prop} {h : bw_H} {p : Nat} {C : CT} (hc : bw_ct h p C) {w : Nat} (hw : w < 6) (hQ : Q (some (.int (nI (cnt (fun i => ofk (cK C i) w) (cN C))))) h) : bw_me X 1 bm_X1_thoseOfKind false [.ref p, .int (nI w)] h Q := by
  show bw_go _ 1 1 4 false (some .int) cX1_thoseOfKind 0 [(0, .ref _), (1, .int _)] [] _ _
  refine go_iconst (0) dX1_thoseOfKind_0 rfl ?_
  refine go_istore_n dX1_thoseOfKind_1 (Nat.lt_of_lt_of_le (Nat.lt_succ_self _) (Nat.le_of_ble_eq_true rfl)) ?_
  show bw_go _ _ _ _ _ _ _ 2 [(2, .int _), (0, .ref _), (1, .int _)] ([]) _ _
  refine go_iconst (0) dX1_thoseOfKind_2 rfl ?_
  refine go_istore_n dX1_thoseOfKind_3 (Nat.lt_of_lt_of_le (Nat.lt_succ_self _) (Nat.le_of_ble_eq_true rfl)) ?_
  show bw_go _ _ _ _ _ _ _ 4 [(3, .int _), (2, .int _), (0, .ref _), (1, .int _)] ([]) _ _
  refine go_for (P := fun k => bw_go X 1 1 4 false (some .int) cX1_thoseOfKind 4 [(3, .int (nI k)), (2, .int (nI (cnt (fun i => ofk (cK C i) w) k))), (0, .ref (p)), (1, .int (nI w))] [] h Q) (N := cN C) (fun k hk K => ?_) ?_ (0) (Nat.zero_le _)
  · -- a turn
    show bw_go _ _ _ _ _ _ _ 4 [(3, .int _), (2, .int _), (0, .ref _), (1, .int _)] ([]) _ _
    refine go_iload_n dX1_thoseOfKind_4 rfl ?_
    refine go_aload_n dX1_thoseOfKind_5 rfl ?_
    refine go_gfi dX1_thoseOfKind_6 fl_1_9 rfl hc.1.1.1 hc.1.1.2.1 ?_
    rw [hc.2.1.1]
    refine go_icmp_ge (pc' := 36) dX1_thoseOfKind_9 rfl (fun c_9 => ?_) (fun c_9 => ?_)
    · -- ge at 9: yes
      exfalso; have k1 := hc.2.2.1; have t_0 := nI_toInt (n := cN C) (by omega); have t_1 := nI_toInt (n := k) (by omega); simp only [i_le, i_lt, i_eq, bi_eq] at c_9; omega
    · -- ge at 9: no
      show bw_go _ _ _ _ _ _ _ 12 [(3, .int _), (2, .int _), (0, .ref _), (1, .int _)] ([]) _ _
      refine go_aload_n dX1_thoseOfKind_12 rfl ?_
      refine go_gfr dX1_thoseOfKind_13 fl_1_29 rfl hc.1.1.1 hc.1.1.2.1 hc.1.1.2.2.1 ?_
      refine go_iload_n dX1_thoseOfKind_16 rfl ?_
      refine go_cv (as := [.int _]) 0 dX1_thoseOfKind_17 mt_1_60 (Or.inr rfl) rfl rfl hc.1.2.1.1 hc.1.2.1.2.1 (Nat.le_of_ble_eq_true rfl) (Nat.le_of_ble_eq_true rfl) (Nat.le_of_ble_eq_true rfl) (Nat.le_of_ble_eq_true rfl) (Nat.le_of_ble_eq_true rfl) ?_
      refine me_X0_get hc.1.2.1 ?_
      rw [cg_n (Nat.lt_of_lt_of_le hk hc.2.2.1) (Nat.le_of_ble_eq_true rfl), (hc.2.1.2.2.2.2 _ hk).1]
      show bw_go _ _ _ _ _ _ _ 20 [(3, .int _), (2, .int _), (0, .ref _), (1, .int _)] ((.int _) :: []) _ _
      refine go_iload_n dX1_thoseOfKind_20 rfl ?_
      refine go_cs (as := [.int _, .int _]) 0 dX1_thoseOfKind_21 rfl rfl mt_1_64 (Nat.le_of_ble_eq_true rfl) rfl rfl (Nat.le_of_ble_eq_true rfl) (Nat.le_of_ble_eq_true rfl) (Nat.le_of_ble_eq_true rfl) (Nat.le_of_ble_eq_true rfl) ?_
      refine me_X7_isOfKind (hc.2.2.2.2.2.2 k hk).1 hw ?_
      show bw_go _ _ _ _ _ _ _ 24 [(3, .int _), (2, .int _), (0, .ref _), (1, .int _)] ((.int _) :: []) _ _
      refine go_ifb_eq (pc' := 30) dX1_thoseOfKind_24 rfl (fun c_24 => ?_) (fun c_24 => ?_)
      · -- eq at 24: yes
        show bw_go _ _ _ _ _ _ _ 30 [(3, .int _), (2, .int _), (0, .ref _), (1, .int _)] ([]) _ _
        refine go_iinc dX1_thoseOfKind_30 rfl (nI_1 k) (Nat.lt_of_lt_of_le (Nat.lt_succ_self _) (Nat.le_of_ble_eq_true rfl)) ?_
        show bw_go _ _ _ _ _ _ _ 33 [(3, .int _), (2, .int _), (0, .ref _), (1, .int _)] ([]) _ _
        refine go_goto (pc' := 4) dX1_thoseOfKind_33 rfl ?_
        first | exact K | (rw [← cnt_f (P := fun i => ofk (cK C i) w) c_24] at K; exact K)
      · -- eq at 24: no
        show bw_go _ _ _ _ _ _ _ 27 [(3, .int _), (2, .int _), (0, .ref _), (1, .int _)] ([]) _ _
        refine go_iinc dX1_thoseOfKind_27 rfl (cnt_t (P := fun i => ofk (cK C i) w) c_24) (Nat.lt_of_lt_of_le (Nat.lt_succ_self _) (Nat.le_of_ble_eq_true rfl)) ?_
        show bw_go _ _ _ _ _ _ _ 30 [(2, .int _), (3, .int _), (0, .ref _), (1, .int _)] ([]) _ _
        refine go_iinc dX1_thoseOfKind_30 rfl (nI_1 k) (Nat.lt_of_lt_of_le (Nat.lt_succ_self _) (Nat.le_of_ble_eq_true rfl)) ?_
        show bw_go _ _ _ _ _ _ _ 33 [(3, .int _), (2, .int _), (0, .ref _), (1, .int _)] ([]) _ _
        refine go_goto (pc' := 4) dX1_thoseOfKind_33 rfl ?_
        first | exact K | (rw [← cnt_f (P := fun i => ofk (cK C i) w) c_24] at K; exact K)
  · -- behind the last
    show bw_go _ _ _ _ _ _ _ 4 [(3, .int _), (2, .int _), (0, .ref _), (1, .int _)] ([]) _ _
    refine go_iload_n dX1_thoseOfKind_4 rfl ?_
    refine go_aload_n dX1_thoseOfKind_5 rfl ?_
    refine go_gfi dX1_thoseOfKind_6 fl_1_9 rfl hc.1.1.1 hc.1.1.2.1 ?_
    rw [hc.2.1.1]
    refine go_icmp_ge (pc' := 36) dX1_thoseOfKind_9 rfl (fun c_9 => ?_) (fun c_9 => ?_)
    · -- ge at 9: yes
      show bw_go _ _ _ _ _ _ _ 36 [(3, .int _), (2, .int _), (0, .ref _), (1, .int _)] ([]) _ _
      refine go_iload_n dX1_thoseOfKind_36 rfl ?_
      refine go_iret dX1_thoseOfKind_37 rfl rfl ?_
      exact hQ
    · -- ge at 9: no
      exfalso; have k1 := hc.2.2.1; have t_0 := nI_toInt (n := cN C) (by omega); simp only [i_le, i_lt, i_eq, bi_eq] at c_9; omega
def cbe (C : CT) (a i : Nat) : Bool := if a = 0 then decide (cR C i < 9) else if a = 1 then decide (0 < cR C i) else if a = 2 then decide (0 < cE C i) else true
