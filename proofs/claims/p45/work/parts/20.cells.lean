/-! Cells: ints that are looked up by an index that has been tested -/
def bw_ce (h : bw_H) (p q N : Nat) : Prop := p < bw_n h ∧ bw_k h p = .inl 0 ∧ bw_r h p 0 = some q ∧ q < bw_n h ∧ bw_k h q = .inr (.int, N) ∧ N < 100000
def cg (F : Nat → Int32) (N : Nat) (i : Int32) : Int32 := if 0 ≤ i.toInt ∧ i.toInt < N then F i.toNatClampNeg else 0
def cs (F : Nat → Int32) (N : Nat) (i v : Int32) : Nat → Int32 := if 0 ≤ i.toInt ∧ i.toInt < N then bw_up F i.toNatClampNeg v else F
def sm (F : Nat → Int32) : Nat → Int32
  | 0 => 0
  | k + 1 => sm F k + F k
theorem cg_n {F : Nat → Int32} {N k : Nat} (h : k < N) (hN : N < 100000) : cg F N (nI k) = F k := by
  unfold cg
  rw [nI_toInt (by omega), nI_clamp (by omega), if_pos (by omega)]
theorem cs_n {F : Nat → Int32} {N k : Nat} {v : Int32} (h : k < N) (hN : N < 100000) : cs F N (nI k) v = bw_up F k v := by
  unfold cs
  rw [nI_toInt (by omega), nI_clamp (by omega), if_pos (by omega)]
theorem i_le {a b : Int32} : a ≤ b ↔ a.toInt ≤ b.toInt := Int32.le_iff_toInt_le
theorem i_lt {a b : Int32} : a < b ↔ a.toInt < b.toInt := Int32.lt_iff_toInt_lt
theorem i_0 : (0 : Int32).toInt = 0 := rfl
theorem i_ge0 {a : Int32} (h : ¬ a < 0) : 0 ≤ a.toInt := by rw [i_lt, i_0] at h; omega
theorem i_in {a : Int32} {N : Nat} (h0 : ¬ a < 0) (h : ¬ nI N ≤ a) (hN : N < 100000) : 0 ≤ a.toInt ∧ a.toInt < N := by
  rw [i_le, nI_toInt (by omega)] at h
  exact ⟨i_ge0 h0, by omega⟩
theorem i_out {a : Int32} {N : Nat} (h : a < 0 ∨ nI N ≤ a) (hN : N < 100000) : ¬ (0 ≤ a.toInt ∧ a.toInt < N) := by
  rw [i_le, i_lt, i_0, nI_toInt (by omega)] at h
  omega
theorem n_in {k N : Nat} (h : k < N) (hN : N < 100000) : 0 ≤ (nI k).toInt ∧ (nI k).toInt < N := by rw [nI_toInt (by omega)]; omega
theorem bi_nar (b : Bool) : narrow .boolean (.int (bi b)) = .int (bi b) := by cases b <;> rfl
theorem bi_1 {Q : Option Value → bw_H → Prop} {h : bw_H} {b : Bool} (hb : b = true) (hQ : Q (some (.int (bi b))) h) : Q (some (.int 1)) h := by subst hb; exact hQ
theorem bi_0 {Q : Option Value → bw_H → Prop} {h : bw_H} {b : Bool} (hb : b = false) (hQ : Q (some (.int (bi b))) h) : Q (some (.int 0)) h := by subst hb; exact hQ
theorem sa_id (h : bw_H) (q : Nat) : bw_sa h q (bw_i h q) = h := by
  have e : bw_up h.2.2.1 q (bw_i h q) = h.2.2.1 := by
    funext a
    by_cases ha : a = q
    · subst ha; rw [bw_up_s]; rfl
    · rw [bw_up_o ha]
  show (h.1, h.2.1, bw_up h.2.2.1 q (bw_i h q), h.2.2.2) = h
  rw [e]
theorem si_sa (h : bw_H) (q k : Nat) (v : Int32) : bw_si h q k v = bw_sa h q (bw_up (bw_i h q) k v) := rfl
theorem sa_sa (h : bw_H) (q : Nat) (F G : Nat → Int32) : bw_sa (bw_sa h q F) q G = bw_sa h q G := by
  have e : bw_up (bw_up h.2.2.1 q F) q G = bw_up h.2.2.1 q G := by
    funext a
    by_cases ha : a = q
    · subst ha; rw [bw_up_s, bw_up_s]
    · rw [bw_up_o ha, bw_up_o ha, bw_up_o ha]
  show (h.1, h.2.1, bw_up (bw_up h.2.2.1 q F) q G, h.2.2.2) = _
  rw [e]
  rfl
theorem i_sa_s (h : bw_H) (q : Nat) (F : Nat → Int32) : bw_i (bw_sa h q F) q = F := bw_up_s _ _ _
theorem i_sa_o {h : bw_H} {p q : Nat} {F : Nat → Int32} (n : p ≠ q) : bw_i (bw_sa h q F) p = bw_i h p := bw_up_o n
set_option maxRecDepth 100000 in
set_option maxHeartbeats 4000000 in
theorem me_X0_get {X : Nat × (Nat → Int32)} {Q : Option Value → bw_H → Prop} {h : bw_H} {p q N : Nat} {i : Int32} (hc : bw_ce h p q N) (hQ : Q (some (.int (cg (bw_i h q) N i))) h) : bw_me X 0 bm_X0_get false [.ref p, .int i] h Q := by
  show bw_go _ 0 0 2 false (some .int) cX0_get 0 [(0, .ref _), (1, .int _)] [] _ _
  refine go_iload_n dX0_get_0 rfl ?_
  refine go_if_lt (pc' := 22) dX0_get_1 rfl (fun c_1 => ?_) (fun c_1 => ?_)
  · -- lt at 1: yes
    show bw_go _ _ _ _ _ _ _ 22 [(0, .ref _), (1, .int _)] ([]) _ _
    refine go_iconst (0) dX0_get_22 rfl ?_
    refine go_iret dX0_get_23 rfl rfl ?_
    unfold cg at hQ; rw [if_neg (i_out (Or.inl c_1) hc.2.2.2.2.2)] at hQ; exact hQ
  · -- lt at 1: no
    show bw_go _ _ _ _ _ _ _ 4 [(0, .ref _), (1, .int _)] ([]) _ _
    refine go_iload_n dX0_get_4 rfl ?_
    refine go_aload_n dX0_get_5 rfl ?_
    refine go_gfr dX0_get_6 fl_0_7 rfl hc.1 hc.2.1 hc.2.2.1 ?_
    refine go_len dX0_get_9 hc.2.2.2.2.1 hc.2.2.2.1 (Or.inl rfl) ?_
    refine go_icmp_ge (pc' := 22) dX0_get_10 rfl (fun c_10 => ?_) (fun c_10 => ?_)
    · -- ge at 10: yes
      show bw_go _ _ _ _ _ _ _ 22 [(0, .ref _), (1, .int _)] ([]) _ _
      refine go_iconst (0) dX0_get_22 rfl ?_
      refine go_iret dX0_get_23 rfl rfl ?_
      unfold cg at hQ; rw [if_neg (i_out (Or.inr c_10) hc.2.2.2.2.2)] at hQ; exact hQ
    · -- ge at 10: no
      show bw_go _ _ _ _ _ _ _ 13 [(0, .ref _), (1, .int _)] ([]) _ _
      refine go_aload_n dX0_get_13 rfl ?_
      refine go_gfr dX0_get_14 fl_0_7 rfl hc.1 hc.2.1 hc.2.2.1 ?_
      refine go_iload_n dX0_get_17 rfl ?_
      refine go_ia dX0_get_18 hc.2.2.2.2.1 hc.2.2.2.1 (i_in c_1 c_10 hc.2.2.2.2.2) ?_
      refine go_goto (pc' := 23) dX0_get_19 rfl ?_
      show bw_go _ _ _ _ _ _ _ 23 [(0, .ref _), (1, .int _)] ((.int _) :: []) _ _
      refine go_iret dX0_get_23 rfl rfl ?_
      unfold cg at hQ; rw [if_pos (i_in c_1 c_10 hc.2.2.2.2.2)] at hQ; exact hQ
set_option maxRecDepth 100000 in
set_option maxHeartbeats 4000000 in
theorem me_X0_set {X : Nat × (Nat → Int32)} {Q : Option Value → bw_H → Prop} {h : bw_H} {p q N : Nat} {i v : Int32} (hc : bw_ce h p q N) (hQ : Q none (bw_sa h q (cs (bw_i h q) N i v))) : bw_me X 0 bm_X0_set false [.ref p, .int i, .int v] h Q := by
  show bw_go _ 0 0 3 false none cX0_set 0 [(0, .ref _), (1, .int _), (2, .int _)] [] _ _
  refine go_iload_n dX0_set_0 rfl ?_
  refine go_if_lt (pc' := 20) dX0_set_1 rfl (fun c_1 => ?_) (fun c_1 => ?_)
  · -- lt at 1: yes
    show bw_go _ _ _ _ _ _ _ 20 [(0, .ref _), (1, .int _), (2, .int _)] ([]) _ _
    refine go_vret dX0_set_20 rfl ?_
    unfold cs at hQ; rw [if_neg (i_out (Or.inl c_1) hc.2.2.2.2.2), sa_id] at hQ; exact hQ
  · -- lt at 1: no
    show bw_go _ _ _ _ _ _ _ 4 [(0, .ref _), (1, .int _), (2, .int _)] ([]) _ _
    refine go_iload_n dX0_set_4 rfl ?_
    refine go_aload_n dX0_set_5 rfl ?_
    refine go_gfr dX0_set_6 fl_0_7 rfl hc.1 hc.2.1 hc.2.2.1 ?_
    refine go_len dX0_set_9 hc.2.2.2.2.1 hc.2.2.2.1 (Or.inl rfl) ?_
    refine go_icmp_ge (pc' := 20) dX0_set_10 rfl (fun c_10 => ?_) (fun c_10 => ?_)
    · -- ge at 10: yes
      show bw_go _ _ _ _ _ _ _ 20 [(0, .ref _), (1, .int _), (2, .int _)] ([]) _ _
      refine go_vret dX0_set_20 rfl ?_
      unfold cs at hQ; rw [if_neg (i_out (Or.inr c_10) hc.2.2.2.2.2), sa_id] at hQ; exact hQ
    · -- ge at 10: no
      show bw_go _ _ _ _ _ _ _ 13 [(0, .ref _), (1, .int _), (2, .int _)] ([]) _ _
      refine go_aload_n dX0_set_13 rfl ?_
      refine go_gfr dX0_set_14 fl_0_7 rfl hc.1 hc.2.1 hc.2.2.1 ?_
      refine go_iload_n dX0_set_17 rfl ?_
      refine go_iload_n dX0_set_18 rfl ?_
      refine go_ist dX0_set_19 hc.2.2.2.2.1 hc.2.2.2.1 (i_in c_1 c_10 hc.2.2.2.2.2) ?_
      show bw_go _ _ _ _ _ _ _ 20 [(0, .ref _), (1, .int _), (2, .int _)] ([]) _ _
      refine go_vret dX0_set_20 rfl ?_
      unfold cs at hQ; rw [if_pos (i_in c_1 c_10 hc.2.2.2.2.2)] at hQ; exact hQ
set_option maxRecDepth 100000 in
set_option maxHeartbeats 4000000 in
theorem me_X0_sum {X : Nat × (Nat → Int32)} {Q : Option Value → bw_H → Prop} {h : bw_H} {p q N n : Nat} (hc : bw_ce h p q N) (hn : n ≤ N) (hQ : Q (some (.int (sm (bw_i h q) n))) h) : bw_me X 0 bm_X0_sum false [.ref p, .int (nI n)] h Q := by
  show bw_go _ 0 0 4 false (some .int) cX0_sum 0 [(0, .ref _), (1, .int _)] [] _ _
  refine go_iconst (0) dX0_sum_0 rfl ?_
  refine go_istore_n dX0_sum_1 (Nat.lt_of_lt_of_le (Nat.lt_succ_self _) (Nat.le_of_ble_eq_true rfl)) ?_
  show bw_go _ _ _ _ _ _ _ 2 [(2, .int _), (0, .ref _), (1, .int _)] ([]) _ _
  refine go_iconst (0) dX0_sum_2 rfl ?_
  refine go_istore_n dX0_sum_3 (Nat.lt_of_lt_of_le (Nat.lt_succ_self _) (Nat.le_of_ble_eq_true rfl)) ?_
  show bw_go _ _ _ _ _ _ _ 4 [(3, .int _), (2, .int _), (0, .ref _), (1, .int _)] ([]) _ _
  refine go_for (P := fun k => bw_go X 0 0 4 false (some .int) cX0_sum 4 [(3, .int (nI k)), (2, .int (sm (bw_i h q) k)), (0, .ref p), (1, .int (nI n))] [] h Q) (N := n) (fun k hk K => ?_) ?_ 0 (Nat.zero_le _)
  · have hN := hc.2.2.2.2.2
    show bw_go _ _ _ _ _ _ _ 4 [(3, .int _), (2, .int _), (0, .ref _), (1, .int _)] ([]) _ _
    refine go_iload_n dX0_sum_4 rfl ?_
    refine go_iload_n dX0_sum_5 rfl ?_
    refine go_icmp_ge (pc' := 33) dX0_sum_6 rfl (fun c_6 => ?_) (fun c_6 => ?_)
    · -- ge at 6: yes
      exact absurd c_6 (nI_ge (by omega) (by omega))
    · -- ge at 6: no
      show bw_go _ _ _ _ _ _ _ 9 [(3, .int _), (2, .int _), (0, .ref _), (1, .int _)] ([]) _ _
      refine go_iload_n dX0_sum_9 rfl ?_
      refine go_aload_n dX0_sum_10 rfl ?_
      refine go_gfr dX0_sum_11 fl_0_7 rfl hc.1 hc.2.1 hc.2.2.1 ?_
      refine go_len dX0_sum_14 hc.2.2.2.2.1 hc.2.2.2.1 (Or.inl rfl) ?_
      refine go_icmp_ge (pc' := 33) dX0_sum_15 rfl (fun c_15 => ?_) (fun c_15 => ?_)
      · -- ge at 15: yes
        exact absurd c_15 (nI_ge (by omega) (by omega))
      · -- ge at 15: no
        show bw_go _ _ _ _ _ _ _ 18 [(3, .int _), (2, .int _), (0, .ref _), (1, .int _)] ([]) _ _
        refine go_iload_n dX0_sum_18 rfl ?_
        refine go_aload_n dX0_sum_19 rfl ?_
        refine go_gfr dX0_sum_20 fl_0_7 rfl hc.1 hc.2.1 hc.2.2.1 ?_
        refine go_iload_n dX0_sum_23 rfl ?_
        refine go_ia dX0_sum_24 hc.2.2.2.2.1 hc.2.2.2.1 (n_in (Nat.lt_of_lt_of_le hk hn) hc.2.2.2.2.2) ?_
        refine go_iadd dX0_sum_25 ?_
        refine go_istore_n dX0_sum_26 (Nat.lt_of_lt_of_le (Nat.lt_succ_self _) (Nat.le_of_ble_eq_true rfl)) ?_
        show bw_go _ _ _ _ _ _ _ 27 [(2, .int _), (3, .int _), (0, .ref _), (1, .int _)] ([]) _ _
        refine go_iinc dX0_sum_27 rfl (nI_1 k) (Nat.lt_of_lt_of_le (Nat.lt_succ_self _) (Nat.le_of_ble_eq_true rfl)) ?_
        show bw_go _ _ _ _ _ _ _ 30 [(3, .int _), (2, .int _), (0, .ref _), (1, .int _)] ([]) _ _
        refine go_goto (pc' := 4) dX0_sum_30 rfl ?_
        rw [nI_clamp (by omega)]; exact K
  · show bw_go _ _ _ _ _ _ _ 4 [(3, .int _), (2, .int _), (0, .ref _), (1, .int _)] ([]) _ _
    refine go_iload_n dX0_sum_4 rfl ?_
    refine go_iload_n dX0_sum_5 rfl ?_
    refine go_icmp_ge (pc' := 33) dX0_sum_6 rfl (fun c_6 => ?_) (fun c_6 => ?_)
    · -- ge at 6: yes
      show bw_go _ _ _ _ _ _ _ 33 [(3, .int _), (2, .int _), (0, .ref _), (1, .int _)] ([]) _ _
      refine go_iload_n dX0_sum_33 rfl ?_
      refine go_iret dX0_sum_34 rfl rfl ?_
      exact hQ
    · -- ge at 6: no
      exact absurd (nI_le (Nat.le_refl n) (by have := hc.2.2.2.2.2; omega)) c_6
