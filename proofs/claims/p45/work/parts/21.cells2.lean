/-! Cells: taking, moving, making -/
theorem i_eq {a b : Int32} : a = b ↔ a.toInt = b.toInt := Int32.toInt_inj.symm
theorem bi_eq {b : Bool} : (bi b).toInt = if b = true then 1 else 0 := by cases b <;> rfl
def mix (F G : Nat → Int32) (n : Nat) : Nat → Int32 := fun j => if j < n then F j else G j
theorem mix_0 (F G : Nat → Int32) : mix F G 0 = G := by funext j; unfold mix; rw [if_neg (by omega)]
theorem mix_s (F G : Nat → Int32) (k : Nat) : bw_up (mix F G k) k (F k) = mix F G (k + 1) := by
  funext j
  unfold bw_up mix
  by_cases h : j = k
  · subst h; rw [if_pos rfl, if_pos (by omega)]
  · rw [if_neg h]
    by_cases h2 : j < k
    · rw [if_pos h2, if_pos (by omega)]
    · rw [if_neg h2, if_neg (by omega)]
theorem ce_sa {h : bw_H} {p q N a : Nat} {F : Nat → Int32} (hc : bw_ce h p q N) : bw_ce (bw_sa h a F) p q N := hc
set_option maxRecDepth 100000 in
set_option maxHeartbeats 4000000 in
theorem me_X0_take {X : Nat × (Nat → Int32)} {Q : Option Value → bw_H → Prop} {h : bw_H} {p q p1 q1 N : Nat} (hc : bw_ce h p q N) (hc1 : bw_ce h p1 q1 N) (hne : q1 ≠ q) (hQ : Q none (bw_sa h q (mix (bw_i h q1) (bw_i h q) N))) : bw_me X 1 bm_X0_take false [.ref p, .ref p1] h Q := by
  show bw_go _ 1 0 3 false none cX0_take 0 [(0, .ref _), (1, .ref _)] [] _ _
  refine go_iconst (0) dX0_take_0 rfl ?_
  refine go_istore_n dX0_take_1 (Nat.lt_of_lt_of_le (Nat.lt_succ_self _) (Nat.le_of_ble_eq_true rfl)) ?_
  show bw_go _ _ _ _ _ _ _ 2 [(2, .int _), (0, .ref _), (1, .ref _)] ([]) _ _
  have e0 : h = bw_sa h q (mix (bw_i h q1) (bw_i h q) 0) := by rw [mix_0, sa_id]
  suffices hz : bw_go X 1 0 3 false none cX0_take 2 [(2, .int (nI 0)), (0, .ref p), (1, .ref p1)] [] (bw_sa h q (mix (bw_i h q1) (bw_i h q) 0)) Q by rw [← e0] at hz; exact hz
  refine go_for (P := fun k => bw_go X 1 0 3 false none cX0_take 2 [(2, .int (nI k)), (0, .ref (p)), (1, .ref (p1))] [] (bw_sa h q (mix (bw_i h q1) (bw_i h q) k)) Q) (N := N) (fun k hk K => ?_) ?_ (0) (Nat.zero_le _)
  · -- a turn
    have hN := hc.2.2.2.2.2
    show bw_go _ _ _ _ _ _ _ 2 [(2, .int _), (0, .ref _), (1, .ref _)] ([]) _ _
    refine go_iload_n dX0_take_2 rfl ?_
    refine go_aload_n dX0_take_3 rfl ?_
    refine go_gfr dX0_take_4 fl_0_7 rfl hc.1 hc.2.1 hc.2.2.1 ?_
    refine go_len dX0_take_7 hc.2.2.2.2.1 hc.2.2.2.1 (Or.inl rfl) ?_
    refine go_icmp_ge (pc' := 28) dX0_take_8 rfl (fun c_8 => ?_) (fun c_8 => ?_)
    · -- ge at 8: yes
      exfalso; have t_0 := nI_toInt (n := N) (by omega); have t_1 := nI_toInt (n := k) (by omega); simp only [i_le, i_lt, i_eq, bi_eq] at c_8; omega
    · -- ge at 8: no
      show bw_go _ _ _ _ _ _ _ 11 [(2, .int _), (0, .ref _), (1, .ref _)] ([]) _ _
      refine go_aload_n dX0_take_11 rfl ?_
      refine go_gfr dX0_take_12 fl_0_7 rfl hc.1 hc.2.1 hc.2.2.1 ?_
      refine go_iload_n dX0_take_15 rfl ?_
      refine go_aload_n dX0_take_16 rfl ?_
      refine go_iload_n dX0_take_17 rfl ?_
      refine go_cv (as := [.int _]) 0 dX0_take_18 mt_0_13 (Or.inl rfl) rfl rfl hc1.1 hc1.2.1 (Nat.le_of_ble_eq_true rfl) (Nat.le_of_ble_eq_true rfl) (Nat.le_of_ble_eq_true rfl) (Nat.le_of_ble_eq_true rfl) (Nat.le_of_ble_eq_true rfl) ?_
      refine me_X0_get (ce_sa hc1) ?_
      rw [cg_n hk hN, i_sa_o hne]
      show bw_go _ _ _ _ _ _ _ 21 [(2, .int _), (0, .ref _), (1, .ref _)] ((.int _) :: (.int _) :: (.ref _) :: []) _ _
      refine go_ist dX0_take_21 hc.2.2.2.2.1 hc.2.2.2.1 (n_in hk hN) ?_
      show bw_go _ _ _ _ _ _ _ 22 [(2, .int _), (0, .ref _), (1, .ref _)] ([]) _ _
      refine go_iinc dX0_take_22 rfl (nI_1 k) (Nat.lt_of_lt_of_le (Nat.lt_succ_self _) (Nat.le_of_ble_eq_true rfl)) ?_
      show bw_go _ _ _ _ _ _ _ 25 [(2, .int _), (0, .ref _), (1, .ref _)] ([]) _ _
      refine go_goto (pc' := 2) dX0_take_25 rfl ?_
      rw [nI_clamp (by omega), si_sa, i_sa_s, sa_sa, mix_s]; exact K
  · -- behind the last
    show bw_go _ _ _ _ _ _ _ 2 [(2, .int _), (0, .ref _), (1, .ref _)] ([]) _ _
    refine go_iload_n dX0_take_2 rfl ?_
    refine go_aload_n dX0_take_3 rfl ?_
    refine go_gfr dX0_take_4 fl_0_7 rfl hc.1 hc.2.1 hc.2.2.1 ?_
    refine go_len dX0_take_7 hc.2.2.2.2.1 hc.2.2.2.1 (Or.inl rfl) ?_
    refine go_icmp_ge (pc' := 28) dX0_take_8 rfl (fun c_8 => ?_) (fun c_8 => ?_)
    · -- ge at 8: yes
      show bw_go _ _ _ _ _ _ _ 28 [(2, .int _), (0, .ref _), (1, .ref _)] ([]) _ _
      refine go_vret dX0_take_28 rfl ?_
      exact hQ
    · -- ge at 8: no
      exfalso; have hN := hc.2.2.2.2.2; have t_0 := nI_toInt (n := N) (by omega); simp only [i_le, i_lt, i_eq, bi_eq] at c_8; omega
theorem isub_t {n N : Nat} (h : n ≤ N) (hN : N < 100000) : (nI N - nI n).toInt = (N : Int) - n := by
  have := pk_sub_toInt (a := N) (b := n) (by omega) (by omega)
  exact this
