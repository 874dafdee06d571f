/-! Court: a deed more, deeds taken back -/
def acT (A : AC) (k : Nat) : AC := ((cN A.1, cD A.1, cW A.1, k, cK A.1, cE A.1, cR A.1, cV A.1), A.2.1, A.2.2)
def acP (A : AC) (a i : Nat) : AC := ((cN A.1, cD A.1, cW A.1, cT A.1 + 1, cK A.1, cE A.1, cR A.1, cV A.1), bw_up A.2.1 (cT A.1) a, bw_up A.2.2 (cT A.1) i)
/-- only values matter to what follows: wall, eyes, wear behind k deeds -/
def sam (C C' : CT) : Prop := cW C = cW C' ∧ cE C = cE C' ∧ cR C = cR C'
theorem sam_st {C C' : CT} (h : sam C C') (a b : Nat) : sam (stC a b C) (stC a b C') := by
  obtain ⟨h1, h2, h3⟩ := h
  unfold sam stC
  show (stp a b (cE C, cR C, cW C)).2.2 = (stp a b (cE C', cR C', cW C')).2.2 ∧ (stp a b (cE C, cR C, cW C)).1 = (stp a b (cE C', cR C', cW C')).1 ∧ (stp a b (cE C, cR C, cW C)).2.1 = (stp a b (cE C', cR C', cW C')).2.1
  rw [h1, h2, h3]
  exact ⟨rfl, rfl, rfl⟩
theorem sam_acT (A : AC) (m : Nat) : ∀ k, sam (hst (acT A m) k) (hst A k)
  | 0 => ⟨rfl, rfl, rfl⟩
  | k + 1 => sam_st (sam_acT A m k) _ _
theorem sam_acP (A : AC) (a i : Nat) : ∀ k, k ≤ cT A.1 → sam (hst (acP A a i) k) (hst A k)
  | 0, _ => ⟨rfl, rfl, rfl⟩
  | k + 1, h => by
    have ih := sam_acP A a i k (by omega)
    have e1 : (acP A a i).2.1 k = A.2.1 k := bw_up_o (by omega)
    have e2 : (acP A a i).2.2 k = A.2.2 k := bw_up_o (by omega)
    show sam (stC ((acP A a i).2.1 k) ((acP A a i).2.2 k) (hst (acP A a i) k)) _
    rw [e1, e2]
    exact sam_st ih _ _
theorem hsT_sam {A B : AC} {k : Nat} (h : sam (hst A k) (hst B k)) (h1 : cN A.1 = cN B.1) (h2 : cD A.1 = cD B.1) (h3 : cK A.1 = cK B.1) (h4 : cV A.1 = cV B.1) : hsT A k = hsT B k := by
  unfold hsT
  rw [h1, h2, h3, h4, h.1, h.2.1, h.2.2]
theorem hsT_acT (A : AC) (m k : Nat) : hsT (acT A m) k = hsT A k := hsT_sam (sam_acT A m k) rfl rfl rfl rfl
theorem hsT_acP (A : AC) (a i : Nat) {k : Nat} (hk : k ≤ cT A.1) : hsT (acP A a i) k = hsT A k := hsT_sam (sam_acP A a i k hk) rfl rfl rfl rfl
theorem cbe_sam {C C' : CT} (h : sam C C') (a i : Nat) : cbe C a i = cbe C' a i := by
  unfold cbe
  rw [h.2.1, h.2.2]
theorem sam_hsT (A : AC) (k : Nat) : sam (hsT A k) (hst A k) := ⟨rfl, rfl, rfl⟩
theorem sam_s {C C' : CT} (h : sam C C') : sam C' C := ⟨h.1.symm, h.2.1.symm, h.2.2.symm⟩
theorem sam_t {C C' C'' : CT} (h : sam C C') (h2 : sam C' C'') : sam C C'' := ⟨h.1.trans h2.1, h.2.1.trans h2.2.1, h.2.2.trans h2.2.2⟩
theorem ac_acP {A : AC} {a i : Nat} (h : ac_k A) (h40 : cT A.1 < 40) (ha : a < 5) (hi : i < cN A.1) (hb : cbe (hsT A (cT A.1)) a i = true) : ac_k (acP A a i) := by
  refine ⟨?_, h40, fun k hk => ?_⟩
  · obtain ⟨k1, k2, k3, k4, k5⟩ := h.1
    exact ⟨k1, k2, k3, h40, k5⟩
  · have hk : k < cT A.1 + 1 := hk
    have e : cbe (hst (acP A a i) k) = cbe (hst A k) := by funext x y; exact cbe_sam (sam_acP A a i k (by omega)) x y
    rw [e]
    by_cases hk2 : k = cT A.1
    · subst hk2
      show bw_up A.2.1 (cT A.1) a (cT A.1) < 5 ∧ bw_up A.2.2 (cT A.1) i (cT A.1) < cN A.1 ∧ cbe _ (bw_up A.2.1 (cT A.1) a (cT A.1)) (bw_up A.2.2 (cT A.1) i (cT A.1)) = true
      rw [bw_up_s, bw_up_s, ← cbe_sam (sam_hsT A (cT A.1))]
      exact ⟨ha, hi, hb⟩
    · show bw_up A.2.1 (cT A.1) a k < 5 ∧ bw_up A.2.2 (cT A.1) i k < cN A.1 ∧ cbe _ (bw_up A.2.1 (cT A.1) a k) (bw_up A.2.2 (cT A.1) i k) = true
      rw [bw_up_o hk2, bw_up_o hk2]
      exact h.2.2 k (by omega)
theorem ac_acT {A : AC} (h : ac_k A) {m : Nat} (hm : m ≤ cT A.1) : ac_k (acT A m) := by
  refine ⟨?_, Nat.le_trans hm h.2.1, fun k hk => ?_⟩
  · obtain ⟨k1, k2, k3, k4, k5⟩ := h.1
    exact ⟨k1, k2, k3, Nat.le_trans hm h.2.1, k5⟩
  · have hk : k < m := hk
    rw [cbe_sam (sam_acT A m k)]
    exact h.2.2 k (by omega)
/-- the court is the same but for its count of deeds -/
theorem ct_T {h h' : bw_H} {p k : Nat} {C : CT} {A : AC} (hc : bw_ct h p C) (hs : co_s h' p) (e1 : cN C = cN A.1) (e2 : cD C = cD A.1) (e3 : cK C = cK A.1) (e4 : cV C = cV A.1) (hsm : sam C (hst A k)) (h40 : k ≤ 40)
    (i0 : ∀ j, j < 3 → bw_i h' p j = bw_i h p j) (i3 : bw_i h' p 3 = nI k) (n2 : bw_i h' (p + 2) = bw_i h (p + 2)) (n4 : bw_i h' (p + 4) = bw_i h (p + 4)) (n6 : bw_i h' (p + 6) = bw_i h (p + 6)) (n8 : bw_i h' (p + 8) = bw_i h (p + 8)) : bw_ct h' p (hsT A k) := by
  obtain ⟨-, ⟨v0, v1, v2, v3, v4⟩, k1, k2, k3, k4, k5⟩ := hc
  refine ⟨hs, ⟨?_, ?_, ?_, i3, fun i hi => ?_⟩, ?_, ?_, ?_, h40, fun i hi => ?_⟩
  · rw [i0 0 (by decide), v0, e1]; rfl
  · rw [i0 1 (by decide), v1, e2]; rfl
  · rw [i0 2 (by decide), v2, hsm.1]; rfl
  · rw [n2, n4, n6, n8]
    have := v4 i (by rw [e1]; exact hi)
    rw [e3, hsm.2.1, hsm.2.2, e4] at this
    exact this
  · rw [e1] at k1; exact k1
  · rw [e2] at k2; exact k2
  · rw [hsm.1] at k3; exact k3
  · have := k5 i (by rw [e1]; exact hi)
    rw [e3, hsm.2.1, hsm.2.2, e4] at this
    exact this
theorem acP_sam (A : AC) (a i : Nat) : sam (stC a i (hsT A (cT A.1))) (hst (acP A a i) (cT A.1 + 1)) := by
  have h1 := sam_t (sam_hsT A (cT A.1)) (sam_s (sam_acP A a i (cT A.1) (Nat.le_refl _)))
  have e1 : (acP A a i).2.1 (cT A.1) = a := bw_up_s _ _ _
  have e2 : (acP A a i).2.2 (cT A.1) = i := bw_up_s _ _ _
  show sam _ (stC ((acP A a i).2.1 (cT A.1)) ((acP A a i).2.2 (cT A.1)) (hst (acP A a i) (cT A.1)))
  rw [e1, e2]
  exact sam_st h1 a i
set_option maxRecDepth 100000 in
set_option maxHeartbeats 4000000 in
theorem me_X1_commit {X : Nat × (Nat → Int32)} {Q : Option Value → bw_H → Prop} {h : bw_H} {p a i : Nat} {A : AC} (hx : xco h p A (cT A.1)) (h40 : cT A.1 < 40) (ha : a < 5) (hi : i < cN A.1) (hb : cbe (hsT A (cT A.1)) a i = true) (hQ : ∀ I : Nat → Nat → Int32, (xco (bw_wi h I) p (acP A a i) (cT A.1 + 1) ∧ ∀ q, ¬ co_pl p q → I q = bw_i h q) → Q none (bw_wi h I)) : bw_me X 2 bm_X1_commit false [.ref p, .int (nI a), .int (nI i)] h Q := by
  show bw_go _ 2 1 3 false none cX1_commit 0 [(0, .ref _), (1, .int _), (2, .int _)] [] _ _
  obtain ⟨hc, hd⟩ := hx
  have hs0 := hc.1
  refine go_aload_n dX1_commit_0 rfl ?_
  refine go_gfi dX1_commit_1 fl_1_21 rfl hc.1.1.1 hc.1.1.2.1 ?_
  rw [hc.2.1.2.2.2.1]
  refine go_bipush (40) dX1_commit_4 rfl ?_
  refine go_icmp_lt (pc' := 10) dX1_commit_6 rfl (fun c_6 => ?_) (fun c_6 => ?_)
  · -- lt at 6: yes
    show bw_go _ _ _ _ _ _ _ 10 [(0, .ref _), (1, .int _), (2, .int _)] ([]) _ _
    refine go_aload_n dX1_commit_10 rfl ?_
    refine go_iload_n dX1_commit_11 rfl ?_
    refine go_iload_n dX1_commit_12 rfl ?_
    refine go_iconst (1) dX1_commit_13 rfl ?_
    refine go_cv (as := [.int _, .int _, .int _]) 1 dX1_commit_14 mt_1_68 (Or.inl rfl) rfl rfl hc.1.1.1 hc.1.1.2.1 (Nat.le_of_ble_eq_true rfl) (Nat.le_of_ble_eq_true rfl) (Nat.le_of_ble_eq_true rfl) (Nat.le_of_ble_eq_true rfl) (Nat.le_of_ble_eq_true rfl) ?_
    refine me_X1_change hc.1 ha (Nat.lt_of_lt_of_le hi hc.2.2.1) ?_
    have hc1 := chg_1 hc ha hi hb
    show bw_go _ _ _ _ _ _ _ 17 [(0, .ref _), (1, .int _), (2, .int _)] ([]) _ _
    have d3 : bw_i (chg h p a i 1) p 3 = nI (cT A.1) := hc1.2.1.2.2.2.1
    refine go_aload_n dX1_commit_17 rfl ?_
    refine go_gfr dX1_commit_18 fl_1_42 rfl hc1.1.1.1 hc1.1.1.2.1 hc1.1.1.2.2.2.2.2.2.1 ?_
    refine go_aload_n dX1_commit_21 rfl ?_
    refine go_gfi dX1_commit_22 fl_1_21 rfl hc1.1.1.1 hc1.1.1.2.1 ?_
    rw [d3]
    refine go_iload_n dX1_commit_25 rfl ?_
    refine go_cv (as := [.int _, .int _]) 0 dX1_commit_26 mt_1_52 (Or.inr rfl) rfl rfl hc1.1.2.2.2.2.2.1.1 hc1.1.2.2.2.2.2.1.2.1 (Nat.le_of_ble_eq_true rfl) (Nat.le_of_ble_eq_true rfl) (Nat.le_of_ble_eq_true rfl) (Nat.le_of_ble_eq_true rfl) (Nat.le_of_ble_eq_true rfl) ?_
    refine me_X0_set hc1.1.2.2.2.2.2.1 ?_
    rw [cs_n (N := 40) h40 (by decide)]
    show bw_go _ _ _ _ _ _ _ 29 [(0, .ref _), (1, .int _), (2, .int _)] ([]) _ _
    refine go_aload_n dX1_commit_29 rfl ?_
    refine go_gfr dX1_commit_30 fl_1_45 rfl hc1.1.1.1 hc1.1.1.2.1 hc1.1.1.2.2.2.2.2.2.2 ?_
    refine go_aload_n dX1_commit_33 rfl ?_
    refine go_gfi dX1_commit_34 fl_1_21 rfl hc1.1.1.1 hc1.1.1.2.1 ?_
    rw [i_sa_o (by omega), d3]
    refine go_iload_n dX1_commit_37 rfl ?_
    refine go_cv (as := [.int _, .int _]) 0 dX1_commit_38 mt_1_52 (Or.inr rfl) rfl rfl hc1.1.2.2.2.2.2.2.1 hc1.1.2.2.2.2.2.2.2.1 (Nat.le_of_ble_eq_true rfl) (Nat.le_of_ble_eq_true rfl) (Nat.le_of_ble_eq_true rfl) (Nat.le_of_ble_eq_true rfl) (Nat.le_of_ble_eq_true rfl) ?_
    refine me_X0_set hc1.1.2.2.2.2.2.2 ?_
    rw [cs_n (N := 40) h40 (by decide)]
    show bw_go _ _ _ _ _ _ _ 41 [(0, .ref _), (1, .int _), (2, .int _)] ([]) _ _
    refine go_aload_n dX1_commit_41 rfl ?_
    refine go_dupA dX1_commit_42 ?_
    refine go_gfi dX1_commit_43 fl_1_21 rfl hc1.1.1.1 hc1.1.1.2.1 ?_
    rw [i_sa_o (by omega), i_sa_o (by omega), d3]
    refine go_iconst (1) dX1_commit_46 rfl ?_
    refine go_iadd dX1_commit_47 ?_
    refine go_pfi dX1_commit_48 fl_1_21 rfl hc1.1.1.1 hc1.1.1.2.1 (Nat.le_of_ble_eq_true rfl) (Or.inl rfl) ?_
    show bw_go _ _ _ _ _ _ _ 51 [(0, .ref _), (1, .int _), (2, .int _)] ([]) _ _
    refine go_vret dX1_commit_51 rfl ?_
    obtain ⟨cf1, cf2⟩ := chg_fr h p a i 1
    refine wi_q hQ (by rw [cf1]; rfl) ⟨⟨?_, fun j hj => ?_⟩, fun q hq => ?_⟩
    · skip
      refine ct_T (A := acP A a i) (k := cT A.1 + 1) hc1 hs0 rfl rfl rfl rfl (acP_sam A a i) h40 (fun j hj => ?_) ?_ ?_ ?_ ?_ ?_
      · simp (disch := omega) only [i_wi, i_si_s, i_sa_o, bw_up_o]
      · simp (disch := omega) only [i_wi, i_si_s, i_sa_o, bw_up_s, nI_1]
      · simp (disch := omega) only [i_wi, i_si_o, i_sa_o]
      · simp (disch := omega) only [i_wi, i_si_o, i_sa_o]
      · simp (disch := omega) only [i_wi, i_si_o, i_sa_o]
      · simp (disch := omega) only [i_wi, i_si_o, i_sa_o]
    · show bw_i _ (p + 10) j = nI (bw_up A.2.1 (cT A.1) a j) ∧ bw_i _ (p + 12) j = nI (bw_up A.2.2 (cT A.1) i j)
      simp (disch := omega) only [i_wi, i_si_o, i_sa_o, i_sa_s]
      rw [cf2 (p + 10) (by omega) (by omega) (by omega), cf2 (p + 12) (by omega) (by omega) (by omega)]
      unfold bw_up
      by_cases hj2 : j = cT A.1
      · rw [if_pos hj2, if_pos hj2, if_pos hj2, if_pos hj2]; exact ⟨rfl, rfl⟩
      · rw [if_neg hj2, if_neg hj2, if_neg hj2, if_neg hj2]; exact hd j (by omega)
    · unfold co_pl at hq
      simp (disch := omega) only [i_wi, i_si_o, i_sa_o]
      exact cf2 q (by omega) (by omega) (by omega)
  · -- lt at 6: no
    show bw_go _ _ _ _ _ _ _ 9 [(0, .ref _), (1, .int _), (2, .int _)] ([]) _ _
    refine go_vret dX1_commit_9 rfl ?_
    exfalso; have t_0 : (nI (cT (hsT A (cT A.1)))).toInt = (cT A.1 : Int) := nI_toInt (n := cT A.1) (by omega); have l_0 : (40 : Int32).toInt = 40 := rfl; simp only [i_lt] at c_6; omega
