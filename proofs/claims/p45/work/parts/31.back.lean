/-! Court: deeds taken back -/
theorem chg_s {h : bw_H} {p p1 a i : Nat} {v : Int32} (hs : co_s h p) : co_s (chg h p1 a i v) p := by
  unfold chg
  repeat' split
  all_goals exact hs
theorem dec_n {k : Nat} : nI k - 1 + Int32.ofInt (-1) = nI k - 1 - 1 := by
  apply Int32.toBitVec_inj.mp
  show (nI k).toBitVec - 1#32 + (-1#32) = (nI k).toBitVec - 1#32 - 1#32
  rw [BitVec.sub_eq_add_neg _ (1#32), BitVec.sub_eq_add_neg _ (1#32)]
theorem nsub_t {k : Nat} (h : k < 1000) : (nI k - 1).toInt = (k : Int) - 1 := by
  have := pk_sub_toInt (a := k) (b := 1) (by omega) (by omega)
  exact this
/-- the court behind m deeds of A, whatever else stands in its rows -/
def tbi (h g : bw_H) (p : Nat) (A : AC) (m : Nat) : Prop := (g = bw_wi h (bw_i g) ∧ ∀ q, ¬ co_pl p q → bw_i g q = bw_i h q) ∧ xco g p A m
theorem hsT_succ (A : AC) (m : Nat) : sam (hsT A (m + 1)) (stC (A.2.1 m) (A.2.2 m) (hsT A m)) := sam_st (sam_s (sam_hsT A m)) _ _
theorem ct_sam {h : bw_H} {p : Nat} {C C' : CT} (hc : bw_ct h p C) (h1 : sam C C') (e0 : cN C = cN C') (e1 : cD C = cD C') (e2 : cK C = cK C') (e3 : cV C = cV C') (i3 : bw_i h p 3 = nI (cT C')) (k3 : cT C' ≤ 40) : bw_ct h p C' := by
  obtain ⟨hs, ⟨v0, v1, v2, v3, v4⟩, k1, k2, k3', k4, k5⟩ := hc
  rw [e0] at v0 v4 k1 k5
  rw [e1] at v1 k2
  rw [h1.1] at v2 k3'
  rw [e2, h1.2.1, h1.2.2, e3] at v4 k5
  exact ⟨hs, ⟨v0, v1, v2, i3, v4⟩, k1, k2, k3', k3, k5⟩
theorem dec1 {m : Nat} : nI m + Int32.ofInt (-1) = nI m - 1 := by
  apply Int32.toBitVec_inj.mp
  show (nI m).toBitVec + (-1#32) = (nI m).toBitVec - 1#32
  rw [BitVec.sub_eq_add_neg]
theorem tb_go {h g : bw_H} {p m : Nat} {A : AC} (hA : ac_k A) (hm : m < cT A.1) (hi : tbi h g p A (m + 1)) : tbi h (bw_si (chg g p (A.2.1 m) (A.2.2 m) (-1)) p 3 (nI m)) p A m := by
  obtain ⟨d1, d2, d3⟩ := hA.2.2 m hm
  have hb : cbe (hsT A m) (A.2.1 m) (A.2.2 m) = true := by rw [cbe_sam (sam_hsT A m)]; exact d3
  have hc := hi.2.1
  obtain ⟨⟨f1, f2⟩, -, hd⟩ := hi
  obtain ⟨cf1, cf2⟩ := chg_fr g p (A.2.1 m) (A.2.2 m) (-1)
  have hT := hA.2.1
  let C2 : CT := (cN A.1, cD A.1, cW (hsT A m), m + 1, cK A.1, cE (hsT A m), cR (hsT A m), cV A.1)
  have hk2 : co_k C2 := by
    obtain ⟨k1, k2, k3, k4, k5⟩ := hsT_k hA (Nat.le_of_lt hm)
    exact ⟨k1, k2, k3, by show m + 1 ≤ 40; omega, k5⟩
  have hb2 : cbe C2 (A.2.1 m) (A.2.2 m) = true := hb
  have hst : bw_ct g p (stC (A.2.1 m) (A.2.2 m) C2) := ct_sam hc (sam_t (sam_hsT A (m + 1)) (sam_st (C' := C2) ⟨rfl, rfl, rfl⟩ _ _)) rfl rfl rfl rfl hc.2.1.2.2.2.1 (by show m + 1 ≤ 40; omega)
  have hc1 := chg_m1 hst hk2 d1 d2 hb2
  refine ⟨⟨by rw [cf1, f1]; rfl, fun q hq => ?_⟩, ?_, fun j hj => ?_⟩
  · have hq2 := hq
    unfold co_pl at hq
    rw [i_si_o (by omega), cf2 q (by omega) (by omega) (by omega)]
    exact f2 q hq2
  · refine ct_T (A := A) (k := m) hc1 hc1.1 rfl rfl rfl rfl ⟨rfl, rfl, rfl⟩ (by omega) (fun j hj => ?_) ?_ ?_ ?_ ?_ ?_
    · rw [i_si_s, bw_up_o (by omega)]
    · rw [i_si_s, bw_up_s]
    · rw [i_si_o (by omega)]
    · rw [i_si_o (by omega)]
    · rw [i_si_o (by omega)]
    · rw [i_si_o (by omega)]
  · rw [i_si_o (by omega), i_si_o (by omega), cf2 _ (by omega) (by omega) (by omega), cf2 _ (by omega) (by omega) (by omega)]
    exact hd j (by omega)
set_option maxRecDepth 100000 in
set_option maxHeartbeats 4000000 in
theorem me_X1_takeBackTo {X : Nat × (Nat → Int32)} {Q : Option Value → bw_H → Prop} {h : bw_H} {p n : Nat} {A : AC} (hA : ac_k A) (hx : xco h p A (cT A.1)) (hn : n ≤ cT A.1) (hQ : ∀ I : Nat → Nat → Int32, (xco (bw_wi h I) p A n ∧ ∀ q, ¬ co_pl p q → I q = bw_i h q) → Q none (bw_wi h I)) : bw_me X 2 bm_X1_takeBackTo false [.ref p, .int (nI n)] h Q := by
  show bw_go _ 2 1 3 false none cX1_takeBackTo 0 [(0, .ref _), (1, .int _)] [] _ _
  have hc := hx.1
  refine go_aload_n dX1_takeBackTo_0 rfl ?_
  refine go_gfi dX1_takeBackTo_1 fl_1_21 rfl hc.1.1.1 hc.1.1.2.1 ?_
  rw [hc.2.1.2.2.2.1]
  refine go_iconst (1) dX1_takeBackTo_4 rfl ?_
  refine go_isub dX1_takeBackTo_5 ?_
  refine go_istore_n dX1_takeBackTo_6 (Nat.lt_of_lt_of_le (Nat.lt_succ_self _) (Nat.le_of_ble_eq_true rfl)) ?_
  show bw_go _ _ _ _ _ _ _ 7 [(2, .int _), (0, .ref _), (1, .int _)] ([]) _ _
  have hv0 : tbi h h p A (cT A.1 - 0) := ⟨⟨rfl, fun q _ => rfl⟩, hx⟩
  refine go_for (P := fun k => ∀ g : bw_H, (tbi h g p A (cT A.1 - k)) → bw_go X 2 1 3 false none cX1_takeBackTo 7 [(2, .int (nI (cT A.1 - k) - 1)), (0, .ref (p)), (1, .int (nI n))] [] g Q) (N := cT A.1 - n) (fun k hk K => ?_) ?_ (0) (Nat.zero_le _) h hv0
  · -- a turn
    intro g hv
    have hT := hA.2.1
    obtain ⟨m, hm⟩ : ∃ m, cT A.1 - k = m + 1 := ⟨cT A.1 - k - 1, by omega⟩
    rw [hm] at hv ⊢
    rw [show nI (m + 1) - 1 = nI m from nI_pred m]
    obtain ⟨d1, d2, d3⟩ := hA.2.2 m (by omega)
    have hs : co_s g p := hv.2.1.1
    have t_0 := nI_toInt (n := m) (by omega)
    have t_1 := nI_toInt (n := n) (by omega)
    have l_0 := i_0
    show bw_go _ _ _ _ _ _ _ 7 [(2, .int _), (0, .ref _), (1, .int _)] ([]) _ _
    refine go_iload_n dX1_takeBackTo_7 rfl ?_
    refine go_iload_n dX1_takeBackTo_8 rfl ?_
    refine go_icmp_lt (pc' := 48) dX1_takeBackTo_9 rfl (fun c_9 => ?_) (fun c_9 => ?_)
    · -- lt at 9: yes
      exfalso; simp only [i_lt] at *; omega
    · -- lt at 9: no
      show bw_go _ _ _ _ _ _ _ 12 [(2, .int _), (0, .ref _), (1, .int _)] ([]) _ _
      refine go_iload_n dX1_takeBackTo_12 rfl ?_
      refine go_if_lt (pc' := 48) dX1_takeBackTo_13 rfl (fun c_13 => ?_) (fun c_13 => ?_)
      · -- lt at 13: yes
        exfalso; simp only [i_lt] at *; omega
      · -- lt at 13: no
        show bw_go _ _ _ _ _ _ _ 16 [(2, .int _), (0, .ref _), (1, .int _)] ([]) _ _
        refine go_aload_n dX1_takeBackTo_16 rfl ?_
        refine go_aload_n dX1_takeBackTo_17 rfl ?_
        refine go_gfr dX1_takeBackTo_18 fl_1_42 rfl hs.1.1 hs.1.2.1 hs.1.2.2.2.2.2.2.1 ?_
        refine go_iload_n dX1_takeBackTo_21 rfl ?_
        refine go_cv (as := [.int _]) 0 dX1_takeBackTo_22 mt_1_60 (Or.inr rfl) rfl rfl hs.2.2.2.2.2.1.1 hs.2.2.2.2.2.1.2.1 (Nat.le_of_ble_eq_true rfl) (Nat.le_of_ble_eq_true rfl) (Nat.le_of_ble_eq_true rfl) (Nat.le_of_ble_eq_true rfl) (Nat.le_of_ble_eq_true rfl) ?_
        refine me_X0_get hs.2.2.2.2.2.1 ?_
        rw [cg_n (N := 40) (by omega) (by decide), (hv.2.2 m (Nat.lt_succ_self m)).1]
        show bw_go _ _ _ _ _ _ _ 25 [(2, .int _), (0, .ref _), (1, .int _)] ((.int _) :: (.ref _) :: []) _ _
        refine go_aload_n dX1_takeBackTo_25 rfl ?_
        refine go_gfr dX1_takeBackTo_26 fl_1_45 rfl hs.1.1 hs.1.2.1 hs.1.2.2.2.2.2.2.2 ?_
        refine go_iload_n dX1_takeBackTo_29 rfl ?_
        refine go_cv (as := [.int _]) 0 dX1_takeBackTo_30 mt_1_60 (Or.inr rfl) rfl rfl hs.2.2.2.2.2.2.1 hs.2.2.2.2.2.2.2.1 (Nat.le_of_ble_eq_true rfl) (Nat.le_of_ble_eq_true rfl) (Nat.le_of_ble_eq_true rfl) (Nat.le_of_ble_eq_true rfl) (Nat.le_of_ble_eq_true rfl) ?_
        refine me_X0_get hs.2.2.2.2.2.2 ?_
        rw [cg_n (N := 40) (by omega) (by decide), (hv.2.2 m (Nat.lt_succ_self m)).2]
        show bw_go _ _ _ _ _ _ _ 33 [(2, .int _), (0, .ref _), (1, .int _)] ((.int _) :: (.int _) :: (.ref _) :: []) _ _
        refine go_iconst (-1) dX1_takeBackTo_33 rfl ?_
        refine go_cv (as := [.int _, .int _, .int _]) 1 dX1_takeBackTo_34 mt_1_68 (Or.inl rfl) rfl rfl hs.1.1 hs.1.2.1 (Nat.le_of_ble_eq_true rfl) (Nat.le_of_ble_eq_true rfl) (Nat.le_of_ble_eq_true rfl) (Nat.le_of_ble_eq_true rfl) (Nat.le_of_ble_eq_true rfl) ?_
        refine me_X1_change hs d1 (Nat.lt_of_lt_of_le d2 hA.1.1) ?_
        have hm40 : cT (hsT A m) ≤ 40 := Nat.le_trans (by show m ≤ 40; omega) (Nat.le_refl 40)
        have hcm : bw_ct (chg g p (A.2.1 m) (A.2.2 m) (-1)) p (hsT A m) ∨ True := Or.inr trivial
        have hs0 := hs
        have hs : co_s (chg g p (A.2.1 m) (A.2.2 m) (-1)) p := chg_s hs0
        show bw_go _ _ _ _ _ _ _ 37 [(2, .int _), (0, .ref _), (1, .int _)] ([]) _ _
        refine go_aload_n dX1_takeBackTo_37 rfl ?_
        refine go_iload_n dX1_takeBackTo_38 rfl ?_
        refine go_pfi dX1_takeBackTo_39 fl_1_21 rfl hs.1.1 hs.1.2.1 (Nat.le_of_ble_eq_true rfl) (Or.inl rfl) ?_
        show bw_go _ _ _ _ _ _ _ 42 [(2, .int _), (0, .ref _), (1, .int _)] ([]) _ _
        refine go_iinc dX1_takeBackTo_42 rfl rfl (Nat.lt_of_lt_of_le (Nat.lt_succ_self _) (Nat.le_of_ble_eq_true rfl)) ?_
        show bw_go _ _ _ _ _ _ _ 45 [(2, .int _), (0, .ref _), (1, .int _)] ([]) _ _
        refine go_goto (pc' := 7) dX1_takeBackTo_45 rfl ?_
        rw [dec1]
        have K1 := K (bw_si (chg g p (A.2.1 m) (A.2.2 m) (-1)) p 3 (nI m)) (by rw [show cT A.1 - (k + 1) = m by omega]; exact tb_go hA (by omega) hv)
        rw [show cT A.1 - (k + 1) = m by omega] at K1
        exact K1
  · -- behind the last
    intro g hv
    show bw_go _ _ _ _ _ _ _ 7 [(2, .int _), (0, .ref _), (1, .int _)] ([]) _ _
    refine go_iload_n dX1_takeBackTo_7 rfl ?_
    refine go_iload_n dX1_takeBackTo_8 rfl ?_
    refine go_icmp_lt (pc' := 48) dX1_takeBackTo_9 rfl (fun c_9 => ?_) (fun c_9 => ?_)
    · -- lt at 9: yes
      show bw_go _ _ _ _ _ _ _ 48 [(2, .int _), (0, .ref _), (1, .int _)] ([]) _ _
      refine go_vret dX1_takeBackTo_48 rfl ?_
      have e : cT A.1 - (cT A.1 - n) = n := by omega
      rw [e] at hv
      rw [hv.1.1]
      rw [hv.1.1] at hv
      exact hQ _ ⟨hv.2, hv.1.2⟩
    · -- lt at 9: no
      exfalso; have hT := hA.2.1; have e : cT A.1 - (cT A.1 - n) = n := by omega
      rw [e] at c_9
      have t_0 := nsub_t (k := n) (by omega); have t_1 := nI_toInt (n := n) (by omega); simp only [i_lt] at c_9; omega
