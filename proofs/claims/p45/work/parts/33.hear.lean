/-! Tally: hearing a court -/
def th_inv (h g : bw_H) (p : Nat) (A : TA) (k : Nat) : Prop := (g = bw_wi h (bw_i g) ∧ ∀ q, q ≠ p → q ≠ p + 2 → q ≠ p + 4 → bw_i g q = bw_i h q) ∧ bw_i g p 0 = nI A.1 ∧ ∀ i, i < k → bw_i g (p + 2) i = nI (A.2.1 i) ∧ bw_i g (p + 4) i = nI (A.2.2 i)
theorem ta_lt {C : CT} (hk : co_k C) : ∀ i, i < (taC C).1 → (taC C).2.1 i < 64 ∧ (taC C).2.2 i < 64 := fun i hi => by
  have h1 := (hk.2.2.2.2 i hi).2.2.2
  exact ⟨one_lt (tol_lt h1), and_lt (tol_lt h1)⟩
theorem ta_of {h : bw_H} {p : Nat} {C : CT} (hs : ta_s h p) (hk : co_k C) (h0 : bw_i h p 0 = nI (taC C).1) (hv : ∀ i, i < (taC C).1 → bw_i h (p + 2) i = nI ((taC C).2.1 i) ∧ bw_i h (p + 4) i = nI ((taC C).2.2 i)) : bw_ta h p (taC C) :=
  ⟨hs, h0, hk.1, fun i hi => ⟨(hv i hi).1, (hv i hi).2, ta_lt hk i hi⟩⟩
theorem ct_fr {h g : bw_H} {p c : Nat} {C : CT} (hc : bw_ct h c C) (hg : g = bw_wi h (bw_i g)) (hf : ∀ q, q ≠ p → q ≠ p + 2 → q ≠ p + 4 → bw_i g q = bw_i h q) (ha : p + 5 ≤ c ∨ c + 13 ≤ p) : bw_ct g c C := by
  refine ct_i hc ?_ (hf _ (by omega) (by omega) (by omega)) (hf _ (by omega) (by omega) (by omega)) (hf _ (by omega) (by omega) (by omega)) (hf _ (by omega) (by omega) (by omega)) (hf _ (by omega) (by omega) (by omega))
  rw [hg]; exact hc.1
set_option maxRecDepth 100000 in
set_option maxHeartbeats 4000000 in
theorem me_X5_hear {X : Nat × (Nat → Int32)} {Q : Option Value → bw_H → Prop} {h : bw_H} {p c : Nat} {C : CT} (hs : ta_s h p) (hc : bw_ct h c C) (ha : p + 5 ≤ c ∨ c + 13 ≤ p) (hQ : ∀ I : Nat → Nat → Int32, (bw_ta (bw_wi h I) p (taC C) ∧ ∀ q, q ≠ p → q ≠ p + 2 → q ≠ p + 4 → I q = bw_i h q) → Q none (bw_wi h I)) : bw_me X 3 bm_X5_hear false [.ref p, .ref c] h Q := by
  show bw_go _ 3 5 7 false none cX5_hear 0 [(0, .ref _), (1, .ref _)] [] _ _
  refine go_aload_n dX5_hear_0 rfl ?_
  refine go_aload_n dX5_hear_1 rfl ?_
  refine go_gfi dX5_hear_2 fl_5_27 rfl hc.1.1.1 hc.1.1.2.1 ?_
  rw [hc.2.1.1]
  refine go_pfi dX5_hear_5 fl_5_9 rfl hs.1.1 hs.1.2.1 (Nat.le_of_ble_eq_true rfl) (Or.inl rfl) ?_
  show bw_go _ _ _ _ _ _ _ 8 [(0, .ref _), (1, .ref _)] ([]) _ _
  refine go_iconst (0) dX5_hear_8 rfl ?_
  refine go_istore_n dX5_hear_9 (Nat.lt_of_lt_of_le (Nat.lt_succ_self _) (Nat.le_of_ble_eq_true rfl)) ?_
  show bw_go _ _ _ _ _ _ _ 10 [(2, .int _), (0, .ref _), (1, .ref _)] ([]) _ _
  have hv0 : th_inv h (bw_si h p 0 (nI (cN C))) p (taC C) 0 := ⟨⟨rfl, fun q h1 _ _ => i_si_o h1⟩, by rw [i_si_s, bw_up_s]; rfl, fun i hi => absurd hi (Nat.not_lt_zero i)⟩
  have hs0 := hs
  have hc0 := hc
  refine go_for (P := fun k => ∀ g : bw_H, (th_inv h g p (taC C) k) → bw_go X 3 5 7 false none cX5_hear 10 [(2, .int (nI k)), (0, .ref (p)), (1, .ref (c))] [] g Q) (N := cN C) (fun k hk K => ?_) ?_ (0) (Nat.zero_le _) _ hv0
  · -- a turn
    intro g hv
    have hc := ct_fr hc0 hv.1.1 hv.1.2 ha
    have hs : ta_s g p := by rw [hv.1.1]; exact hs0
    have k1 := hc.2.2.2.2.2.2 k hk
    have k6 := hc.2.2.1
    show bw_go _ _ _ _ _ _ _ 10 [(2, .int _), (0, .ref _), (1, .ref _)] ([]) _ _
    refine go_iload_n dX5_hear_10 rfl ?_
    refine go_aload_n dX5_hear_11 rfl ?_
    refine go_gfi dX5_hear_12 fl_5_9 rfl hs.1.1 hs.1.2.1 ?_
    rw [show bw_i g p 0 = nI (cN C) from hv.2.1]
    refine go_icmp_ge (pc' := 92) dX5_hear_15 rfl (fun c_15 => ?_) (fun c_15 => ?_)
    · -- ge at 15: yes
      exfalso; have t_0 := nI_toInt (n := cN C) (by omega); have t_1 := nI_toInt (n := k) (by omega); simp only [i_le, i_lt, i_eq, bi_eq] at c_15; omega
    · -- ge at 15: no
      show bw_go _ _ _ _ _ _ _ 18 [(2, .int _), (0, .ref _), (1, .ref _)] ([]) _ _
      refine go_aload_n dX5_hear_18 rfl ?_
      refine go_gfr dX5_hear_19 fl_5_30 rfl hc.1.1.1 hc.1.1.2.1 hc.1.1.2.2.1 ?_
      refine go_iload_n dX5_hear_22 rfl ?_
      refine go_cv (as := [.int _]) 0 dX5_hear_23 mt_5_33 (Or.inr rfl) rfl rfl hc.1.2.1.1 hc.1.2.1.2.1 (Nat.le_of_ble_eq_true rfl) (Nat.le_of_ble_eq_true rfl) (Nat.le_of_ble_eq_true rfl) (Nat.le_of_ble_eq_true rfl) (Nat.le_of_ble_eq_true rfl) ?_
      refine me_X0_get hc.1.2.1 ?_
      rw [cg_n (Nat.lt_of_lt_of_le hk hc.2.2.1) (Nat.le_of_ble_eq_true rfl), (hc.2.1.2.2.2.2 _ hk).1]
      show bw_go _ _ _ _ _ _ _ 26 [(2, .int _), (0, .ref _), (1, .ref _)] ((.int _) :: []) _ _
      refine go_istore_n dX5_hear_26 (Nat.lt_of_lt_of_le (Nat.lt_succ_self _) (Nat.le_of_ble_eq_true rfl)) ?_
      show bw_go _ _ _ _ _ _ _ 27 [(3, .int _), (2, .int _), (0, .ref _), (1, .ref _)] ([]) _ _
      refine go_aload_n dX5_hear_27 rfl ?_
      refine go_gfr dX5_hear_28 fl_5_37 rfl hc.1.1.1 hc.1.1.2.1 hc.1.1.2.2.2.2.1 ?_
      refine go_iload_n dX5_hear_31 rfl ?_
      refine go_cv (as := [.int _]) 0 dX5_hear_32 mt_5_33 (Or.inr rfl) rfl rfl hc.1.2.2.2.1.1 hc.1.2.2.2.1.2.1 (Nat.le_of_ble_eq_true rfl) (Nat.le_of_ble_eq_true rfl) (Nat.le_of_ble_eq_true rfl) (Nat.le_of_ble_eq_true rfl) (Nat.le_of_ble_eq_true rfl) ?_
      refine me_X0_get hc.1.2.2.2.1 ?_
      rw [cg_n (Nat.lt_of_lt_of_le hk hc.2.2.1) (Nat.le_of_ble_eq_true rfl), (hc.2.1.2.2.2.2 _ hk).2.2.1]
      show bw_go _ _ _ _ _ _ _ 35 [(3, .int _), (2, .int _), (0, .ref _), (1, .ref _)] ((.int _) :: []) _ _
      refine go_istore dX5_hear_35 (Nat.lt_of_lt_of_le (Nat.lt_succ_self _) (Nat.le_of_ble_eq_true rfl)) ?_
      show bw_go _ _ _ _ _ _ _ 37 [(4, .int _), (3, .int _), (2, .int _), (0, .ref _), (1, .ref _)] ([]) _ _
      refine go_aload_n dX5_hear_37 rfl ?_
      refine go_iload_n dX5_hear_38 rfl ?_
      refine go_iload_n dX5_hear_39 rfl ?_
      refine go_iload dX5_hear_40 rfl ?_
      refine go_cv (as := [.int _, .int _, .int _]) 2 dX5_hear_42 mt_5_40 (Or.inr rfl) rfl rfl hc.1.1.1 hc.1.1.2.1 (Nat.le_of_ble_eq_true rfl) (Nat.le_of_ble_eq_true rfl) (Nat.le_of_ble_eq_true rfl) (Nat.le_of_ble_eq_true rfl) (Nat.le_of_ble_eq_true rfl) ?_
      refine me_X1_toldOf hc hk k1.1 (Nat.lt_succ_of_le k1.2.2.1) ?_
      show bw_go _ _ _ _ _ _ _ 45 [(4, .int _), (3, .int _), (2, .int _), (0, .ref _), (1, .ref _)] ((.int _) :: []) _ _
      refine go_istore dX5_hear_45 (Nat.lt_of_lt_of_le (Nat.lt_succ_self _) (Nat.le_of_ble_eq_true rfl)) ?_
      show bw_go _ _ _ _ _ _ _ 47 [(5, .int _), (4, .int _), (3, .int _), (2, .int _), (0, .ref _), (1, .ref _)] ([]) _ _
      refine go_iload dX5_hear_47 rfl ?_
      refine go_iload_n dX5_hear_49 rfl ?_
      refine go_iload dX5_hear_50 rfl ?_
      refine go_aload_n dX5_hear_52 rfl ?_
      refine go_gfi dX5_hear_53 fl_5_44 rfl hc.1.1.1 hc.1.1.2.1 ?_
      rw [hc.2.1.2.1]
      refine go_cs (as := [.int _, .int _, .int _, .int _]) 1 dX5_hear_56 rfl rfl mt_5_47 (Nat.le_of_ble_eq_true rfl) rfl rfl (Nat.le_of_ble_eq_true rfl) (Nat.le_of_ble_eq_true rfl) (Nat.le_of_ble_eq_true rfl) (Nat.le_of_ble_eq_true rfl) ?_
      refine me_X1_onesOf (tol_lt k1.2.2.2) k1.1 (Nat.lt_succ_of_le k1.2.2.1) hc.2.2.2.1 ?_
      show bw_go _ _ _ _ _ _ _ 59 [(5, .int _), (4, .int _), (3, .int _), (2, .int _), (0, .ref _), (1, .ref _)] ((.int _) :: []) _ _
      refine go_istore dX5_hear_59 (Nat.lt_of_lt_of_le (Nat.lt_succ_self _) (Nat.le_of_ble_eq_true rfl)) ?_
      show bw_go _ _ _ _ _ _ _ 61 [(6, .int _), (5, .int _), (4, .int _), (3, .int _), (2, .int _), (0, .ref _), (1, .ref _)] ([]) _ _
      refine go_aload_n dX5_hear_61 rfl ?_
      refine go_gfr dX5_hear_62 fl_5_20 rfl hs.1.1 hs.1.2.1 hs.1.2.2.1 ?_
      refine go_iload_n dX5_hear_65 rfl ?_
      refine go_iload dX5_hear_66 rfl ?_
      refine go_cv (as := [.int _, .int _]) 0 dX5_hear_68 mt_5_51 (Or.inr rfl) rfl rfl hs.2.1.1 hs.2.1.2.1 (Nat.le_of_ble_eq_true rfl) (Nat.le_of_ble_eq_true rfl) (Nat.le_of_ble_eq_true rfl) (Nat.le_of_ble_eq_true rfl) (Nat.le_of_ble_eq_true rfl) ?_
      refine me_X0_set hs.2.1 ?_
      rw [cs_b (by omega)]
      show bw_go _ _ _ _ _ _ _ 71 [(6, .int _), (5, .int _), (4, .int _), (3, .int _), (2, .int _), (0, .ref _), (1, .ref _)] ([]) _ _
      refine go_aload_n dX5_hear_71 rfl ?_
      refine go_gfr dX5_hear_72 fl_5_24 rfl hs.1.1 hs.1.2.1 hs.1.2.2.2 ?_
      refine go_iload_n dX5_hear_75 rfl ?_
      refine go_iload dX5_hear_76 rfl ?_
      refine go_iload dX5_hear_78 rfl ?_
      refine go_iconst (-1) dX5_hear_80 rfl ?_
      refine go_ixor dX5_hear_81 ?_
      refine go_iand dX5_hear_82 ?_
      rw [not_n _ (one_lt (tol_lt k1.2.2.2)) _ (tol_lt k1.2.2.2)]
      refine go_cv (as := [.int _, .int _]) 0 dX5_hear_83 mt_5_51 (Or.inr rfl) rfl rfl hs.2.2.1 hs.2.2.2.1 (Nat.le_of_ble_eq_true rfl) (Nat.le_of_ble_eq_true rfl) (Nat.le_of_ble_eq_true rfl) (Nat.le_of_ble_eq_true rfl) (Nat.le_of_ble_eq_true rfl) ?_
      refine me_X0_set hs.2.2 ?_
      rw [cs_b (by omega)]
      show bw_go _ _ _ _ _ _ _ 86 [(6, .int _), (5, .int _), (4, .int _), (3, .int _), (2, .int _), (0, .ref _), (1, .ref _)] ([]) _ _
      refine go_iinc dX5_hear_86 rfl (nI_1 k) (Nat.lt_of_lt_of_le (Nat.lt_succ_self _) (Nat.le_of_ble_eq_true rfl)) ?_
      show bw_go _ _ _ _ _ _ _ 89 [(2, .int _), (6, .int _), (5, .int _), (4, .int _), (3, .int _), (0, .ref _), (1, .ref _)] ([]) _ _
      refine go_goto (pc' := 10) dX5_hear_89 rfl ?_
      refine go_ls [(2, .int _), (0, .ref _), (1, .ref _)] (by show List.Nodup ([2, 0, 1] : List Nat); decide) (by show List.Nodup ([2, 6, 5, 4, 3, 0, 1] : List Nat); decide) (le_cons rfl (le_cons rfl (le_cons rfl (le_nil _)))) ?_
      refine K _ ⟨⟨?_, fun q h1 h2 h3 => ?_⟩, ?_, fun i hi => ?_⟩
      · rw [hv.1.1]; rfl
      · rw [i_sa_o h3, i_sa_o h2]; exact hv.1.2 q h1 h2 h3
      · rw [i_sa_o (by omega), i_sa_o (by omega)]; exact hv.2.1
      · rw [i_sa_o (p := p + 2) (by omega), i_sa_s, i_sa_s, i_sa_o (by omega)]
        by_cases hik : i = k
        · subst hik; rw [bw_up_s, bw_up_s]; exact ⟨rfl, rfl⟩
        · rw [bw_up_o hik, bw_up_o hik]; exact hv.2.2 i (by omega)
  · -- behind the last
    intro g hv
    have hs : ta_s g p := by rw [hv.1.1]; exact hs0
    show bw_go _ _ _ _ _ _ _ 10 [(2, .int _), (0, .ref _), (1, .ref _)] ([]) _ _
    refine go_iload_n dX5_hear_10 rfl ?_
    refine go_aload_n dX5_hear_11 rfl ?_
    refine go_gfi dX5_hear_12 fl_5_9 rfl hs.1.1 hs.1.2.1 ?_
    rw [show bw_i g p 0 = nI (cN C) from hv.2.1]
    refine go_icmp_ge (pc' := 92) dX5_hear_15 rfl (fun c_15 => ?_) (fun c_15 => ?_)
    · -- ge at 15: yes
      show bw_go _ _ _ _ _ _ _ 92 [(2, .int _), (0, .ref _), (1, .ref _)] ([]) _ _
      refine go_vret dX5_hear_92 rfl ?_
      rw [hv.1.1]
      exact hQ _ ⟨ta_of (by exact hs0) hc0.2.2 hv.2.1 hv.2.2, hv.1.2⟩
    · -- ge at 15: no
      exfalso; have k6 := hc0.2.2.1; have t_0 := nI_toInt (n := cN C) (by omega); simp only [i_le, i_lt, i_eq, bi_eq] at c_15; omega
