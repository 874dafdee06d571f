/-! Court: deeds, copies -/
theorem co_wi {h : bw_H} {p : Nat} {I : Nat → Nat → Int32} (hs : co_s h p) : co_s (bw_wi h I) p := hs
set_option maxRecDepth 100000 in
set_option maxHeartbeats 4000000 in
theorem me_X1_clear {X : Nat × (Nat → Int32)} {Q : Option Value → bw_H → Prop} {h : bw_H} {p : Nat} (hs : co_s h p) (hQ : ∀ I : Nat → Nat → Int32, (I p 0 = nI 0 ∧ I p 1 = nI 0 ∧ I p 2 = nI 0 ∧ I p 3 = nI 0 ∧ ∀ q, q ≠ p → I q = bw_i h q) → Q none (bw_wi h I)) : bw_me X 0 bm_X1_clear false [.ref p] h Q := by
  show bw_go _ 0 1 1 false none cX1_clear 0 [(0, .ref _)] [] _ _
  refine go_aload_n dX1_clear_0 rfl ?_
  refine go_iconst (0) dX1_clear_1 rfl ?_
  refine go_pfi dX1_clear_2 fl_1_9 rfl hs.1.1 hs.1.2.1 (Nat.le_of_ble_eq_true rfl) (Or.inl rfl) ?_
  show bw_go _ _ _ _ _ _ _ 5 [(0, .ref _)] ([]) _ _
  refine go_aload_n dX1_clear_5 rfl ?_
  refine go_iconst (0) dX1_clear_6 rfl ?_
  refine go_pfi dX1_clear_7 fl_1_15 rfl hs.1.1 hs.1.2.1 (Nat.le_of_ble_eq_true rfl) (Or.inl rfl) ?_
  show bw_go _ _ _ _ _ _ _ 10 [(0, .ref _)] ([]) _ _
  refine go_aload_n dX1_clear_10 rfl ?_
  refine go_iconst (0) dX1_clear_11 rfl ?_
  refine go_pfi dX1_clear_12 fl_1_18 rfl hs.1.1 hs.1.2.1 (Nat.le_of_ble_eq_true rfl) (Or.inl rfl) ?_
  show bw_go _ _ _ _ _ _ _ 15 [(0, .ref _)] ([]) _ _
  refine go_aload_n dX1_clear_15 rfl ?_
  refine go_iconst (0) dX1_clear_16 rfl ?_
  refine go_pfi dX1_clear_17 fl_1_21 rfl hs.1.1 hs.1.2.1 (Nat.le_of_ble_eq_true rfl) (Or.inl rfl) ?_
  show bw_go _ _ _ _ _ _ _ 20 [(0, .ref _)] ([]) _ _
  refine go_vret dX1_clear_20 rfl ?_
  refine wi_q hQ rfl ⟨?_, ?_, ?_, ?_, fun q hq => ?_⟩
  · simp (disch := decide) only [i_si_s, bw_up_s, bw_up_o]; rfl
  · simp (disch := decide) only [i_si_s, bw_up_s, bw_up_o]; rfl
  · simp (disch := decide) only [i_si_s, bw_up_s, bw_up_o]; rfl
  · simp (disch := decide) only [i_si_s, bw_up_s, bw_up_o]; rfl
  · simp (disch := assumption) only [i_si_o]
def bw_apart (p p1 : Nat) : Prop := p + 13 ≤ p1 ∨ p1 + 13 ≤ p
/-- the places of a court -/
def co_pl (p q : Nat) : Prop := p ≤ q ∧ q ≤ p + 12
set_option maxRecDepth 100000 in
set_option maxHeartbeats 4000000 in
theorem me_X1_take {X : Nat × (Nat → Int32)} {Q : Option Value → bw_H → Prop} {h : bw_H} {p p1 : Nat} (hs : co_s h p) (h1 : co_s h p1) (ha : bw_apart p p1) (hQ : ∀ I : Nat → Nat → Int32, ((∀ k, k < 4 → I p k = bw_i h p1 k) ∧ (∀ k, k < 6 → I (p + 2) k = bw_i h (p1 + 2) k ∧ I (p + 4) k = bw_i h (p1 + 4) k ∧ I (p + 6) k = bw_i h (p1 + 6) k ∧ I (p + 8) k = bw_i h (p1 + 8) k) ∧ (∀ k, k < 40 → I (p + 10) k = bw_i h (p1 + 10) k ∧ I (p + 12) k = bw_i h (p1 + 12) k) ∧ ∀ q, ¬ co_pl p q → I q = bw_i h q) → Q none (bw_wi h I)) : bw_me X 2 bm_X1_take false [.ref p, .ref p1] h Q := by
  show bw_go _ 2 1 2 false none cX1_take 0 [(0, .ref _), (1, .ref _)] [] _ _
  unfold bw_apart at ha
  refine go_aload_n dX1_take_0 rfl ?_
  refine go_aload_n dX1_take_1 rfl ?_
  refine go_gfi dX1_take_2 fl_1_9 rfl h1.1.1 h1.1.2.1 ?_
  refine go_pfi dX1_take_5 fl_1_9 rfl hs.1.1 hs.1.2.1 (Nat.le_of_ble_eq_true rfl) (Or.inl rfl) ?_
  show bw_go _ _ _ _ _ _ _ 8 [(0, .ref _), (1, .ref _)] ([]) _ _
  refine go_aload_n dX1_take_8 rfl ?_
  refine go_aload_n dX1_take_9 rfl ?_
  refine go_gfi dX1_take_10 fl_1_15 rfl h1.1.1 h1.1.2.1 ?_
  refine go_pfi dX1_take_13 fl_1_15 rfl hs.1.1 hs.1.2.1 (Nat.le_of_ble_eq_true rfl) (Or.inl rfl) ?_
  show bw_go _ _ _ _ _ _ _ 16 [(0, .ref _), (1, .ref _)] ([]) _ _
  refine go_aload_n dX1_take_16 rfl ?_
  refine go_aload_n dX1_take_17 rfl ?_
  refine go_gfi dX1_take_18 fl_1_18 rfl h1.1.1 h1.1.2.1 ?_
  refine go_pfi dX1_take_21 fl_1_18 rfl hs.1.1 hs.1.2.1 (Nat.le_of_ble_eq_true rfl) (Or.inl rfl) ?_
  show bw_go _ _ _ _ _ _ _ 24 [(0, .ref _), (1, .ref _)] ([]) _ _
  refine go_aload_n dX1_take_24 rfl ?_
  refine go_aload_n dX1_take_25 rfl ?_
  refine go_gfi dX1_take_26 fl_1_21 rfl h1.1.1 h1.1.2.1 ?_
  refine go_pfi dX1_take_29 fl_1_21 rfl hs.1.1 hs.1.2.1 (Nat.le_of_ble_eq_true rfl) (Or.inl rfl) ?_
  show bw_go _ _ _ _ _ _ _ 32 [(0, .ref _), (1, .ref _)] ([]) _ _
  refine go_aload_n dX1_take_32 rfl ?_
  refine go_gfr dX1_take_33 fl_1_29 rfl hs.1.1 hs.1.2.1 hs.1.2.2.1 ?_
  refine go_aload_n dX1_take_36 rfl ?_
  refine go_gfr dX1_take_37 fl_1_29 rfl h1.1.1 h1.1.2.1 h1.1.2.2.1 ?_
  refine go_cv (as := [.ref _]) 1 dX1_take_40 mt_1_48 (Or.inr rfl) rfl rfl hs.2.1.1 hs.2.1.2.1 (Nat.le_of_ble_eq_true rfl) (Nat.le_of_ble_eq_true rfl) (Nat.le_of_ble_eq_true rfl) (Nat.le_of_ble_eq_true rfl) (Nat.le_of_ble_eq_true rfl) ?_
  refine me_X0_take hs.2.1 h1.2.1 (by omega) ?_
  show bw_go _ _ _ _ _ _ _ 43 [(0, .ref _), (1, .ref _)] ([]) _ _
  refine go_aload_n dX1_take_43 rfl ?_
  refine go_gfr dX1_take_44 fl_1_33 rfl hs.1.1 hs.1.2.1 hs.1.2.2.2.1 ?_
  refine go_aload_n dX1_take_47 rfl ?_
  refine go_gfr dX1_take_48 fl_1_33 rfl h1.1.1 h1.1.2.1 h1.1.2.2.2.1 ?_
  refine go_cv (as := [.ref _]) 1 dX1_take_51 mt_1_48 (Or.inr rfl) rfl rfl hs.2.2.1.1 hs.2.2.1.2.1 (Nat.le_of_ble_eq_true rfl) (Nat.le_of_ble_eq_true rfl) (Nat.le_of_ble_eq_true rfl) (Nat.le_of_ble_eq_true rfl) (Nat.le_of_ble_eq_true rfl) ?_
  refine me_X0_take hs.2.2.1 h1.2.2.1 (by omega) ?_
  show bw_go _ _ _ _ _ _ _ 54 [(0, .ref _), (1, .ref _)] ([]) _ _
  refine go_aload_n dX1_take_54 rfl ?_
  refine go_gfr dX1_take_55 fl_1_36 rfl hs.1.1 hs.1.2.1 hs.1.2.2.2.2.1 ?_
  refine go_aload_n dX1_take_58 rfl ?_
  refine go_gfr dX1_take_59 fl_1_36 rfl h1.1.1 h1.1.2.1 h1.1.2.2.2.2.1 ?_
  refine go_cv (as := [.ref _]) 1 dX1_take_62 mt_1_48 (Or.inr rfl) rfl rfl hs.2.2.2.1.1 hs.2.2.2.1.2.1 (Nat.le_of_ble_eq_true rfl) (Nat.le_of_ble_eq_true rfl) (Nat.le_of_ble_eq_true rfl) (Nat.le_of_ble_eq_true rfl) (Nat.le_of_ble_eq_true rfl) ?_
  refine me_X0_take hs.2.2.2.1 h1.2.2.2.1 (by omega) ?_
  show bw_go _ _ _ _ _ _ _ 65 [(0, .ref _), (1, .ref _)] ([]) _ _
  refine go_aload_n dX1_take_65 rfl ?_
  refine go_gfr dX1_take_66 fl_1_39 rfl hs.1.1 hs.1.2.1 hs.1.2.2.2.2.2.1 ?_
  refine go_aload_n dX1_take_69 rfl ?_
  refine go_gfr dX1_take_70 fl_1_39 rfl h1.1.1 h1.1.2.1 h1.1.2.2.2.2.2.1 ?_
  refine go_cv (as := [.ref _]) 1 dX1_take_73 mt_1_48 (Or.inr rfl) rfl rfl hs.2.2.2.2.1.1 hs.2.2.2.2.1.2.1 (Nat.le_of_ble_eq_true rfl) (Nat.le_of_ble_eq_true rfl) (Nat.le_of_ble_eq_true rfl) (Nat.le_of_ble_eq_true rfl) (Nat.le_of_ble_eq_true rfl) ?_
  refine me_X0_take hs.2.2.2.2.1 h1.2.2.2.2.1 (by omega) ?_
  show bw_go _ _ _ _ _ _ _ 76 [(0, .ref _), (1, .ref _)] ([]) _ _
  refine go_aload_n dX1_take_76 rfl ?_
  refine go_gfr dX1_take_77 fl_1_42 rfl hs.1.1 hs.1.2.1 hs.1.2.2.2.2.2.2.1 ?_
  refine go_aload_n dX1_take_80 rfl ?_
  refine go_gfr dX1_take_81 fl_1_42 rfl h1.1.1 h1.1.2.1 h1.1.2.2.2.2.2.2.1 ?_
  refine go_cv (as := [.ref _]) 1 dX1_take_84 mt_1_48 (Or.inr rfl) rfl rfl hs.2.2.2.2.2.1.1 hs.2.2.2.2.2.1.2.1 (Nat.le_of_ble_eq_true rfl) (Nat.le_of_ble_eq_true rfl) (Nat.le_of_ble_eq_true rfl) (Nat.le_of_ble_eq_true rfl) (Nat.le_of_ble_eq_true rfl) ?_
  refine me_X0_take hs.2.2.2.2.2.1 h1.2.2.2.2.2.1 (by omega) ?_
  show bw_go _ _ _ _ _ _ _ 87 [(0, .ref _), (1, .ref _)] ([]) _ _
  refine go_aload_n dX1_take_87 rfl ?_
  refine go_gfr dX1_take_88 fl_1_45 rfl hs.1.1 hs.1.2.1 hs.1.2.2.2.2.2.2.2 ?_
  refine go_aload_n dX1_take_91 rfl ?_
  refine go_gfr dX1_take_92 fl_1_45 rfl h1.1.1 h1.1.2.1 h1.1.2.2.2.2.2.2.2 ?_
  refine go_cv (as := [.ref _]) 1 dX1_take_95 mt_1_48 (Or.inr rfl) rfl rfl hs.2.2.2.2.2.2.1 hs.2.2.2.2.2.2.2.1 (Nat.le_of_ble_eq_true rfl) (Nat.le_of_ble_eq_true rfl) (Nat.le_of_ble_eq_true rfl) (Nat.le_of_ble_eq_true rfl) (Nat.le_of_ble_eq_true rfl) ?_
  refine me_X0_take hs.2.2.2.2.2.2 h1.2.2.2.2.2.2 (by omega) ?_
  show bw_go _ _ _ _ _ _ _ 98 [(0, .ref _), (1, .ref _)] ([]) _ _
  refine go_vret dX1_take_98 rfl ?_
  refine wi_q hQ rfl ⟨fun k hk => ?_, fun k hk => ⟨?_, ?_, ?_, ?_⟩, fun k hk => ⟨?_, ?_⟩, fun q hq => ?_⟩
  · rcases (show k = 0 ∨ k = 1 ∨ k = 2 ∨ k = 3 by omega) with rfl | rfl | rfl | rfl <;> simp (disch := omega) only [i_sa_s, i_sa_o, i_si_s, i_si_o, bw_up_s, bw_up_o, mix_i]
  · simp (disch := omega) only [i_sa_s, i_sa_o, i_si_s, i_si_o, bw_up_s, bw_up_o, mix_i]
  · simp (disch := omega) only [i_sa_s, i_sa_o, i_si_s, i_si_o, bw_up_s, bw_up_o, mix_i]
  · simp (disch := omega) only [i_sa_s, i_sa_o, i_si_s, i_si_o, bw_up_s, bw_up_o, mix_i]
  · simp (disch := omega) only [i_sa_s, i_sa_o, i_si_s, i_si_o, bw_up_s, bw_up_o, mix_i]
  · simp (disch := omega) only [i_sa_s, i_sa_o, i_si_s, i_si_o, bw_up_s, bw_up_o, mix_i]
  · simp (disch := omega) only [i_sa_s, i_sa_o, i_si_s, i_si_o, bw_up_s, bw_up_o, mix_i]
  · unfold co_pl at hq
    simp (disch := omega) only [i_sa_s, i_sa_o, i_si_s, i_si_o, bw_up_s, bw_up_o, mix_i]
set_option maxRecDepth 100000 in
set_option maxHeartbeats 4000000 in
theorem me_X1_seat {X : Nat × (Nat → Int32)} {Q : Option Value → bw_H → Prop} {h : bw_H} {p n : Nat} {a b c d : Int32} (hs : co_s h p) (hn : n < 6) (h0 : bw_i h p 0 = nI n) (hQ : ∀ I : Nat → Nat → Int32, (I p = bw_up (bw_i h p) 0 (nI (n + 1)) ∧ I (p + 2) = bw_up (bw_i h (p + 2)) n a ∧ I (p + 4) = bw_up (bw_i h (p + 4)) n b ∧ I (p + 6) = bw_up (bw_i h (p + 6)) n c ∧ I (p + 8) = bw_up (bw_i h (p + 8)) n d ∧ (∀ q, q ≠ p → q ≠ p + 2 → q ≠ p + 4 → q ≠ p + 6 → q ≠ p + 8 → I q = bw_i h q)) → Q none (bw_wi h I)) : bw_me X 1 bm_X1_seat false [.ref p, .int a, .int b, .int c, .int d] h Q := by
  show bw_go _ 1 1 5 false none cX1_seat 0 [(0, .ref _), (1, .int _), (2, .int _), (3, .int _), (4, .int _)] [] _ _
  refine go_aload_n dX1_seat_0 rfl ?_
  refine go_gfi dX1_seat_1 fl_1_9 rfl hs.1.1 hs.1.2.1 ?_
  rw [h0]
  refine go_bipush (6) dX1_seat_4 rfl ?_
  refine go_icmp_lt (pc' := 10) dX1_seat_6 rfl (fun c_6 => ?_) (fun c_6 => ?_)
  · -- lt at 6: yes
    show bw_go _ _ _ _ _ _ _ 10 [(0, .ref _), (1, .int _), (2, .int _), (3, .int _), (4, .int _)] ([]) _ _
    refine go_aload_n dX1_seat_10 rfl ?_
    refine go_gfr dX1_seat_11 fl_1_29 rfl hs.1.1 hs.1.2.1 hs.1.2.2.1 ?_
    refine go_aload_n dX1_seat_14 rfl ?_
    refine go_gfi dX1_seat_15 fl_1_9 rfl hs.1.1 hs.1.2.1 ?_
    rw [h0]
    refine go_iload_n dX1_seat_18 rfl ?_
    refine go_cv (as := [.int _, .int _]) 0 dX1_seat_19 mt_1_52 (Or.inr rfl) rfl rfl hs.2.1.1 hs.2.1.2.1 (Nat.le_of_ble_eq_true rfl) (Nat.le_of_ble_eq_true rfl) (Nat.le_of_ble_eq_true rfl) (Nat.le_of_ble_eq_true rfl) (Nat.le_of_ble_eq_true rfl) ?_
    refine me_X0_set hs.2.1 ?_
    (try simp (disch := omega) only [i_sa_s, i_sa_o])
    rw [cs_n (N := 6) hn (by decide)]
    show bw_go _ _ _ _ _ _ _ 22 [(0, .ref _), (1, .int _), (2, .int _), (3, .int _), (4, .int _)] ([]) _ _
    refine go_aload_n dX1_seat_22 rfl ?_
    refine go_gfr dX1_seat_23 fl_1_33 rfl hs.1.1 hs.1.2.1 hs.1.2.2.2.1 ?_
    refine go_aload_n dX1_seat_26 rfl ?_
    refine go_gfi dX1_seat_27 fl_1_9 rfl hs.1.1 hs.1.2.1 ?_
    (try simp (disch := omega) only [i_sa_s, i_sa_o])
    rw [h0]
    refine go_iload_n dX1_seat_30 rfl ?_
    refine go_cv (as := [.int _, .int _]) 0 dX1_seat_31 mt_1_52 (Or.inr rfl) rfl rfl hs.2.2.1.1 hs.2.2.1.2.1 (Nat.le_of_ble_eq_true rfl) (Nat.le_of_ble_eq_true rfl) (Nat.le_of_ble_eq_true rfl) (Nat.le_of_ble_eq_true rfl) (Nat.le_of_ble_eq_true rfl) ?_
    refine me_X0_set hs.2.2.1 ?_
    (try simp (disch := omega) only [i_sa_s, i_sa_o])
    rw [cs_n (N := 6) hn (by decide)]
    show bw_go _ _ _ _ _ _ _ 34 [(0, .ref _), (1, .int _), (2, .int _), (3, .int _), (4, .int _)] ([]) _ _
    refine go_aload_n dX1_seat_34 rfl ?_
    refine go_gfr dX1_seat_35 fl_1_36 rfl hs.1.1 hs.1.2.1 hs.1.2.2.2.2.1 ?_
    refine go_aload_n dX1_seat_38 rfl ?_
    refine go_gfi dX1_seat_39 fl_1_9 rfl hs.1.1 hs.1.2.1 ?_
    (try simp (disch := omega) only [i_sa_s, i_sa_o])
    rw [h0]
    refine go_iload_n dX1_seat_42 rfl ?_
    refine go_cv (as := [.int _, .int _]) 0 dX1_seat_43 mt_1_52 (Or.inr rfl) rfl rfl hs.2.2.2.1.1 hs.2.2.2.1.2.1 (Nat.le_of_ble_eq_true rfl) (Nat.le_of_ble_eq_true rfl) (Nat.le_of_ble_eq_true rfl) (Nat.le_of_ble_eq_true rfl) (Nat.le_of_ble_eq_true rfl) ?_
    refine me_X0_set hs.2.2.2.1 ?_
    (try simp (disch := omega) only [i_sa_s, i_sa_o])
    rw [cs_n (N := 6) hn (by decide)]
    show bw_go _ _ _ _ _ _ _ 46 [(0, .ref _), (1, .int _), (2, .int _), (3, .int _), (4, .int _)] ([]) _ _
    refine go_aload_n dX1_seat_46 rfl ?_
    refine go_gfr dX1_seat_47 fl_1_39 rfl hs.1.1 hs.1.2.1 hs.1.2.2.2.2.2.1 ?_
    refine go_aload_n dX1_seat_50 rfl ?_
    refine go_gfi dX1_seat_51 fl_1_9 rfl hs.1.1 hs.1.2.1 ?_
    (try simp (disch := omega) only [i_sa_s, i_sa_o])
    rw [h0]
    refine go_iload dX1_seat_54 rfl ?_
    refine go_cv (as := [.int _, .int _]) 0 dX1_seat_56 mt_1_52 (Or.inr rfl) rfl rfl hs.2.2.2.2.1.1 hs.2.2.2.2.1.2.1 (Nat.le_of_ble_eq_true rfl) (Nat.le_of_ble_eq_true rfl) (Nat.le_of_ble_eq_true rfl) (Nat.le_of_ble_eq_true rfl) (Nat.le_of_ble_eq_true rfl) ?_
    refine me_X0_set hs.2.2.2.2.1 ?_
    (try simp (disch := omega) only [i_sa_s, i_sa_o])
    rw [cs_n (N := 6) hn (by decide)]
    show bw_go _ _ _ _ _ _ _ 59 [(0, .ref _), (1, .int _), (2, .int _), (3, .int _), (4, .int _)] ([]) _ _
    refine go_aload_n dX1_seat_59 rfl ?_
    refine go_dupA dX1_seat_60 ?_
    refine go_gfi dX1_seat_61 fl_1_9 rfl hs.1.1 hs.1.2.1 ?_
    (try simp (disch := omega) only [i_sa_s, i_sa_o])
    rw [h0]
    refine go_iconst (1) dX1_seat_64 rfl ?_
    refine go_iadd dX1_seat_65 ?_
    refine go_pfi dX1_seat_66 fl_1_9 rfl hs.1.1 hs.1.2.1 (Nat.le_of_ble_eq_true rfl) (Or.inl rfl) ?_
    show bw_go _ _ _ _ _ _ _ 69 [(0, .ref _), (1, .int _), (2, .int _), (3, .int _), (4, .int _)] ([]) _ _
    refine go_vret dX1_seat_69 rfl ?_
    refine wi_q hQ rfl ⟨?_, ?_, ?_, ?_, ?_, fun q h0 h2 h4 h6 h8 => ?_⟩
    · simp (disch := omega) only [i_sa_s, i_sa_o, i_si_s, i_si_o, nI_1]
    · simp (disch := omega) only [i_sa_s, i_sa_o, i_si_s, i_si_o]
    · simp (disch := omega) only [i_sa_s, i_sa_o, i_si_s, i_si_o]
    · simp (disch := omega) only [i_sa_s, i_sa_o, i_si_s, i_si_o]
    · simp (disch := omega) only [i_sa_s, i_sa_o, i_si_s, i_si_o]
    · simp (disch := assumption) only [i_sa_o, i_si_o]
  · -- lt at 6: no
    exfalso; have t_0 := nI_toInt (n := n) (by omega); have l_0 : (6 : Int32).toInt = 6 := rfl; simp only [i_le, i_lt, i_eq, bi_eq] at c_6; omega
