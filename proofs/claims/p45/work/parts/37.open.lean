/-! Trial: opened on a court -/
set_option maxRecDepth 100000 in
set_option maxHeartbeats 4000000 in
theorem me_worthNow3 {X : Nat × (Nat → Int32)} {Q : Option Value → bw_H → Prop} {h : bw_H} {p i w : Nat} {z : Int32} (hs : tt_s h p) (hi : i < 6) (hw : w < 10) (h2 : bw_i h (p + 2) i = nI w) (h4 : bw_i h (p + 4) (i * 10 + w) = z) (hQ : Q (some (.int z)) h) : bw_me X 1 bm_X6_worthNow false [.ref p, .int (nI i)] h Q := by
  show bw_go _ 1 6 2 false (some .int) cX6_worthNow 0 [(0, .ref _), (1, .int _)] [] _ _
  refine go_aload_n dX6_worthNow_0 rfl ?_
  refine go_gfr dX6_worthNow_1 fl_6_30 rfl hs.1.1 hs.1.2.1 hs.1.2.2.2.1 ?_
  refine go_iload_n dX6_worthNow_4 rfl ?_
  refine go_bipush (10) dX6_worthNow_5 rfl ?_
  refine go_imul dX6_worthNow_7 ?_
  refine go_aload_n dX6_worthNow_8 rfl ?_
  refine go_gfr dX6_worthNow_9 fl_6_26 rfl hs.1.1 hs.1.2.1 hs.1.2.2.1 ?_
  refine go_iload_n dX6_worthNow_12 rfl ?_
  refine go_cv (as := [.int _]) 0 dX6_worthNow_13 mt_6_40 (Or.inr rfl) rfl rfl hs.2.1.1 hs.2.1.2.1 (Nat.le_of_ble_eq_true rfl) (Nat.le_of_ble_eq_true rfl) (Nat.le_of_ble_eq_true rfl) (Nat.le_of_ble_eq_true rfl) (Nat.le_of_ble_eq_true rfl) ?_
  refine me_X0_get hs.2.1 ?_
  rw [cg_b hi, h2]
  show bw_go _ _ _ _ _ _ _ 16 [(0, .ref _), (1, .int _)] ((.int _) :: (.int _) :: (.ref _) :: []) _ _
  refine go_iadd dX6_worthNow_16 ?_
  refine go_cv (as := [.int _]) 0 dX6_worthNow_17 mt_6_40 (Or.inr rfl) rfl rfl hs.2.2.1.1 hs.2.2.1.2.1 (Nat.le_of_ble_eq_true rfl) (Nat.le_of_ble_eq_true rfl) (Nat.le_of_ble_eq_true rfl) (Nat.le_of_ble_eq_true rfl) (Nat.le_of_ble_eq_true rfl) ?_
  rw [show (10 : Int32) = nI 10 from rfl, nmul, nI_add]
  refine me_X0_get hs.2.2.1 ?_
  rw [cg_n (by omega) (by decide), h4]
  show bw_go _ _ _ _ _ _ _ 20 [(0, .ref _), (1, .int _)] ((.int _) :: []) _ _
  refine go_iret dX6_worthNow_20 rfl rfl ?_
  exact hQ
def opW (C : CT) (S t : Nat) (i w : Nat) : Int := if S.testBit i = true then wof C i w t else 0
theorem opW_b (C : CT) (S t i w : Nat) : -1 ≤ opW C S t i w ∧ opW C S t i w ≤ 1 := by
  unfold opW wof
  repeat' split
  all_goals omega
def opT (C : CT) (S t : Nat) : TT := (cN C, S, cR C, opW C S t)
def op_i (h g : bw_H) (p : Nat) (C : CT) (S t i : Nat) : Prop := (g = bw_wi h (bw_i g) ∧ ∀ q, q ≠ p → q ≠ p + 2 → q ≠ p + 4 → bw_i g q = bw_i h q) ∧ (bw_i g p 0 = nI (cN C) ∧ bw_i g p 1 = nI S ∧ bw_i g p 2 = Int32.ofInt (mor i (cR C) (opW C S t))) ∧ (∀ j, j < i → bw_i g (p + 2) j = nI (cR C j)) ∧ ∀ j, j < i → ∀ w, w < 10 → bw_i g (p + 4) (j * 10 + w) = Int32.ofInt (opW C S t j w)
set_option maxRecDepth 100000 in
set_option maxHeartbeats 4000000 in
theorem me_X6_open {X : Nat × (Nat → Int32)} {Q : Option Value → bw_H → Prop} {h : bw_H} {p c t S : Nat} {C : CT} (hs : tt_s h p) (hc : bw_ct h c C) (ht : t < 6) (hS : S < 64) (ha : p + 5 ≤ c ∨ c + 13 ≤ p) (hQ : ∀ I : Nat → Nat → Int32, (bw_tt (bw_wi h I) p (opT C S t) ∧ ∀ q, q ≠ p → q ≠ p + 2 → q ≠ p + 4 → I q = bw_i h q) → Q none (bw_wi h I)) : bw_me X 4 bm_X6_open false [.ref p, .ref c, .int (nI t), .int (nI S)] h Q := by
  show bw_go _ 4 6 6 false none cX6_open 0 [(0, .ref _), (1, .ref _), (2, .int _), (3, .int _)] [] _ _
  refine go_aload_n dX6_open_0 rfl ?_
  refine go_aload_n dX6_open_1 rfl ?_
  refine go_gfi dX6_open_2 fl_6_36 rfl hc.1.1.1 hc.1.1.2.1 ?_
  rw [hc.2.1.1]
  refine go_pfi dX6_open_5 fl_6_9 rfl hs.1.1 hs.1.2.1 (Nat.le_of_ble_eq_true rfl) (Or.inl rfl) ?_
  show bw_go _ _ _ _ _ _ _ 8 [(0, .ref _), (1, .ref _), (2, .int _), (3, .int _)] ([]) _ _
  refine go_aload_n dX6_open_8 rfl ?_
  refine go_iload_n dX6_open_9 rfl ?_
  refine go_pfi dX6_open_10 fl_6_15 rfl hs.1.1 hs.1.2.1 (Nat.le_of_ble_eq_true rfl) (Or.inl rfl) ?_
  show bw_go _ _ _ _ _ _ _ 13 [(0, .ref _), (1, .ref _), (2, .int _), (3, .int _)] ([]) _ _
  refine go_aload_n dX6_open_13 rfl ?_
  refine go_iconst (0) dX6_open_14 rfl ?_
  refine go_pfi dX6_open_15 fl_6_18 rfl hs.1.1 hs.1.2.1 (Nat.le_of_ble_eq_true rfl) (Or.inl rfl) ?_
  show bw_go _ _ _ _ _ _ _ 18 [(0, .ref _), (1, .ref _), (2, .int _), (3, .int _)] ([]) _ _
  refine go_iconst (0) dX6_open_18 rfl ?_
  refine go_istore dX6_open_19 (Nat.lt_of_lt_of_le (Nat.lt_succ_self _) (Nat.le_of_ble_eq_true rfl)) ?_
  show bw_go _ _ _ _ _ _ _ 21 [(4, .int _), (0, .ref _), (1, .ref _), (2, .int _), (3, .int _)] ([]) _ _
  have hs0 := hs
  have hc0 := hc
  have hv0 : op_i h (bw_si (bw_si (bw_si h p 0 (nI (cN C))) p 1 (nI S)) p 2 0) p C S t 0 := by
    refine ⟨⟨rfl, fun q h1 h2 h3 => ?_⟩, ⟨?_, ?_, ?_⟩, fun j hj => absurd hj (Nat.not_lt_zero j), fun j hj => absurd hj (Nat.not_lt_zero j)⟩
    · rw [i_si_o h1, i_si_o h1, i_si_o h1]
    · simp (disch := decide) only [i_si_s, bw_up_s, bw_up_o]
    · simp (disch := decide) only [i_si_s, bw_up_s, bw_up_o]
    · simp (disch := decide) only [i_si_s, bw_up_s]; rfl
  refine go_for (P := fun i => ∀ g : bw_H, (op_i h g p C S t i) → bw_go X 4 6 6 false none cX6_open 21 [(4, .int (nI i)), (0, .ref (p)), (1, .ref (c)), (2, .int (nI t)), (3, .int (nI S))] [] g Q) (N := cN C) (fun i hi K => ?_) ?_ (0) (Nat.zero_le _) _ hv0
  · -- a turn
    intro g hv
    have hc := ct_fr hc0 hv.1.1 hv.1.2 ha
    have hs : tt_s g p := by rw [hv.1.1]; exact hs0
    have k1 := hc.2.2.2.2.2.2 i hi
    have k6 := hc.2.2.1
    have hgo := hv
    show bw_go _ _ _ _ _ _ _ 21 [(4, .int _), (0, .ref _), (1, .ref _), (2, .int _), (3, .int _)] ([]) _ _
    refine go_iload dX6_open_21 rfl ?_
    refine go_aload_n dX6_open_23 rfl ?_
    refine go_gfi dX6_open_24 fl_6_9 rfl hs.1.1 hs.1.2.1 ?_
    rw [hv.2.1.1]
    refine go_icmp_ge (pc' := 122) dX6_open_27 rfl (fun c_27 => ?_) (fun c_27 => ?_)
    · -- ge at 27: yes
      exfalso; have t_0 := nI_toInt (n := cN C) (by omega); have t_1 := nI_toInt (n := i) (by omega); simp only [i_le, i_lt, i_eq, bi_eq] at c_27; omega
    · -- ge at 27: no
      show bw_go _ _ _ _ _ _ _ 30 [(4, .int _), (0, .ref _), (1, .ref _), (2, .int _), (3, .int _)] ([]) _ _
      refine go_aload_n dX6_open_30 rfl ?_
      refine go_gfr dX6_open_31 fl_6_26 rfl hs.1.1 hs.1.2.1 hs.1.2.2.1 ?_
      refine go_iload dX6_open_34 rfl ?_
      refine go_aload_n dX6_open_36 rfl ?_
      refine go_gfr dX6_open_37 fl_6_39 rfl hc.1.1.1 hc.1.1.2.1 hc.1.1.2.2.2.2.1 ?_
      refine go_iload dX6_open_40 rfl ?_
      refine go_cv (as := [.int _]) 0 dX6_open_42 mt_6_40 (Or.inr rfl) rfl rfl hc.1.2.2.2.1.1 hc.1.2.2.2.1.2.1 (Nat.le_of_ble_eq_true rfl) (Nat.le_of_ble_eq_true rfl) (Nat.le_of_ble_eq_true rfl) (Nat.le_of_ble_eq_true rfl) (Nat.le_of_ble_eq_true rfl) ?_
      refine me_X0_get hc.1.2.2.2.1 ?_
      rw [cg_b (by omega), (hc.2.1.2.2.2.2 _ hi).2.2.1]
      show bw_go _ _ _ _ _ _ _ 45 [(4, .int _), (0, .ref _), (1, .ref _), (2, .int _), (3, .int _)] ((.int _) :: (.int _) :: (.ref _) :: []) _ _
      refine go_cv (as := [.int _, .int _]) 0 dX6_open_45 mt_6_44 (Or.inr rfl) rfl rfl hs.2.1.1 hs.2.1.2.1 (Nat.le_of_ble_eq_true rfl) (Nat.le_of_ble_eq_true rfl) (Nat.le_of_ble_eq_true rfl) (Nat.le_of_ble_eq_true rfl) (Nat.le_of_ble_eq_true rfl) ?_
      refine me_X0_set hs.2.1 ?_
      rw [cs_b (by omega)]
      show bw_go _ _ _ _ _ _ _ 48 [(4, .int _), (0, .ref _), (1, .ref _), (2, .int _), (3, .int _)] ([]) _ _
      refine go_iconst (0) dX6_open_48 rfl ?_
      refine go_istore dX6_open_49 (Nat.lt_of_lt_of_le (Nat.lt_succ_self _) (Nat.le_of_ble_eq_true rfl)) ?_
      show bw_go _ _ _ _ _ _ _ 51 [(5, .int _), (4, .int _), (0, .ref _), (1, .ref _), (2, .int _), (3, .int _)] ([]) _ _
      have KO := K
      have hu0 : op_i h (bw_sa g (p + 2) (bw_up (bw_i g (p + 2)) i (nI (cR C i)))) p C S t i ∧ bw_i (bw_sa g (p + 2) (bw_up (bw_i g (p + 2)) i (nI (cR C i)))) (p + 2) i = nI (cR C i) ∧ ∀ x, x < 0 → bw_i (bw_sa g (p + 2) (bw_up (bw_i g (p + 2)) i (nI (cR C i)))) (p + 4) (i * 10 + x) = Int32.ofInt (opW C S t i x) := by
        refine ⟨⟨⟨by rw [hv.1.1]; rfl, fun q h1 h2 h3 => ?_⟩, ⟨?_, ?_, ?_⟩, fun j hj => ?_, fun j hj x hx => ?_⟩, ?_, fun x hx => absurd hx (Nat.not_lt_zero x)⟩
        · rw [i_sa_o h2]; exact hv.1.2 q h1 h2 h3
        · rw [i_sa_o (by omega)]; exact hv.2.1.1
        · rw [i_sa_o (by omega)]; exact hv.2.1.2.1
        · rw [i_sa_o (by omega)]; exact hv.2.1.2.2
        · rw [i_sa_s, bw_up_o (by omega)]; exact hv.2.2.1 j hj
        · rw [i_sa_o (by omega)]; exact hv.2.2.2 j hj x hx
        · rw [i_sa_s, bw_up_s]
      refine go_for (P := fun w => ∀ f : bw_H, (op_i h f p C S t i ∧ bw_i f (p + 2) i = nI (cR C i) ∧ ∀ x, x < w → bw_i f (p + 4) (i * 10 + x) = Int32.ofInt (opW C S t i x)) → bw_go X 4 6 6 false none cX6_open 51 [(5, .int (nI w)), (4, .int (nI i)), (0, .ref (p)), (1, .ref (c)), (2, .int (nI t)), (3, .int (nI S))] [] f Q) (N := 10) (fun w hw K => ?_) ?_ (0) (Nat.zero_le _) _ hu0
      · -- a turn
        intro f hu
        have KI := K
        obtain ⟨hu1, hu2, hu3⟩ := hu
        have hc := ct_fr hc0 hu1.1.1 hu1.1.2 ha
        have hs : tt_s f p := by rw [hu1.1.1]; exact hs0
        show bw_go _ _ _ _ _ _ _ 51 [(5, .int _), (4, .int _), (0, .ref _), (1, .ref _), (2, .int _), (3, .int _)] ([]) _ _
        refine go_iload dX6_open_51 rfl ?_
        refine go_bipush (10) dX6_open_53 rfl ?_
        refine go_icmp_ge (pc' := 101) dX6_open_55 rfl (fun c_55 => ?_) (fun c_55 => ?_)
        · -- ge at 55: yes
          exfalso; have t_0 := nI_toInt (n := w) (by omega); have l_0 : (10 : Int32).toInt = 10 := rfl; simp only [i_le, i_lt, i_eq, bi_eq] at c_55; omega
        · -- ge at 55: no
          show bw_go _ _ _ _ _ _ _ 58 [(5, .int _), (4, .int _), (0, .ref _), (1, .ref _), (2, .int _), (3, .int _)] ([]) _ _
          refine go_aload_n dX6_open_58 rfl ?_
          refine go_gfr dX6_open_59 fl_6_30 rfl hs.1.1 hs.1.2.1 hs.1.2.2.2.1 ?_
          refine go_iload dX6_open_62 rfl ?_
          refine go_bipush (10) dX6_open_64 rfl ?_
          refine go_imul dX6_open_66 ?_
          refine go_iload dX6_open_67 rfl ?_
          refine go_iadd dX6_open_69 ?_
          refine go_iload_n dX6_open_70 rfl ?_
          refine go_iload dX6_open_71 rfl ?_
          refine go_cs (as := [.int _, .int _]) 0 dX6_open_73 rfl rfl mt_6_48 (Nat.le_of_ble_eq_true rfl) rfl rfl (Nat.le_of_ble_eq_true rfl) (Nat.le_of_ble_eq_true rfl) (Nat.le_of_ble_eq_true rfl) (Nat.le_of_ble_eq_true rfl) ?_
          refine me_X7_isIn hS (by omega) ?_
          show bw_go _ _ _ _ _ _ _ 76 [(5, .int _), (4, .int _), (0, .ref _), (1, .ref _), (2, .int _), (3, .int _)] ((.int _) :: (.int _) :: (.ref _) :: []) _ _
          refine go_ifb_eq (pc' := 91) dX6_open_76 rfl (fun c_76 => ?_) (fun c_76 => ?_)
          · -- eq at 76: yes
            show bw_go _ _ _ _ _ _ _ 91 [(5, .int _), (4, .int _), (0, .ref _), (1, .ref _), (2, .int _), (3, .int _)] ((.int _) :: (.ref _) :: []) _ _
            refine go_iconst (0) dX6_open_91 rfl ?_
            refine go_cv (as := [.int _, .int _]) 0 dX6_open_92 mt_6_44 (Or.inr rfl) rfl rfl hs.2.2.1.1 hs.2.2.1.2.1 (Nat.le_of_ble_eq_true rfl) (Nat.le_of_ble_eq_true rfl) (Nat.le_of_ble_eq_true rfl) (Nat.le_of_ble_eq_true rfl) (Nat.le_of_ble_eq_true rfl) ?_
            rw [show (10 : Int32) = nI 10 from rfl, nmul, nI_add]
            refine me_X0_set hs.2.2.1 ?_
            rw [cs_n (by omega) (by decide)]
            show bw_go _ _ _ _ _ _ _ 95 [(5, .int _), (4, .int _), (0, .ref _), (1, .ref _), (2, .int _), (3, .int _)] ([]) _ _
            refine go_iinc dX6_open_95 rfl (nI_1 w) (Nat.lt_of_lt_of_le (Nat.lt_succ_self _) (Nat.le_of_ble_eq_true rfl)) ?_
            show bw_go _ _ _ _ _ _ _ 98 [(5, .int _), (4, .int _), (0, .ref _), (1, .ref _), (2, .int _), (3, .int _)] ([]) _ _
            refine go_goto (pc' := 51) dX6_open_98 rfl ?_
            have hz : (0 : Int32) = Int32.ofInt (opW C S t i w) := by unfold opW; simp only [c_76, if_true, if_false, Bool.false_eq_true]; try rfl
            refine KI _ ⟨⟨⟨by rw [hu1.1.1]; rfl, fun q h1 h2 h3 => ?_⟩, ⟨?_, ?_, ?_⟩, fun j hj => ?_, fun j hj x hx => ?_⟩, ?_, fun x hx => ?_⟩
            · rw [i_sa_o h3]; exact hu1.1.2 q h1 h2 h3
            · rw [i_sa_o (by omega)]; exact hu1.2.1.1
            · rw [i_sa_o (by omega)]; exact hu1.2.1.2.1
            · rw [i_sa_o (by omega)]; exact hu1.2.1.2.2
            · rw [i_sa_o (by omega)]; exact hu1.2.2.1 j hj
            · rw [i_sa_s, bw_up_o (by omega)]; exact hu1.2.2.2 j hj x hx
            · rw [i_sa_o (by omega)]; exact hu2
            · rw [i_sa_s]
              by_cases hxw : x = w
              · subst hxw; rw [bw_up_s]; exact hz
              · rw [bw_up_o (by omega)]; exact hu3 x (by omega)
          · -- eq at 76: no
            show bw_go _ _ _ _ _ _ _ 79 [(5, .int _), (4, .int _), (0, .ref _), (1, .ref _), (2, .int _), (3, .int _)] ((.int _) :: (.ref _) :: []) _ _
            refine go_aload_n dX6_open_79 rfl ?_
            refine go_iload dX6_open_80 rfl ?_
            refine go_iload dX6_open_82 rfl ?_
            refine go_iload_n dX6_open_84 rfl ?_
            refine go_cs (as := [.ref _, .int _, .int _, .int _]) 3 dX6_open_85 rfl rfl mt_6_52 (Nat.le_of_ble_eq_true rfl) rfl rfl (Nat.le_of_ble_eq_true rfl) (Nat.le_of_ble_eq_true rfl) (Nat.le_of_ble_eq_true rfl) (Nat.le_of_ble_eq_true rfl) ?_
            refine me_X6_worthIf hc hi hw ht ?_
            show bw_go _ _ _ _ _ _ _ 88 [(5, .int _), (4, .int _), (0, .ref _), (1, .ref _), (2, .int _), (3, .int _)] ((.int _) :: (.int _) :: (.ref _) :: []) _ _
            refine go_goto (pc' := 92) dX6_open_88 rfl ?_
            show bw_go _ _ _ _ _ _ _ 92 [(5, .int _), (4, .int _), (0, .ref _), (1, .ref _), (2, .int _), (3, .int _)] ((.int _) :: (.int _) :: (.ref _) :: []) _ _
            refine go_cv (as := [.int _, .int _]) 0 dX6_open_92 mt_6_44 (Or.inr rfl) rfl rfl hs.2.2.1.1 hs.2.2.1.2.1 (Nat.le_of_ble_eq_true rfl) (Nat.le_of_ble_eq_true rfl) (Nat.le_of_ble_eq_true rfl) (Nat.le_of_ble_eq_true rfl) (Nat.le_of_ble_eq_true rfl) ?_
            rw [show (10 : Int32) = nI 10 from rfl, nmul, nI_add]
            refine me_X0_set hs.2.2.1 ?_
            rw [cs_n (by omega) (by decide)]
            show bw_go _ _ _ _ _ _ _ 95 [(5, .int _), (4, .int _), (0, .ref _), (1, .ref _), (2, .int _), (3, .int _)] ([]) _ _
            refine go_iinc dX6_open_95 rfl (nI_1 w) (Nat.lt_of_lt_of_le (Nat.lt_succ_self _) (Nat.le_of_ble_eq_true rfl)) ?_
            show bw_go _ _ _ _ _ _ _ 98 [(5, .int _), (4, .int _), (0, .ref _), (1, .ref _), (2, .int _), (3, .int _)] ([]) _ _
            refine go_goto (pc' := 51) dX6_open_98 rfl ?_
            have hz : (Int32.ofInt (wof C i w t)) = Int32.ofInt (opW C S t i w) := by unfold opW; simp only [c_76, if_true, if_false, Bool.false_eq_true]; try rfl
            refine KI _ ⟨⟨⟨by rw [hu1.1.1]; rfl, fun q h1 h2 h3 => ?_⟩, ⟨?_, ?_, ?_⟩, fun j hj => ?_, fun j hj x hx => ?_⟩, ?_, fun x hx => ?_⟩
            · rw [i_sa_o h3]; exact hu1.1.2 q h1 h2 h3
            · rw [i_sa_o (by omega)]; exact hu1.2.1.1
            · rw [i_sa_o (by omega)]; exact hu1.2.1.2.1
            · rw [i_sa_o (by omega)]; exact hu1.2.1.2.2
            · rw [i_sa_o (by omega)]; exact hu1.2.2.1 j hj
            · rw [i_sa_s, bw_up_o (by omega)]; exact hu1.2.2.2 j hj x hx
            · rw [i_sa_o (by omega)]; exact hu2
            · rw [i_sa_s]
              by_cases hxw : x = w
              · subst hxw; rw [bw_up_s]; exact hz
              · rw [bw_up_o (by omega)]; exact hu3 x (by omega)
      · -- behind the last
        intro f hu
        obtain ⟨hu1, hu2, hu3⟩ := hu
        have hc := ct_fr hc0 hu1.1.1 hu1.1.2 ha
        have hs : tt_s f p := by rw [hu1.1.1]; exact hs0
        show bw_go _ _ _ _ _ _ _ 51 [(5, .int _), (4, .int _), (0, .ref _), (1, .ref _), (2, .int _), (3, .int _)] ([]) _ _
        refine go_iload dX6_open_51 rfl ?_
        refine go_bipush (10) dX6_open_53 rfl ?_
        refine go_icmp_ge (pc' := 101) dX6_open_55 rfl (fun c_55 => ?_) (fun c_55 => ?_)
        · -- ge at 55: yes
          show bw_go _ _ _ _ _ _ _ 101 [(5, .int _), (4, .int _), (0, .ref _), (1, .ref _), (2, .int _), (3, .int _)] ([]) _ _
          refine go_aload_n dX6_open_101 rfl ?_
          refine go_dupA dX6_open_102 ?_
          refine go_gfi dX6_open_103 fl_6_18 rfl hs.1.1 hs.1.2.1 ?_
          rw [hu1.2.1.2.2]
          refine go_aload_n dX6_open_106 rfl ?_
          refine go_iload dX6_open_107 rfl ?_
          refine go_cv (as := [.int _]) 1 dX6_open_109 mt_6_56 (Or.inl rfl) rfl rfl hs.1.1 hs.1.2.1 (Nat.le_of_ble_eq_true rfl) (Nat.le_of_ble_eq_true rfl) (Nat.le_of_ble_eq_true rfl) (Nat.le_of_ble_eq_true rfl) (Nat.le_of_ble_eq_true rfl) ?_
          refine me_worthNow3 hs (by omega) (Nat.lt_succ_of_le k1.2.2.1) hu2 (hu3 _ (Nat.lt_succ_of_le k1.2.2.1)) ?_
          show bw_go _ _ _ _ _ _ _ 112 [(5, .int _), (4, .int _), (0, .ref _), (1, .ref _), (2, .int _), (3, .int _)] ((.int _) :: (.int _) :: (.ref _) :: []) _ _
          
          refine go_iadd dX6_open_112 ?_
          rw [ofI_add]
          refine go_pfi dX6_open_113 fl_6_18 rfl hs.1.1 hs.1.2.1 (Nat.le_of_ble_eq_true rfl) (Or.inl rfl) ?_
          show bw_go _ _ _ _ _ _ _ 116 [(5, .int _), (4, .int _), (0, .ref _), (1, .ref _), (2, .int _), (3, .int _)] ([]) _ _
          refine go_iinc dX6_open_116 rfl (nI_1 i) (Nat.lt_of_lt_of_le (Nat.lt_succ_self _) (Nat.le_of_ble_eq_true rfl)) ?_
          show bw_go _ _ _ _ _ _ _ 119 [(4, .int _), (5, .int _), (0, .ref _), (1, .ref _), (2, .int _), (3, .int _)] ([]) _ _
          refine go_goto (pc' := 21) dX6_open_119 rfl ?_
          refine go_ls [(4, .int _), (0, .ref _), (1, .ref _), (2, .int _), (3, .int _)] (by show List.Nodup ([4, 0, 1, 2, 3] : List Nat); decide) (by show List.Nodup ([4, 5, 0, 1, 2, 3] : List Nat); decide) (le_cons rfl (le_cons rfl (le_cons rfl (le_cons rfl (le_cons rfl (le_nil _)))))) ?_
          refine KO _ ⟨⟨by rw [hu1.1.1]; rfl, fun q h1 h2 h3 => ?_⟩, ⟨?_, ?_, ?_⟩, fun j hj => ?_, fun j hj x hx => ?_⟩
          · rw [i_si_o h1]; exact hu1.1.2 q h1 h2 h3
          · rw [i_si_s, bw_up_o (by decide)]; exact hu1.2.1.1
          · rw [i_si_s, bw_up_o (by decide)]; exact hu1.2.1.2.1
          · rw [i_si_s, bw_up_s]; rfl
          · rw [i_si_o (by omega)]
            by_cases hji : j = i
            · subst hji; exact hu2
            · exact hu1.2.2.1 j (by omega)
          · rw [i_si_o (by omega)]
            by_cases hji : j = i
            · subst hji; exact hu3 x hx
            · exact hu1.2.2.2 j (by omega) x hx
        · -- ge at 55: no
          exfalso; have t_0 := nI_toInt (n := 10) (by omega); have l_0 : (10 : Int32).toInt = 10 := rfl; simp only [i_le, i_lt, i_eq, bi_eq] at c_55; omega
  · -- behind the last
    intro g hv
    have hs : tt_s g p := by rw [hv.1.1]; exact hs0
    show bw_go _ _ _ _ _ _ _ 21 [(4, .int _), (0, .ref _), (1, .ref _), (2, .int _), (3, .int _)] ([]) _ _
    refine go_iload dX6_open_21 rfl ?_
    refine go_aload_n dX6_open_23 rfl ?_
    refine go_gfi dX6_open_24 fl_6_9 rfl hs.1.1 hs.1.2.1 ?_
    rw [hv.2.1.1]
    refine go_icmp_ge (pc' := 122) dX6_open_27 rfl (fun c_27 => ?_) (fun c_27 => ?_)
    · -- ge at 27: yes
      show bw_go _ _ _ _ _ _ _ 122 [(4, .int _), (0, .ref _), (1, .ref _), (2, .int _), (3, .int _)] ([]) _ _
      refine go_vret dX6_open_122 rfl ?_
      rw [hv.1.1]
      refine hQ _ ⟨⟨hs0, ⟨hv.2.1.1, hv.2.1.2.1, hv.2.1.2.2, hv.2.2.1, hv.2.2.2⟩, hc0.2.2.1, hS, fun j hj => (hc0.2.2.2.2.2.2 j hj).2.2.1, fun j hj x hx => opW_b C S t j x⟩, hv.1.2⟩
    · -- ge at 27: no
      exfalso; have k6 := hc0.2.2.1; have t_0 := nI_toInt (n := cN C) (by omega); simp only [i_le, i_lt, i_eq, bi_eq] at c_27; omega
