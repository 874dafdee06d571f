/-! Reader: figures, bears, the whole text -/
theorem s48 {x : Int32} {hi : Nat} (hh : hi ≤ 9) : (0 ≤ (x - 48).toInt ∧ (x - 48).toInt ≤ hi) ↔ (48 ≤ x.toInt ∧ x.toInt ≤ 48 + hi) := by
  have h1 := Int32.toInt_lt x
  have h2 := Int32.le_toInt x
  rw [Int32.toInt_sub, show (48 : Int32).toInt = 48 from rfl]
  simp only [Int.bmod]
  split <;> omega
theorem s48v {x : Int32} {hi : Nat} (hh : hi ≤ 9) (h : 48 ≤ x.toInt ∧ x.toInt ≤ 48 + hi) : x - 48 = nI (x.toInt.toNat - 48) := by
  apply Int32.toInt_inj.mp
  rw [nI_toInt (by omega), Int32.toInt_sub, show (48 : Int32).toInt = 48 from rfl]
  simp only [Int.bmod]
  split <;> omega
theorem by8_lt {T : TX} {i : Nat} (h : by8 T i ≠ 256) : i < T.1 := by
  unfold by8 at h
  split at h
  · assumption
  · exact absurd rfl h
theorem fg_lt {T : TX} {hi i : Nat} (hh : hi ≤ 9) (h : 48 ≤ (by8 T i).toInt ∧ (by8 T i).toInt ≤ 48 + hi) : i < T.1 := by
  refine by8_lt (fun z => ?_)
  rw [z] at h
  have l_0 : (256 : Int32).toInt = 256 := rfl
  omega
theorem kol_lt {T : TX} {i k : Nat} (h : kol (by8 T i) = some k) : i < T.1 ∧ k < 6 := by
  refine ⟨by8_lt (fun z => ?_), ?_⟩
  · rw [z, show kol 256 = none from by decide] at h; cases h
  · unfold kol at h
    repeat' split at h
    all_goals first | (cases h; decide) | cases h
theorem rfr_t {h : bw_H} {I J : Nat → Nat → Int32} {r : Nat} (f1 : rfr h I r) (f2 : rfr (bw_wi h I) J r) : rfr h J r := fun x hx => (f2 x hx).trans (f1 x hx)
set_option maxRecDepth 100000 in
set_option maxHeartbeats 4000000 in
theorem me_X3_oneFigure {X : Nat × (Nat → Int32)} {Q : Option Value → bw_H → Prop} {h : bw_H} {r bb : Nat} {T : TX} {a : RS} (hx : rx h r bb T) (ha : rst h r T.1 a) {hi : Nat} (hh : hi ≤ 9) (hQ : ∀ I : Nat → Nat → Int32, rfr h I r → rst (bw_wi h I) r T.1 (ofg T hi a).2 → Q (some (.int (nI (ofg T hi a).1))) (bw_wi h I)) : bw_me X 2 bm_X3_oneFigure false [.ref r, .int (nI hi)] h Q := by
  show bw_go _ 2 3 3 false (some .int) cX3_oneFigure 0 [(0, .ref _), (1, .int _)] [] _ _
  refine go_aload_n dX3_oneFigure_0 rfl ?_
  refine go_cv (as := []) 1 dX3_oneFigure_1 mt_3_42 (Or.inl rfl) rfl rfl hx.1.1 hx.1.2.1 (Nat.le_of_ble_eq_true rfl) (Nat.le_of_ble_eq_true rfl) (Nat.le_of_ble_eq_true rfl) (Nat.le_of_ble_eq_true rfl) (Nat.le_of_ble_eq_true rfl) ?_
  refine me_X3_byteHere hx ha ?_
  show bw_go _ _ _ _ _ _ _ 4 [(0, .ref _), (1, .int _)] ((.int _) :: []) _ _
  refine go_bipush (48) dX3_oneFigure_4 rfl ?_
  refine go_isub dX3_oneFigure_6 ?_
  refine go_istore_n dX3_oneFigure_7 (Nat.lt_of_lt_of_le (Nat.lt_succ_self _) (Nat.le_of_ble_eq_true rfl)) ?_
  show bw_go _ _ _ _ _ _ _ 8 [(2, .int _), (0, .ref _), (1, .int _)] ([]) _ _
  refine go_iload_n dX3_oneFigure_8 rfl ?_
  refine go_if_lt (pc' := 17) dX3_oneFigure_9 rfl (fun c_9 => ?_) (fun c_9 => ?_)
  · -- lt at 9: yes
    show bw_go _ _ _ _ _ _ _ 17 [(2, .int _), (0, .ref _), (1, .int _)] ([]) _ _
    refine go_aload_n dX3_oneFigure_17 rfl ?_
    refine go_aload_n dX3_oneFigure_18 rfl ?_
    refine go_gfi dX3_oneFigure_19 fl_3_24 rfl hx.1.1 hx.1.2.1 ?_
    rw [ha.1]
    refine go_cv (as := [.int _]) 0 dX3_oneFigure_22 mt_3_76 (Or.inl rfl) rfl rfl hx.1.1 hx.1.2.1 (Nat.le_of_ble_eq_true rfl) (Nat.le_of_ble_eq_true rfl) (Nat.le_of_ble_eq_true rfl) (Nat.le_of_ble_eq_true rfl) (Nat.le_of_ble_eq_true rfl) ?_
    refine me_X3_fail ⟨hx.1.1, hx.1.2.1⟩ ha (v := a.1) (by have := T_lt hx; have := ha.2.2.2.1; omega) (fun I f a2 => ?_)
    show bw_go _ _ _ _ _ _ _ 25 [(2, .int _), (0, .ref _), (1, .int _)] ([]) _ _
    refine go_iconst (0) dX3_oneFigure_25 rfl ?_
    refine go_iret dX3_oneFigure_26 rfl rfl ?_
    simp only [i_lt, i_0] at c_9
    have hno : ¬ (48 ≤ (by8 T a.1).toInt ∧ (by8 T a.1).toInt ≤ 48 + hi) := fun z => by
      have z2 := (s48 hh).mpr z
      have t_0 := nI_toInt (n := hi) (by omega)
      omega
    have e2 : ofg T hi a = (0, a.1, a.2.or (some a.1)) := by unfold ofg fg; rw [if_neg hno]
    rw [e2] at hQ
    exact hQ I f a2
  · -- lt at 9: no
    show bw_go _ _ _ _ _ _ _ 12 [(2, .int _), (0, .ref _), (1, .int _)] ([]) _ _
    refine go_iload_n dX3_oneFigure_12 rfl ?_
    refine go_iload_n dX3_oneFigure_13 rfl ?_
    refine go_icmp_le (pc' := 27) dX3_oneFigure_14 rfl (fun c_14 => ?_) (fun c_14 => ?_)
    · -- le at 14: yes
      show bw_go _ _ _ _ _ _ _ 27 [(2, .int _), (0, .ref _), (1, .int _)] ([]) _ _
      refine go_aload_n dX3_oneFigure_27 rfl ?_
      refine go_dupA dX3_oneFigure_28 ?_
      refine go_gfi dX3_oneFigure_29 fl_3_24 rfl hx.1.1 hx.1.2.1 ?_
      rw [ha.1]
      refine go_iconst (1) dX3_oneFigure_32 rfl ?_
      refine go_iadd dX3_oneFigure_33 ?_
      rw [nI_1]
      refine go_pfi dX3_oneFigure_34 fl_3_24 rfl hx.1.1 hx.1.2.1 (Nat.le_of_ble_eq_true rfl) (Or.inl rfl) ?_
      show bw_go _ _ _ _ _ _ _ 37 [(2, .int _), (0, .ref _), (1, .int _)] ([]) _ _
      refine go_iload_n dX3_oneFigure_37 rfl ?_
      refine go_iret dX3_oneFigure_38 rfl rfl ?_
      simp only [i_lt, i_0] at c_9
      simp only [i_le] at c_14
      have hy : 48 ≤ (by8 T a.1).toInt ∧ (by8 T a.1).toInt ≤ 48 + hi := (s48 hh).mp (by have t_0 := nI_toInt (n := hi) (by omega); omega)
      have e2 : ofg T hi a = ((by8 T a.1).toInt.toNat - 48, a.1 + 1, a.2) := by unfold ofg fg; rw [if_pos hy]
      rw [e2] at hQ
      rw [s48v hh hy]
      exact q_r hQ rfl (fun x hx1 => i_si_o hx1) (rst_si0 ha (fg_lt hh hy))
    · -- le at 14: no
      show bw_go _ _ _ _ _ _ _ 17 [(2, .int _), (0, .ref _), (1, .int _)] ([]) _ _
      refine go_aload_n dX3_oneFigure_17 rfl ?_
      refine go_aload_n dX3_oneFigure_18 rfl ?_
      refine go_gfi dX3_oneFigure_19 fl_3_24 rfl hx.1.1 hx.1.2.1 ?_
      rw [ha.1]
      refine go_cv (as := [.int _]) 0 dX3_oneFigure_22 mt_3_76 (Or.inl rfl) rfl rfl hx.1.1 hx.1.2.1 (Nat.le_of_ble_eq_true rfl) (Nat.le_of_ble_eq_true rfl) (Nat.le_of_ble_eq_true rfl) (Nat.le_of_ble_eq_true rfl) (Nat.le_of_ble_eq_true rfl) ?_
      refine me_X3_fail ⟨hx.1.1, hx.1.2.1⟩ ha (v := a.1) (by have := T_lt hx; have := ha.2.2.2.1; omega) (fun I f a2 => ?_)
      show bw_go _ _ _ _ _ _ _ 25 [(2, .int _), (0, .ref _), (1, .int _)] ([]) _ _
      refine go_iconst (0) dX3_oneFigure_25 rfl ?_
      refine go_iret dX3_oneFigure_26 rfl rfl ?_
      simp only [i_lt, i_0] at c_9
      simp only [i_le] at c_14
      have hno : ¬ (48 ≤ (by8 T a.1).toInt ∧ (by8 T a.1).toInt ≤ 48 + hi) := fun z => by
        have z2 := (s48 hh).mpr z
        have t_0 := nI_toInt (n := hi) (by omega)
        omega
      have e2 : ofg T hi a = (0, a.1, a.2.or (some a.1)) := by unfold ofg fg; rw [if_neg hno]
      rw [e2] at hQ
      exact hQ I f a2
set_option maxRecDepth 100000 in
set_option maxHeartbeats 4000000 in
theorem me_X3_twoFigures {X : Nat × (Nat → Int32)} {Q : Option Value → bw_H → Prop} {h : bw_H} {r bb : Nat} {T : TX} {a : RS} (hx : rx h r bb T) (ha : rst h r T.1 a) (hQ : ∀ I : Nat → Nat → Int32, rfr h I r → rst (bw_wi h I) r T.1 (tfg T a).2 → Q (some (.int (nI (tfg T a).1))) (bw_wi h I)) : bw_me X 3 bm_X3_twoFigures false [.ref r] h Q := by
  show bw_go _ 3 3 4 false (some .int) cX3_twoFigures 0 [(0, .ref _)] [] _ _
  refine go_aload_n dX3_twoFigures_0 rfl ?_
  refine go_gfi dX3_twoFigures_1 fl_3_24 rfl hx.1.1 hx.1.2.1 ?_
  rw [ha.1]
  refine go_istore_n dX3_twoFigures_4 (Nat.lt_of_lt_of_le (Nat.lt_succ_self _) (Nat.le_of_ble_eq_true rfl)) ?_
  show bw_go _ _ _ _ _ _ _ 5 [(1, .int _), (0, .ref _)] ([]) _ _
  refine go_aload_n dX3_twoFigures_5 rfl ?_
  refine go_bipush (9) dX3_twoFigures_6 rfl ?_
  refine go_cv (as := [.int _]) 2 dX3_twoFigures_8 mt_3_79 (Or.inl rfl) rfl rfl hx.1.1 hx.1.2.1 (Nat.le_of_ble_eq_true rfl) (Nat.le_of_ble_eq_true rfl) (Nat.le_of_ble_eq_true rfl) (Nat.le_of_ble_eq_true rfl) (Nat.le_of_ble_eq_true rfl) ?_
  rw [show (9 : Int32) = nI 9 from rfl]
  refine me_X3_oneFigure hx ha (by decide) (fun I1 f1 a1 => ?_)
  have x1 := rx_fr hx f1
  show bw_go _ _ _ _ _ _ _ 11 [(1, .int _), (0, .ref _)] ((.int _) :: []) _ _
  refine go_istore_n dX3_twoFigures_11 (Nat.lt_of_lt_of_le (Nat.lt_succ_self _) (Nat.le_of_ble_eq_true rfl)) ?_
  show bw_go _ _ _ _ _ _ _ 12 [(2, .int _), (1, .int _), (0, .ref _)] ([]) _ _
  refine go_aload_n dX3_twoFigures_12 rfl ?_
  refine go_gfi dX3_twoFigures_13 fl_3_27 rfl hx.1.1 hx.1.2.1 ?_
  rw [a1.2.2.1]
  refine go_bipush (-9) dX3_twoFigures_16 rfl ?_
  refine go_icmp_eq (pc' := 23) dX3_twoFigures_18 rfl (fun c_18 => ?_) (fun c_18 => ?_)
  · -- eq at 18: yes
    show bw_go _ _ _ _ _ _ _ 23 [(2, .int _), (1, .int _), (0, .ref _)] ([]) _ _
    refine go_bipush (10) dX3_twoFigures_23 rfl ?_
    refine go_iload_n dX3_twoFigures_25 rfl ?_
    refine go_imul dX3_twoFigures_26 ?_
    rw [show (10 : Int32) = nI 10 from rfl, nmul]
    refine go_aload_n dX3_twoFigures_27 rfl ?_
    refine go_bipush (9) dX3_twoFigures_28 rfl ?_
    refine go_cv (as := [.int _]) 2 dX3_twoFigures_30 mt_3_79 (Or.inl rfl) rfl rfl hx.1.1 hx.1.2.1 (Nat.le_of_ble_eq_true rfl) (Nat.le_of_ble_eq_true rfl) (Nat.le_of_ble_eq_true rfl) (Nat.le_of_ble_eq_true rfl) (Nat.le_of_ble_eq_true rfl) ?_
    rw [show (9 : Int32) = nI 9 from rfl]
    refine me_X3_oneFigure x1 a1 (by decide) (fun I2 f2 a2 => ?_)
    have x2 := rx_fr x1 f2
    show bw_go _ _ _ _ _ _ _ 33 [(2, .int _), (1, .int _), (0, .ref _)] ((.int _) :: (.int _) :: []) _ _
    refine go_iadd dX3_twoFigures_33 ?_
    rw [nI_add]
    refine go_istore_n dX3_twoFigures_34 (Nat.lt_of_lt_of_le (Nat.lt_succ_self _) (Nat.le_of_ble_eq_true rfl)) ?_
    show bw_go _ _ _ _ _ _ _ 35 [(3, .int _), (2, .int _), (1, .int _), (0, .ref _)] ([]) _ _
    refine go_iload_n dX3_twoFigures_35 rfl ?_
    refine go_bipush (63) dX3_twoFigures_36 rfl ?_
    refine go_icmp_le (pc' := 46) dX3_twoFigures_38 rfl (fun c_38 => ?_) (fun c_38 => ?_)
    · -- le at 38: yes
      show bw_go _ _ _ _ _ _ _ 46 [(3, .int _), (2, .int _), (1, .int _), (0, .ref _)] ([]) _ _
      refine go_iload_n dX3_twoFigures_46 rfl ?_
      refine go_iret dX3_twoFigures_47 rfl rfl ?_
      have e3 : (ofg T 9 a).2.2 = none := (mtI_9 a1.2.2.2.2).mp c_18
      have t_0 := nI_toInt (n := 10 * (ofg T 9 a).1 + (ofg T 9 (ofg T 9 a).2).1) (by have h1 := ofg_le (T := T) (hi := 9) (a := a); have h2 := ofg_le (T := T) (hi := 9) (a := (ofg T 9 a).2); omega)
      have l_0 : (63 : Int32).toInt = 63 := rfl
      simp only [i_le] at c_38
      unfold tfg at hQ
      rw [if_pos e3] at hQ
      simp only at hQ
      rw [if_neg (by omega)] at hQ
      exact hQ I2 (rfr_t f1 f2) a2
    · -- le at 38: no
      show bw_go _ _ _ _ _ _ _ 41 [(3, .int _), (2, .int _), (1, .int _), (0, .ref _)] ([]) _ _
      refine go_aload_n dX3_twoFigures_41 rfl ?_
      refine go_iload_n dX3_twoFigures_42 rfl ?_
      refine go_cv (as := [.int _]) 0 dX3_twoFigures_43 mt_3_76 (Or.inl rfl) rfl rfl hx.1.1 hx.1.2.1 (Nat.le_of_ble_eq_true rfl) (Nat.le_of_ble_eq_true rfl) (Nat.le_of_ble_eq_true rfl) (Nat.le_of_ble_eq_true rfl) (Nat.le_of_ble_eq_true rfl) ?_
      refine me_X3_fail ⟨x2.1.1, x2.1.2.1⟩ a2 (v := a.1) (by have := T_lt hx; have := ha.2.2.2.1; omega) (fun I3 f3 a3 => ?_)
      show bw_go _ _ _ _ _ _ _ 46 [(3, .int _), (2, .int _), (1, .int _), (0, .ref _)] ([]) _ _
      refine go_iload_n dX3_twoFigures_46 rfl ?_
      refine go_iret dX3_twoFigures_47 rfl rfl ?_
      have e3 : (ofg T 9 a).2.2 = none := (mtI_9 a1.2.2.2.2).mp c_18
      have t_0 := nI_toInt (n := 10 * (ofg T 9 a).1 + (ofg T 9 (ofg T 9 a).2).1) (by have h1 := ofg_le (T := T) (hi := 9) (a := a); have h2 := ofg_le (T := T) (hi := 9) (a := (ofg T 9 a).2); omega)
      have l_0 : (63 : Int32).toInt = 63 := rfl
      simp only [i_le] at c_38
      unfold tfg at hQ
      rw [if_pos e3] at hQ
      simp only at hQ
      rw [if_pos (by omega)] at hQ
      exact hQ I3 (rfr_t f1 (rfr_t (h := bw_wi h I1) f2 f3)) a3
  · -- eq at 18: no
    show bw_go _ _ _ _ _ _ _ 21 [(2, .int _), (1, .int _), (0, .ref _)] ([]) _ _
    refine go_iconst (0) dX3_twoFigures_21 rfl ?_
    refine go_iret dX3_twoFigures_22 rfl rfl ?_
    unfold tfg at hQ
    rw [if_neg (fun z => c_18 ((mtI_9 a1.2.2.2.2).mpr z))] at hQ
    exact hQ I1 f1 a1
