/-! Reader: figures, bears, the whole text -/
theorem s48 {x : Int32} {hi : Nat} (hh : hi ≤ 9) : (0 ≤ (x - 48).toInt ∧ (x - 48).toInt ≤ hi) ↔ (48 ≤ x.toInt ∧ x.toInt ≤ 48 + hi) := by
  have h1 := Int32.toInt_lt x
  have h2 := Int32.le_toInt x
  rw [Int32.toInt_sub, show (48 : Int32).toInt = 48 from rfl]
  simp only [Int.bmod]
  split <;> omega
theorem s48v {x : Int32} {hi : Nat} (hh : hi ≤ 9) (h : 48 ≤ x.toInt ∧ x.toInt ≤ 48 + hi) : x - 48 = nI (x.toInt.toNat - 48) := by
  apply Int32.toInt_inj.mp
  rw [nI_toInt (by omega), Int32.toInt_sub, show (48 : Int32).toInt = 48 from rfl]
  simp only [Int.bmod]
  split <;> omega
theorem by8_lt {T : TX} {i : Nat} (h : by8 T i ≠ 256) : i < T.1 := by
  unfold by8 at h
  split at h
  · assumption
  · exact absurd rfl h
theorem fg_lt {T : TX} {hi i : Nat} (hh : hi ≤ 9) (h : 48 ≤ (by8 T i).toInt ∧ (by8 T i).toInt ≤ 48 + hi) : i < T.1 := by
  refine by8_lt (fun z => ?_)
  rw [z] at h
  have l_0 : (256 : Int32).toInt = 256 := rfl
  omega
theorem kol_lt {T : TX} {i k : Nat} (h : kol (by8 T i) = some k) : i < T.1 ∧ k < 6 := by
  refine ⟨by8_lt (fun z => ?_), ?_⟩
  · rw [z, show kol 256 = none from by decide] at h; cases h
  · unfold kol at h
    repeat' split at h
    all_goals first | (cases h; decide) | cases h
theorem rfr_t {h : bw_H} {I J : Nat → Nat → Int32} {r : Nat} (f1 : rfr h I r) (f2 : rfr (bw_wi h I) J r) : rfr h J r := fun x hx => (f2 x hx).trans (f1 x hx)
set_option maxRecDepth 100000 in
set_option maxHeartbeats 4000000 in
theorem me_X3_oneFigure {X : Nat × (Nat → Int32)} {Q : Option Value → bw_H → Prop} {h : bw_H} {r s num wid j : Nat} {T : TX} {a : RS} (hx : rx h r s num wid j T) (ha : rst h r T.1 a) {hi : Nat} (hh : hi ≤ 9) (hQ : ∀ I : Nat → Nat → Int32, rfr h I r → rst (bw_wi h I) r T.1 (ofg T hi a).2 → Q (some (.int (nI (ofg T hi a).1))) (bw_wi h I)) : bw_me X 5 bm_X3_oneFigure false [.ref r, .ref s, .int (nI j), .int (nI hi)] h Q := by
  show bw_go _ 5 3 5 false (some .int) cX3_oneFigure 0 [(0, .ref _), (1, .ref _), (2, .int _), (3, .int _)] [] _ _
  refine go_aload_n dX3_oneFigure_0 rfl ?_
  refine go_aload_n dX3_oneFigure_1 rfl ?_
  refine go_iload_n dX3_oneFigure_2 rfl ?_
  refine go_cv (as := [.ref _, .int _]) 4 dX3_oneFigure_3 mt_3_36 (Or.inl rfl) rfl rfl hx.1.1 hx.1.2 (Nat.le_of_ble_eq_true rfl) (Nat.le_of_ble_eq_true rfl) (Nat.le_of_ble_eq_true rfl) (Nat.le_of_ble_eq_true rfl) (Nat.le_of_ble_eq_true rfl) ?_
  refine me_X3_byteHere hx ha ?_
  show bw_go _ _ _ _ _ _ _ 6 [(0, .ref _), (1, .ref _), (2, .int _), (3, .int _)] ((.int _) :: []) _ _
  refine go_bipush (48) dX3_oneFigure_6 rfl ?_
  refine go_isub dX3_oneFigure_8 ?_
  refine go_istore dX3_oneFigure_9 (Nat.lt_of_lt_of_le (Nat.lt_succ_self _) (Nat.le_of_ble_eq_true rfl)) ?_
  show bw_go _ _ _ _ _ _ _ 11 [(4, .int _), (0, .ref _), (1, .ref _), (2, .int _), (3, .int _)] ([]) _ _
  refine go_iload dX3_oneFigure_11 rfl ?_
  refine go_if_lt (pc' := 22) dX3_oneFigure_13 rfl (fun c_13 => ?_) (fun c_13 => ?_)
  · -- lt at 13: yes
    show bw_go _ _ _ _ _ _ _ 22 [(4, .int _), (0, .ref _), (1, .ref _), (2, .int _), (3, .int _)] ([]) _ _
    refine go_aload_n dX3_oneFigure_22 rfl ?_
    refine go_aload_n dX3_oneFigure_23 rfl ?_
    refine go_gfi dX3_oneFigure_24 fl_3_9 rfl hx.1.1 hx.1.2 ?_
    rw [ha.1]
    refine go_cv (as := [.int _]) 0 dX3_oneFigure_27 mt_3_56 (Or.inl rfl) rfl rfl hx.1.1 hx.1.2 (Nat.le_of_ble_eq_true rfl) (Nat.le_of_ble_eq_true rfl) (Nat.le_of_ble_eq_true rfl) (Nat.le_of_ble_eq_true rfl) (Nat.le_of_ble_eq_true rfl) ?_
    refine me_X3_fail hx.1 ha (v := a.1) (by have := T_lt hx; have := ha.2.2.2.1; omega) (fun I f a2 => ?_)
    show bw_go _ _ _ _ _ _ _ 30 [(4, .int _), (0, .ref _), (1, .ref _), (2, .int _), (3, .int _)] ([]) _ _
    refine go_iconst (0) dX3_oneFigure_30 rfl ?_
    refine go_iret dX3_oneFigure_31 rfl rfl ?_
    simp only [i_lt, i_0] at c_13
    have hno : ¬ (48 ≤ (by8 T a.1).toInt ∧ (by8 T a.1).toInt ≤ 48 + hi) := fun z => by
      have z2 := (s48 hh).mpr z
      have t_0 := nI_toInt (n := hi) (by omega)
      omega
    have e2 : ofg T hi a = (0, a.1, a.2.or (some a.1)) := by unfold ofg fg; rw [if_neg hno]
    rw [e2] at hQ
    exact hQ I f a2
  · -- lt at 13: no
    show bw_go _ _ _ _ _ _ _ 16 [(4, .int _), (0, .ref _), (1, .ref _), (2, .int _), (3, .int _)] ([]) _ _
    refine go_iload dX3_oneFigure_16 rfl ?_
    refine go_iload_n dX3_oneFigure_18 rfl ?_
    refine go_icmp_le (pc' := 32) dX3_oneFigure_19 rfl (fun c_19 => ?_) (fun c_19 => ?_)
    · -- le at 19: yes
      show bw_go _ _ _ _ _ _ _ 32 [(4, .int _), (0, .ref _), (1, .ref _), (2, .int _), (3, .int _)] ([]) _ _
      refine go_aload_n dX3_oneFigure_32 rfl ?_
      refine go_dupA dX3_oneFigure_33 ?_
      refine go_gfi dX3_oneFigure_34 fl_3_9 rfl hx.1.1 hx.1.2 ?_
      rw [ha.1]
      refine go_iconst (1) dX3_oneFigure_37 rfl ?_
      refine go_iadd dX3_oneFigure_38 ?_
      refine go_pfi dX3_oneFigure_39 fl_3_9 rfl hx.1.1 hx.1.2 (Nat.le_of_ble_eq_true rfl) (Or.inl rfl) ?_
      show bw_go _ _ _ _ _ _ _ 42 [(4, .int _), (0, .ref _), (1, .ref _), (2, .int _), (3, .int _)] ([]) _ _
      rw [nI_1]
      refine go_iload dX3_oneFigure_42 rfl ?_
      refine go_iret dX3_oneFigure_44 rfl rfl ?_
      simp only [i_lt, i_0] at c_13
      simp only [i_le] at c_19
      have hy : 48 ≤ (by8 T a.1).toInt ∧ (by8 T a.1).toInt ≤ 48 + hi := (s48 hh).mp (by have t_0 := nI_toInt (n := hi) (by omega); omega)
      have e2 : ofg T hi a = ((by8 T a.1).toInt.toNat - 48, a.1 + 1, a.2) := by unfold ofg fg; rw [if_pos hy]
      rw [e2] at hQ
      rw [s48v hh hy]
      exact q_r hQ rfl (fun x hx1 => i_si_o hx1) (rst_si0 ha (fg_lt hh hy))
    · -- le at 19: no
      show bw_go _ _ _ _ _ _ _ 22 [(4, .int _), (0, .ref _), (1, .ref _), (2, .int _), (3, .int _)] ([]) _ _
      refine go_aload_n dX3_oneFigure_22 rfl ?_
      refine go_aload_n dX3_oneFigure_23 rfl ?_
      refine go_gfi dX3_oneFigure_24 fl_3_9 rfl hx.1.1 hx.1.2 ?_
      rw [ha.1]
      refine go_cv (as := [.int _]) 0 dX3_oneFigure_27 mt_3_56 (Or.inl rfl) rfl rfl hx.1.1 hx.1.2 (Nat.le_of_ble_eq_true rfl) (Nat.le_of_ble_eq_true rfl) (Nat.le_of_ble_eq_true rfl) (Nat.le_of_ble_eq_true rfl) (Nat.le_of_ble_eq_true rfl) ?_
      refine me_X3_fail hx.1 ha (v := a.1) (by have := T_lt hx; have := ha.2.2.2.1; omega) (fun I f a2 => ?_)
      show bw_go _ _ _ _ _ _ _ 30 [(4, .int _), (0, .ref _), (1, .ref _), (2, .int _), (3, .int _)] ([]) _ _
      refine go_iconst (0) dX3_oneFigure_30 rfl ?_
      refine go_iret dX3_oneFigure_31 rfl rfl ?_
      simp only [i_lt, i_0] at c_13
      simp only [i_le] at c_19
      have hno : ¬ (48 ≤ (by8 T a.1).toInt ∧ (by8 T a.1).toInt ≤ 48 + hi) := fun z => by
        have z2 := (s48 hh).mpr z
        have t_0 := nI_toInt (n := hi) (by omega)
        omega
      have e2 : ofg T hi a = (0, a.1, a.2.or (some a.1)) := by unfold ofg fg; rw [if_neg hno]
      rw [e2] at hQ
      exact hQ I f a2
set_option maxRecDepth 100000 in
set_option maxHeartbeats 4000000 in
theorem me_X3_twoFigures {X : Nat × (Nat → Int32)} {Q : Option Value → bw_H → Prop} {h : bw_H} {r s num wid j : Nat} {T : TX} {a : RS} (hx : rx h r s num wid j T) (ha : rst h r T.1 a) (hQ : ∀ I : Nat → Nat → Int32, rfr h I r → rst (bw_wi h I) r T.1 (tfg T a).2 → Q (some (.int (nI (tfg T a).1))) (bw_wi h I)) : bw_me X 6 bm_X3_twoFigures false [.ref r, .ref s, .int (nI j)] h Q := by
  show bw_go _ 6 3 6 false (some .int) cX3_twoFigures 0 [(0, .ref _), (1, .ref _), (2, .int _)] [] _ _
  refine go_aload_n dX3_twoFigures_0 rfl ?_
  refine go_gfi dX3_twoFigures_1 fl_3_9 rfl hx.1.1 hx.1.2 ?_
  rw [ha.1]
  refine go_istore_n dX3_twoFigures_4 (Nat.lt_of_lt_of_le (Nat.lt_succ_self _) (Nat.le_of_ble_eq_true rfl)) ?_
  show bw_go _ _ _ _ _ _ _ 5 [(3, .int _), (0, .ref _), (1, .ref _), (2, .int _)] ([]) _ _
  refine go_aload_n dX3_twoFigures_5 rfl ?_
  refine go_aload_n dX3_twoFigures_6 rfl ?_
  refine go_iload_n dX3_twoFigures_7 rfl ?_
  refine go_bipush (9) dX3_twoFigures_8 rfl ?_
  refine go_cv (as := [.ref _, .int _, .int _]) 5 dX3_twoFigures_10 mt_3_60 (Or.inl rfl) rfl rfl hx.1.1 hx.1.2 (Nat.le_of_ble_eq_true rfl) (Nat.le_of_ble_eq_true rfl) (Nat.le_of_ble_eq_true rfl) (Nat.le_of_ble_eq_true rfl) (Nat.le_of_ble_eq_true rfl) ?_
  rw [show (9 : Int32) = nI 9 from rfl]
  refine me_X3_oneFigure hx ha (by decide) (fun I1 f1 a1 => ?_)
  have x1 := rx_fr hx f1
  show bw_go _ _ _ _ _ _ _ 13 [(3, .int _), (0, .ref _), (1, .ref _), (2, .int _)] ((.int _) :: []) _ _
  refine go_istore dX3_twoFigures_13 (Nat.lt_of_lt_of_le (Nat.lt_succ_self _) (Nat.le_of_ble_eq_true rfl)) ?_
  show bw_go _ _ _ _ _ _ _ 15 [(4, .int _), (3, .int _), (0, .ref _), (1, .ref _), (2, .int _)] ([]) _ _
  refine go_aload_n dX3_twoFigures_15 rfl ?_
  refine go_gfi dX3_twoFigures_16 fl_3_18 rfl hx.1.1 hx.1.2 ?_
  rw [a1.2.2.1]
  refine go_bipush (-9) dX3_twoFigures_19 rfl ?_
  refine go_icmp_eq (pc' := 26) dX3_twoFigures_21 rfl (fun c_21 => ?_) (fun c_21 => ?_)
  · -- eq at 21: yes
    show bw_go _ _ _ _ _ _ _ 26 [(4, .int _), (3, .int _), (0, .ref _), (1, .ref _), (2, .int _)] ([]) _ _
    refine go_bipush (10) dX3_twoFigures_26 rfl ?_
    refine go_iload dX3_twoFigures_28 rfl ?_
    refine go_imul dX3_twoFigures_30 ?_
    rw [show (10 : Int32) = nI 10 from rfl, nmul]
    refine go_aload_n dX3_twoFigures_31 rfl ?_
    refine go_aload_n dX3_twoFigures_32 rfl ?_
    refine go_iload_n dX3_twoFigures_33 rfl ?_
    refine go_bipush (9) dX3_twoFigures_34 rfl ?_
    refine go_cv (as := [.ref _, .int _, .int _]) 5 dX3_twoFigures_36 mt_3_60 (Or.inl rfl) rfl rfl hx.1.1 hx.1.2 (Nat.le_of_ble_eq_true rfl) (Nat.le_of_ble_eq_true rfl) (Nat.le_of_ble_eq_true rfl) (Nat.le_of_ble_eq_true rfl) (Nat.le_of_ble_eq_true rfl) ?_
    rw [show (9 : Int32) = nI 9 from rfl]
    refine me_X3_oneFigure x1 a1 (by decide) (fun I2 f2 a2 => ?_)
    have x2 := rx_fr x1 f2
    show bw_go _ _ _ _ _ _ _ 39 [(4, .int _), (3, .int _), (0, .ref _), (1, .ref _), (2, .int _)] ((.int _) :: (.int _) :: []) _ _
    refine go_iadd dX3_twoFigures_39 ?_
    rw [nI_add]
    refine go_istore dX3_twoFigures_40 (Nat.lt_of_lt_of_le (Nat.lt_succ_self _) (Nat.le_of_ble_eq_true rfl)) ?_
    show bw_go _ _ _ _ _ _ _ 42 [(5, .int _), (4, .int _), (3, .int _), (0, .ref _), (1, .ref _), (2, .int _)] ([]) _ _
    refine go_iload dX3_twoFigures_42 rfl ?_
    refine go_bipush (63) dX3_twoFigures_44 rfl ?_
    refine go_icmp_le (pc' := 54) dX3_twoFigures_46 rfl (fun c_46 => ?_) (fun c_46 => ?_)
    · -- le at 46: yes
      show bw_go _ _ _ _ _ _ _ 54 [(5, .int _), (4, .int _), (3, .int _), (0, .ref _), (1, .ref _), (2, .int _)] ([]) _ _
      refine go_iload dX3_twoFigures_54 rfl ?_
      refine go_iret dX3_twoFigures_56 rfl rfl ?_
      have e3 : (ofg T 9 a).2.2 = none := (mtI_9 a1.2.2.2.2).mp c_21
      have t_0 := nI_toInt (n := 10 * (ofg T 9 a).1 + (ofg T 9 (ofg T 9 a).2).1) (by have h1 := ofg_le (T := T) (hi := 9) (a := a); have h2 := ofg_le (T := T) (hi := 9) (a := (ofg T 9 a).2); omega)
      have l_0 : (63 : Int32).toInt = 63 := rfl
      simp only [i_le] at c_46
      unfold tfg at hQ
      rw [if_pos e3] at hQ
      simp only at hQ
      rw [if_neg (by omega)] at hQ
      exact hQ I2 (rfr_t f1 f2) a2
    · -- le at 46: no
      show bw_go _ _ _ _ _ _ _ 49 [(5, .int _), (4, .int _), (3, .int _), (0, .ref _), (1, .ref _), (2, .int _)] ([]) _ _
      refine go_aload_n dX3_twoFigures_49 rfl ?_
      refine go_iload_n dX3_twoFigures_50 rfl ?_
      refine go_cv (as := [.int _]) 0 dX3_twoFigures_51 mt_3_56 (Or.inl rfl) rfl rfl hx.1.1 hx.1.2 (Nat.le_of_ble_eq_true rfl) (Nat.le_of_ble_eq_true rfl) (Nat.le_of_ble_eq_true rfl) (Nat.le_of_ble_eq_true rfl) (Nat.le_of_ble_eq_true rfl) ?_
      refine me_X3_fail x2.1 a2 (v := a.1) (by have := T_lt hx; have := ha.2.2.2.1; omega) (fun I3 f3 a3 => ?_)
      show bw_go _ _ _ _ _ _ _ 54 [(5, .int _), (4, .int _), (3, .int _), (0, .ref _), (1, .ref _), (2, .int _)] ([]) _ _
      refine go_iload dX3_twoFigures_54 rfl ?_
      refine go_iret dX3_twoFigures_56 rfl rfl ?_
      have e3 : (ofg T 9 a).2.2 = none := (mtI_9 a1.2.2.2.2).mp c_21
      have t_0 := nI_toInt (n := 10 * (ofg T 9 a).1 + (ofg T 9 (ofg T 9 a).2).1) (by have h1 := ofg_le (T := T) (hi := 9) (a := a); have h2 := ofg_le (T := T) (hi := 9) (a := (ofg T 9 a).2); omega)
      have l_0 : (63 : Int32).toInt = 63 := rfl
      simp only [i_le] at c_46
      unfold tfg at hQ
      rw [if_pos e3] at hQ
      simp only at hQ
      rw [if_pos (by omega)] at hQ
      exact hQ I3 (rfr_t f1 (rfr_t (h := bw_wi h I1) f2 f3)) a3
  · -- eq at 21: no
    show bw_go _ _ _ _ _ _ _ 24 [(4, .int _), (3, .int _), (0, .ref _), (1, .ref _), (2, .int _)] ([]) _ _
    refine go_iconst (0) dX3_twoFigures_24 rfl ?_
    refine go_iret dX3_twoFigures_25 rfl rfl ?_
    unfold tfg at hQ
    rw [if_neg (fun z => c_21 ((mtI_9 a1.2.2.2.2).mpr z))] at hQ
    exact hQ I1 f1 a1
