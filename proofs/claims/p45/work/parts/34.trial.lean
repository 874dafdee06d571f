/-! Trial: wear tried up and down -/
/-- bears, called, wear, worth -/
abbrev TT : Type := Nat × Nat × (Nat → Nat) × (Nat → Nat → Int)
def mor (n : Nat) (wr : Nat → Nat) (wo : Nat → Nat → Int) : Int := match n with
  | 0 => 0
  | k + 1 => mor k wr wo + wo k (wr k)
def tt_s (h : bw_H) (p : Nat) : Prop := (p < bw_n h ∧ bw_k h p = .inl 6 ∧ bw_r h p 3 = some (p + 1) ∧ bw_r h p 4 = some (p + 3) ∧ bw_r h p 5 = some (p + 5)) ∧ bw_ce h (p + 1) (p + 2) 6 ∧ bw_ce h (p + 3) (p + 4) 60 ∧ bw_ce h (p + 5) (p + 6) 4
def tt_v (h : bw_H) (p : Nat) (A : TT) : Prop := bw_i h p 0 = nI A.1 ∧ bw_i h p 1 = nI A.2.1 ∧ bw_i h p 2 = Int32.ofInt (mor A.1 A.2.2.1 A.2.2.2) ∧ (∀ i, i < A.1 → bw_i h (p + 2) i = nI (A.2.2.1 i)) ∧ ∀ i, i < A.1 → ∀ w, w < 10 → bw_i h (p + 4) (i * 10 + w) = Int32.ofInt (A.2.2.2 i w)
def tt_k (A : TT) : Prop := A.1 ≤ 6 ∧ A.2.1 < 64 ∧ (∀ i, i < A.1 → A.2.2.1 i ≤ 9) ∧ ∀ i, i < A.1 → ∀ w, w < 10 → -1 ≤ A.2.2.2 i w ∧ A.2.2.2 i w ≤ 1
def bw_tt (h : bw_H) (p : Nat) (A : TT) : Prop := tt_s h p ∧ tt_v h p A ∧ tt_k A
theorem mor_b {wr : Nat → Nat} {wo : Nat → Nat → Int} : ∀ n : Nat, (∀ i, i < n → -1 ≤ wo i (wr i) ∧ wo i (wr i) ≤ 1) → -(n : Int) ≤ mor n wr wo ∧ mor n wr wo ≤ n
  | 0, _ => ⟨Int.le_refl _, Int.le_refl _⟩
  | k + 1, h => by
    have h1 := mor_b k (fun i hi => h i (by omega))
    have h2 := h k (by omega)
    show -((k + 1 : Nat) : Int) ≤ mor k wr wo + wo k (wr k) ∧ mor k wr wo + wo k (wr k) ≤ ((k + 1 : Nat) : Int)
    omega
theorem mor_up {wr : Nat → Nat} {wo : Nat → Nat → Int} {i w : Nat} : ∀ n : Nat, i < n → mor n (bw_up wr i w) wo = mor n wr wo - wo i (wr i) + wo i w
  | 0, h => absurd h (Nat.not_lt_zero _)
  | k + 1, h => by
    show mor k (bw_up wr i w) wo + wo k (bw_up wr i w k) = mor k wr wo + wo k (wr k) - wo i (wr i) + wo i w
    by_cases e : i = k
    · subst e
      rw [bw_up_s]
      have : ∀ m : Nat, m ≤ i → mor m (bw_up wr i w) wo = mor m wr wo := by
        intro m
        induction m with
        | zero => intro _; rfl
        | succ m ih => intro hm; show mor m _ wo + wo m (bw_up wr i w m) = mor m wr wo + wo m (wr m); rw [ih (by omega), bw_up_o (by omega)]
      rw [this i (Nat.le_refl _)]; omega
    · rw [mor_up k (by omega), bw_up_o (fun z => e z.symm)]; omega
theorem tt_b {A : TT} (hk : tt_k A) : -6 ≤ mor A.1 A.2.2.1 A.2.2.2 ∧ mor A.1 A.2.2.1 A.2.2.2 ≤ 6 := by
  have := mor_b (wr := A.2.2.1) (wo := A.2.2.2) A.1 (fun i hi => hk.2.2.2 i hi _ (Nat.lt_succ_of_le (hk.2.2.1 i hi)))
  have := hk.1
  omega
theorem ofI_sub (a b : Int) : Int32.ofInt a - Int32.ofInt b = Int32.ofInt (a - b) := (Int32.ofInt_sub a b).symm
theorem nm1_t {k : Nat} (h : k < 1000) : (nI k + (-1)).toInt = (k : Int) - 1 := by
  have e : nI k + (-1) = nI k - 1 := by
    apply Int32.toBitVec_inj.mp
    show (nI k).toBitVec + (-1#32) = (nI k).toBitVec - 1#32
    rw [BitVec.sub_eq_add_neg]
  rw [e]
  exact nsub_t h
def wof (C : CT) (i w t : Nat) : Int := if (tol (cW C) i (cK C i) w (cV C i) (cE C i)).testBit t = true then (if (one (tol (cW C) i (cK C i) w (cV C i) (cE C i)) (cK C i) w (cD C)).testBit t = true then 1 else -1) else 0
set_option maxRecDepth 100000 in
set_option maxHeartbeats 4000000 in
theorem me_X6_worthIf {X : Nat × (Nat → Int32)} {Q : Option Value → bw_H → Prop} {h : bw_H} {p : Nat} {C : CT} (hc : bw_ct h p C) {i w t : Nat} (hi : i < cN C) (hw : w < 10) (ht : t < 6) (hQ : Q (some (.int (Int32.ofInt (wof C i w t)))) h) : bw_me X 3 bm_X6_worthIf false [.ref p, .int (nI i), .int (nI w), .int (nI t)] h Q := by
  show bw_go _ 3 6 6 false (some .int) cX6_worthIf 0 [(0, .ref _), (1, .int _), (2, .int _), (3, .int _)] [] _ _
  have k1 := hc.2.2.2.2.2.2 i hi
  refine go_aload_n dX6_worthIf_0 rfl ?_
  refine go_gfr dX6_worthIf_1 fl_6_59 rfl hc.1.1.1 hc.1.1.2.1 hc.1.1.2.2.1 ?_
  refine go_iload_n dX6_worthIf_4 rfl ?_
  refine go_cv (as := [.int _]) 0 dX6_worthIf_5 mt_6_40 (Or.inr rfl) rfl rfl hc.1.2.1.1 hc.1.2.1.2.1 (Nat.le_of_ble_eq_true rfl) (Nat.le_of_ble_eq_true rfl) (Nat.le_of_ble_eq_true rfl) (Nat.le_of_ble_eq_true rfl) (Nat.le_of_ble_eq_true rfl) ?_
  refine me_X0_get hc.1.2.1 ?_
  rw [cg_n (Nat.lt_of_lt_of_le hi hc.2.2.1) (Nat.le_of_ble_eq_true rfl), (hc.2.1.2.2.2.2 _ hi).1]
  show bw_go _ _ _ _ _ _ _ 8 [(0, .ref _), (1, .int _), (2, .int _), (3, .int _)] ((.int _) :: []) _ _
  refine go_istore dX6_worthIf_8 (Nat.lt_of_lt_of_le (Nat.lt_succ_self _) (Nat.le_of_ble_eq_true rfl)) ?_
  show bw_go _ _ _ _ _ _ _ 10 [(4, .int _), (0, .ref _), (1, .int _), (2, .int _), (3, .int _)] ([]) _ _
  refine go_aload_n dX6_worthIf_10 rfl ?_
  refine go_iload_n dX6_worthIf_11 rfl ?_
  refine go_iload dX6_worthIf_12 rfl ?_
  refine go_iload_n dX6_worthIf_14 rfl ?_
  refine go_cv (as := [.int _, .int _, .int _]) 2 dX6_worthIf_15 mt_6_62 (Or.inr rfl) rfl rfl hc.1.1.1 hc.1.1.2.1 (Nat.le_of_ble_eq_true rfl) (Nat.le_of_ble_eq_true rfl) (Nat.le_of_ble_eq_true rfl) (Nat.le_of_ble_eq_true rfl) (Nat.le_of_ble_eq_true rfl) ?_
  refine me_X1_toldOf hc hi k1.1 hw ?_
  show bw_go _ _ _ _ _ _ _ 18 [(4, .int _), (0, .ref _), (1, .int _), (2, .int _), (3, .int _)] ((.int _) :: []) _ _
  refine go_istore dX6_worthIf_18 (Nat.lt_of_lt_of_le (Nat.lt_succ_self _) (Nat.le_of_ble_eq_true rfl)) ?_
  show bw_go _ _ _ _ _ _ _ 20 [(5, .int _), (4, .int _), (0, .ref _), (1, .int _), (2, .int _), (3, .int _)] ([]) _ _
  refine go_iload dX6_worthIf_20 rfl ?_
  refine go_iload_n dX6_worthIf_22 rfl ?_
  refine go_cs (as := [.int _, .int _]) 0 dX6_worthIf_23 rfl rfl mt_6_48 (Nat.le_of_ble_eq_true rfl) rfl rfl (Nat.le_of_ble_eq_true rfl) (Nat.le_of_ble_eq_true rfl) (Nat.le_of_ble_eq_true rfl) (Nat.le_of_ble_eq_true rfl) ?_
  refine me_X7_isIn (tol_lt k1.2.2.2) (by omega) ?_
  show bw_go _ _ _ _ _ _ _ 26 [(5, .int _), (4, .int _), (0, .ref _), (1, .int _), (2, .int _), (3, .int _)] ((.int _) :: []) _ _
  refine go_ifb_ne (pc' := 31) dX6_worthIf_26 rfl (fun c_26 => ?_) (fun c_26 => ?_)
  · -- ne at 26: yes
    show bw_go _ _ _ _ _ _ _ 31 [(5, .int _), (4, .int _), (0, .ref _), (1, .int _), (2, .int _), (3, .int _)] ([]) _ _
    refine go_iload dX6_worthIf_31 rfl ?_
    refine go_iload dX6_worthIf_33 rfl ?_
    refine go_iload_n dX6_worthIf_35 rfl ?_
    refine go_aload_n dX6_worthIf_36 rfl ?_
    refine go_gfi dX6_worthIf_37 fl_6_66 rfl hc.1.1.1 hc.1.1.2.1 ?_
    rw [hc.2.1.2.1]
    refine go_cs (as := [.int _, .int _, .int _, .int _]) 1 dX6_worthIf_40 rfl rfl mt_6_69 (Nat.le_of_ble_eq_true rfl) rfl rfl (Nat.le_of_ble_eq_true rfl) (Nat.le_of_ble_eq_true rfl) (Nat.le_of_ble_eq_true rfl) (Nat.le_of_ble_eq_true rfl) ?_
    refine me_X1_onesOf (tol_lt k1.2.2.2) k1.1 hw hc.2.2.2.1 ?_
    show bw_go _ _ _ _ _ _ _ 43 [(5, .int _), (4, .int _), (0, .ref _), (1, .int _), (2, .int _), (3, .int _)] ((.int _) :: []) _ _
    refine go_iload_n dX6_worthIf_43 rfl ?_
    refine go_cs (as := [.int _, .int _]) 0 dX6_worthIf_44 rfl rfl mt_6_48 (Nat.le_of_ble_eq_true rfl) rfl rfl (Nat.le_of_ble_eq_true rfl) (Nat.le_of_ble_eq_true rfl) (Nat.le_of_ble_eq_true rfl) (Nat.le_of_ble_eq_true rfl) ?_
    refine me_X7_isIn (one_lt (tol_lt k1.2.2.2)) (by omega) ?_
    show bw_go _ _ _ _ _ _ _ 47 [(5, .int _), (4, .int _), (0, .ref _), (1, .int _), (2, .int _), (3, .int _)] ((.int _) :: []) _ _
    refine go_ifb_eq (pc' := 54) dX6_worthIf_47 rfl (fun c_47 => ?_) (fun c_47 => ?_)
    · -- eq at 47: yes
      show bw_go _ _ _ _ _ _ _ 54 [(5, .int _), (4, .int _), (0, .ref _), (1, .int _), (2, .int _), (3, .int _)] ([]) _ _
      refine go_iconst (-1) dX6_worthIf_54 rfl ?_
      refine go_iret dX6_worthIf_55 rfl rfl ?_
      unfold wof at hQ; simp only [c_26, c_47, if_true, if_false, Bool.false_eq_true] at hQ; exact hQ
    · -- eq at 47: no
      show bw_go _ _ _ _ _ _ _ 50 [(5, .int _), (4, .int _), (0, .ref _), (1, .int _), (2, .int _), (3, .int _)] ([]) _ _
      refine go_iconst (1) dX6_worthIf_50 rfl ?_
      refine go_goto (pc' := 55) dX6_worthIf_51 rfl ?_
      show bw_go _ _ _ _ _ _ _ 55 [(5, .int _), (4, .int _), (0, .ref _), (1, .int _), (2, .int _), (3, .int _)] ((.int _) :: []) _ _
      refine go_iret dX6_worthIf_55 rfl rfl ?_
      unfold wof at hQ; simp only [c_26, c_47, if_true, if_false, Bool.false_eq_true] at hQ; exact hQ
  · -- ne at 26: no
    show bw_go _ _ _ _ _ _ _ 29 [(5, .int _), (4, .int _), (0, .ref _), (1, .int _), (2, .int _), (3, .int _)] ([]) _ _
    refine go_iconst (0) dX6_worthIf_29 rfl ?_
    refine go_iret dX6_worthIf_30 rfl rfl ?_
    unfold wof at hQ; simp only [c_26, if_true, if_false, Bool.false_eq_true] at hQ; exact hQ
set_option maxRecDepth 100000 in
set_option maxHeartbeats 4000000 in
theorem me_X6_worthNow {X : Nat × (Nat → Int32)} {Q : Option Value → bw_H → Prop} {h : bw_H} {p : Nat} {A : TT} (hc : bw_tt h p A) {i : Nat} (hi : i < A.1) (hQ : Q (some (.int (Int32.ofInt (A.2.2.2 i (A.2.2.1 i))))) h) : bw_me X 1 bm_X6_worthNow false [.ref p, .int (nI i)] h Q := by
  show bw_go _ 1 6 2 false (some .int) cX6_worthNow 0 [(0, .ref _), (1, .int _)] [] _ _
  refine go_aload_n dX6_worthNow_0 rfl ?_
  refine go_gfr dX6_worthNow_1 fl_6_30 rfl hc.1.1.1 hc.1.1.2.1 hc.1.1.2.2.2.1 ?_
  refine go_iload_n dX6_worthNow_4 rfl ?_
  refine go_bipush (10) dX6_worthNow_5 rfl ?_
  refine go_imul dX6_worthNow_7 ?_
  refine go_aload_n dX6_worthNow_8 rfl ?_
  refine go_gfr dX6_worthNow_9 fl_6_26 rfl hc.1.1.1 hc.1.1.2.1 hc.1.1.2.2.1 ?_
  refine go_iload_n dX6_worthNow_12 rfl ?_
  refine go_cv (as := [.int _]) 0 dX6_worthNow_13 mt_6_40 (Or.inr rfl) rfl rfl hc.1.2.1.1 hc.1.2.1.2.1 (Nat.le_of_ble_eq_true rfl) (Nat.le_of_ble_eq_true rfl) (Nat.le_of_ble_eq_true rfl) (Nat.le_of_ble_eq_true rfl) (Nat.le_of_ble_eq_true rfl) ?_
  refine me_X0_get hc.1.2.1 ?_
  rw [cg_b (Nat.lt_of_lt_of_le hi hc.2.2.1), hc.2.1.2.2.2.1 _ hi]
  show bw_go _ _ _ _ _ _ _ 16 [(0, .ref _), (1, .int _)] ((.int _) :: (.int _) :: (.ref _) :: []) _ _
  refine go_iadd dX6_worthNow_16 ?_
  refine go_cv (as := [.int _]) 0 dX6_worthNow_17 mt_6_40 (Or.inr rfl) rfl rfl hc.1.2.2.1.1 hc.1.2.2.1.2.1 (Nat.le_of_ble_eq_true rfl) (Nat.le_of_ble_eq_true rfl) (Nat.le_of_ble_eq_true rfl) (Nat.le_of_ble_eq_true rfl) (Nat.le_of_ble_eq_true rfl) ?_
  have k9 := hc.2.2.2.2.1 i hi
  have k6 := hc.2.2.1
  rw [show (10 : Int32) = nI 10 from rfl, nmul, nI_add]
  refine me_X0_get hc.1.2.2.1 ?_
  rw [cg_n (by omega) (by decide), hc.2.1.2.2.2.2 i hi _ (by omega)]
  show bw_go _ _ _ _ _ _ _ 20 [(0, .ref _), (1, .int _)] ((.int _) :: []) _ _
  refine go_iret dX6_worthNow_20 rfl rfl ?_
  exact hQ
set_option maxRecDepth 100000 in
set_option maxHeartbeats 4000000 in
theorem me_canWearP {X : Nat × (Nat → Int32)} {Q : Option Value → bw_H → Prop} {h : bw_H} {p : Nat} {A : TT} (hc : bw_tt h p A) {i : Nat} (hi : i < A.1) (hQ : Q (some (.int (bi (A.2.1.testBit i && decide (A.2.2.1 i < 9))))) h) : bw_me X 1 bm_X6_canWear false [.ref p, .int (nI i), .int 1] h Q := by
  show bw_go _ 1 6 4 false (some .boolean) cX6_canWear 0 [(0, .ref _), (1, .int _), (2, .int _)] [] _ _
  refine go_aload_n dX6_canWear_0 rfl ?_
  refine go_gfr dX6_canWear_1 fl_6_26 rfl hc.1.1.1 hc.1.1.2.1 hc.1.1.2.2.1 ?_
  refine go_iload_n dX6_canWear_4 rfl ?_
  refine go_cv (as := [.int _]) 0 dX6_canWear_5 mt_6_40 (Or.inr rfl) rfl rfl hc.1.2.1.1 hc.1.2.1.2.1 (Nat.le_of_ble_eq_true rfl) (Nat.le_of_ble_eq_true rfl) (Nat.le_of_ble_eq_true rfl) (Nat.le_of_ble_eq_true rfl) (Nat.le_of_ble_eq_true rfl) ?_
  refine me_X0_get hc.1.2.1 ?_
  rw [cg_b (Nat.lt_of_lt_of_le hi hc.2.2.1), hc.2.1.2.2.2.1 _ hi]
  show bw_go _ _ _ _ _ _ _ 8 [(0, .ref _), (1, .int _), (2, .int _)] ((.int _) :: []) _ _
  refine go_iload_n dX6_canWear_8 rfl ?_
  refine go_iadd dX6_canWear_9 ?_
  refine go_istore_n dX6_canWear_10 (Nat.lt_of_lt_of_le (Nat.lt_succ_self _) (Nat.le_of_ble_eq_true rfl)) ?_
  show bw_go _ _ _ _ _ _ _ 11 [(3, .int _), (0, .ref _), (1, .int _), (2, .int _)] ([]) _ _
  refine go_aload_n dX6_canWear_11 rfl ?_
  refine go_gfi dX6_canWear_12 fl_6_15 rfl hc.1.1.1 hc.1.1.2.1 ?_
  rw [hc.2.1.2.1]
  refine go_iload_n dX6_canWear_15 rfl ?_
  refine go_cs (as := [.int _, .int _]) 0 dX6_canWear_16 rfl rfl mt_6_48 (Nat.le_of_ble_eq_true rfl) rfl rfl (Nat.le_of_ble_eq_true rfl) (Nat.le_of_ble_eq_true rfl) (Nat.le_of_ble_eq_true rfl) (Nat.le_of_ble_eq_true rfl) ?_
  refine me_X7_isIn hc.2.2.2.1 (Nat.lt_of_lt_of_le hi (Nat.le_trans hc.2.2.1 (by decide))) ?_
  show bw_go _ _ _ _ _ _ _ 19 [(3, .int _), (0, .ref _), (1, .int _), (2, .int _)] ((.int _) :: []) _ _
  refine go_ifb_eq (pc' := 36) dX6_canWear_19 rfl (fun c_19 => ?_) (fun c_19 => ?_)
  · -- eq at 19: yes
    show bw_go _ _ _ _ _ _ _ 36 [(3, .int _), (0, .ref _), (1, .int _), (2, .int _)] ([]) _ _
    refine go_iconst (0) dX6_canWear_36 rfl ?_
    refine go_iret dX6_canWear_37 rfl rfl ?_
    have k9 := hc.2.2.2.2.1 i hi
    have t_0 : (nI (A.2.2.1 i) + 1).toInt = (A.2.2.1 i : Int) + 1 := by rw [nI_1, nI_toInt (by omega)]; rfl
    have l_0 := i_0; have l_9 : (9 : Int32).toInt = 9 := rfl
    (try simp only [i_lt] at c_23)
    (try simp only [i_le, i_lt] at c_29)
    exact bi_0 (by first | (rw [c_19]; rfl) | (rw [show decide (A.2.2.1 i < 9) = false from decide_eq_false (by omega)]; exact Bool.and_false _)) hQ
  · -- eq at 19: no
    show bw_go _ _ _ _ _ _ _ 22 [(3, .int _), (0, .ref _), (1, .int _), (2, .int _)] ([]) _ _
    refine go_iload_n dX6_canWear_22 rfl ?_
    refine go_if_lt (pc' := 36) dX6_canWear_23 rfl (fun c_23 => ?_) (fun c_23 => ?_)
    · -- lt at 23: yes
      show bw_go _ _ _ _ _ _ _ 36 [(3, .int _), (0, .ref _), (1, .int _), (2, .int _)] ([]) _ _
      refine go_iconst (0) dX6_canWear_36 rfl ?_
      refine go_iret dX6_canWear_37 rfl rfl ?_
      have k9 := hc.2.2.2.2.1 i hi
      have t_0 : (nI (A.2.2.1 i) + 1).toInt = (A.2.2.1 i : Int) + 1 := by rw [nI_1, nI_toInt (by omega)]; rfl
      have l_0 := i_0; have l_9 : (9 : Int32).toInt = 9 := rfl
      (try simp only [i_lt] at c_23)
      (try simp only [i_le, i_lt] at c_29)
      exact bi_0 (by first | (rw [c_19]; rfl) | (rw [show decide (A.2.2.1 i < 9) = false from decide_eq_false (by omega)]; exact Bool.and_false _)) hQ
    · -- lt at 23: no
      show bw_go _ _ _ _ _ _ _ 26 [(3, .int _), (0, .ref _), (1, .int _), (2, .int _)] ([]) _ _
      refine go_iload_n dX6_canWear_26 rfl ?_
      refine go_bipush (9) dX6_canWear_27 rfl ?_
      refine go_icmp_gt (pc' := 36) dX6_canWear_29 rfl (fun c_29 => ?_) (fun c_29 => ?_)
      · -- gt at 29: yes
        show bw_go _ _ _ _ _ _ _ 36 [(3, .int _), (0, .ref _), (1, .int _), (2, .int _)] ([]) _ _
        refine go_iconst (0) dX6_canWear_36 rfl ?_
        refine go_iret dX6_canWear_37 rfl rfl ?_
        have k9 := hc.2.2.2.2.1 i hi
        have t_0 : (nI (A.2.2.1 i) + 1).toInt = (A.2.2.1 i : Int) + 1 := by rw [nI_1, nI_toInt (by omega)]; rfl
        have l_0 := i_0; have l_9 : (9 : Int32).toInt = 9 := rfl
        (try simp only [i_lt] at c_23)
        (try simp only [i_le, i_lt] at c_29)
        exact bi_0 (by first | (rw [c_19]; rfl) | (rw [show decide (A.2.2.1 i < 9) = false from decide_eq_false (by omega)]; exact Bool.and_false _)) hQ
      · -- gt at 29: no
        show bw_go _ _ _ _ _ _ _ 32 [(3, .int _), (0, .ref _), (1, .int _), (2, .int _)] ([]) _ _
        refine go_iconst (1) dX6_canWear_32 rfl ?_
        refine go_goto (pc' := 37) dX6_canWear_33 rfl ?_
        show bw_go _ _ _ _ _ _ _ 37 [(3, .int _), (0, .ref _), (1, .int _), (2, .int _)] ((.int _) :: []) _ _
        refine go_iret dX6_canWear_37 rfl rfl ?_
        have k9 := hc.2.2.2.2.1 i hi
        have t_0 : (nI (A.2.2.1 i) + 1).toInt = (A.2.2.1 i : Int) + 1 := by rw [nI_1, nI_toInt (by omega)]; rfl
        have l_0 := i_0; have l_9 : (9 : Int32).toInt = 9 := rfl
        (try simp only [i_lt] at c_23)
        (try simp only [i_le, i_lt] at c_29)
        exact bi_1 (by rw [Bool.and_eq_true]; exact ⟨c_19, decide_eq_true (by omega)⟩) hQ
set_option maxRecDepth 100000 in
set_option maxHeartbeats 4000000 in
theorem me_canWearM {X : Nat × (Nat → Int32)} {Q : Option Value → bw_H → Prop} {h : bw_H} {p : Nat} {A : TT} (hc : bw_tt h p A) {i : Nat} (hi : i < A.1) (hQ : Q (some (.int (bi (A.2.1.testBit i && decide (0 < A.2.2.1 i))))) h) : bw_me X 1 bm_X6_canWear false [.ref p, .int (nI i), .int (-1)] h Q := by
  show bw_go _ 1 6 4 false (some .boolean) cX6_canWear 0 [(0, .ref _), (1, .int _), (2, .int _)] [] _ _
  refine go_aload_n dX6_canWear_0 rfl ?_
  refine go_gfr dX6_canWear_1 fl_6_26 rfl hc.1.1.1 hc.1.1.2.1 hc.1.1.2.2.1 ?_
  refine go_iload_n dX6_canWear_4 rfl ?_
  refine go_cv (as := [.int _]) 0 dX6_canWear_5 mt_6_40 (Or.inr rfl) rfl rfl hc.1.2.1.1 hc.1.2.1.2.1 (Nat.le_of_ble_eq_true rfl) (Nat.le_of_ble_eq_true rfl) (Nat.le_of_ble_eq_true rfl) (Nat.le_of_ble_eq_true rfl) (Nat.le_of_ble_eq_true rfl) ?_
  refine me_X0_get hc.1.2.1 ?_
  rw [cg_b (Nat.lt_of_lt_of_le hi hc.2.2.1), hc.2.1.2.2.2.1 _ hi]
  show bw_go _ _ _ _ _ _ _ 8 [(0, .ref _), (1, .int _), (2, .int _)] ((.int _) :: []) _ _
  refine go_iload_n dX6_canWear_8 rfl ?_
  refine go_iadd dX6_canWear_9 ?_
  refine go_istore_n dX6_canWear_10 (Nat.lt_of_lt_of_le (Nat.lt_succ_self _) (Nat.le_of_ble_eq_true rfl)) ?_
  show bw_go _ _ _ _ _ _ _ 11 [(3, .int _), (0, .ref _), (1, .int _), (2, .int _)] ([]) _ _
  refine go_aload_n dX6_canWear_11 rfl ?_
  refine go_gfi dX6_canWear_12 fl_6_15 rfl hc.1.1.1 hc.1.1.2.1 ?_
  rw [hc.2.1.2.1]
  refine go_iload_n dX6_canWear_15 rfl ?_
  refine go_cs (as := [.int _, .int _]) 0 dX6_canWear_16 rfl rfl mt_6_48 (Nat.le_of_ble_eq_true rfl) rfl rfl (Nat.le_of_ble_eq_true rfl) (Nat.le_of_ble_eq_true rfl) (Nat.le_of_ble_eq_true rfl) (Nat.le_of_ble_eq_true rfl) ?_
  refine me_X7_isIn hc.2.2.2.1 (Nat.lt_of_lt_of_le hi (Nat.le_trans hc.2.2.1 (by decide))) ?_
  show bw_go _ _ _ _ _ _ _ 19 [(3, .int _), (0, .ref _), (1, .int _), (2, .int _)] ((.int _) :: []) _ _
  refine go_ifb_eq (pc' := 36) dX6_canWear_19 rfl (fun c_19 => ?_) (fun c_19 => ?_)
  · -- eq at 19: yes
    show bw_go _ _ _ _ _ _ _ 36 [(3, .int _), (0, .ref _), (1, .int _), (2, .int _)] ([]) _ _
    refine go_iconst (0) dX6_canWear_36 rfl ?_
    refine go_iret dX6_canWear_37 rfl rfl ?_
    have k9 := hc.2.2.2.2.1 i hi
    have t_0 : (nI (A.2.2.1 i) + (-1)).toInt = (A.2.2.1 i : Int) - 1 := nm1_t (by omega)
    have l_0 := i_0; have l_9 : (9 : Int32).toInt = 9 := rfl
    (try simp only [i_lt] at c_23)
    (try simp only [i_le, i_lt] at c_29)
    exact bi_0 (by first | (rw [c_19]; rfl) | (rw [show decide (0 < A.2.2.1 i) = false from decide_eq_false (by omega)]; exact Bool.and_false _)) hQ
  · -- eq at 19: no
    show bw_go _ _ _ _ _ _ _ 22 [(3, .int _), (0, .ref _), (1, .int _), (2, .int _)] ([]) _ _
    refine go_iload_n dX6_canWear_22 rfl ?_
    refine go_if_lt (pc' := 36) dX6_canWear_23 rfl (fun c_23 => ?_) (fun c_23 => ?_)
    · -- lt at 23: yes
      show bw_go _ _ _ _ _ _ _ 36 [(3, .int _), (0, .ref _), (1, .int _), (2, .int _)] ([]) _ _
      refine go_iconst (0) dX6_canWear_36 rfl ?_
      refine go_iret dX6_canWear_37 rfl rfl ?_
      have k9 := hc.2.2.2.2.1 i hi
      have t_0 : (nI (A.2.2.1 i) + (-1)).toInt = (A.2.2.1 i : Int) - 1 := nm1_t (by omega)
      have l_0 := i_0; have l_9 : (9 : Int32).toInt = 9 := rfl
      (try simp only [i_lt] at c_23)
      (try simp only [i_le, i_lt] at c_29)
      exact bi_0 (by first | (rw [c_19]; rfl) | (rw [show decide (0 < A.2.2.1 i) = false from decide_eq_false (by omega)]; exact Bool.and_false _)) hQ
    · -- lt at 23: no
      show bw_go _ _ _ _ _ _ _ 26 [(3, .int _), (0, .ref _), (1, .int _), (2, .int _)] ([]) _ _
      refine go_iload_n dX6_canWear_26 rfl ?_
      refine go_bipush (9) dX6_canWear_27 rfl ?_
      refine go_icmp_gt (pc' := 36) dX6_canWear_29 rfl (fun c_29 => ?_) (fun c_29 => ?_)
      · -- gt at 29: yes
        show bw_go _ _ _ _ _ _ _ 36 [(3, .int _), (0, .ref _), (1, .int _), (2, .int _)] ([]) _ _
        refine go_iconst (0) dX6_canWear_36 rfl ?_
        refine go_iret dX6_canWear_37 rfl rfl ?_
        have k9 := hc.2.2.2.2.1 i hi
        have t_0 : (nI (A.2.2.1 i) + (-1)).toInt = (A.2.2.1 i : Int) - 1 := nm1_t (by omega)
        have l_0 := i_0; have l_9 : (9 : Int32).toInt = 9 := rfl
        (try simp only [i_lt] at c_23)
        (try simp only [i_le, i_lt] at c_29)
        exact bi_0 (by first | (rw [c_19]; rfl) | (rw [show decide (0 < A.2.2.1 i) = false from decide_eq_false (by omega)]; exact Bool.and_false _)) hQ
      · -- gt at 29: no
        show bw_go _ _ _ _ _ _ _ 32 [(3, .int _), (0, .ref _), (1, .int _), (2, .int _)] ([]) _ _
        refine go_iconst (1) dX6_canWear_32 rfl ?_
        refine go_goto (pc' := 37) dX6_canWear_33 rfl ?_
        show bw_go _ _ _ _ _ _ _ 37 [(3, .int _), (0, .ref _), (1, .int _), (2, .int _)] ((.int _) :: []) _ _
        refine go_iret dX6_canWear_37 rfl rfl ?_
        have k9 := hc.2.2.2.2.1 i hi
        have t_0 : (nI (A.2.2.1 i) + (-1)).toInt = (A.2.2.1 i : Int) - 1 := nm1_t (by omega)
        have l_0 := i_0; have l_9 : (9 : Int32).toInt = 9 := rfl
        (try simp only [i_lt] at c_23)
        (try simp only [i_le, i_lt] at c_29)
        exact bi_1 (by rw [Bool.and_eq_true]; exact ⟨c_19, decide_eq_true (by omega)⟩) hQ
/-- wear tried at another -/
def ttU (A : TT) (i w : Nat) : TT := (A.1, A.2.1, bw_up A.2.2.1 i w, A.2.2.2)
theorem ttU_k {A : TT} {i w : Nat} (hk : tt_k A) (hw : w ≤ 9) : tt_k (ttU A i w) := by
  refine ⟨hk.1, hk.2.1, fun j hj => ?_, hk.2.2.2⟩
  show bw_up A.2.2.1 i w j ≤ 9
  unfold bw_up
  split
  · exact hw
  · exact hk.2.2.1 j hj
theorem wear_ct {h : bw_H} {p i w : Nat} {A : TT} {z : Int32} (hc : bw_tt h p A) (hi : i < A.1) (hw : w ≤ 9) : bw_tt (bw_si (bw_sa (bw_si h p 2 z) (p + 2) (bw_up (bw_i h (p + 2)) i (nI w))) p 2 (Int32.ofInt (mor A.1 (bw_up A.2.2.1 i w) A.2.2.2))) p (ttU A i w) := by
  obtain ⟨hs, ⟨v0, v1, v2, v3, v4⟩, hk⟩ := hc
  refine ⟨hs, ⟨?_, ?_, ?_, fun j hj => ?_, fun j hj x hx => ?_⟩, ttU_k hk hw⟩
  · simp (disch := omega) only [i_si_s, i_sa_o, bw_up_o]; exact v0
  · simp (disch := omega) only [i_si_s, i_sa_o, bw_up_o]; exact v1
  · simp (disch := omega) only [i_si_s, bw_up_s]; rfl
  · simp (disch := omega) only [i_si_o, i_sa_s]
    show bw_up (bw_i h (p + 2)) i (nI w) j = nI (bw_up A.2.2.1 i w j)
    unfold bw_up
    split
    · rfl
    · exact v3 j hj
  · simp (disch := omega) only [i_si_o, i_sa_o]
    exact v4 j hj x hx
set_option maxRecDepth 100000 in
set_option maxHeartbeats 4000000 in
theorem me_worthNow2 {X : Nat × (Nat → Int32)} {Q : Option Value → bw_H → Prop} {h : bw_H} {p i w : Nat} {z : Int32} {A : TT} (hc : bw_tt h p A) (hi : i < A.1) (hw : w ≤ 9) (hQ : Q (some (.int (Int32.ofInt (A.2.2.2 i w)))) (bw_sa (bw_si h p 2 z) (p + 2) (bw_up (bw_i h (p + 2)) i (nI w)))) : bw_me X 1 bm_X6_worthNow false [.ref p, .int (nI i)] (bw_sa (bw_si h p 2 z) (p + 2) (bw_up (bw_i h (p + 2)) i (nI w))) Q := by
  show bw_go _ 1 6 2 false (some .int) cX6_worthNow 0 [(0, .ref _), (1, .int _)] [] _ _
  refine go_aload_n dX6_worthNow_0 rfl ?_
  refine go_gfr dX6_worthNow_1 fl_6_30 rfl hc.1.1.1 hc.1.1.2.1 hc.1.1.2.2.2.1 ?_
  refine go_iload_n dX6_worthNow_4 rfl ?_
  refine go_bipush (10) dX6_worthNow_5 rfl ?_
  refine go_imul dX6_worthNow_7 ?_
  refine go_aload_n dX6_worthNow_8 rfl ?_
  refine go_gfr dX6_worthNow_9 fl_6_26 rfl hc.1.1.1 hc.1.1.2.1 hc.1.1.2.2.1 ?_
  refine go_iload_n dX6_worthNow_12 rfl ?_
  refine go_cv (as := [.int _]) 0 dX6_worthNow_13 mt_6_40 (Or.inr rfl) rfl rfl hc.1.2.1.1 hc.1.2.1.2.1 (Nat.le_of_ble_eq_true rfl) (Nat.le_of_ble_eq_true rfl) (Nat.le_of_ble_eq_true rfl) (Nat.le_of_ble_eq_true rfl) (Nat.le_of_ble_eq_true rfl) ?_
  refine me_X0_get hc.1.2.1 ?_
  rw [cg_b (Nat.lt_of_lt_of_le hi hc.2.2.1), i_sa_s, bw_up_s]
  show bw_go _ _ _ _ _ _ _ 16 [(0, .ref _), (1, .int _)] ((.int _) :: (.int _) :: (.ref _) :: []) _ _
  refine go_iadd dX6_worthNow_16 ?_
  refine go_cv (as := [.int _]) 0 dX6_worthNow_17 mt_6_40 (Or.inr rfl) rfl rfl hc.1.2.2.1.1 hc.1.2.2.1.2.1 (Nat.le_of_ble_eq_true rfl) (Nat.le_of_ble_eq_true rfl) (Nat.le_of_ble_eq_true rfl) (Nat.le_of_ble_eq_true rfl) (Nat.le_of_ble_eq_true rfl) ?_
  have k6 := hc.2.2.1
  rw [show (10 : Int32) = nI 10 from rfl, nmul, nI_add]
  refine me_X0_get hc.1.2.2.1 ?_
  rw [cg_n (by omega) (by decide), i_sa_o (by omega), i_si_o (by omega), hc.2.1.2.2.2.2 i hi _ (by omega)]
  show bw_go _ _ _ _ _ _ _ 20 [(0, .ref _), (1, .int _)] ((.int _) :: []) _ _
  refine go_iret dX6_worthNow_20 rfl rfl ?_
  exact hQ
set_option maxRecDepth 100000 in
set_option maxHeartbeats 4000000 in
theorem me_wearByP {X : Nat × (Nat → Int32)} {Q : Option Value → bw_H → Prop} {h : bw_H} {p : Nat} {A : TT} (hc : bw_tt h p A) {i : Nat} (hi : i < A.1) (hw : A.2.2.1 i < 9) (hQ : ∀ I : Nat → Nat → Int32, (bw_tt (bw_wi h I) p (ttU A i (A.2.2.1 i + 1)) ∧ ∀ q, q ≠ p → q ≠ p + 2 → I q = bw_i h q) → Q none (bw_wi h I)) : bw_me X 2 bm_X6_wearBy false [.ref p, .int (nI i), .int 1] h Q := by
  show bw_go _ 2 6 3 false none cX6_wearBy 0 [(0, .ref _), (1, .int _), (2, .int _)] [] _ _
  refine go_aload_n dX6_wearBy_0 rfl ?_
  refine go_dupA dX6_wearBy_1 ?_
  refine go_gfi dX6_wearBy_2 fl_6_18 rfl hc.1.1.1 hc.1.1.2.1 ?_
  rw [hc.2.1.2.2.1]
  refine go_aload_n dX6_wearBy_5 rfl ?_
  refine go_iload_n dX6_wearBy_6 rfl ?_
  refine go_cv (as := [.int _]) 1 dX6_wearBy_7 mt_6_56 (Or.inl rfl) rfl rfl hc.1.1.1 hc.1.1.2.1 (Nat.le_of_ble_eq_true rfl) (Nat.le_of_ble_eq_true rfl) (Nat.le_of_ble_eq_true rfl) (Nat.le_of_ble_eq_true rfl) (Nat.le_of_ble_eq_true rfl) ?_
  refine me_X6_worthNow hc hi ?_
  show bw_go _ _ _ _ _ _ _ 10 [(0, .ref _), (1, .int _), (2, .int _)] ((.int _) :: (.int _) :: (.ref _) :: []) _ _
  refine go_isub dX6_wearBy_10 ?_
  refine go_pfi dX6_wearBy_11 fl_6_18 rfl hc.1.1.1 hc.1.1.2.1 (Nat.le_of_ble_eq_true rfl) (Or.inl rfl) ?_
  show bw_go _ _ _ _ _ _ _ 14 [(0, .ref _), (1, .int _), (2, .int _)] ([]) _ _
  rw [ofI_sub]
  refine go_aload_n dX6_wearBy_14 rfl ?_
  refine go_gfr dX6_wearBy_15 fl_6_26 rfl hc.1.1.1 hc.1.1.2.1 hc.1.1.2.2.1 ?_
  refine go_iload_n dX6_wearBy_18 rfl ?_
  refine go_aload_n dX6_wearBy_19 rfl ?_
  refine go_gfr dX6_wearBy_20 fl_6_26 rfl hc.1.1.1 hc.1.1.2.1 hc.1.1.2.2.1 ?_
  refine go_iload_n dX6_wearBy_23 rfl ?_
  refine go_cv (as := [.int _]) 0 dX6_wearBy_24 mt_6_40 (Or.inr rfl) rfl rfl hc.1.2.1.1 hc.1.2.1.2.1 (Nat.le_of_ble_eq_true rfl) (Nat.le_of_ble_eq_true rfl) (Nat.le_of_ble_eq_true rfl) (Nat.le_of_ble_eq_true rfl) (Nat.le_of_ble_eq_true rfl) ?_
  have hc0 := hc
  have k9 := hc.2.2.2.2.1 i hi
  refine me_X0_get hc.1.2.1 ?_
  rw [cg_b (Nat.lt_of_lt_of_le hi hc.2.2.1), i_si_o (by omega), hc.2.1.2.2.2.1 _ hi]
  show bw_go _ _ _ _ _ _ _ 27 [(0, .ref _), (1, .int _), (2, .int _)] ((.int _) :: (.int _) :: (.ref _) :: []) _ _
  refine go_iload_n dX6_wearBy_27 rfl ?_
  (try simp only [i_si_o])
  refine go_iadd dX6_wearBy_28 ?_
  refine go_cv (as := [.int _, .int _]) 0 dX6_wearBy_29 mt_6_44 (Or.inr rfl) rfl rfl hc.1.2.1.1 hc.1.2.1.2.1 (Nat.le_of_ble_eq_true rfl) (Nat.le_of_ble_eq_true rfl) (Nat.le_of_ble_eq_true rfl) (Nat.le_of_ble_eq_true rfl) (Nat.le_of_ble_eq_true rfl) ?_
  rw [nI_1]
  refine me_X0_set hc.1.2.1 ?_
  rw [cs_b (Nat.lt_of_lt_of_le hi hc.2.2.1), i_si_o (by omega)]
  show bw_go _ _ _ _ _ _ _ 32 [(0, .ref _), (1, .int _), (2, .int _)] ([]) _ _
  refine go_aload_n dX6_wearBy_32 rfl ?_
  refine go_dupA dX6_wearBy_33 ?_
  refine go_gfi dX6_wearBy_34 fl_6_18 rfl hc.1.1.1 hc.1.1.2.1 ?_
  
  refine go_aload_n dX6_wearBy_37 rfl ?_
  refine go_iload_n dX6_wearBy_38 rfl ?_
  refine go_cv (as := [.int _]) 1 dX6_wearBy_39 mt_6_56 (Or.inl rfl) rfl rfl hc.1.1.1 hc.1.1.2.1 (Nat.le_of_ble_eq_true rfl) (Nat.le_of_ble_eq_true rfl) (Nat.le_of_ble_eq_true rfl) (Nat.le_of_ble_eq_true rfl) (Nat.le_of_ble_eq_true rfl) ?_
  have hw9 : A.2.2.1 i + 1 ≤ 9 := by omega
  have hcU : bw_tt (bw_si (bw_sa (bw_si h p 2 (Int32.ofInt (mor A.1 A.2.2.1 A.2.2.2 - A.2.2.2 i (A.2.2.1 i)))) (p + 2) (bw_up (bw_i h (p + 2)) i (nI (A.2.2.1 i + 1)))) p 2 (Int32.ofInt (mor A.1 (bw_up A.2.2.1 i (A.2.2.1 i + 1)) A.2.2.2))) p (ttU A i (A.2.2.1 i + 1)) := wear_ct hc hi hw9
  rw [i_sa_o (by omega), i_si_s, bw_up_s]
  refine me_worthNow2 hc hi hw9 ?_
  show bw_go _ _ _ _ _ _ _ 42 [(0, .ref _), (1, .int _), (2, .int _)] ((.int _) :: (.int _) :: (.ref _) :: []) _ _
  refine go_iadd dX6_wearBy_42 ?_
  refine go_pfi dX6_wearBy_43 fl_6_18 rfl hc.1.1.1 hc.1.1.2.1 (Nat.le_of_ble_eq_true rfl) (Or.inl rfl) ?_
  show bw_go _ _ _ _ _ _ _ 46 [(0, .ref _), (1, .int _), (2, .int _)] ([]) _ _
  refine go_vret dX6_wearBy_46 rfl ?_
  rw [ofI_add, ← mor_up _ hi]
  refine wi_q hQ rfl ⟨hcU, fun q h1 h2 => ?_⟩
  rw [i_si_o h1, i_sa_o h2, i_si_o h1]
set_option maxRecDepth 100000 in
set_option maxHeartbeats 4000000 in
theorem me_wearByM {X : Nat × (Nat → Int32)} {Q : Option Value → bw_H → Prop} {h : bw_H} {p : Nat} {A : TT} (hc : bw_tt h p A) {i : Nat} (hi : i < A.1) (hw : 0 < A.2.2.1 i) (hQ : ∀ I : Nat → Nat → Int32, (bw_tt (bw_wi h I) p (ttU A i (A.2.2.1 i - 1)) ∧ ∀ q, q ≠ p → q ≠ p + 2 → I q = bw_i h q) → Q none (bw_wi h I)) : bw_me X 2 bm_X6_wearBy false [.ref p, .int (nI i), .int (-1)] h Q := by
  show bw_go _ 2 6 3 false none cX6_wearBy 0 [(0, .ref _), (1, .int _), (2, .int _)] [] _ _
  refine go_aload_n dX6_wearBy_0 rfl ?_
  refine go_dupA dX6_wearBy_1 ?_
  refine go_gfi dX6_wearBy_2 fl_6_18 rfl hc.1.1.1 hc.1.1.2.1 ?_
  rw [hc.2.1.2.2.1]
  refine go_aload_n dX6_wearBy_5 rfl ?_
  refine go_iload_n dX6_wearBy_6 rfl ?_
  refine go_cv (as := [.int _]) 1 dX6_wearBy_7 mt_6_56 (Or.inl rfl) rfl rfl hc.1.1.1 hc.1.1.2.1 (Nat.le_of_ble_eq_true rfl) (Nat.le_of_ble_eq_true rfl) (Nat.le_of_ble_eq_true rfl) (Nat.le_of_ble_eq_true rfl) (Nat.le_of_ble_eq_true rfl) ?_
  refine me_X6_worthNow hc hi ?_
  show bw_go _ _ _ _ _ _ _ 10 [(0, .ref _), (1, .int _), (2, .int _)] ((.int _) :: (.int _) :: (.ref _) :: []) _ _
  refine go_isub dX6_wearBy_10 ?_
  refine go_pfi dX6_wearBy_11 fl_6_18 rfl hc.1.1.1 hc.1.1.2.1 (Nat.le_of_ble_eq_true rfl) (Or.inl rfl) ?_
  show bw_go _ _ _ _ _ _ _ 14 [(0, .ref _), (1, .int _), (2, .int _)] ([]) _ _
  rw [ofI_sub]
  refine go_aload_n dX6_wearBy_14 rfl ?_
  refine go_gfr dX6_wearBy_15 fl_6_26 rfl hc.1.1.1 hc.1.1.2.1 hc.1.1.2.2.1 ?_
  refine go_iload_n dX6_wearBy_18 rfl ?_
  refine go_aload_n dX6_wearBy_19 rfl ?_
  refine go_gfr dX6_wearBy_20 fl_6_26 rfl hc.1.1.1 hc.1.1.2.1 hc.1.1.2.2.1 ?_
  refine go_iload_n dX6_wearBy_23 rfl ?_
  refine go_cv (as := [.int _]) 0 dX6_wearBy_24 mt_6_40 (Or.inr rfl) rfl rfl hc.1.2.1.1 hc.1.2.1.2.1 (Nat.le_of_ble_eq_true rfl) (Nat.le_of_ble_eq_true rfl) (Nat.le_of_ble_eq_true rfl) (Nat.le_of_ble_eq_true rfl) (Nat.le_of_ble_eq_true rfl) ?_
  have hc0 := hc
  have k9 := hc.2.2.2.2.1 i hi
  refine me_X0_get hc.1.2.1 ?_
  rw [cg_b (Nat.lt_of_lt_of_le hi hc.2.2.1), i_si_o (by omega), hc.2.1.2.2.2.1 _ hi]
  show bw_go _ _ _ _ _ _ _ 27 [(0, .ref _), (1, .int _), (2, .int _)] ((.int _) :: (.int _) :: (.ref _) :: []) _ _
  refine go_iload_n dX6_wearBy_27 rfl ?_
  (try simp only [i_si_o])
  refine go_iadd dX6_wearBy_28 ?_
  refine go_cv (as := [.int _, .int _]) 0 dX6_wearBy_29 mt_6_44 (Or.inr rfl) rfl rfl hc.1.2.1.1 hc.1.2.1.2.1 (Nat.le_of_ble_eq_true rfl) (Nat.le_of_ble_eq_true rfl) (Nat.le_of_ble_eq_true rfl) (Nat.le_of_ble_eq_true rfl) (Nat.le_of_ble_eq_true rfl) ?_
  rw [nadd_m1 hw]
  refine me_X0_set hc.1.2.1 ?_
  rw [cs_b (Nat.lt_of_lt_of_le hi hc.2.2.1), i_si_o (by omega)]
  show bw_go _ _ _ _ _ _ _ 32 [(0, .ref _), (1, .int _), (2, .int _)] ([]) _ _
  refine go_aload_n dX6_wearBy_32 rfl ?_
  refine go_dupA dX6_wearBy_33 ?_
  refine go_gfi dX6_wearBy_34 fl_6_18 rfl hc.1.1.1 hc.1.1.2.1 ?_
  
  refine go_aload_n dX6_wearBy_37 rfl ?_
  refine go_iload_n dX6_wearBy_38 rfl ?_
  refine go_cv (as := [.int _]) 1 dX6_wearBy_39 mt_6_56 (Or.inl rfl) rfl rfl hc.1.1.1 hc.1.1.2.1 (Nat.le_of_ble_eq_true rfl) (Nat.le_of_ble_eq_true rfl) (Nat.le_of_ble_eq_true rfl) (Nat.le_of_ble_eq_true rfl) (Nat.le_of_ble_eq_true rfl) ?_
  have hw9 : A.2.2.1 i - 1 ≤ 9 := by omega
  have hcU : bw_tt (bw_si (bw_sa (bw_si h p 2 (Int32.ofInt (mor A.1 A.2.2.1 A.2.2.2 - A.2.2.2 i (A.2.2.1 i)))) (p + 2) (bw_up (bw_i h (p + 2)) i (nI (A.2.2.1 i - 1)))) p 2 (Int32.ofInt (mor A.1 (bw_up A.2.2.1 i (A.2.2.1 i - 1)) A.2.2.2))) p (ttU A i (A.2.2.1 i - 1)) := wear_ct hc hi hw9
  rw [i_sa_o (by omega), i_si_s, bw_up_s]
  refine me_worthNow2 hc hi hw9 ?_
  show bw_go _ _ _ _ _ _ _ 42 [(0, .ref _), (1, .int _), (2, .int _)] ((.int _) :: (.int _) :: (.ref _) :: []) _ _
  refine go_iadd dX6_wearBy_42 ?_
  refine go_pfi dX6_wearBy_43 fl_6_18 rfl hc.1.1.1 hc.1.1.2.1 (Nat.le_of_ble_eq_true rfl) (Or.inl rfl) ?_
  show bw_go _ _ _ _ _ _ _ 46 [(0, .ref _), (1, .int _), (2, .int _)] ([]) _ _
  refine go_vret dX6_wearBy_46 rfl ?_
  rw [ofI_add, ← mor_up _ hi]
  refine wi_q hQ rfl ⟨hcU, fun q h1 h2 => ?_⟩
  rw [i_si_o h1, i_sa_o h2, i_si_o h1]
