/-! Looks: a row of pairs -/
abbrev LK : Type := Nat × (Nat → Nat) × (Nat → Nat) × (Nat → Nat)
def tvI (v : Nat) : Int32 := if v = 2 then -9 else nI v
def lk_s (h : bw_H) (p : Nat) : Prop := (p < bw_n h ∧ bw_k h p = .inl 2 ∧ bw_r h p 1 = some (p + 1) ∧ bw_r h p 2 = some (p + 3) ∧ bw_r h p 3 = some (p + 5)) ∧ bw_ce h (p + 1) (p + 2) 8 ∧ bw_ce h (p + 3) (p + 4) 8 ∧ bw_ce h (p + 5) (p + 6) 8
def lk_v (h : bw_H) (p : Nat) (A : LK) (n : Nat) : Prop := bw_i h p 0 = nI A.1 ∧ A.1 ≤ 8 ∧ ∀ q, q < A.1 → (bw_i h (p + 2) q = nI (A.2.1 q) ∧ bw_i h (p + 4) q = nI (A.2.2.1 q) ∧ bw_i h (p + 6) q = tvI (A.2.2.2 q)) ∧ A.2.1 q < n ∧ A.2.2.1 q < 6 ∧ A.2.2.2 q ≤ 2
def bw_lk (h : bw_H) (p : Nat) (A : LK) (n : Nat) : Prop := lk_s h p ∧ lk_v h p A n
def fit (C : CT) (A : LK) (q k dn : Nat) : Bool := decide (ans (cW C) (A.2.1 q) k (cR C (A.2.1 q)) (cV C (A.2.1 q)) (cE C (A.2.1 q)) (A.2.2.1 q) dn = tvI (A.2.2.2 q))
def fsk (C : CT) (A : LK) : Nat → Int64
  | 0 => -1
  | q + 1 => (let s1 := if fit C A q (cK C (A.2.1 q)) 63 = true then fsk C A q else fsk C A q &&& (bw_set6 (A.2.2.1 q) ^^^ -1)
      if fit C A q (cK C (A.2.1 q)) 0 = true then s1 else s1 &&& bw_set6 (A.2.2.1 q))
def fkk (C : CT) (A : LK) (i k : Nat) : Nat → Bool
  | 0 => true
  | q + 1 => fkk C A i k q && (decide (A.2.1 q ≠ i) || fit C A q k (cD C))
theorem fkk_f {C : CT} {A : LK} {i k : Nat} {q m : Nat} (hq : q < m) (h1 : A.2.1 q = i) (h2 : fit C A q k (cD C) = false) : fkk C A i k m = false := by
  induction m with
  | zero => omega
  | succ m ih =>
    show (fkk C A i k m && (decide (A.2.1 m ≠ i) || fit C A m k (cD C))) = false
    by_cases e : q = m
    · subst e
      rw [h2, decide_eq_false (fun z => z h1), Bool.or_false, Bool.and_false]
    · rw [ih (by omega), Bool.false_and]
def spk (A : LK) : Nat := orf (fun q => if A.2.2.2 q = 2 then 0 else 2 ^ A.2.1 q) A.1
def kpb (C : CT) (A : LK) : Nat := orf (fun q => if A.2.2.2 q = 2 ∧ (see (cK C (A.2.1 q)) (cR C (A.2.1 q)) (cV C (A.2.1 q)) (cE C (A.2.1 q))).testBit (A.2.2.1 q) = true then 2 ^ A.2.1 q else 0) A.1
theorem tvI_t {v : Nat} (h : v ≤ 2) : tvI v = -9 ↔ v = 2 := by
  rcases (show v = 0 ∨ v = 1 ∨ v = 2 by omega) with rfl | rfl | rfl <;> decide
set_option maxRecDepth 100000 in
set_option maxHeartbeats 4000000 in
theorem me_X2_setsWith {X : Nat × (Nat → Int32)} {Q : Option Value → bw_H → Prop} {h : bw_H} {i : Nat} (hi : i < 6) (hQ : Q (some (.long (bw_set6 i))) h) : bw_me X 0 bm_X2_setsWith false [.int (nI i)] h Q := by
  show bw_go _ 0 2 1 false (some .long) cX2_setsWith 0 [(0, .int _)] [] _ _
  refine go_iload_n dX2_setsWith_0 rfl ?_
  refine go_if_lt (pc' := 20) dX2_setsWith_1 rfl (fun c_1 => ?_) (fun c_1 => ?_)
  · -- lt at 1: yes
    exfalso; have t_0 := nI_toInt (n := i) (by omega); have l_0 : (0 : Int32).toInt = 0 := rfl; have l_1 : (6 : Int32).toInt = 6 := rfl; simp only [i_le, i_lt, i_eq, bi_eq] at c_1; omega
  · -- lt at 1: no
    show bw_go _ _ _ _ _ _ _ 4 [(0, .int _)] ([]) _ _
    refine go_iload_n dX2_setsWith_4 rfl ?_
    refine go_gs dX2_setsWith_5 rfl ?_
    refine go_len0 dX2_setsWith_8 ?_
    refine go_icmp_ge (pc' := 20) dX2_setsWith_9 rfl (fun c_9 => ?_) (fun c_9 => ?_)
    · -- ge at 9: yes
      exfalso; have t_0 := nI_toInt (n := i) (by omega); have l_0 : (0 : Int32).toInt = 0 := rfl; have l_1 : (6 : Int32).toInt = 6 := rfl; simp only [i_le, i_lt, i_eq, bi_eq] at c_9; omega
    · -- ge at 9: no
      show bw_go _ _ _ _ _ _ _ 12 [(0, .int _)] ([]) _ _
      refine go_gs dX2_setsWith_12 rfl ?_
      refine go_iload_n dX2_setsWith_15 rfl ?_
      refine go_la dX2_setsWith_16 (n_in (N := 6) hi (by decide)) ?_
      refine go_goto (pc' := 21) dX2_setsWith_17 rfl ?_
      show bw_go _ _ _ _ _ _ _ 21 [(0, .int _)] ((.long _) :: []) _ _
      refine go_lret dX2_setsWith_21 rfl ?_
      rw [nI_clamp (by omega)]; exact hQ
set_option maxRecDepth 100000 in
set_option maxHeartbeats 4000000 in
theorem me_X2_fits {X : Nat × (Nat → Int32)} {Q : Option Value → bw_H → Prop} {h : bw_H} {p c : Nat} {A : LK} {C : CT} (hc : bw_lk h p A (cN C)) (hd : bw_ct h c C) {q k dn : Nat} (hq : q < A.1) (hk : k < 6) (hdn : dn < 64) (hQ : Q (some (.int (bi (fit C A q k dn)))) h) : bw_me X 4 bm_X2_fits false [.ref p, .ref c, .int (nI q), .int (nI k), .int (nI dn)] h Q := by
  show bw_go _ 4 2 5 false (some .boolean) cX2_fits 0 [(0, .ref _), (1, .ref _), (2, .int _), (3, .int _), (4, .int _)] [] _ _
  refine go_aload_n dX2_fits_0 rfl ?_
  refine go_aload_n dX2_fits_1 rfl ?_
  refine go_gfr dX2_fits_2 fl_2_20 rfl hc.1.1.1 hc.1.1.2.1 hc.1.1.2.2.1 ?_
  refine go_iload_n dX2_fits_5 rfl ?_
  refine go_cv (as := [.int _]) 0 dX2_fits_6 mt_2_52 (Or.inr rfl) rfl rfl hc.1.2.1.1 hc.1.2.1.2.1 (Nat.le_of_ble_eq_true rfl) (Nat.le_of_ble_eq_true rfl) (Nat.le_of_ble_eq_true rfl) (Nat.le_of_ble_eq_true rfl) (Nat.le_of_ble_eq_true rfl) ?_
  refine me_X0_get hc.1.2.1 ?_
  rw [cg_n (Nat.lt_of_lt_of_le hq hc.2.2.1) (by decide), (hc.2.2.2 _ hq).1.1]
  show bw_go _ _ _ _ _ _ _ 9 [(0, .ref _), (1, .ref _), (2, .int _), (3, .int _), (4, .int _)] ((.int _) :: (.ref _) :: []) _ _
  refine go_iload_n dX2_fits_9 rfl ?_
  refine go_aload_n dX2_fits_10 rfl ?_
  refine go_gfr dX2_fits_11 fl_2_24 rfl hc.1.1.1 hc.1.1.2.1 hc.1.1.2.2.2.1 ?_
  refine go_iload_n dX2_fits_14 rfl ?_
  refine go_cv (as := [.int _]) 0 dX2_fits_15 mt_2_52 (Or.inr rfl) rfl rfl hc.1.2.2.1.1 hc.1.2.2.1.2.1 (Nat.le_of_ble_eq_true rfl) (Nat.le_of_ble_eq_true rfl) (Nat.le_of_ble_eq_true rfl) (Nat.le_of_ble_eq_true rfl) (Nat.le_of_ble_eq_true rfl) ?_
  refine me_X0_get hc.1.2.2.1 ?_
  rw [cg_n (Nat.lt_of_lt_of_le hq hc.2.2.1) (by decide), (hc.2.2.2 _ hq).1.2.1]
  show bw_go _ _ _ _ _ _ _ 18 [(0, .ref _), (1, .ref _), (2, .int _), (3, .int _), (4, .int _)] ((.int _) :: (.int _) :: (.int _) :: (.ref _) :: []) _ _
  refine go_iload dX2_fits_18 rfl ?_
  refine go_cv (as := [.int _, .int _, .int _, .int _]) 3 dX2_fits_20 mt_2_54 (Or.inr rfl) rfl rfl hd.1.1.1 hd.1.1.2.1 (Nat.le_of_ble_eq_true rfl) (Nat.le_of_ble_eq_true rfl) (Nat.le_of_ble_eq_true rfl) (Nat.le_of_ble_eq_true rfl) (Nat.le_of_ble_eq_true rfl) ?_
  refine me_X1_answerIf hd (hc.2.2.2 q hq).2.1 hk (hc.2.2.2 q hq).2.2.1 hdn ?_
  show bw_go _ _ _ _ _ _ _ 23 [(0, .ref _), (1, .ref _), (2, .int _), (3, .int _), (4, .int _)] ((.int _) :: []) _ _
  refine go_aload_n dX2_fits_23 rfl ?_
  refine go_gfr dX2_fits_24 fl_2_27 rfl hc.1.1.1 hc.1.1.2.1 hc.1.1.2.2.2.2 ?_
  refine go_iload_n dX2_fits_27 rfl ?_
  refine go_cv (as := [.int _]) 0 dX2_fits_28 mt_2_52 (Or.inr rfl) rfl rfl hc.1.2.2.2.1 hc.1.2.2.2.2.1 (Nat.le_of_ble_eq_true rfl) (Nat.le_of_ble_eq_true rfl) (Nat.le_of_ble_eq_true rfl) (Nat.le_of_ble_eq_true rfl) (Nat.le_of_ble_eq_true rfl) ?_
  refine me_X0_get hc.1.2.2.2 ?_
  rw [cg_n (Nat.lt_of_lt_of_le hq hc.2.2.1) (by decide), (hc.2.2.2 _ hq).1.2.2]
  show bw_go _ _ _ _ _ _ _ 31 [(0, .ref _), (1, .ref _), (2, .int _), (3, .int _), (4, .int _)] ((.int _) :: (.int _) :: []) _ _
  refine go_icmp_ne (pc' := 38) dX2_fits_31 rfl (fun c_31 => ?_) (fun c_31 => ?_)
  · -- ne at 31: yes
    show bw_go _ _ _ _ _ _ _ 38 [(0, .ref _), (1, .ref _), (2, .int _), (3, .int _), (4, .int _)] ([]) _ _
    refine go_iconst (0) dX2_fits_38 rfl ?_
    refine go_iret dX2_fits_39 rfl rfl ?_
    exact bi_0 (decide_eq_false c_31) hQ
  · -- ne at 31: no
    show bw_go _ _ _ _ _ _ _ 34 [(0, .ref _), (1, .ref _), (2, .int _), (3, .int _), (4, .int _)] ([]) _ _
    refine go_iconst (1) dX2_fits_34 rfl ?_
    refine go_goto (pc' := 39) dX2_fits_35 rfl ?_
    show bw_go _ _ _ _ _ _ _ 39 [(0, .ref _), (1, .ref _), (2, .int _), (3, .int _), (4, .int _)] ((.int _) :: []) _ _
    refine go_iret dX2_fits_39 rfl rfl ?_
    exact bi_1 (decide_eq_true (Decidable.of_not_not c_31)) hQ
set_option maxRecDepth 100000 in
set_option maxHeartbeats 4000000 in
theorem me_X2_fittingSets {X : Nat × (Nat → Int32)} {Q : Option Value → bw_H → Prop} {h : bw_H} {p c : Nat} {A : LK} {C : CT} (hc : bw_lk h p A (cN C)) (hd : bw_ct h c C) (hQ : Q (some (.long (fsk C A A.1))) h) : bw_me X 5 bm_X2_fittingSets false [.ref p, .ref c] h Q := by
  show bw_go _ 5 2 8 false (some .long) cX2_fittingSets 0 [(0, .ref _), (1, .ref _)] [] _ _
  refine go_ldc2_w dX2_fittingSets_0 kc_2_60 ?_
  refine go_lstore_n dX2_fittingSets_3 (Nat.lt_of_lt_of_le (Nat.lt_succ_self _) (Nat.le_of_ble_eq_true rfl)) ?_
  show bw_go _ _ _ _ _ _ _ 4 [(2, .long _), (0, .ref _), (1, .ref _)] ([]) _ _
  refine go_iconst (0) dX2_fittingSets_4 rfl ?_
  refine go_istore dX2_fittingSets_5 (Nat.lt_of_lt_of_le (Nat.lt_succ_self _) (Nat.le_of_ble_eq_true rfl)) ?_
  show bw_go _ _ _ _ _ _ _ 7 [(4, .int _), (2, .long _), (0, .ref _), (1, .ref _)] ([]) _ _
  refine go_for (P := fun q => bw_go X 5 2 8 false (some .long) cX2_fittingSets 7 [(4, .int (nI q)), (2, .long (fsk C A q)), (0, .ref (p)), (1, .ref (c))] [] h Q) (N := A.1) (fun q hq K => ?_) ?_ (0) (Nat.zero_le _)
  · -- a turn
    have hw := (hc.2.2.2 q hq).2.1
    have k1 := hd.2.2.2.2.2.2 _ hw
    show bw_go _ _ _ _ _ _ _ 7 [(4, .int _), (2, .long _), (0, .ref _), (1, .ref _)] ([]) _ _
    refine go_iload dX2_fittingSets_7 rfl ?_
    refine go_aload_n dX2_fittingSets_9 rfl ?_
    refine go_gfi dX2_fittingSets_10 fl_2_9 rfl hc.1.1.1 hc.1.1.2.1 ?_
    rw [hc.2.1]
    refine go_icmp_ge (pc' := 95) dX2_fittingSets_13 rfl (fun c_13 => ?_) (fun c_13 => ?_)
    · -- ge at 13: yes
      exfalso; have k8 := hc.2.2.1; have t_0 := nI_toInt (n := A.1) (by omega); have t_1 := nI_toInt (n := q) (by omega); simp only [i_le, i_lt, i_eq, bi_eq] at c_13; omega
    · -- ge at 13: no
      show bw_go _ _ _ _ _ _ _ 16 [(4, .int _), (2, .long _), (0, .ref _), (1, .ref _)] ([]) _ _
      refine go_aload_n dX2_fittingSets_16 rfl ?_
      refine go_gfr dX2_fittingSets_17 fl_2_62 rfl hd.1.1.1 hd.1.1.2.1 hd.1.1.2.2.1 ?_
      refine go_aload_n dX2_fittingSets_20 rfl ?_
      refine go_gfr dX2_fittingSets_21 fl_2_20 rfl hc.1.1.1 hc.1.1.2.1 hc.1.1.2.2.1 ?_
      refine go_iload dX2_fittingSets_24 rfl ?_
      refine go_cv (as := [.int _]) 0 dX2_fittingSets_26 mt_2_52 (Or.inr rfl) rfl rfl hc.1.2.1.1 hc.1.2.1.2.1 (Nat.le_of_ble_eq_true rfl) (Nat.le_of_ble_eq_true rfl) (Nat.le_of_ble_eq_true rfl) (Nat.le_of_ble_eq_true rfl) (Nat.le_of_ble_eq_true rfl) ?_
      refine me_X0_get hc.1.2.1 ?_
      rw [cg_n (Nat.lt_of_lt_of_le hq hc.2.2.1) (by decide), (hc.2.2.2 _ hq).1.1]
      show bw_go _ _ _ _ _ _ _ 29 [(4, .int _), (2, .long _), (0, .ref _), (1, .ref _)] ((.int _) :: (.ref _) :: []) _ _
      refine go_cv (as := [.int _]) 0 dX2_fittingSets_29 mt_2_52 (Or.inr rfl) rfl rfl hd.1.2.1.1 hd.1.2.1.2.1 (Nat.le_of_ble_eq_true rfl) (Nat.le_of_ble_eq_true rfl) (Nat.le_of_ble_eq_true rfl) (Nat.le_of_ble_eq_true rfl) (Nat.le_of_ble_eq_true rfl) ?_
      refine me_X0_get hd.1.2.1 ?_
      rw [cg_n (Nat.lt_of_lt_of_le hw hd.2.2.1) (by decide), (hd.2.1.2.2.2.2 _ hw).1]
      show bw_go _ _ _ _ _ _ _ 32 [(4, .int _), (2, .long _), (0, .ref _), (1, .ref _)] ((.int _) :: []) _ _
      refine go_istore dX2_fittingSets_32 (Nat.lt_of_lt_of_le (Nat.lt_succ_self _) (Nat.le_of_ble_eq_true rfl)) ?_
      show bw_go _ _ _ _ _ _ _ 34 [(5, .int _), (4, .int _), (2, .long _), (0, .ref _), (1, .ref _)] ([]) _ _
      refine go_aload_n dX2_fittingSets_34 rfl ?_
      refine go_gfr dX2_fittingSets_35 fl_2_24 rfl hc.1.1.1 hc.1.1.2.1 hc.1.1.2.2.2.1 ?_
      refine go_iload dX2_fittingSets_38 rfl ?_
      refine go_cv (as := [.int _]) 0 dX2_fittingSets_40 mt_2_52 (Or.inr rfl) rfl rfl hc.1.2.2.1.1 hc.1.2.2.1.2.1 (Nat.le_of_ble_eq_true rfl) (Nat.le_of_ble_eq_true rfl) (Nat.le_of_ble_eq_true rfl) (Nat.le_of_ble_eq_true rfl) (Nat.le_of_ble_eq_true rfl) ?_
      refine me_X0_get hc.1.2.2.1 ?_
      rw [cg_n (Nat.lt_of_lt_of_le hq hc.2.2.1) (by decide), (hc.2.2.2 _ hq).1.2.1]
      show bw_go _ _ _ _ _ _ _ 43 [(5, .int _), (4, .int _), (2, .long _), (0, .ref _), (1, .ref _)] ((.int _) :: []) _ _
      refine go_cs (as := [.int _]) 0 dX2_fittingSets_43 rfl rfl mt_2_65 (Nat.le_of_ble_eq_true rfl) rfl rfl (Nat.le_of_ble_eq_true rfl) (Nat.le_of_ble_eq_true rfl) (Nat.le_of_ble_eq_true rfl) (Nat.le_of_ble_eq_true rfl) ?_
      refine me_X2_setsWith (hc.2.2.2 q hq).2.2.1 ?_
      show bw_go _ _ _ _ _ _ _ 46 [(5, .int _), (4, .int _), (2, .long _), (0, .ref _), (1, .ref _)] ((.long _) :: []) _ _
      refine go_lstore dX2_fittingSets_46 (Nat.lt_of_lt_of_le (Nat.lt_succ_self _) (Nat.le_of_ble_eq_true rfl)) ?_
      show bw_go _ _ _ _ _ _ _ 48 [(6, .long _), (5, .int _), (4, .int _), (2, .long _), (0, .ref _), (1, .ref _)] ([]) _ _
      refine go_aload_n dX2_fittingSets_48 rfl ?_
      refine go_aload_n dX2_fittingSets_49 rfl ?_
      refine go_iload dX2_fittingSets_50 rfl ?_
      refine go_iload dX2_fittingSets_52 rfl ?_
      refine go_bipush (63) dX2_fittingSets_54 rfl ?_
      refine go_cv (as := [.ref _, .int _, .int _, .int _]) 4 dX2_fittingSets_56 mt_2_69 (Or.inl rfl) rfl rfl hc.1.1.1 hc.1.1.2.1 (Nat.le_of_ble_eq_true rfl) (Nat.le_of_ble_eq_true rfl) (Nat.le_of_ble_eq_true rfl) (Nat.le_of_ble_eq_true rfl) (Nat.le_of_ble_eq_true rfl) ?_
      refine me_X2_fits hc hd (k := cK C (A.2.1 q)) (dn := 63) hq k1.1 (by decide) ?_
      show bw_go _ _ _ _ _ _ _ 59 [(6, .long _), (5, .int _), (4, .int _), (2, .long _), (0, .ref _), (1, .ref _)] ((.int _) :: []) _ _
      refine go_ifb_ne (pc' := 71) dX2_fittingSets_59 rfl (fun c_59 => ?_) (fun c_59 => ?_)
      · -- ne at 59: yes
        show bw_go _ _ _ _ _ _ _ 71 [(6, .long _), (5, .int _), (4, .int _), (2, .long _), (0, .ref _), (1, .ref _)] ([]) _ _
        refine go_aload_n dX2_fittingSets_71 rfl ?_
        refine go_aload_n dX2_fittingSets_72 rfl ?_
        refine go_iload dX2_fittingSets_73 rfl ?_
        refine go_iload dX2_fittingSets_75 rfl ?_
        refine go_iconst (0) dX2_fittingSets_77 rfl ?_
        refine go_cv (as := [.ref _, .int _, .int _, .int _]) 4 dX2_fittingSets_78 mt_2_69 (Or.inl rfl) rfl rfl hc.1.1.1 hc.1.1.2.1 (Nat.le_of_ble_eq_true rfl) (Nat.le_of_ble_eq_true rfl) (Nat.le_of_ble_eq_true rfl) (Nat.le_of_ble_eq_true rfl) (Nat.le_of_ble_eq_true rfl) ?_
        refine me_X2_fits hc hd (k := cK C (A.2.1 q)) (dn := 0) hq k1.1 (by decide) ?_
        show bw_go _ _ _ _ _ _ _ 81 [(6, .long _), (5, .int _), (4, .int _), (2, .long _), (0, .ref _), (1, .ref _)] ((.int _) :: []) _ _
        refine go_ifb_ne (pc' := 89) dX2_fittingSets_81 rfl (fun c_81 => ?_) (fun c_81 => ?_)
        · -- ne at 81: yes
          show bw_go _ _ _ _ _ _ _ 89 [(6, .long _), (5, .int _), (4, .int _), (2, .long _), (0, .ref _), (1, .ref _)] ([]) _ _
          refine go_iinc dX2_fittingSets_89 rfl (nI_1 q) (Nat.lt_of_lt_of_le (Nat.lt_succ_self _) (Nat.le_of_ble_eq_true rfl)) ?_
          show bw_go _ _ _ _ _ _ _ 92 [(4, .int _), (6, .long _), (5, .int _), (2, .long _), (0, .ref _), (1, .ref _)] ([]) _ _
          refine go_goto (pc' := 7) dX2_fittingSets_92 rfl ?_
          refine go_ls [(4, .int _), (2, .long _), (0, .ref _), (1, .ref _)] (by show List.Nodup ([4, 2, 0, 1] : List Nat); decide) (by show List.Nodup ([4, 6, 5, 2, 0, 1] : List Nat); decide) (le_cons rfl (le_cons rfl (le_cons rfl (le_cons rfl (le_nil _))))) ?_
          have e1 : fsk C A (q + 1) = (let s1 := if fit C A q (cK C (A.2.1 q)) 63 = true then fsk C A q else fsk C A q &&& (bw_set6 (A.2.2.1 q) ^^^ -1)
                if fit C A q (cK C (A.2.1 q)) 0 = true then s1 else s1 &&& bw_set6 (A.2.2.1 q)) := rfl
          simp only [c_59, c_81, if_true, if_false, Bool.false_eq_true] at e1
          rw [← e1]; exact K
        · -- ne at 81: no
          show bw_go _ _ _ _ _ _ _ 84 [(6, .long _), (5, .int _), (4, .int _), (2, .long _), (0, .ref _), (1, .ref _)] ([]) _ _
          refine go_lload_n dX2_fittingSets_84 rfl ?_
          refine go_lload dX2_fittingSets_85 rfl ?_
          refine go_land dX2_fittingSets_87 ?_
          refine go_lstore_n dX2_fittingSets_88 (Nat.lt_of_lt_of_le (Nat.lt_succ_self _) (Nat.le_of_ble_eq_true rfl)) ?_
          show bw_go _ _ _ _ _ _ _ 89 [(2, .long _), (6, .long _), (5, .int _), (4, .int _), (0, .ref _), (1, .ref _)] ([]) _ _
          refine go_iinc dX2_fittingSets_89 rfl (nI_1 q) (Nat.lt_of_lt_of_le (Nat.lt_succ_self _) (Nat.le_of_ble_eq_true rfl)) ?_
          show bw_go _ _ _ _ _ _ _ 92 [(4, .int _), (2, .long _), (6, .long _), (5, .int _), (0, .ref _), (1, .ref _)] ([]) _ _
          refine go_goto (pc' := 7) dX2_fittingSets_92 rfl ?_
          refine go_ls [(4, .int _), (2, .long _), (0, .ref _), (1, .ref _)] (by show List.Nodup ([4, 2, 0, 1] : List Nat); decide) (by show List.Nodup ([4, 2, 6, 5, 0, 1] : List Nat); decide) (le_cons rfl (le_cons rfl (le_cons rfl (le_cons rfl (le_nil _))))) ?_
          have e1 : fsk C A (q + 1) = (let s1 := if fit C A q (cK C (A.2.1 q)) 63 = true then fsk C A q else fsk C A q &&& (bw_set6 (A.2.2.1 q) ^^^ -1)
                if fit C A q (cK C (A.2.1 q)) 0 = true then s1 else s1 &&& bw_set6 (A.2.2.1 q)) := rfl
          simp only [c_59, c_81, if_true, if_false, Bool.false_eq_true] at e1
          rw [← e1]; exact K
      · -- ne at 59: no
        show bw_go _ _ _ _ _ _ _ 62 [(6, .long _), (5, .int _), (4, .int _), (2, .long _), (0, .ref _), (1, .ref _)] ([]) _ _
        refine go_lload_n dX2_fittingSets_62 rfl ?_
        refine go_lload dX2_fittingSets_63 rfl ?_
        refine go_ldc2_w dX2_fittingSets_65 kc_2_60 ?_
        refine go_lxor dX2_fittingSets_68 ?_
        refine go_land dX2_fittingSets_69 ?_
        refine go_lstore_n dX2_fittingSets_70 (Nat.lt_of_lt_of_le (Nat.lt_succ_self _) (Nat.le_of_ble_eq_true rfl)) ?_
        show bw_go _ _ _ _ _ _ _ 71 [(2, .long _), (6, .long _), (5, .int _), (4, .int _), (0, .ref _), (1, .ref _)] ([]) _ _
        refine go_aload_n dX2_fittingSets_71 rfl ?_
        refine go_aload_n dX2_fittingSets_72 rfl ?_
        refine go_iload dX2_fittingSets_73 rfl ?_
        refine go_iload dX2_fittingSets_75 rfl ?_
        refine go_iconst (0) dX2_fittingSets_77 rfl ?_
        refine go_cv (as := [.ref _, .int _, .int _, .int _]) 4 dX2_fittingSets_78 mt_2_69 (Or.inl rfl) rfl rfl hc.1.1.1 hc.1.1.2.1 (Nat.le_of_ble_eq_true rfl) (Nat.le_of_ble_eq_true rfl) (Nat.le_of_ble_eq_true rfl) (Nat.le_of_ble_eq_true rfl) (Nat.le_of_ble_eq_true rfl) ?_
        refine me_X2_fits hc hd (k := cK C (A.2.1 q)) (dn := 0) hq k1.1 (by decide) ?_
        show bw_go _ _ _ _ _ _ _ 81 [(2, .long _), (6, .long _), (5, .int _), (4, .int _), (0, .ref _), (1, .ref _)] ((.int _) :: []) _ _
        refine go_ifb_ne (pc' := 89) dX2_fittingSets_81 rfl (fun c_81 => ?_) (fun c_81 => ?_)
        · -- ne at 81: yes
          show bw_go _ _ _ _ _ _ _ 89 [(2, .long _), (6, .long _), (5, .int _), (4, .int _), (0, .ref _), (1, .ref _)] ([]) _ _
          refine go_iinc dX2_fittingSets_89 rfl (nI_1 q) (Nat.lt_of_lt_of_le (Nat.lt_succ_self _) (Nat.le_of_ble_eq_true rfl)) ?_
          show bw_go _ _ _ _ _ _ _ 92 [(4, .int _), (2, .long _), (6, .long _), (5, .int _), (0, .ref _), (1, .ref _)] ([]) _ _
          refine go_goto (pc' := 7) dX2_fittingSets_92 rfl ?_
          refine go_ls [(4, .int _), (2, .long _), (0, .ref _), (1, .ref _)] (by show List.Nodup ([4, 2, 0, 1] : List Nat); decide) (by show List.Nodup ([4, 2, 6, 5, 0, 1] : List Nat); decide) (le_cons rfl (le_cons rfl (le_cons rfl (le_cons rfl (le_nil _))))) ?_
          have e1 : fsk C A (q + 1) = (let s1 := if fit C A q (cK C (A.2.1 q)) 63 = true then fsk C A q else fsk C A q &&& (bw_set6 (A.2.2.1 q) ^^^ -1)
                if fit C A q (cK C (A.2.1 q)) 0 = true then s1 else s1 &&& bw_set6 (A.2.2.1 q)) := rfl
          simp only [c_59, c_81, if_true, if_false, Bool.false_eq_true] at e1
          rw [← e1]; exact K
        · -- ne at 81: no
          show bw_go _ _ _ _ _ _ _ 84 [(2, .long _), (6, .long _), (5, .int _), (4, .int _), (0, .ref _), (1, .ref _)] ([]) _ _
          refine go_lload_n dX2_fittingSets_84 rfl ?_
          refine go_lload dX2_fittingSets_85 rfl ?_
          refine go_land dX2_fittingSets_87 ?_
          refine go_lstore_n dX2_fittingSets_88 (Nat.lt_of_lt_of_le (Nat.lt_succ_self _) (Nat.le_of_ble_eq_true rfl)) ?_
          show bw_go _ _ _ _ _ _ _ 89 [(2, .long _), (6, .long _), (5, .int _), (4, .int _), (0, .ref _), (1, .ref _)] ([]) _ _
          refine go_iinc dX2_fittingSets_89 rfl (nI_1 q) (Nat.lt_of_lt_of_le (Nat.lt_succ_self _) (Nat.le_of_ble_eq_true rfl)) ?_
          show bw_go _ _ _ _ _ _ _ 92 [(4, .int _), (2, .long _), (6, .long _), (5, .int _), (0, .ref _), (1, .ref _)] ([]) _ _
          refine go_goto (pc' := 7) dX2_fittingSets_92 rfl ?_
          refine go_ls [(4, .int _), (2, .long _), (0, .ref _), (1, .ref _)] (by show List.Nodup ([4, 2, 0, 1] : List Nat); decide) (by show List.Nodup ([4, 2, 6, 5, 0, 1] : List Nat); decide) (le_cons rfl (le_cons rfl (le_cons rfl (le_cons rfl (le_nil _))))) ?_
          have e1 : fsk C A (q + 1) = (let s1 := if fit C A q (cK C (A.2.1 q)) 63 = true then fsk C A q else fsk C A q &&& (bw_set6 (A.2.2.1 q) ^^^ -1)
                if fit C A q (cK C (A.2.1 q)) 0 = true then s1 else s1 &&& bw_set6 (A.2.2.1 q)) := rfl
          simp only [c_59, c_81, if_true, if_false, Bool.false_eq_true] at e1
          rw [← e1]; exact K
  · -- behind the last
    show bw_go _ _ _ _ _ _ _ 7 [(4, .int _), (2, .long _), (0, .ref _), (1, .ref _)] ([]) _ _
    refine go_iload dX2_fittingSets_7 rfl ?_
    refine go_aload_n dX2_fittingSets_9 rfl ?_
    refine go_gfi dX2_fittingSets_10 fl_2_9 rfl hc.1.1.1 hc.1.1.2.1 ?_
    rw [hc.2.1]
    refine go_icmp_ge (pc' := 95) dX2_fittingSets_13 rfl (fun c_13 => ?_) (fun c_13 => ?_)
    · -- ge at 13: yes
      show bw_go _ _ _ _ _ _ _ 95 [(4, .int _), (2, .long _), (0, .ref _), (1, .ref _)] ([]) _ _
      refine go_lload_n dX2_fittingSets_95 rfl ?_
      refine go_lret dX2_fittingSets_96 rfl ?_
      exact hQ
    · -- ge at 13: no
      exfalso; have k8 := hc.2.2.1; have t_0 := nI_toInt (n := A.1) (by omega); simp only [i_le, i_lt, i_eq, bi_eq] at c_13; omega
set_option maxRecDepth 100000 in
set_option maxHeartbeats 4000000 in
theorem me_X2_fitKind {X : Nat × (Nat → Int32)} {Q : Option Value → bw_H → Prop} {h : bw_H} {p c : Nat} {A : LK} {C : CT} (hc : bw_lk h p A (cN C)) (hd : bw_ct h c C) {i k : Nat} (hi : i < 6) (hk : k < 6) (hQ : Q (some (.int (bi (fkk C A i k A.1)))) h) : bw_me X 5 bm_X2_fitKind false [.ref p, .ref c, .int (nI i), .int (nI k)] h Q := by
  show bw_go _ 5 2 5 false (some .boolean) cX2_fitKind 0 [(0, .ref _), (1, .ref _), (2, .int _), (3, .int _)] [] _ _
  refine go_iconst (0) dX2_fitKind_0 rfl ?_
  refine go_istore dX2_fitKind_1 (Nat.lt_of_lt_of_le (Nat.lt_succ_self _) (Nat.le_of_ble_eq_true rfl)) ?_
  show bw_go _ _ _ _ _ _ _ 3 [(4, .int _), (0, .ref _), (1, .ref _), (2, .int _), (3, .int _)] ([]) _ _
  refine go_for (P := fun q => ∀ _u : True, (fkk C A i k q = true) → bw_go X 5 2 5 false (some .boolean) cX2_fitKind 3 [(4, .int (nI q)), (0, .ref (p)), (1, .ref (c)), (2, .int (nI i)), (3, .int (nI k))] [] h Q) (N := A.1) (fun q hq K => ?_) ?_ (0) (Nat.zero_le _) trivial rfl
  · -- a turn
    intro _ hv
    have hw := (hc.2.2.2 q hq).2.1
    have k1 := hd.2.2.1
    show bw_go _ _ _ _ _ _ _ 3 [(4, .int _), (0, .ref _), (1, .ref _), (2, .int _), (3, .int _)] ([]) _ _
    refine go_iload dX2_fitKind_3 rfl ?_
    refine go_aload_n dX2_fitKind_5 rfl ?_
    refine go_gfi dX2_fitKind_6 fl_2_9 rfl hc.1.1.1 hc.1.1.2.1 ?_
    rw [hc.2.1]
    refine go_icmp_ge (pc' := 48) dX2_fitKind_9 rfl (fun c_9 => ?_) (fun c_9 => ?_)
    · -- ge at 9: yes
      exfalso; have k8 := hc.2.2.1; have t_0 := nI_toInt (n := A.1) (by omega); have t_1 := nI_toInt (n := q) (by omega); simp only [i_le, i_lt, i_eq, bi_eq] at c_9; omega
    · -- ge at 9: no
      show bw_go _ _ _ _ _ _ _ 12 [(4, .int _), (0, .ref _), (1, .ref _), (2, .int _), (3, .int _)] ([]) _ _
      refine go_aload_n dX2_fitKind_12 rfl ?_
      refine go_gfr dX2_fitKind_13 fl_2_20 rfl hc.1.1.1 hc.1.1.2.1 hc.1.1.2.2.1 ?_
      refine go_iload dX2_fitKind_16 rfl ?_
      refine go_cv (as := [.int _]) 0 dX2_fitKind_18 mt_2_52 (Or.inr rfl) rfl rfl hc.1.2.1.1 hc.1.2.1.2.1 (Nat.le_of_ble_eq_true rfl) (Nat.le_of_ble_eq_true rfl) (Nat.le_of_ble_eq_true rfl) (Nat.le_of_ble_eq_true rfl) (Nat.le_of_ble_eq_true rfl) ?_
      refine me_X0_get hc.1.2.1 ?_
      rw [cg_n (Nat.lt_of_lt_of_le hq hc.2.2.1) (by decide), (hc.2.2.2 _ hq).1.1]
      show bw_go _ _ _ _ _ _ _ 21 [(4, .int _), (0, .ref _), (1, .ref _), (2, .int _), (3, .int _)] ((.int _) :: []) _ _
      refine go_iload_n dX2_fitKind_21 rfl ?_
      refine go_icmp_ne (pc' := 42) dX2_fitKind_22 rfl (fun c_22 => ?_) (fun c_22 => ?_)
      · -- ne at 22: yes
        show bw_go _ _ _ _ _ _ _ 42 [(4, .int _), (0, .ref _), (1, .ref _), (2, .int _), (3, .int _)] ([]) _ _
        refine go_iinc dX2_fitKind_42 rfl (nI_1 q) (Nat.lt_of_lt_of_le (Nat.lt_succ_self _) (Nat.le_of_ble_eq_true rfl)) ?_
        show bw_go _ _ _ _ _ _ _ 45 [(4, .int _), (0, .ref _), (1, .ref _), (2, .int _), (3, .int _)] ([]) _ _
        refine go_goto (pc' := 3) dX2_fitKind_45 rfl ?_
        refine K trivial ?_
        show (fkk C A i k q && (decide (A.2.1 q ≠ i) || fit C A q k (cD C))) = true
        rw [hv, Bool.true_and]
        first | (rw [c_37, Bool.or_true]; done) | (rw [decide_eq_true (show A.2.1 q ≠ i from fun z => c_22 (congrArg nI z)), Bool.true_or])
      · -- ne at 22: no
        show bw_go _ _ _ _ _ _ _ 25 [(4, .int _), (0, .ref _), (1, .ref _), (2, .int _), (3, .int _)] ([]) _ _
        refine go_aload_n dX2_fitKind_25 rfl ?_
        refine go_aload_n dX2_fitKind_26 rfl ?_
        refine go_iload dX2_fitKind_27 rfl ?_
        refine go_iload_n dX2_fitKind_29 rfl ?_
        refine go_aload_n dX2_fitKind_30 rfl ?_
        refine go_gfi dX2_fitKind_31 fl_2_73 rfl hd.1.1.1 hd.1.1.2.1 ?_
        rw [hd.2.1.2.1]
        refine go_cv (as := [.ref _, .int _, .int _, .int _]) 4 dX2_fitKind_34 mt_2_69 (Or.inl rfl) rfl rfl hc.1.1.1 hc.1.1.2.1 (Nat.le_of_ble_eq_true rfl) (Nat.le_of_ble_eq_true rfl) (Nat.le_of_ble_eq_true rfl) (Nat.le_of_ble_eq_true rfl) (Nat.le_of_ble_eq_true rfl) ?_
        refine me_X2_fits hc hd (dn := cD C) hq hk hd.2.2.2.1 ?_
        show bw_go _ _ _ _ _ _ _ 37 [(4, .int _), (0, .ref _), (1, .ref _), (2, .int _), (3, .int _)] ((.int _) :: []) _ _
        refine go_ifb_ne (pc' := 42) dX2_fitKind_37 rfl (fun c_37 => ?_) (fun c_37 => ?_)
        · -- ne at 37: yes
          show bw_go _ _ _ _ _ _ _ 42 [(4, .int _), (0, .ref _), (1, .ref _), (2, .int _), (3, .int _)] ([]) _ _
          refine go_iinc dX2_fitKind_42 rfl (nI_1 q) (Nat.lt_of_lt_of_le (Nat.lt_succ_self _) (Nat.le_of_ble_eq_true rfl)) ?_
          show bw_go _ _ _ _ _ _ _ 45 [(4, .int _), (0, .ref _), (1, .ref _), (2, .int _), (3, .int _)] ([]) _ _
          refine go_goto (pc' := 3) dX2_fitKind_45 rfl ?_
          refine K trivial ?_
          show (fkk C A i k q && (decide (A.2.1 q ≠ i) || fit C A q k (cD C))) = true
          rw [hv, Bool.true_and]
          first | (rw [c_37, Bool.or_true]; done) | (rw [decide_eq_true (show A.2.1 q ≠ i from fun z => c_22 (congrArg nI z)), Bool.true_or])
        · -- ne at 37: no
          show bw_go _ _ _ _ _ _ _ 40 [(4, .int _), (0, .ref _), (1, .ref _), (2, .int _), (3, .int _)] ([]) _ _
          refine go_iconst (0) dX2_fitKind_40 rfl ?_
          refine go_iret dX2_fitKind_41 rfl rfl ?_
          exact bi_0 (fkk_f hq ((nI_eq (by omega) (by omega)).mp (Decidable.of_not_not c_22)) c_37) hQ
  · -- behind the last
    intro _ hv
    show bw_go _ _ _ _ _ _ _ 3 [(4, .int _), (0, .ref _), (1, .ref _), (2, .int _), (3, .int _)] ([]) _ _
    refine go_iload dX2_fitKind_3 rfl ?_
    refine go_aload_n dX2_fitKind_5 rfl ?_
    refine go_gfi dX2_fitKind_6 fl_2_9 rfl hc.1.1.1 hc.1.1.2.1 ?_
    rw [hc.2.1]
    refine go_icmp_ge (pc' := 48) dX2_fitKind_9 rfl (fun c_9 => ?_) (fun c_9 => ?_)
    · -- ge at 9: yes
      show bw_go _ _ _ _ _ _ _ 48 [(4, .int _), (0, .ref _), (1, .ref _), (2, .int _), (3, .int _)] ([]) _ _
      refine go_iconst (1) dX2_fitKind_48 rfl ?_
      refine go_iret dX2_fitKind_49 rfl rfl ?_
      exact bi_1 hv hQ
    · -- ge at 9: no
      exfalso; have k8 := hc.2.2.1; have t_0 := nI_toInt (n := A.1) (by omega); simp only [i_le, i_lt, i_eq, bi_eq] at c_9; omega
set_option maxRecDepth 100000 in
set_option maxHeartbeats 4000000 in
theorem me_X2_whoSpoke {X : Nat × (Nat → Int32)} {Q : Option Value → bw_H → Prop} {h : bw_H} {p n : Nat} {A : LK} (hc : bw_lk h p A n) (hn : n ≤ 6) (hQ : Q (some (.int (nI (spk A)))) h) : bw_me X 1 bm_X2_whoSpoke false [.ref p] h Q := by
  show bw_go _ 1 2 3 false (some .int) cX2_whoSpoke 0 [(0, .ref _)] [] _ _
  refine go_iconst (0) dX2_whoSpoke_0 rfl ?_
  refine go_istore_n dX2_whoSpoke_1 (Nat.lt_of_lt_of_le (Nat.lt_succ_self _) (Nat.le_of_ble_eq_true rfl)) ?_
  show bw_go _ _ _ _ _ _ _ 2 [(1, .int _), (0, .ref _)] ([]) _ _
  refine go_iconst (0) dX2_whoSpoke_2 rfl ?_
  refine go_istore_n dX2_whoSpoke_3 (Nat.lt_of_lt_of_le (Nat.lt_succ_self _) (Nat.le_of_ble_eq_true rfl)) ?_
  show bw_go _ _ _ _ _ _ _ 4 [(2, .int _), (1, .int _), (0, .ref _)] ([]) _ _
  refine go_for (P := fun q => bw_go X 1 2 3 false (some .int) cX2_whoSpoke 4 [(2, .int (nI q)), (1, .int (nI (orf (fun q => if A.2.2.2 q = 2 then 0 else 2 ^ A.2.1 q) q))), (0, .ref (p))] [] h Q) (N := A.1) (fun q hq K => ?_) ?_ (0) (Nat.zero_le _)
  · -- a turn
    have hw := (hc.2.2.2 q hq).2.1
    have h2 := tvI_t (hc.2.2.2 q hq).2.2.2
    show bw_go _ _ _ _ _ _ _ 4 [(2, .int _), (1, .int _), (0, .ref _)] ([]) _ _
    refine go_iload_n dX2_whoSpoke_4 rfl ?_
    refine go_aload_n dX2_whoSpoke_5 rfl ?_
    refine go_gfi dX2_whoSpoke_6 fl_2_9 rfl hc.1.1.1 hc.1.1.2.1 ?_
    rw [hc.2.1]
    refine go_icmp_ge (pc' := 44) dX2_whoSpoke_9 rfl (fun c_9 => ?_) (fun c_9 => ?_)
    · -- ge at 9: yes
      exfalso; have k8 := hc.2.2.1; have t_0 := nI_toInt (n := A.1) (by omega); have t_1 := nI_toInt (n := q) (by omega); simp only [i_le, i_lt, i_eq, bi_eq] at c_9; omega
    · -- ge at 9: no
      show bw_go _ _ _ _ _ _ _ 12 [(2, .int _), (1, .int _), (0, .ref _)] ([]) _ _
      refine go_aload_n dX2_whoSpoke_12 rfl ?_
      refine go_gfr dX2_whoSpoke_13 fl_2_27 rfl hc.1.1.1 hc.1.1.2.1 hc.1.1.2.2.2.2 ?_
      refine go_iload_n dX2_whoSpoke_16 rfl ?_
      refine go_cv (as := [.int _]) 0 dX2_whoSpoke_17 mt_2_52 (Or.inr rfl) rfl rfl hc.1.2.2.2.1 hc.1.2.2.2.2.1 (Nat.le_of_ble_eq_true rfl) (Nat.le_of_ble_eq_true rfl) (Nat.le_of_ble_eq_true rfl) (Nat.le_of_ble_eq_true rfl) (Nat.le_of_ble_eq_true rfl) ?_
      refine me_X0_get hc.1.2.2.2 ?_
      rw [cg_n (Nat.lt_of_lt_of_le hq hc.2.2.1) (by decide), (hc.2.2.2 _ hq).1.2.2]
      show bw_go _ _ _ _ _ _ _ 20 [(2, .int _), (1, .int _), (0, .ref _)] ((.int _) :: []) _ _
      refine go_bipush (-9) dX2_whoSpoke_20 rfl ?_
      refine go_icmp_eq (pc' := 38) dX2_whoSpoke_22 rfl (fun c_22 => ?_) (fun c_22 => ?_)
      · -- eq at 22: yes
        show bw_go _ _ _ _ _ _ _ 38 [(2, .int _), (1, .int _), (0, .ref _)] ([]) _ _
        refine go_iinc dX2_whoSpoke_38 rfl (nI_1 q) (Nat.lt_of_lt_of_le (Nat.lt_succ_self _) (Nat.le_of_ble_eq_true rfl)) ?_
        show bw_go _ _ _ _ _ _ _ 41 [(2, .int _), (1, .int _), (0, .ref _)] ([]) _ _
        refine go_goto (pc' := 4) dX2_whoSpoke_41 rfl ?_
        have e1 : orf (fun q => if A.2.2.2 q = 2 then 0 else 2 ^ A.2.1 q) (q + 1) = orf (fun q => if A.2.2.2 q = 2 then 0 else 2 ^ A.2.1 q) q ||| (if A.2.2.2 q = 2 then 0 else 2 ^ A.2.1 q) := rfl
        first | (rw [if_pos (h2.mp c_22), Nat.or_zero] at e1; rw [← e1]; exact K) | (rw [if_neg (fun z => c_22 (h2.mpr z))] at e1; rw [sh_t _ (by omega), or_n, ← e1]; exact K)
      · -- eq at 22: no
        show bw_go _ _ _ _ _ _ _ 25 [(2, .int _), (1, .int _), (0, .ref _)] ([]) _ _
        refine go_iload_n dX2_whoSpoke_25 rfl ?_
        refine go_iconst (1) dX2_whoSpoke_26 rfl ?_
        refine go_aload_n dX2_whoSpoke_27 rfl ?_
        refine go_gfr dX2_whoSpoke_28 fl_2_20 rfl hc.1.1.1 hc.1.1.2.1 hc.1.1.2.2.1 ?_
        refine go_iload_n dX2_whoSpoke_31 rfl ?_
        refine go_cv (as := [.int _]) 0 dX2_whoSpoke_32 mt_2_52 (Or.inr rfl) rfl rfl hc.1.2.1.1 hc.1.2.1.2.1 (Nat.le_of_ble_eq_true rfl) (Nat.le_of_ble_eq_true rfl) (Nat.le_of_ble_eq_true rfl) (Nat.le_of_ble_eq_true rfl) (Nat.le_of_ble_eq_true rfl) ?_
        refine me_X0_get hc.1.2.1 ?_
        rw [cg_n (Nat.lt_of_lt_of_le hq hc.2.2.1) (by decide), (hc.2.2.2 _ hq).1.1]
        show bw_go _ _ _ _ _ _ _ 35 [(2, .int _), (1, .int _), (0, .ref _)] ((.int _) :: (.int _) :: (.int _) :: []) _ _
        refine go_ishl dX2_whoSpoke_35 ?_
        refine go_ior dX2_whoSpoke_36 ?_
        refine go_istore_n dX2_whoSpoke_37 (Nat.lt_of_lt_of_le (Nat.lt_succ_self _) (Nat.le_of_ble_eq_true rfl)) ?_
        show bw_go _ _ _ _ _ _ _ 38 [(1, .int _), (2, .int _), (0, .ref _)] ([]) _ _
        refine go_iinc dX2_whoSpoke_38 rfl (nI_1 q) (Nat.lt_of_lt_of_le (Nat.lt_succ_self _) (Nat.le_of_ble_eq_true rfl)) ?_
        show bw_go _ _ _ _ _ _ _ 41 [(2, .int _), (1, .int _), (0, .ref _)] ([]) _ _
        refine go_goto (pc' := 4) dX2_whoSpoke_41 rfl ?_
        have e1 : orf (fun q => if A.2.2.2 q = 2 then 0 else 2 ^ A.2.1 q) (q + 1) = orf (fun q => if A.2.2.2 q = 2 then 0 else 2 ^ A.2.1 q) q ||| (if A.2.2.2 q = 2 then 0 else 2 ^ A.2.1 q) := rfl
        first | (rw [if_pos (h2.mp c_22), Nat.or_zero] at e1; rw [← e1]; exact K) | (rw [if_neg (fun z => c_22 (h2.mpr z))] at e1; rw [sh_t _ (by omega), or_n, ← e1]; exact K)
  · -- behind the last
    show bw_go _ _ _ _ _ _ _ 4 [(2, .int _), (1, .int _), (0, .ref _)] ([]) _ _
    refine go_iload_n dX2_whoSpoke_4 rfl ?_
    refine go_aload_n dX2_whoSpoke_5 rfl ?_
    refine go_gfi dX2_whoSpoke_6 fl_2_9 rfl hc.1.1.1 hc.1.1.2.1 ?_
    rw [hc.2.1]
    refine go_icmp_ge (pc' := 44) dX2_whoSpoke_9 rfl (fun c_9 => ?_) (fun c_9 => ?_)
    · -- ge at 9: yes
      show bw_go _ _ _ _ _ _ _ 44 [(2, .int _), (1, .int _), (0, .ref _)] ([]) _ _
      refine go_iload_n dX2_whoSpoke_44 rfl ?_
      refine go_iret dX2_whoSpoke_45 rfl rfl ?_
      exact hQ
    · -- ge at 9: no
      exfalso; have k8 := hc.2.2.1; have t_0 := nI_toInt (n := A.1) (by omega); simp only [i_le, i_lt, i_eq, bi_eq] at c_9; omega
set_option maxRecDepth 100000 in
set_option maxHeartbeats 4000000 in
theorem me_X2_whoKeptBack {X : Nat × (Nat → Int32)} {Q : Option Value → bw_H → Prop} {h : bw_H} {p c : Nat} {A : LK} {C : CT} (hc : bw_lk h p A (cN C)) (hd : bw_ct h c C) (hQ : Q (some (.int (nI (kpb C A)))) h) : bw_me X 2 bm_X2_whoKeptBack false [.ref p, .ref c] h Q := by
  show bw_go _ 2 2 6 false (some .int) cX2_whoKeptBack 0 [(0, .ref _), (1, .ref _)] [] _ _
  refine go_iconst (0) dX2_whoKeptBack_0 rfl ?_
  refine go_istore_n dX2_whoKeptBack_1 (Nat.lt_of_lt_of_le (Nat.lt_succ_self _) (Nat.le_of_ble_eq_true rfl)) ?_
  show bw_go _ _ _ _ _ _ _ 2 [(2, .int _), (0, .ref _), (1, .ref _)] ([]) _ _
  refine go_iconst (0) dX2_whoKeptBack_2 rfl ?_
  refine go_istore_n dX2_whoKeptBack_3 (Nat.lt_of_lt_of_le (Nat.lt_succ_self _) (Nat.le_of_ble_eq_true rfl)) ?_
  show bw_go _ _ _ _ _ _ _ 4 [(3, .int _), (2, .int _), (0, .ref _), (1, .ref _)] ([]) _ _
  refine go_for (P := fun q => bw_go X 2 2 6 false (some .int) cX2_whoKeptBack 4 [(3, .int (nI q)), (2, .int (nI (orf (fun q => if A.2.2.2 q = 2 ∧ (see (cK C (A.2.1 q)) (cR C (A.2.1 q)) (cV C (A.2.1 q)) (cE C (A.2.1 q))).testBit (A.2.2.1 q) = true then 2 ^ A.2.1 q else 0) q))), (0, .ref (p)), (1, .ref (c))] [] h Q) (N := A.1) (fun q hq K => ?_) ?_ (0) (Nat.zero_le _)
  · -- a turn
    have hw := (hc.2.2.2 q hq).2.1
    have k1 := hd.2.2.2.2.2.2 _ hw
    have k2 := hd.2.2.1
    have k3 := (hc.2.2.2 q hq).2.2.1
    have h2 := tvI_t (hc.2.2.2 q hq).2.2.2
    show bw_go _ _ _ _ _ _ _ 4 [(3, .int _), (2, .int _), (0, .ref _), (1, .ref _)] ([]) _ _
    refine go_iload_n dX2_whoKeptBack_4 rfl ?_
    refine go_aload_n dX2_whoKeptBack_5 rfl ?_
    refine go_gfi dX2_whoKeptBack_6 fl_2_9 rfl hc.1.1.1 hc.1.1.2.1 ?_
    rw [hc.2.1]
    refine go_icmp_ge (pc' := 90) dX2_whoKeptBack_9 rfl (fun c_9 => ?_) (fun c_9 => ?_)
    · -- ge at 9: yes
      exfalso; have k8 := hc.2.2.1; have t_0 := nI_toInt (n := A.1) (by omega); have t_1 := nI_toInt (n := q) (by omega); simp only [i_le, i_lt, i_eq, bi_eq] at c_9; omega
    · -- ge at 9: no
      show bw_go _ _ _ _ _ _ _ 12 [(3, .int _), (2, .int _), (0, .ref _), (1, .ref _)] ([]) _ _
      refine go_aload_n dX2_whoKeptBack_12 rfl ?_
      refine go_gfr dX2_whoKeptBack_13 fl_2_20 rfl hc.1.1.1 hc.1.1.2.1 hc.1.1.2.2.1 ?_
      refine go_iload_n dX2_whoKeptBack_16 rfl ?_
      refine go_cv (as := [.int _]) 0 dX2_whoKeptBack_17 mt_2_52 (Or.inr rfl) rfl rfl hc.1.2.1.1 hc.1.2.1.2.1 (Nat.le_of_ble_eq_true rfl) (Nat.le_of_ble_eq_true rfl) (Nat.le_of_ble_eq_true rfl) (Nat.le_of_ble_eq_true rfl) (Nat.le_of_ble_eq_true rfl) ?_
      refine me_X0_get hc.1.2.1 ?_
      rw [cg_n (Nat.lt_of_lt_of_le hq hc.2.2.1) (by decide), (hc.2.2.2 _ hq).1.1]
      show bw_go _ _ _ _ _ _ _ 20 [(3, .int _), (2, .int _), (0, .ref _), (1, .ref _)] ((.int _) :: []) _ _
      refine go_istore dX2_whoKeptBack_20 (Nat.lt_of_lt_of_le (Nat.lt_succ_self _) (Nat.le_of_ble_eq_true rfl)) ?_
      show bw_go _ _ _ _ _ _ _ 22 [(4, .int _), (3, .int _), (2, .int _), (0, .ref _), (1, .ref _)] ([]) _ _
      refine go_aload_n dX2_whoKeptBack_22 rfl ?_
      refine go_iload dX2_whoKeptBack_23 rfl ?_
      refine go_aload_n dX2_whoKeptBack_25 rfl ?_
      refine go_gfr dX2_whoKeptBack_26 fl_2_62 rfl hd.1.1.1 hd.1.1.2.1 hd.1.1.2.2.1 ?_
      refine go_iload dX2_whoKeptBack_29 rfl ?_
      refine go_cv (as := [.int _]) 0 dX2_whoKeptBack_31 mt_2_52 (Or.inr rfl) rfl rfl hd.1.2.1.1 hd.1.2.1.2.1 (Nat.le_of_ble_eq_true rfl) (Nat.le_of_ble_eq_true rfl) (Nat.le_of_ble_eq_true rfl) (Nat.le_of_ble_eq_true rfl) (Nat.le_of_ble_eq_true rfl) ?_
      refine me_X0_get hd.1.2.1 ?_
      rw [cg_n (Nat.lt_of_lt_of_le hw hd.2.2.1) (by decide), (hd.2.1.2.2.2.2 _ hw).1]
      show bw_go _ _ _ _ _ _ _ 34 [(4, .int _), (3, .int _), (2, .int _), (0, .ref _), (1, .ref _)] ((.int _) :: (.int _) :: (.ref _) :: []) _ _
      refine go_aload_n dX2_whoKeptBack_34 rfl ?_
      refine go_gfr dX2_whoKeptBack_35 fl_2_76 rfl hd.1.1.1 hd.1.1.2.1 hd.1.1.2.2.2.2.1 ?_
      refine go_iload dX2_whoKeptBack_38 rfl ?_
      refine go_cv (as := [.int _]) 0 dX2_whoKeptBack_40 mt_2_52 (Or.inr rfl) rfl rfl hd.1.2.2.2.1.1 hd.1.2.2.2.1.2.1 (Nat.le_of_ble_eq_true rfl) (Nat.le_of_ble_eq_true rfl) (Nat.le_of_ble_eq_true rfl) (Nat.le_of_ble_eq_true rfl) (Nat.le_of_ble_eq_true rfl) ?_
      refine me_X0_get hd.1.2.2.2.1 ?_
      rw [cg_n (Nat.lt_of_lt_of_le hw hd.2.2.1) (by decide), (hd.2.1.2.2.2.2 _ hw).2.2.1]
      show bw_go _ _ _ _ _ _ _ 43 [(4, .int _), (3, .int _), (2, .int _), (0, .ref _), (1, .ref _)] ((.int _) :: (.int _) :: (.int _) :: (.ref _) :: []) _ _
      refine go_cv (as := [.int _, .int _, .int _]) 1 dX2_whoKeptBack_43 mt_2_79 (Or.inr rfl) rfl rfl hd.1.1.1 hd.1.1.2.1 (Nat.le_of_ble_eq_true rfl) (Nat.le_of_ble_eq_true rfl) (Nat.le_of_ble_eq_true rfl) (Nat.le_of_ble_eq_true rfl) (Nat.le_of_ble_eq_true rfl) ?_
      refine me_X1_seenBy hd hw k1.1 (by omega) ?_
      show bw_go _ _ _ _ _ _ _ 46 [(4, .int _), (3, .int _), (2, .int _), (0, .ref _), (1, .ref _)] ((.int _) :: []) _ _
      refine go_istore dX2_whoKeptBack_46 (Nat.lt_of_lt_of_le (Nat.lt_succ_self _) (Nat.le_of_ble_eq_true rfl)) ?_
      show bw_go _ _ _ _ _ _ _ 48 [(5, .int _), (4, .int _), (3, .int _), (2, .int _), (0, .ref _), (1, .ref _)] ([]) _ _
      refine go_aload_n dX2_whoKeptBack_48 rfl ?_
      refine go_gfr dX2_whoKeptBack_49 fl_2_27 rfl hc.1.1.1 hc.1.1.2.1 hc.1.1.2.2.2.2 ?_
      refine go_iload_n dX2_whoKeptBack_52 rfl ?_
      refine go_cv (as := [.int _]) 0 dX2_whoKeptBack_53 mt_2_52 (Or.inr rfl) rfl rfl hc.1.2.2.2.1 hc.1.2.2.2.2.1 (Nat.le_of_ble_eq_true rfl) (Nat.le_of_ble_eq_true rfl) (Nat.le_of_ble_eq_true rfl) (Nat.le_of_ble_eq_true rfl) (Nat.le_of_ble_eq_true rfl) ?_
      refine me_X0_get hc.1.2.2.2 ?_
      rw [cg_n (Nat.lt_of_lt_of_le hq hc.2.2.1) (by decide), (hc.2.2.2 _ hq).1.2.2]
      show bw_go _ _ _ _ _ _ _ 56 [(5, .int _), (4, .int _), (3, .int _), (2, .int _), (0, .ref _), (1, .ref _)] ((.int _) :: []) _ _
      refine go_bipush (-9) dX2_whoKeptBack_56 rfl ?_
      refine go_icmp_ne (pc' := 84) dX2_whoKeptBack_58 rfl (fun c_58 => ?_) (fun c_58 => ?_)
      · -- ne at 58: yes
        show bw_go _ _ _ _ _ _ _ 84 [(5, .int _), (4, .int _), (3, .int _), (2, .int _), (0, .ref _), (1, .ref _)] ([]) _ _
        refine go_iinc dX2_whoKeptBack_84 rfl (nI_1 q) (Nat.lt_of_lt_of_le (Nat.lt_succ_self _) (Nat.le_of_ble_eq_true rfl)) ?_
        show bw_go _ _ _ _ _ _ _ 87 [(3, .int _), (5, .int _), (4, .int _), (2, .int _), (0, .ref _), (1, .ref _)] ([]) _ _
        refine go_goto (pc' := 4) dX2_whoKeptBack_87 rfl ?_
        refine go_ls [(3, .int _), (2, .int _), (0, .ref _), (1, .ref _)] (by show List.Nodup ([3, 2, 0, 1] : List Nat); decide) (by show List.Nodup ([3, 5, 4, 2, 0, 1] : List Nat); decide) (le_cons rfl (le_cons rfl (le_cons rfl (le_cons rfl (le_nil _))))) ?_
        have e1 : orf (fun q => if A.2.2.2 q = 2 ∧ (see (cK C (A.2.1 q)) (cR C (A.2.1 q)) (cV C (A.2.1 q)) (cE C (A.2.1 q))).testBit (A.2.2.1 q) = true then 2 ^ A.2.1 q else 0) (q + 1) = orf (fun q => if A.2.2.2 q = 2 ∧ (see (cK C (A.2.1 q)) (cR C (A.2.1 q)) (cV C (A.2.1 q)) (cE C (A.2.1 q))).testBit (A.2.2.1 q) = true then 2 ^ A.2.1 q else 0) q ||| (if A.2.2.2 q = 2 ∧ (see (cK C (A.2.1 q)) (cR C (A.2.1 q)) (cV C (A.2.1 q)) (cE C (A.2.1 q))).testBit (A.2.2.1 q) = true then 2 ^ A.2.1 q else 0) := rfl
        first | (rw [if_pos ⟨h2.mp (Decidable.of_not_not c_58), c_74⟩] at e1; rw [sh_t _ (by omega), or_n, ← e1]; exact K) | (rw [if_neg (fun z => (by rw [c_74]; decide : ¬ _ = true) z.2), Nat.or_zero] at e1; rw [← e1]; exact K) | (rw [if_neg (fun z => c_58 (h2.mpr z.1)), Nat.or_zero] at e1; rw [← e1]; exact K)
      · -- ne at 58: no
        show bw_go _ _ _ _ _ _ _ 61 [(5, .int _), (4, .int _), (3, .int _), (2, .int _), (0, .ref _), (1, .ref _)] ([]) _ _
        refine go_iload dX2_whoKeptBack_61 rfl ?_
        refine go_aload_n dX2_whoKeptBack_63 rfl ?_
        refine go_gfr dX2_whoKeptBack_64 fl_2_24 rfl hc.1.1.1 hc.1.1.2.1 hc.1.1.2.2.2.1 ?_
        refine go_iload_n dX2_whoKeptBack_67 rfl ?_
        refine go_cv (as := [.int _]) 0 dX2_whoKeptBack_68 mt_2_52 (Or.inr rfl) rfl rfl hc.1.2.2.1.1 hc.1.2.2.1.2.1 (Nat.le_of_ble_eq_true rfl) (Nat.le_of_ble_eq_true rfl) (Nat.le_of_ble_eq_true rfl) (Nat.le_of_ble_eq_true rfl) (Nat.le_of_ble_eq_true rfl) ?_
        refine me_X0_get hc.1.2.2.1 ?_
        rw [cg_n (Nat.lt_of_lt_of_le hq hc.2.2.1) (by decide), (hc.2.2.2 _ hq).1.2.1]
        show bw_go _ _ _ _ _ _ _ 71 [(5, .int _), (4, .int _), (3, .int _), (2, .int _), (0, .ref _), (1, .ref _)] ((.int _) :: (.int _) :: []) _ _
        refine go_cs (as := [.int _, .int _]) 0 dX2_whoKeptBack_71 rfl rfl mt_2_83 (Nat.le_of_ble_eq_true rfl) rfl rfl (Nat.le_of_ble_eq_true rfl) (Nat.le_of_ble_eq_true rfl) (Nat.le_of_ble_eq_true rfl) (Nat.le_of_ble_eq_true rfl) ?_
        refine me_X7_isIn (see_lt k1.2.2.2) (by omega) ?_
        show bw_go _ _ _ _ _ _ _ 74 [(5, .int _), (4, .int _), (3, .int _), (2, .int _), (0, .ref _), (1, .ref _)] ((.int _) :: []) _ _
        refine go_ifb_eq (pc' := 84) dX2_whoKeptBack_74 rfl (fun c_74 => ?_) (fun c_74 => ?_)
        · -- eq at 74: yes
          show bw_go _ _ _ _ _ _ _ 84 [(5, .int _), (4, .int _), (3, .int _), (2, .int _), (0, .ref _), (1, .ref _)] ([]) _ _
          refine go_iinc dX2_whoKeptBack_84 rfl (nI_1 q) (Nat.lt_of_lt_of_le (Nat.lt_succ_self _) (Nat.le_of_ble_eq_true rfl)) ?_
          show bw_go _ _ _ _ _ _ _ 87 [(3, .int _), (5, .int _), (4, .int _), (2, .int _), (0, .ref _), (1, .ref _)] ([]) _ _
          refine go_goto (pc' := 4) dX2_whoKeptBack_87 rfl ?_
          refine go_ls [(3, .int _), (2, .int _), (0, .ref _), (1, .ref _)] (by show List.Nodup ([3, 2, 0, 1] : List Nat); decide) (by show List.Nodup ([3, 5, 4, 2, 0, 1] : List Nat); decide) (le_cons rfl (le_cons rfl (le_cons rfl (le_cons rfl (le_nil _))))) ?_
          have e1 : orf (fun q => if A.2.2.2 q = 2 ∧ (see (cK C (A.2.1 q)) (cR C (A.2.1 q)) (cV C (A.2.1 q)) (cE C (A.2.1 q))).testBit (A.2.2.1 q) = true then 2 ^ A.2.1 q else 0) (q + 1) = orf (fun q => if A.2.2.2 q = 2 ∧ (see (cK C (A.2.1 q)) (cR C (A.2.1 q)) (cV C (A.2.1 q)) (cE C (A.2.1 q))).testBit (A.2.2.1 q) = true then 2 ^ A.2.1 q else 0) q ||| (if A.2.2.2 q = 2 ∧ (see (cK C (A.2.1 q)) (cR C (A.2.1 q)) (cV C (A.2.1 q)) (cE C (A.2.1 q))).testBit (A.2.2.1 q) = true then 2 ^ A.2.1 q else 0) := rfl
          first | (rw [if_pos ⟨h2.mp (Decidable.of_not_not c_58), c_74⟩] at e1; rw [sh_t _ (by omega), or_n, ← e1]; exact K) | (rw [if_neg (fun z => (by rw [c_74]; decide : ¬ _ = true) z.2), Nat.or_zero] at e1; rw [← e1]; exact K) | (rw [if_neg (fun z => c_58 (h2.mpr z.1)), Nat.or_zero] at e1; rw [← e1]; exact K)
        · -- eq at 74: no
          show bw_go _ _ _ _ _ _ _ 77 [(5, .int _), (4, .int _), (3, .int _), (2, .int _), (0, .ref _), (1, .ref _)] ([]) _ _
          refine go_iload_n dX2_whoKeptBack_77 rfl ?_
          refine go_iconst (1) dX2_whoKeptBack_78 rfl ?_
          refine go_iload dX2_whoKeptBack_79 rfl ?_
          refine go_ishl dX2_whoKeptBack_81 ?_
          refine go_ior dX2_whoKeptBack_82 ?_
          refine go_istore_n dX2_whoKeptBack_83 (Nat.lt_of_lt_of_le (Nat.lt_succ_self _) (Nat.le_of_ble_eq_true rfl)) ?_
          show bw_go _ _ _ _ _ _ _ 84 [(2, .int _), (5, .int _), (4, .int _), (3, .int _), (0, .ref _), (1, .ref _)] ([]) _ _
          refine go_iinc dX2_whoKeptBack_84 rfl (nI_1 q) (Nat.lt_of_lt_of_le (Nat.lt_succ_self _) (Nat.le_of_ble_eq_true rfl)) ?_
          show bw_go _ _ _ _ _ _ _ 87 [(3, .int _), (2, .int _), (5, .int _), (4, .int _), (0, .ref _), (1, .ref _)] ([]) _ _
          refine go_goto (pc' := 4) dX2_whoKeptBack_87 rfl ?_
          refine go_ls [(3, .int _), (2, .int _), (0, .ref _), (1, .ref _)] (by show List.Nodup ([3, 2, 0, 1] : List Nat); decide) (by show List.Nodup ([3, 2, 5, 4, 0, 1] : List Nat); decide) (le_cons rfl (le_cons rfl (le_cons rfl (le_cons rfl (le_nil _))))) ?_
          have e1 : orf (fun q => if A.2.2.2 q = 2 ∧ (see (cK C (A.2.1 q)) (cR C (A.2.1 q)) (cV C (A.2.1 q)) (cE C (A.2.1 q))).testBit (A.2.2.1 q) = true then 2 ^ A.2.1 q else 0) (q + 1) = orf (fun q => if A.2.2.2 q = 2 ∧ (see (cK C (A.2.1 q)) (cR C (A.2.1 q)) (cV C (A.2.1 q)) (cE C (A.2.1 q))).testBit (A.2.2.1 q) = true then 2 ^ A.2.1 q else 0) q ||| (if A.2.2.2 q = 2 ∧ (see (cK C (A.2.1 q)) (cR C (A.2.1 q)) (cV C (A.2.1 q)) (cE C (A.2.1 q))).testBit (A.2.2.1 q) = true then 2 ^ A.2.1 q else 0) := rfl
          first | (rw [if_pos ⟨h2.mp (Decidable.of_not_not c_58), c_74⟩] at e1; rw [sh_t _ (by omega), or_n, ← e1]; exact K) | (rw [if_neg (fun z => (by rw [c_74]; decide : ¬ _ = true) z.2), Nat.or_zero] at e1; rw [← e1]; exact K) | (rw [if_neg (fun z => c_58 (h2.mpr z.1)), Nat.or_zero] at e1; rw [← e1]; exact K)
  · -- behind the last
    show bw_go _ _ _ _ _ _ _ 4 [(3, .int _), (2, .int _), (0, .ref _), (1, .ref _)] ([]) _ _
    refine go_iload_n dX2_whoKeptBack_4 rfl ?_
    refine go_aload_n dX2_whoKeptBack_5 rfl ?_
    refine go_gfi dX2_whoKeptBack_6 fl_2_9 rfl hc.1.1.1 hc.1.1.2.1 ?_
    rw [hc.2.1]
    refine go_icmp_ge (pc' := 90) dX2_whoKeptBack_9 rfl (fun c_9 => ?_) (fun c_9 => ?_)
    · -- ge at 9: yes
      show bw_go _ _ _ _ _ _ _ 90 [(3, .int _), (2, .int _), (0, .ref _), (1, .ref _)] ([]) _ _
      refine go_iload_n dX2_whoKeptBack_90 rfl ?_
      refine go_iret dX2_whoKeptBack_91 rfl rfl ?_
      exact hQ
    · -- ge at 9: no
      exfalso; have k8 := hc.2.2.1; have t_0 := nI_toInt (n := A.1) (by omega); simp only [i_le, i_lt, i_eq, bi_eq] at c_9; omega
