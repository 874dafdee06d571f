/-! Tally: what all bears tell -/
def orf (f : Nat → Nat) : Nat → Nat
  | 0 => 0
  | k + 1 => orf f k ||| f k
theorem orf_lt {f : Nat → Nat} (h : ∀ i, f i < 64) : ∀ k, orf f k < 64
  | 0 => by show 0 < 64; omega
  | k + 1 => or_lt (orf_lt h k) (h k)
theorem orf_lt' {f : Nat → Nat} : ∀ k, (∀ i, i < k → f i < 64) → orf f k < 64
  | 0, _ => by show 0 < 64; omega
  | k + 1, h => or_lt (orf_lt' k (fun i hi => h i (by omega))) (h k (by omega))
theorem sh_t : ∀ t, t < 8 → ((1 : Int32) <<< (nI t &&& 31)) = nI (2 ^ t) := by decide +kernel
abbrev TA : Type := Nat × (Nat → Nat) × (Nat → Nat)
def ta_s (h : bw_H) (p : Nat) : Prop := (p < bw_n h ∧ bw_k h p = .inl 5 ∧ bw_r h p 1 = some (p + 1) ∧ bw_r h p 2 = some (p + 3)) ∧ bw_ce h (p + 1) (p + 2) 6 ∧ bw_ce h (p + 3) (p + 4) 6
def ta_v (h : bw_H) (p : Nat) (A : TA) : Prop := bw_i h p 0 = nI A.1 ∧ A.1 ≤ 6 ∧ ∀ i, i < A.1 → bw_i h (p + 2) i = nI (A.2.1 i) ∧ bw_i h (p + 4) i = nI (A.2.2 i) ∧ A.2.1 i < 64 ∧ A.2.2 i < 64
def bw_ta (h : bw_H) (p : Nat) (A : TA) : Prop := ta_s h p ∧ ta_v h p A
/-- of a court -/
def taC (C : CT) : TA := (cN C, (fun i => one (tol (cW C) i (cK C i) (cR C i) (cV C i) (cE C i)) (cK C i) (cR C i) (cD C)), (fun i => tol (cW C) i (cK C i) (cR C i) (cV C i) (cE C i) &&& (63 ^^^ one (tol (cW C) i (cK C i) (cR C i) (cV C i) (cE C i)) (cK C i) (cR C i) (cD C))))
def bal (A : TA) (set t : Nat) : Nat → Int
  | 0 => 0
  | k + 1 => bal A set t k + (if set.testBit k = true then (if (A.2.1 k).testBit t = true then 1 else 0) - (if (A.2.2 k).testBit t = true then 1 else 0) else 0)
theorem bal_b (A : TA) (set t : Nat) : ∀ k : Nat, -(k : Int) ≤ bal A set t k ∧ bal A set t k ≤ k
  | 0 => ⟨Int.le_refl _, Int.le_refl _⟩
  | k + 1 => by
    have := bal_b A set t k
    show -((k + 1 : Nat) : Int) ≤ bal A set t k + _ ∧ bal A set t k + _ ≤ ((k + 1 : Nat) : Int)
    repeat' split
    all_goals omega
theorem ofI_t {z : Int} (h1 : -1000 ≤ z) (h2 : z ≤ 1000) : (Int32.ofInt z).toInt = z := by
  rw [Int32.toInt_ofInt, show Int32.size = 4294967296 from rfl]
  exact Int.bmod_eq_of_le (by omega) (by omega)
theorem ofI_add (a b : Int) : Int32.ofInt a + Int32.ofInt b = Int32.ofInt (a + b) := (Int32.ofInt_add a b).symm
def sho (A : TA) (set : Nat) : Nat := orf (fun t => if 0 < bal A set t A.1 then 2 ^ t else 0) 6
def tie (A : TA) (set : Nat) : Nat := orf (fun t => if bal A set t A.1 = 0 then 2 ^ t else 0) 6
def tld (A : TA) (set : Nat) : Nat := orf (fun i => if set.testBit i = true then A.2.1 i ||| A.2.2 i else 0) A.1
theorem p2_lt : ∀ t, t < 6 → 2 ^ t < 64 := by decide
theorem sho_lt (A : TA) (set : Nat) : sho A set < 64 := orf_lt' 6 (fun t ht => by split <;> first | exact p2_lt t ht | omega)
theorem tie_lt (A : TA) (set : Nat) : tie A set < 64 := orf_lt' 6 (fun t ht => by split <;> first | exact p2_lt t ht | omega)
set_option maxRecDepth 100000 in
set_option maxHeartbeats 4000000 in
theorem me_X5_toldBy {X : Nat × (Nat → Int32)} {Q : Option Value → bw_H → Prop} {h : bw_H} {p : Nat} {A : TA} (hc : bw_ta h p A) {set : Nat} (hset : set < 64) (hQ : Q (some (.int (nI (tld A set)))) h) : bw_me X 1 bm_X5_toldBy false [.ref p, .int (nI set)] h Q := by
  show bw_go _ 1 5 4 false (some .int) cX5_toldBy 0 [(0, .ref _), (1, .int _)] [] _ _
  refine go_iconst (0) dX5_toldBy_0 rfl ?_
  refine go_istore_n dX5_toldBy_1 (Nat.lt_of_lt_of_le (Nat.lt_succ_self _) (Nat.le_of_ble_eq_true rfl)) ?_
  show bw_go _ _ _ _ _ _ _ 2 [(2, .int _), (0, .ref _), (1, .int _)] ([]) _ _
  refine go_iconst (0) dX5_toldBy_2 rfl ?_
  refine go_istore_n dX5_toldBy_3 (Nat.lt_of_lt_of_le (Nat.lt_succ_self _) (Nat.le_of_ble_eq_true rfl)) ?_
  show bw_go _ _ _ _ _ _ _ 4 [(3, .int _), (2, .int _), (0, .ref _), (1, .int _)] ([]) _ _
  refine go_for (P := fun k => bw_go X 1 5 4 false (some .int) cX5_toldBy 4 [(3, .int (nI k)), (2, .int (nI (orf (fun i => if set.testBit i = true then A.2.1 i ||| A.2.2 i else 0) k))), (0, .ref (p)), (1, .int (nI set))] [] h Q) (N := A.1) (fun k hk K => ?_) ?_ (0) (Nat.zero_le _)
  · -- a turn
    have k6 := hc.2.2.1
    show bw_go _ _ _ _ _ _ _ 4 [(3, .int _), (2, .int _), (0, .ref _), (1, .int _)] ([]) _ _
    refine go_iload_n dX5_toldBy_4 rfl ?_
    refine go_aload_n dX5_toldBy_5 rfl ?_
    refine go_gfi dX5_toldBy_6 fl_5_9 rfl hc.1.1.1 hc.1.1.2.1 ?_
    rw [hc.2.1]
    refine go_icmp_ge (pc' := 46) dX5_toldBy_9 rfl (fun c_9 => ?_) (fun c_9 => ?_)
    · -- ge at 9: yes
      exfalso; have t_0 := nI_toInt (n := A.1) (by omega); have t_1 := nI_toInt (n := k) (by omega); simp only [i_le, i_lt, i_eq, bi_eq] at c_9; omega
    · -- ge at 9: no
      show bw_go _ _ _ _ _ _ _ 12 [(3, .int _), (2, .int _), (0, .ref _), (1, .int _)] ([]) _ _
      refine go_iload_n dX5_toldBy_12 rfl ?_
      refine go_iload_n dX5_toldBy_13 rfl ?_
      refine go_cs (as := [.int _, .int _]) 0 dX5_toldBy_14 rfl rfl mt_5_55 (Nat.le_of_ble_eq_true rfl) rfl rfl (Nat.le_of_ble_eq_true rfl) (Nat.le_of_ble_eq_true rfl) (Nat.le_of_ble_eq_true rfl) (Nat.le_of_ble_eq_true rfl) ?_
      refine me_X7_isIn hset (by omega) ?_
      show bw_go _ _ _ _ _ _ _ 17 [(3, .int _), (2, .int _), (0, .ref _), (1, .int _)] ((.int _) :: []) _ _
      refine go_ifb_eq (pc' := 40) dX5_toldBy_17 rfl (fun c_17 => ?_) (fun c_17 => ?_)
      · -- eq at 17: yes
        show bw_go _ _ _ _ _ _ _ 40 [(3, .int _), (2, .int _), (0, .ref _), (1, .int _)] ([]) _ _
        refine go_iinc dX5_toldBy_40 rfl (nI_1 k) (Nat.lt_of_lt_of_le (Nat.lt_succ_self _) (Nat.le_of_ble_eq_true rfl)) ?_
        show bw_go _ _ _ _ _ _ _ 43 [(3, .int _), (2, .int _), (0, .ref _), (1, .int _)] ([]) _ _
        refine go_goto (pc' := 4) dX5_toldBy_43 rfl ?_
        have e1 : orf (fun i => if set.testBit i = true then A.2.1 i ||| A.2.2 i else 0) (k + 1) = orf (fun i => if set.testBit i = true then A.2.1 i ||| A.2.2 i else 0) k ||| (if set.testBit k = true then A.2.1 k ||| A.2.2 k else 0) := rfl
        first | (rw [if_pos c_17] at e1; rw [or_n, or_n, ← e1]; exact K) | (rw [if_neg (by rw [c_17]; decide), Nat.or_zero] at e1; rw [← e1]; exact K)
      · -- eq at 17: no
        show bw_go _ _ _ _ _ _ _ 20 [(3, .int _), (2, .int _), (0, .ref _), (1, .int _)] ([]) _ _
        refine go_iload_n dX5_toldBy_20 rfl ?_
        refine go_aload_n dX5_toldBy_21 rfl ?_
        refine go_gfr dX5_toldBy_22 fl_5_20 rfl hc.1.1.1 hc.1.1.2.1 hc.1.1.2.2.1 ?_
        refine go_iload_n dX5_toldBy_25 rfl ?_
        refine go_cv (as := [.int _]) 0 dX5_toldBy_26 mt_5_33 (Or.inr rfl) rfl rfl hc.1.2.1.1 hc.1.2.1.2.1 (Nat.le_of_ble_eq_true rfl) (Nat.le_of_ble_eq_true rfl) (Nat.le_of_ble_eq_true rfl) (Nat.le_of_ble_eq_true rfl) (Nat.le_of_ble_eq_true rfl) ?_
        refine me_X0_get hc.1.2.1 ?_
        rw [cg_b (Nat.lt_of_lt_of_le hk hc.2.2.1), (hc.2.2.2 _ hk).1]
        show bw_go _ _ _ _ _ _ _ 29 [(3, .int _), (2, .int _), (0, .ref _), (1, .int _)] ((.int _) :: (.int _) :: []) _ _
        refine go_aload_n dX5_toldBy_29 rfl ?_
        refine go_gfr dX5_toldBy_30 fl_5_24 rfl hc.1.1.1 hc.1.1.2.1 hc.1.1.2.2.2 ?_
        refine go_iload_n dX5_toldBy_33 rfl ?_
        refine go_cv (as := [.int _]) 0 dX5_toldBy_34 mt_5_33 (Or.inr rfl) rfl rfl hc.1.2.2.1 hc.1.2.2.2.1 (Nat.le_of_ble_eq_true rfl) (Nat.le_of_ble_eq_true rfl) (Nat.le_of_ble_eq_true rfl) (Nat.le_of_ble_eq_true rfl) (Nat.le_of_ble_eq_true rfl) ?_
        refine me_X0_get hc.1.2.2 ?_
        rw [cg_b (Nat.lt_of_lt_of_le hk hc.2.2.1), (hc.2.2.2 _ hk).2.1]
        show bw_go _ _ _ _ _ _ _ 37 [(3, .int _), (2, .int _), (0, .ref _), (1, .int _)] ((.int _) :: (.int _) :: (.int _) :: []) _ _
        refine go_ior dX5_toldBy_37 ?_
        refine go_ior dX5_toldBy_38 ?_
        refine go_istore_n dX5_toldBy_39 (Nat.lt_of_lt_of_le (Nat.lt_succ_self _) (Nat.le_of_ble_eq_true rfl)) ?_
        show bw_go _ _ _ _ _ _ _ 40 [(2, .int _), (3, .int _), (0, .ref _), (1, .int _)] ([]) _ _
        refine go_iinc dX5_toldBy_40 rfl (nI_1 k) (Nat.lt_of_lt_of_le (Nat.lt_succ_self _) (Nat.le_of_ble_eq_true rfl)) ?_
        show bw_go _ _ _ _ _ _ _ 43 [(3, .int _), (2, .int _), (0, .ref _), (1, .int _)] ([]) _ _
        refine go_goto (pc' := 4) dX5_toldBy_43 rfl ?_
        have e1 : orf (fun i => if set.testBit i = true then A.2.1 i ||| A.2.2 i else 0) (k + 1) = orf (fun i => if set.testBit i = true then A.2.1 i ||| A.2.2 i else 0) k ||| (if set.testBit k = true then A.2.1 k ||| A.2.2 k else 0) := rfl
        first | (rw [if_pos c_17] at e1; rw [or_n, or_n, ← e1]; exact K) | (rw [if_neg (by rw [c_17]; decide), Nat.or_zero] at e1; rw [← e1]; exact K)
  · -- behind the last
    show bw_go _ _ _ _ _ _ _ 4 [(3, .int _), (2, .int _), (0, .ref _), (1, .int _)] ([]) _ _
    refine go_iload_n dX5_toldBy_4 rfl ?_
    refine go_aload_n dX5_toldBy_5 rfl ?_
    refine go_gfi dX5_toldBy_6 fl_5_9 rfl hc.1.1.1 hc.1.1.2.1 ?_
    rw [hc.2.1]
    refine go_icmp_ge (pc' := 46) dX5_toldBy_9 rfl (fun c_9 => ?_) (fun c_9 => ?_)
    · -- ge at 9: yes
      show bw_go _ _ _ _ _ _ _ 46 [(3, .int _), (2, .int _), (0, .ref _), (1, .int _)] ([]) _ _
      refine go_iload_n dX5_toldBy_46 rfl ?_
      refine go_iret dX5_toldBy_47 rfl rfl ?_
      exact hQ
    · -- ge at 9: no
      exfalso; have k6 := hc.2.2.1; have t_0 := nI_toInt (n := A.1) (by omega); simp only [i_le, i_lt, i_eq, bi_eq] at c_9; omega
set_option maxRecDepth 100000 in
set_option maxHeartbeats 4000000 in
theorem me_X5_balance {X : Nat × (Nat → Int32)} {Q : Option Value → bw_H → Prop} {h : bw_H} {p : Nat} {A : TA} (hc : bw_ta h p A) {set t : Nat} (hset : set < 64) (ht : t < 6) (hQ : Q (some (.int (Int32.ofInt (bal A set t A.1)))) h) : bw_me X 1 bm_X5_balance false [.ref p, .int (nI set), .int (nI t)] h Q := by
  show bw_go _ 1 5 5 false (some .int) cX5_balance 0 [(0, .ref _), (1, .int _), (2, .int _)] [] _ _
  refine go_iconst (0) dX5_balance_0 rfl ?_
  refine go_istore_n dX5_balance_1 (Nat.lt_of_lt_of_le (Nat.lt_succ_self _) (Nat.le_of_ble_eq_true rfl)) ?_
  show bw_go _ _ _ _ _ _ _ 2 [(3, .int _), (0, .ref _), (1, .int _), (2, .int _)] ([]) _ _
  refine go_iconst (0) dX5_balance_2 rfl ?_
  refine go_istore dX5_balance_3 (Nat.lt_of_lt_of_le (Nat.lt_succ_self _) (Nat.le_of_ble_eq_true rfl)) ?_
  show bw_go _ _ _ _ _ _ _ 5 [(4, .int _), (3, .int _), (0, .ref _), (1, .int _), (2, .int _)] ([]) _ _
  refine go_for (P := fun k => bw_go X 1 5 5 false (some .int) cX5_balance 5 [(4, .int (nI k)), (3, .int (Int32.ofInt (bal A set t k))), (0, .ref (p)), (1, .int (nI set)), (2, .int (nI t))] [] h Q) (N := A.1) (fun k hk K => ?_) ?_ (0) (Nat.zero_le _)
  · -- a turn
    have k6 := hc.2.2.1
    show bw_go _ _ _ _ _ _ _ 5 [(4, .int _), (3, .int _), (0, .ref _), (1, .int _), (2, .int _)] ([]) _ _
    refine go_iload dX5_balance_5 rfl ?_
    refine go_aload_n dX5_balance_7 rfl ?_
    refine go_gfi dX5_balance_8 fl_5_9 rfl hc.1.1.1 hc.1.1.2.1 ?_
    rw [hc.2.1]
    refine go_icmp_ge (pc' := 70) dX5_balance_11 rfl (fun c_11 => ?_) (fun c_11 => ?_)
    · -- ge at 11: yes
      exfalso; have t_0 := nI_toInt (n := A.1) (by omega); have t_1 := nI_toInt (n := k) (by omega); simp only [i_le, i_lt, i_eq, bi_eq] at c_11; omega
    · -- ge at 11: no
      show bw_go _ _ _ _ _ _ _ 14 [(4, .int _), (3, .int _), (0, .ref _), (1, .int _), (2, .int _)] ([]) _ _
      refine go_iload_n dX5_balance_14 rfl ?_
      refine go_iload dX5_balance_15 rfl ?_
      refine go_cs (as := [.int _, .int _]) 0 dX5_balance_17 rfl rfl mt_5_55 (Nat.le_of_ble_eq_true rfl) rfl rfl (Nat.le_of_ble_eq_true rfl) (Nat.le_of_ble_eq_true rfl) (Nat.le_of_ble_eq_true rfl) (Nat.le_of_ble_eq_true rfl) ?_
      refine me_X7_isIn hset (by omega) ?_
      show bw_go _ _ _ _ _ _ _ 20 [(4, .int _), (3, .int _), (0, .ref _), (1, .int _), (2, .int _)] ((.int _) :: []) _ _
      refine go_ifb_ne (pc' := 26) dX5_balance_20 rfl (fun c_20 => ?_) (fun c_20 => ?_)
      · -- ne at 20: yes
        show bw_go _ _ _ _ _ _ _ 26 [(4, .int _), (3, .int _), (0, .ref _), (1, .int _), (2, .int _)] ([]) _ _
        refine go_aload_n dX5_balance_26 rfl ?_
        refine go_gfr dX5_balance_27 fl_5_20 rfl hc.1.1.1 hc.1.1.2.1 hc.1.1.2.2.1 ?_
        refine go_iload dX5_balance_30 rfl ?_
        refine go_cv (as := [.int _]) 0 dX5_balance_32 mt_5_33 (Or.inr rfl) rfl rfl hc.1.2.1.1 hc.1.2.1.2.1 (Nat.le_of_ble_eq_true rfl) (Nat.le_of_ble_eq_true rfl) (Nat.le_of_ble_eq_true rfl) (Nat.le_of_ble_eq_true rfl) (Nat.le_of_ble_eq_true rfl) ?_
        refine me_X0_get hc.1.2.1 ?_
        rw [cg_b (Nat.lt_of_lt_of_le hk hc.2.2.1), (hc.2.2.2 _ hk).1]
        show bw_go _ _ _ _ _ _ _ 35 [(4, .int _), (3, .int _), (0, .ref _), (1, .int _), (2, .int _)] ((.int _) :: []) _ _
        refine go_iload_n dX5_balance_35 rfl ?_
        refine go_cs (as := [.int _, .int _]) 0 dX5_balance_36 rfl rfl mt_5_55 (Nat.le_of_ble_eq_true rfl) rfl rfl (Nat.le_of_ble_eq_true rfl) (Nat.le_of_ble_eq_true rfl) (Nat.le_of_ble_eq_true rfl) (Nat.le_of_ble_eq_true rfl) ?_
        refine me_X7_isIn (hc.2.2.2 k hk).2.2.1 (by omega) ?_
        show bw_go _ _ _ _ _ _ _ 39 [(4, .int _), (3, .int _), (0, .ref _), (1, .int _), (2, .int _)] ((.int _) :: []) _ _
        refine go_ifb_eq (pc' := 45) dX5_balance_39 rfl (fun c_39 => ?_) (fun c_39 => ?_)
        · -- eq at 39: yes
          show bw_go _ _ _ _ _ _ _ 45 [(4, .int _), (3, .int _), (0, .ref _), (1, .int _), (2, .int _)] ([]) _ _
          refine go_aload_n dX5_balance_45 rfl ?_
          refine go_gfr dX5_balance_46 fl_5_24 rfl hc.1.1.1 hc.1.1.2.1 hc.1.1.2.2.2 ?_
          refine go_iload dX5_balance_49 rfl ?_
          refine go_cv (as := [.int _]) 0 dX5_balance_51 mt_5_33 (Or.inr rfl) rfl rfl hc.1.2.2.1 hc.1.2.2.2.1 (Nat.le_of_ble_eq_true rfl) (Nat.le_of_ble_eq_true rfl) (Nat.le_of_ble_eq_true rfl) (Nat.le_of_ble_eq_true rfl) (Nat.le_of_ble_eq_true rfl) ?_
          refine me_X0_get hc.1.2.2 ?_
          rw [cg_b (Nat.lt_of_lt_of_le hk hc.2.2.1), (hc.2.2.2 _ hk).2.1]
          show bw_go _ _ _ _ _ _ _ 54 [(4, .int _), (3, .int _), (0, .ref _), (1, .int _), (2, .int _)] ((.int _) :: []) _ _
          refine go_iload_n dX5_balance_54 rfl ?_
          refine go_cs (as := [.int _, .int _]) 0 dX5_balance_55 rfl rfl mt_5_55 (Nat.le_of_ble_eq_true rfl) rfl rfl (Nat.le_of_ble_eq_true rfl) (Nat.le_of_ble_eq_true rfl) (Nat.le_of_ble_eq_true rfl) (Nat.le_of_ble_eq_true rfl) ?_
          refine me_X7_isIn (hc.2.2.2 k hk).2.2.2 (by omega) ?_
          show bw_go _ _ _ _ _ _ _ 58 [(4, .int _), (3, .int _), (0, .ref _), (1, .int _), (2, .int _)] ((.int _) :: []) _ _
          refine go_ifb_eq (pc' := 64) dX5_balance_58 rfl (fun c_58 => ?_) (fun c_58 => ?_)
          · -- eq at 58: yes
            show bw_go _ _ _ _ _ _ _ 64 [(4, .int _), (3, .int _), (0, .ref _), (1, .int _), (2, .int _)] ([]) _ _
            refine go_iinc dX5_balance_64 rfl (nI_1 k) (Nat.lt_of_lt_of_le (Nat.lt_succ_self _) (Nat.le_of_ble_eq_true rfl)) ?_
            show bw_go _ _ _ _ _ _ _ 67 [(4, .int _), (3, .int _), (0, .ref _), (1, .int _), (2, .int _)] ([]) _ _
            refine go_goto (pc' := 5) dX5_balance_67 rfl ?_
            have e1 : bal A set t (k + 1) = bal A set t k + (if set.testBit k = true then (if (A.2.1 k).testBit t = true then 1 else 0) - (if (A.2.2 k).testBit t = true then 1 else 0) else 0) := rfl
            simp only [c_20, c_39, c_58, if_true, if_false, Bool.false_eq_true, Int.sub_zero, Int.add_zero, Int.sub_self, Int.zero_sub] at e1
            (try simp only [ofI_add])
            (try simp only [Int.add_assoc, Int.reduceAdd, Int.reduceNeg, Int.add_zero, Int.zero_add])
            rw [← e1]; exact K
          · -- eq at 58: no
            show bw_go _ _ _ _ _ _ _ 61 [(4, .int _), (3, .int _), (0, .ref _), (1, .int _), (2, .int _)] ([]) _ _
            refine go_iinc dX5_balance_61 rfl rfl (Nat.lt_of_lt_of_le (Nat.lt_succ_self _) (Nat.le_of_ble_eq_true rfl)) ?_
            show bw_go _ _ _ _ _ _ _ 64 [(3, .int _), (4, .int _), (0, .ref _), (1, .int _), (2, .int _)] ([]) _ _
            refine go_iinc dX5_balance_64 rfl (nI_1 k) (Nat.lt_of_lt_of_le (Nat.lt_succ_self _) (Nat.le_of_ble_eq_true rfl)) ?_
            show bw_go _ _ _ _ _ _ _ 67 [(4, .int _), (3, .int _), (0, .ref _), (1, .int _), (2, .int _)] ([]) _ _
            refine go_goto (pc' := 5) dX5_balance_67 rfl ?_
            have e1 : bal A set t (k + 1) = bal A set t k + (if set.testBit k = true then (if (A.2.1 k).testBit t = true then 1 else 0) - (if (A.2.2 k).testBit t = true then 1 else 0) else 0) := rfl
            simp only [c_20, c_39, c_58, if_true, if_false, Bool.false_eq_true, Int.sub_zero, Int.add_zero, Int.sub_self, Int.zero_sub] at e1
            (try simp only [ofI_add])
            (try simp only [Int.add_assoc, Int.reduceAdd, Int.reduceNeg, Int.add_zero, Int.zero_add])
            rw [← e1]; exact K
        · -- eq at 39: no
          show bw_go _ _ _ _ _ _ _ 42 [(4, .int _), (3, .int _), (0, .ref _), (1, .int _), (2, .int _)] ([]) _ _
          refine go_iinc dX5_balance_42 rfl rfl (Nat.lt_of_lt_of_le (Nat.lt_succ_self _) (Nat.le_of_ble_eq_true rfl)) ?_
          show bw_go _ _ _ _ _ _ _ 45 [(3, .int _), (4, .int _), (0, .ref _), (1, .int _), (2, .int _)] ([]) _ _
          refine go_aload_n dX5_balance_45 rfl ?_
          refine go_gfr dX5_balance_46 fl_5_24 rfl hc.1.1.1 hc.1.1.2.1 hc.1.1.2.2.2 ?_
          refine go_iload dX5_balance_49 rfl ?_
          refine go_cv (as := [.int _]) 0 dX5_balance_51 mt_5_33 (Or.inr rfl) rfl rfl hc.1.2.2.1 hc.1.2.2.2.1 (Nat.le_of_ble_eq_true rfl) (Nat.le_of_ble_eq_true rfl) (Nat.le_of_ble_eq_true rfl) (Nat.le_of_ble_eq_true rfl) (Nat.le_of_ble_eq_true rfl) ?_
          refine me_X0_get hc.1.2.2 ?_
          rw [cg_b (Nat.lt_of_lt_of_le hk hc.2.2.1), (hc.2.2.2 _ hk).2.1]
          show bw_go _ _ _ _ _ _ _ 54 [(3, .int _), (4, .int _), (0, .ref _), (1, .int _), (2, .int _)] ((.int _) :: []) _ _
          refine go_iload_n dX5_balance_54 rfl ?_
          refine go_cs (as := [.int _, .int _]) 0 dX5_balance_55 rfl rfl mt_5_55 (Nat.le_of_ble_eq_true rfl) rfl rfl (Nat.le_of_ble_eq_true rfl) (Nat.le_of_ble_eq_true rfl) (Nat.le_of_ble_eq_true rfl) (Nat.le_of_ble_eq_true rfl) ?_
          refine me_X7_isIn (hc.2.2.2 k hk).2.2.2 (by omega) ?_
          show bw_go _ _ _ _ _ _ _ 58 [(3, .int _), (4, .int _), (0, .ref _), (1, .int _), (2, .int _)] ((.int _) :: []) _ _
          refine go_ifb_eq (pc' := 64) dX5_balance_58 rfl (fun c_58 => ?_) (fun c_58 => ?_)
          · -- eq at 58: yes
            show bw_go _ _ _ _ _ _ _ 64 [(3, .int _), (4, .int _), (0, .ref _), (1, .int _), (2, .int _)] ([]) _ _
            refine go_iinc dX5_balance_64 rfl (nI_1 k) (Nat.lt_of_lt_of_le (Nat.lt_succ_self _) (Nat.le_of_ble_eq_true rfl)) ?_
            show bw_go _ _ _ _ _ _ _ 67 [(4, .int _), (3, .int _), (0, .ref _), (1, .int _), (2, .int _)] ([]) _ _
            refine go_goto (pc' := 5) dX5_balance_67 rfl ?_
            have e1 : bal A set t (k + 1) = bal A set t k + (if set.testBit k = true then (if (A.2.1 k).testBit t = true then 1 else 0) - (if (A.2.2 k).testBit t = true then 1 else 0) else 0) := rfl
            simp only [c_20, c_39, c_58, if_true, if_false, Bool.false_eq_true, Int.sub_zero, Int.add_zero, Int.sub_self, Int.zero_sub] at e1
            (try simp only [ofI_add])
            (try simp only [Int.add_assoc, Int.reduceAdd, Int.reduceNeg, Int.add_zero, Int.zero_add])
            rw [← e1]; exact K
          · -- eq at 58: no
            show bw_go _ _ _ _ _ _ _ 61 [(3, .int _), (4, .int _), (0, .ref _), (1, .int _), (2, .int _)] ([]) _ _
            refine go_iinc dX5_balance_61 rfl rfl (Nat.lt_of_lt_of_le (Nat.lt_succ_self _) (Nat.le_of_ble_eq_true rfl)) ?_
            show bw_go _ _ _ _ _ _ _ 64 [(3, .int _), (4, .int _), (0, .ref _), (1, .int _), (2, .int _)] ([]) _ _
            refine go_iinc dX5_balance_64 rfl (nI_1 k) (Nat.lt_of_lt_of_le (Nat.lt_succ_self _) (Nat.le_of_ble_eq_true rfl)) ?_
            show bw_go _ _ _ _ _ _ _ 67 [(4, .int _), (3, .int _), (0, .ref _), (1, .int _), (2, .int _)] ([]) _ _
            refine go_goto (pc' := 5) dX5_balance_67 rfl ?_
            have e1 : bal A set t (k + 1) = bal A set t k + (if set.testBit k = true then (if (A.2.1 k).testBit t = true then 1 else 0) - (if (A.2.2 k).testBit t = true then 1 else 0) else 0) := rfl
            simp only [c_20, c_39, c_58, if_true, if_false, Bool.false_eq_true, Int.sub_zero, Int.add_zero, Int.sub_self, Int.zero_sub] at e1
            (try simp only [ofI_add])
            (try simp only [Int.add_assoc, Int.reduceAdd, Int.reduceNeg, Int.add_zero, Int.zero_add])
            rw [← e1]; exact K
      · -- ne at 20: no
        show bw_go _ _ _ _ _ _ _ 23 [(4, .int _), (3, .int _), (0, .ref _), (1, .int _), (2, .int _)] ([]) _ _
        refine go_goto (pc' := 64) dX5_balance_23 rfl ?_
        show bw_go _ _ _ _ _ _ _ 64 [(4, .int _), (3, .int _), (0, .ref _), (1, .int _), (2, .int _)] ([]) _ _
        refine go_iinc dX5_balance_64 rfl (nI_1 k) (Nat.lt_of_lt_of_le (Nat.lt_succ_self _) (Nat.le_of_ble_eq_true rfl)) ?_
        show bw_go _ _ _ _ _ _ _ 67 [(4, .int _), (3, .int _), (0, .ref _), (1, .int _), (2, .int _)] ([]) _ _
        refine go_goto (pc' := 5) dX5_balance_67 rfl ?_
        have e1 : bal A set t (k + 1) = bal A set t k + (if set.testBit k = true then (if (A.2.1 k).testBit t = true then 1 else 0) - (if (A.2.2 k).testBit t = true then 1 else 0) else 0) := rfl
        simp only [c_20, if_true, if_false, Bool.false_eq_true, Int.sub_zero, Int.add_zero, Int.sub_self, Int.zero_sub] at e1
        (try simp only [ofI_add])
        (try simp only [Int.add_assoc, Int.reduceAdd, Int.reduceNeg, Int.add_zero, Int.zero_add])
        rw [← e1]; exact K
  · -- behind the last
    show bw_go _ _ _ _ _ _ _ 5 [(4, .int _), (3, .int _), (0, .ref _), (1, .int _), (2, .int _)] ([]) _ _
    refine go_iload dX5_balance_5 rfl ?_
    refine go_aload_n dX5_balance_7 rfl ?_
    refine go_gfi dX5_balance_8 fl_5_9 rfl hc.1.1.1 hc.1.1.2.1 ?_
    rw [hc.2.1]
    refine go_icmp_ge (pc' := 70) dX5_balance_11 rfl (fun c_11 => ?_) (fun c_11 => ?_)
    · -- ge at 11: yes
      show bw_go _ _ _ _ _ _ _ 70 [(4, .int _), (3, .int _), (0, .ref _), (1, .int _), (2, .int _)] ([]) _ _
      refine go_iload_n dX5_balance_70 rfl ?_
      refine go_iret dX5_balance_71 rfl rfl ?_
      exact hQ
    · -- ge at 11: no
      exfalso; have k6 := hc.2.2.1; have t_0 := nI_toInt (n := A.1) (by omega); simp only [i_le, i_lt, i_eq, bi_eq] at c_11; omega
set_option maxRecDepth 100000 in
set_option maxHeartbeats 4000000 in
theorem me_X5_shownBy {X : Nat × (Nat → Int32)} {Q : Option Value → bw_H → Prop} {h : bw_H} {p : Nat} {A : TA} (hc : bw_ta h p A) {set : Nat} (hset : set < 64) (hQ : Q (some (.int (nI (sho A set)))) h) : bw_me X 2 bm_X5_shownBy false [.ref p, .int (nI set)] h Q := by
  show bw_go _ 2 5 4 false (some .int) cX5_shownBy 0 [(0, .ref _), (1, .int _)] [] _ _
  refine go_iconst (0) dX5_shownBy_0 rfl ?_
  refine go_istore_n dX5_shownBy_1 (Nat.lt_of_lt_of_le (Nat.lt_succ_self _) (Nat.le_of_ble_eq_true rfl)) ?_
  show bw_go _ _ _ _ _ _ _ 2 [(2, .int _), (0, .ref _), (1, .int _)] ([]) _ _
  refine go_iconst (0) dX5_shownBy_2 rfl ?_
  refine go_istore_n dX5_shownBy_3 (Nat.lt_of_lt_of_le (Nat.lt_succ_self _) (Nat.le_of_ble_eq_true rfl)) ?_
  show bw_go _ _ _ _ _ _ _ 4 [(3, .int _), (2, .int _), (0, .ref _), (1, .int _)] ([]) _ _
  refine go_for (P := fun k => bw_go X 2 5 4 false (some .int) cX5_shownBy 4 [(3, .int (nI k)), (2, .int (nI (orf (fun t => if 0 < bal A set t A.1 then 2 ^ t else 0) k))), (0, .ref (p)), (1, .int (nI set))] [] h Q) (N := 6) (fun k hk K => ?_) ?_ (0) (Nat.zero_le _)
  · -- a turn
    have k6 := hc.2.2.1
    show bw_go _ _ _ _ _ _ _ 4 [(3, .int _), (2, .int _), (0, .ref _), (1, .int _)] ([]) _ _
    refine go_iload_n dX5_shownBy_4 rfl ?_
    refine go_bipush (6) dX5_shownBy_5 rfl ?_
    refine go_icmp_ge (pc' := 31) dX5_shownBy_7 rfl (fun c_7 => ?_) (fun c_7 => ?_)
    · -- ge at 7: yes
      exfalso; have t_0 := nI_toInt (n := k) (by omega); have l_0 : (6 : Int32).toInt = 6 := rfl; simp only [i_le, i_lt, i_eq, bi_eq] at c_7; omega
    · -- ge at 7: no
      show bw_go _ _ _ _ _ _ _ 10 [(3, .int _), (2, .int _), (0, .ref _), (1, .int _)] ([]) _ _
      refine go_aload_n dX5_shownBy_10 rfl ?_
      refine go_iload_n dX5_shownBy_11 rfl ?_
      refine go_iload_n dX5_shownBy_12 rfl ?_
      refine go_cv (as := [.int _, .int _]) 1 dX5_shownBy_13 mt_5_59 (Or.inl rfl) rfl rfl hc.1.1.1 hc.1.1.2.1 (Nat.le_of_ble_eq_true rfl) (Nat.le_of_ble_eq_true rfl) (Nat.le_of_ble_eq_true rfl) (Nat.le_of_ble_eq_true rfl) (Nat.le_of_ble_eq_true rfl) ?_
      refine me_X5_balance hc hset hk ?_
      show bw_go _ _ _ _ _ _ _ 16 [(3, .int _), (2, .int _), (0, .ref _), (1, .int _)] ((.int _) :: []) _ _
      refine go_if_le (pc' := 25) dX5_shownBy_16 rfl (fun c_16 => ?_) (fun c_16 => ?_)
      · -- le at 16: yes
        show bw_go _ _ _ _ _ _ _ 25 [(3, .int _), (2, .int _), (0, .ref _), (1, .int _)] ([]) _ _
        refine go_iinc dX5_shownBy_25 rfl (nI_1 k) (Nat.lt_of_lt_of_le (Nat.lt_succ_self _) (Nat.le_of_ble_eq_true rfl)) ?_
        show bw_go _ _ _ _ _ _ _ 28 [(3, .int _), (2, .int _), (0, .ref _), (1, .int _)] ([]) _ _
        refine go_goto (pc' := 4) dX5_shownBy_28 rfl ?_
        have bb := bal_b A set k A.1
        have t_0 := ofI_t (z := bal A set k A.1) (by omega) (by omega)
        have l_0 := i_0
        simp only [i_le, i_eq] at c_16
        have e1 : orf (fun t => if 0 < bal A set t A.1 then 2 ^ t else 0) (k + 1) = orf (fun t => if 0 < bal A set t A.1 then 2 ^ t else 0) k ||| (if 0 < bal A set k A.1 then 2 ^ k else 0) := rfl
        first | (rw [if_pos (by omega)] at e1; rw [sh_t k (by omega), or_n, ← e1]; exact K) | (rw [if_neg (by omega), Nat.or_zero] at e1; rw [← e1]; exact K)
      · -- le at 16: no
        show bw_go _ _ _ _ _ _ _ 19 [(3, .int _), (2, .int _), (0, .ref _), (1, .int _)] ([]) _ _
        refine go_iload_n dX5_shownBy_19 rfl ?_
        refine go_iconst (1) dX5_shownBy_20 rfl ?_
        refine go_iload_n dX5_shownBy_21 rfl ?_
        refine go_ishl dX5_shownBy_22 ?_
        refine go_ior dX5_shownBy_23 ?_
        refine go_istore_n dX5_shownBy_24 (Nat.lt_of_lt_of_le (Nat.lt_succ_self _) (Nat.le_of_ble_eq_true rfl)) ?_
        show bw_go _ _ _ _ _ _ _ 25 [(2, .int _), (3, .int _), (0, .ref _), (1, .int _)] ([]) _ _
        refine go_iinc dX5_shownBy_25 rfl (nI_1 k) (Nat.lt_of_lt_of_le (Nat.lt_succ_self _) (Nat.le_of_ble_eq_true rfl)) ?_
        show bw_go _ _ _ _ _ _ _ 28 [(3, .int _), (2, .int _), (0, .ref _), (1, .int _)] ([]) _ _
        refine go_goto (pc' := 4) dX5_shownBy_28 rfl ?_
        have bb := bal_b A set k A.1
        have t_0 := ofI_t (z := bal A set k A.1) (by omega) (by omega)
        have l_0 := i_0
        simp only [i_le, i_eq] at c_16
        have e1 : orf (fun t => if 0 < bal A set t A.1 then 2 ^ t else 0) (k + 1) = orf (fun t => if 0 < bal A set t A.1 then 2 ^ t else 0) k ||| (if 0 < bal A set k A.1 then 2 ^ k else 0) := rfl
        first | (rw [if_pos (by omega)] at e1; rw [sh_t k (by omega), or_n, ← e1]; exact K) | (rw [if_neg (by omega), Nat.or_zero] at e1; rw [← e1]; exact K)
  · -- behind the last
    show bw_go _ _ _ _ _ _ _ 4 [(3, .int _), (2, .int _), (0, .ref _), (1, .int _)] ([]) _ _
    refine go_iload_n dX5_shownBy_4 rfl ?_
    refine go_bipush (6) dX5_shownBy_5 rfl ?_
    refine go_icmp_ge (pc' := 31) dX5_shownBy_7 rfl (fun c_7 => ?_) (fun c_7 => ?_)
    · -- ge at 7: yes
      show bw_go _ _ _ _ _ _ _ 31 [(3, .int _), (2, .int _), (0, .ref _), (1, .int _)] ([]) _ _
      refine go_iload_n dX5_shownBy_31 rfl ?_
      refine go_iret dX5_shownBy_32 rfl rfl ?_
      exact hQ
    · -- ge at 7: no
      exfalso; have t_0 := nI_toInt (n := 6) (by omega); have l_0 : (6 : Int32).toInt = 6 := rfl; simp only [i_le, i_lt, i_eq, bi_eq] at c_7; omega
set_option maxRecDepth 100000 in
set_option maxHeartbeats 4000000 in
theorem me_X5_tiedBy {X : Nat × (Nat → Int32)} {Q : Option Value → bw_H → Prop} {h : bw_H} {p : Nat} {A : TA} (hc : bw_ta h p A) {set : Nat} (hset : set < 64) (hQ : Q (some (.int (nI (tie A set &&& tld A set)))) h) : bw_me X 2 bm_X5_tiedBy false [.ref p, .int (nI set)] h Q := by
  show bw_go _ 2 5 4 false (some .int) cX5_tiedBy 0 [(0, .ref _), (1, .int _)] [] _ _
  refine go_iconst (0) dX5_tiedBy_0 rfl ?_
  refine go_istore_n dX5_tiedBy_1 (Nat.lt_of_lt_of_le (Nat.lt_succ_self _) (Nat.le_of_ble_eq_true rfl)) ?_
  show bw_go _ _ _ _ _ _ _ 2 [(2, .int _), (0, .ref _), (1, .int _)] ([]) _ _
  refine go_iconst (0) dX5_tiedBy_2 rfl ?_
  refine go_istore_n dX5_tiedBy_3 (Nat.lt_of_lt_of_le (Nat.lt_succ_self _) (Nat.le_of_ble_eq_true rfl)) ?_
  show bw_go _ _ _ _ _ _ _ 4 [(3, .int _), (2, .int _), (0, .ref _), (1, .int _)] ([]) _ _
  refine go_for (P := fun k => bw_go X 2 5 4 false (some .int) cX5_tiedBy 4 [(3, .int (nI k)), (2, .int (nI (orf (fun t => if bal A set t A.1 = 0 then 2 ^ t else 0) k))), (0, .ref (p)), (1, .int (nI set))] [] h Q) (N := 6) (fun k hk K => ?_) ?_ (0) (Nat.zero_le _)
  · -- a turn
    have k6 := hc.2.2.1
    show bw_go _ _ _ _ _ _ _ 4 [(3, .int _), (2, .int _), (0, .ref _), (1, .int _)] ([]) _ _
    refine go_iload_n dX5_tiedBy_4 rfl ?_
    refine go_bipush (6) dX5_tiedBy_5 rfl ?_
    refine go_icmp_ge (pc' := 31) dX5_tiedBy_7 rfl (fun c_7 => ?_) (fun c_7 => ?_)
    · -- ge at 7: yes
      exfalso; have t_0 := nI_toInt (n := k) (by omega); have l_0 : (6 : Int32).toInt = 6 := rfl; simp only [i_le, i_lt, i_eq, bi_eq] at c_7; omega
    · -- ge at 7: no
      show bw_go _ _ _ _ _ _ _ 10 [(3, .int _), (2, .int _), (0, .ref _), (1, .int _)] ([]) _ _
      refine go_aload_n dX5_tiedBy_10 rfl ?_
      refine go_iload_n dX5_tiedBy_11 rfl ?_
      refine go_iload_n dX5_tiedBy_12 rfl ?_
      refine go_cv (as := [.int _, .int _]) 1 dX5_tiedBy_13 mt_5_59 (Or.inl rfl) rfl rfl hc.1.1.1 hc.1.1.2.1 (Nat.le_of_ble_eq_true rfl) (Nat.le_of_ble_eq_true rfl) (Nat.le_of_ble_eq_true rfl) (Nat.le_of_ble_eq_true rfl) (Nat.le_of_ble_eq_true rfl) ?_
      refine me_X5_balance hc hset hk ?_
      show bw_go _ _ _ _ _ _ _ 16 [(3, .int _), (2, .int _), (0, .ref _), (1, .int _)] ((.int _) :: []) _ _
      refine go_if_ne (pc' := 25) dX5_tiedBy_16 rfl (fun c_16 => ?_) (fun c_16 => ?_)
      · -- ne at 16: yes
        show bw_go _ _ _ _ _ _ _ 25 [(3, .int _), (2, .int _), (0, .ref _), (1, .int _)] ([]) _ _
        refine go_iinc dX5_tiedBy_25 rfl (nI_1 k) (Nat.lt_of_lt_of_le (Nat.lt_succ_self _) (Nat.le_of_ble_eq_true rfl)) ?_
        show bw_go _ _ _ _ _ _ _ 28 [(3, .int _), (2, .int _), (0, .ref _), (1, .int _)] ([]) _ _
        refine go_goto (pc' := 4) dX5_tiedBy_28 rfl ?_
        have bb := bal_b A set k A.1
        have t_0 := ofI_t (z := bal A set k A.1) (by omega) (by omega)
        have l_0 := i_0
        simp only [i_le, i_eq] at c_16
        have e1 : orf (fun t => if bal A set t A.1 = 0 then 2 ^ t else 0) (k + 1) = orf (fun t => if bal A set t A.1 = 0 then 2 ^ t else 0) k ||| (if bal A set k A.1 = 0 then 2 ^ k else 0) := rfl
        first | (rw [if_pos (by omega)] at e1; rw [sh_t k (by omega), or_n, ← e1]; exact K) | (rw [if_neg (by omega), Nat.or_zero] at e1; rw [← e1]; exact K)
      · -- ne at 16: no
        show bw_go _ _ _ _ _ _ _ 19 [(3, .int _), (2, .int _), (0, .ref _), (1, .int _)] ([]) _ _
        refine go_iload_n dX5_tiedBy_19 rfl ?_
        refine go_iconst (1) dX5_tiedBy_20 rfl ?_
        refine go_iload_n dX5_tiedBy_21 rfl ?_
        refine go_ishl dX5_tiedBy_22 ?_
        refine go_ior dX5_tiedBy_23 ?_
        refine go_istore_n dX5_tiedBy_24 (Nat.lt_of_lt_of_le (Nat.lt_succ_self _) (Nat.le_of_ble_eq_true rfl)) ?_
        show bw_go _ _ _ _ _ _ _ 25 [(2, .int _), (3, .int _), (0, .ref _), (1, .int _)] ([]) _ _
        refine go_iinc dX5_tiedBy_25 rfl (nI_1 k) (Nat.lt_of_lt_of_le (Nat.lt_succ_self _) (Nat.le_of_ble_eq_true rfl)) ?_
        show bw_go _ _ _ _ _ _ _ 28 [(3, .int _), (2, .int _), (0, .ref _), (1, .int _)] ([]) _ _
        refine go_goto (pc' := 4) dX5_tiedBy_28 rfl ?_
        have bb := bal_b A set k A.1
        have t_0 := ofI_t (z := bal A set k A.1) (by omega) (by omega)
        have l_0 := i_0
        simp only [i_le, i_eq] at c_16
        have e1 : orf (fun t => if bal A set t A.1 = 0 then 2 ^ t else 0) (k + 1) = orf (fun t => if bal A set t A.1 = 0 then 2 ^ t else 0) k ||| (if bal A set k A.1 = 0 then 2 ^ k else 0) := rfl
        first | (rw [if_pos (by omega)] at e1; rw [sh_t k (by omega), or_n, ← e1]; exact K) | (rw [if_neg (by omega), Nat.or_zero] at e1; rw [← e1]; exact K)
  · -- behind the last
    show bw_go _ _ _ _ _ _ _ 4 [(3, .int _), (2, .int _), (0, .ref _), (1, .int _)] ([]) _ _
    refine go_iload_n dX5_tiedBy_4 rfl ?_
    refine go_bipush (6) dX5_tiedBy_5 rfl ?_
    refine go_icmp_ge (pc' := 31) dX5_tiedBy_7 rfl (fun c_7 => ?_) (fun c_7 => ?_)
    · -- ge at 7: yes
      show bw_go _ _ _ _ _ _ _ 31 [(3, .int _), (2, .int _), (0, .ref _), (1, .int _)] ([]) _ _
      refine go_iload_n dX5_tiedBy_31 rfl ?_
      refine go_aload_n dX5_tiedBy_32 rfl ?_
      refine go_iload_n dX5_tiedBy_33 rfl ?_
      refine go_cv (as := [.int _]) 1 dX5_tiedBy_34 mt_5_63 (Or.inl rfl) rfl rfl hc.1.1.1 hc.1.1.2.1 (Nat.le_of_ble_eq_true rfl) (Nat.le_of_ble_eq_true rfl) (Nat.le_of_ble_eq_true rfl) (Nat.le_of_ble_eq_true rfl) (Nat.le_of_ble_eq_true rfl) ?_
      refine me_X5_toldBy hc hset ?_
      show bw_go _ _ _ _ _ _ _ 37 [(3, .int _), (2, .int _), (0, .ref _), (1, .int _)] ((.int _) :: (.int _) :: []) _ _
      refine go_iand dX5_tiedBy_37 ?_
      refine go_iret dX5_tiedBy_38 rfl rfl ?_
      rw [and_n]; exact hQ
    · -- ge at 7: no
      exfalso; have t_0 := nI_toInt (n := 6) (by omega); have l_0 : (6 : Int32).toInt = 6 := rfl; simp only [i_le, i_lt, i_eq, bi_eq] at c_7; omega
set_option maxRecDepth 100000 in
set_option maxHeartbeats 4000000 in
theorem me_X5_clash {X : Nat × (Nat → Int32)} {Q : Option Value → bw_H → Prop} {h : bw_H} {p : Nat} {A : TA} (hc : bw_ta h p A) {i j : Nat} (hi : i < A.1) (hj : j < A.1) (hQ : Q (some (.int (nI ((A.2.1 i &&& A.2.2 j) ||| (A.2.2 i &&& A.2.1 j))))) h) : bw_me X 1 bm_X5_clash false [.ref p, .int (nI i), .int (nI j)] h Q := by
  show bw_go _ 1 5 3 false (some .int) cX5_clash 0 [(0, .ref _), (1, .int _), (2, .int _)] [] _ _
  refine go_aload_n dX5_clash_0 rfl ?_
  refine go_gfr dX5_clash_1 fl_5_20 rfl hc.1.1.1 hc.1.1.2.1 hc.1.1.2.2.1 ?_
  refine go_iload_n dX5_clash_4 rfl ?_
  refine go_cv (as := [.int _]) 0 dX5_clash_5 mt_5_33 (Or.inr rfl) rfl rfl hc.1.2.1.1 hc.1.2.1.2.1 (Nat.le_of_ble_eq_true rfl) (Nat.le_of_ble_eq_true rfl) (Nat.le_of_ble_eq_true rfl) (Nat.le_of_ble_eq_true rfl) (Nat.le_of_ble_eq_true rfl) ?_
  refine me_X0_get hc.1.2.1 ?_
  rw [cg_b (Nat.lt_of_lt_of_le hi hc.2.2.1), (hc.2.2.2 _ hi).1]
  show bw_go _ _ _ _ _ _ _ 8 [(0, .ref _), (1, .int _), (2, .int _)] ((.int _) :: []) _ _
  refine go_aload_n dX5_clash_8 rfl ?_
  refine go_gfr dX5_clash_9 fl_5_24 rfl hc.1.1.1 hc.1.1.2.1 hc.1.1.2.2.2 ?_
  refine go_iload_n dX5_clash_12 rfl ?_
  refine go_cv (as := [.int _]) 0 dX5_clash_13 mt_5_33 (Or.inr rfl) rfl rfl hc.1.2.2.1 hc.1.2.2.2.1 (Nat.le_of_ble_eq_true rfl) (Nat.le_of_ble_eq_true rfl) (Nat.le_of_ble_eq_true rfl) (Nat.le_of_ble_eq_true rfl) (Nat.le_of_ble_eq_true rfl) ?_
  refine me_X0_get hc.1.2.2 ?_
  rw [cg_b (Nat.lt_of_lt_of_le hj hc.2.2.1), (hc.2.2.2 _ hj).2.1]
  show bw_go _ _ _ _ _ _ _ 16 [(0, .ref _), (1, .int _), (2, .int _)] ((.int _) :: (.int _) :: []) _ _
  refine go_iand dX5_clash_16 ?_
  refine go_aload_n dX5_clash_17 rfl ?_
  refine go_gfr dX5_clash_18 fl_5_24 rfl hc.1.1.1 hc.1.1.2.1 hc.1.1.2.2.2 ?_
  refine go_iload_n dX5_clash_21 rfl ?_
  refine go_cv (as := [.int _]) 0 dX5_clash_22 mt_5_33 (Or.inr rfl) rfl rfl hc.1.2.2.1 hc.1.2.2.2.1 (Nat.le_of_ble_eq_true rfl) (Nat.le_of_ble_eq_true rfl) (Nat.le_of_ble_eq_true rfl) (Nat.le_of_ble_eq_true rfl) (Nat.le_of_ble_eq_true rfl) ?_
  refine me_X0_get hc.1.2.2 ?_
  rw [cg_b (Nat.lt_of_lt_of_le hi hc.2.2.1), (hc.2.2.2 _ hi).2.1]
  show bw_go _ _ _ _ _ _ _ 25 [(0, .ref _), (1, .int _), (2, .int _)] ((.int _) :: (.int _) :: []) _ _
  refine go_aload_n dX5_clash_25 rfl ?_
  refine go_gfr dX5_clash_26 fl_5_20 rfl hc.1.1.1 hc.1.1.2.1 hc.1.1.2.2.1 ?_
  refine go_iload_n dX5_clash_29 rfl ?_
  refine go_cv (as := [.int _]) 0 dX5_clash_30 mt_5_33 (Or.inr rfl) rfl rfl hc.1.2.1.1 hc.1.2.1.2.1 (Nat.le_of_ble_eq_true rfl) (Nat.le_of_ble_eq_true rfl) (Nat.le_of_ble_eq_true rfl) (Nat.le_of_ble_eq_true rfl) (Nat.le_of_ble_eq_true rfl) ?_
  refine me_X0_get hc.1.2.1 ?_
  rw [cg_b (Nat.lt_of_lt_of_le hj hc.2.2.1), (hc.2.2.2 _ hj).1]
  show bw_go _ _ _ _ _ _ _ 33 [(0, .ref _), (1, .int _), (2, .int _)] ((.int _) :: (.int _) :: (.int _) :: []) _ _
  refine go_iand dX5_clash_33 ?_
  refine go_ior dX5_clash_34 ?_
  refine go_iret dX5_clash_35 rfl rfl ?_
  rw [and_n, and_n, or_n]; exact hQ
theorem and0 {a b : Nat} (ha : a < 64) : (nI a &&& nI b = 0) ↔ a &&& b = 0 := by rw [and_n, show (0 : Int32) = nI 0 from rfl, nI_eq (Nat.lt_of_lt_of_le (and_lt ha) (by omega)) (by omega)]
set_option maxRecDepth 100000 in
set_option maxHeartbeats 4000000 in
theorem me_X5_hasRivals {X : Nat × (Nat → Int32)} {Q : Option Value → bw_H → Prop} {h : bw_H} {p : Nat} {A : TA} (hc : bw_ta h p A) {set : Nat} (hset : set < 64) (hQ : Q (some (.int (bi (decide (orf (fun i => if set.testBit i = true then A.2.1 i else 0) A.1 &&& orf (fun i => if set.testBit i = true then A.2.2 i else 0) A.1 ≠ 0))))) h) : bw_me X 1 bm_X5_hasRivals false [.ref p, .int (nI set)] h Q := by
  show bw_go _ 1 5 5 false (some .boolean) cX5_hasRivals 0 [(0, .ref _), (1, .int _)] [] _ _
  refine go_iconst (0) dX5_hasRivals_0 rfl ?_
  refine go_istore_n dX5_hasRivals_1 (Nat.lt_of_lt_of_le (Nat.lt_succ_self _) (Nat.le_of_ble_eq_true rfl)) ?_
  show bw_go _ _ _ _ _ _ _ 2 [(2, .int _), (0, .ref _), (1, .int _)] ([]) _ _
  refine go_iconst (0) dX5_hasRivals_2 rfl ?_
  refine go_istore_n dX5_hasRivals_3 (Nat.lt_of_lt_of_le (Nat.lt_succ_self _) (Nat.le_of_ble_eq_true rfl)) ?_
  show bw_go _ _ _ _ _ _ _ 4 [(3, .int _), (2, .int _), (0, .ref _), (1, .int _)] ([]) _ _
  refine go_iconst (0) dX5_hasRivals_4 rfl ?_
  refine go_istore dX5_hasRivals_5 (Nat.lt_of_lt_of_le (Nat.lt_succ_self _) (Nat.le_of_ble_eq_true rfl)) ?_
  show bw_go _ _ _ _ _ _ _ 7 [(4, .int _), (3, .int _), (2, .int _), (0, .ref _), (1, .int _)] ([]) _ _
  refine go_for (P := fun k => bw_go X 1 5 5 false (some .boolean) cX5_hasRivals 7 [(4, .int (nI k)), (3, .int (nI (orf (fun i => if set.testBit i = true then A.2.2 i else 0) k))), (2, .int (nI (orf (fun i => if set.testBit i = true then A.2.1 i else 0) k))), (0, .ref (p)), (1, .int (nI set))] [] h Q) (N := A.1) (fun k hk K => ?_) ?_ (0) (Nat.zero_le _)
  · -- a turn
    have k6 := hc.2.2.1
    show bw_go _ _ _ _ _ _ _ 7 [(4, .int _), (3, .int _), (2, .int _), (0, .ref _), (1, .int _)] ([]) _ _
    refine go_iload dX5_hasRivals_7 rfl ?_
    refine go_aload_n dX5_hasRivals_9 rfl ?_
    refine go_gfi dX5_hasRivals_10 fl_5_9 rfl hc.1.1.1 hc.1.1.2.1 ?_
    rw [hc.2.1]
    refine go_icmp_ge (pc' := 58) dX5_hasRivals_13 rfl (fun c_13 => ?_) (fun c_13 => ?_)
    · -- ge at 13: yes
      exfalso; have t_0 := nI_toInt (n := A.1) (by omega); have t_1 := nI_toInt (n := k) (by omega); simp only [i_le, i_lt, i_eq, bi_eq] at c_13; omega
    · -- ge at 13: no
      show bw_go _ _ _ _ _ _ _ 16 [(4, .int _), (3, .int _), (2, .int _), (0, .ref _), (1, .int _)] ([]) _ _
      refine go_iload_n dX5_hasRivals_16 rfl ?_
      refine go_iload dX5_hasRivals_17 rfl ?_
      refine go_cs (as := [.int _, .int _]) 0 dX5_hasRivals_19 rfl rfl mt_5_55 (Nat.le_of_ble_eq_true rfl) rfl rfl (Nat.le_of_ble_eq_true rfl) (Nat.le_of_ble_eq_true rfl) (Nat.le_of_ble_eq_true rfl) (Nat.le_of_ble_eq_true rfl) ?_
      refine me_X7_isIn hset (by omega) ?_
      show bw_go _ _ _ _ _ _ _ 22 [(4, .int _), (3, .int _), (2, .int _), (0, .ref _), (1, .int _)] ((.int _) :: []) _ _
      refine go_ifb_ne (pc' := 28) dX5_hasRivals_22 rfl (fun c_22 => ?_) (fun c_22 => ?_)
      · -- ne at 22: yes
        show bw_go _ _ _ _ _ _ _ 28 [(4, .int _), (3, .int _), (2, .int _), (0, .ref _), (1, .int _)] ([]) _ _
        refine go_iload_n dX5_hasRivals_28 rfl ?_
        refine go_aload_n dX5_hasRivals_29 rfl ?_
        refine go_gfr dX5_hasRivals_30 fl_5_20 rfl hc.1.1.1 hc.1.1.2.1 hc.1.1.2.2.1 ?_
        refine go_iload dX5_hasRivals_33 rfl ?_
        refine go_cv (as := [.int _]) 0 dX5_hasRivals_35 mt_5_33 (Or.inr rfl) rfl rfl hc.1.2.1.1 hc.1.2.1.2.1 (Nat.le_of_ble_eq_true rfl) (Nat.le_of_ble_eq_true rfl) (Nat.le_of_ble_eq_true rfl) (Nat.le_of_ble_eq_true rfl) (Nat.le_of_ble_eq_true rfl) ?_
        refine me_X0_get hc.1.2.1 ?_
        rw [cg_b (Nat.lt_of_lt_of_le hk hc.2.2.1), (hc.2.2.2 _ hk).1]
        show bw_go _ _ _ _ _ _ _ 38 [(4, .int _), (3, .int _), (2, .int _), (0, .ref _), (1, .int _)] ((.int _) :: (.int _) :: []) _ _
        refine go_ior dX5_hasRivals_38 ?_
        refine go_istore_n dX5_hasRivals_39 (Nat.lt_of_lt_of_le (Nat.lt_succ_self _) (Nat.le_of_ble_eq_true rfl)) ?_
        show bw_go _ _ _ _ _ _ _ 40 [(2, .int _), (4, .int _), (3, .int _), (0, .ref _), (1, .int _)] ([]) _ _
        refine go_iload_n dX5_hasRivals_40 rfl ?_
        refine go_aload_n dX5_hasRivals_41 rfl ?_
        refine go_gfr dX5_hasRivals_42 fl_5_24 rfl hc.1.1.1 hc.1.1.2.1 hc.1.1.2.2.2 ?_
        refine go_iload dX5_hasRivals_45 rfl ?_
        refine go_cv (as := [.int _]) 0 dX5_hasRivals_47 mt_5_33 (Or.inr rfl) rfl rfl hc.1.2.2.1 hc.1.2.2.2.1 (Nat.le_of_ble_eq_true rfl) (Nat.le_of_ble_eq_true rfl) (Nat.le_of_ble_eq_true rfl) (Nat.le_of_ble_eq_true rfl) (Nat.le_of_ble_eq_true rfl) ?_
        refine me_X0_get hc.1.2.2 ?_
        rw [cg_b (Nat.lt_of_lt_of_le hk hc.2.2.1), (hc.2.2.2 _ hk).2.1]
        show bw_go _ _ _ _ _ _ _ 50 [(2, .int _), (4, .int _), (3, .int _), (0, .ref _), (1, .int _)] ((.int _) :: (.int _) :: []) _ _
        refine go_ior dX5_hasRivals_50 ?_
        refine go_istore_n dX5_hasRivals_51 (Nat.lt_of_lt_of_le (Nat.lt_succ_self _) (Nat.le_of_ble_eq_true rfl)) ?_
        show bw_go _ _ _ _ _ _ _ 52 [(3, .int _), (2, .int _), (4, .int _), (0, .ref _), (1, .int _)] ([]) _ _
        refine go_iinc dX5_hasRivals_52 rfl (nI_1 k) (Nat.lt_of_lt_of_le (Nat.lt_succ_self _) (Nat.le_of_ble_eq_true rfl)) ?_
        show bw_go _ _ _ _ _ _ _ 55 [(4, .int _), (3, .int _), (2, .int _), (0, .ref _), (1, .int _)] ([]) _ _
        refine go_goto (pc' := 7) dX5_hasRivals_55 rfl ?_
        have e1 : orf (fun i => if set.testBit i = true then A.2.1 i else 0) (k + 1) = orf (fun i => if set.testBit i = true then A.2.1 i else 0) k ||| (if set.testBit k = true then A.2.1 k else 0) := rfl
        have e2 : orf (fun i => if set.testBit i = true then A.2.2 i else 0) (k + 1) = orf (fun i => if set.testBit i = true then A.2.2 i else 0) k ||| (if set.testBit k = true then A.2.2 k else 0) := rfl
        first | (rw [if_pos c_22] at e1 e2; rw [or_n, or_n, ← e1, ← e2]; exact K) | (rw [if_neg (by rw [c_22]; decide), Nat.or_zero] at e1 e2; rw [← e1, ← e2]; exact K)
      · -- ne at 22: no
        show bw_go _ _ _ _ _ _ _ 25 [(4, .int _), (3, .int _), (2, .int _), (0, .ref _), (1, .int _)] ([]) _ _
        refine go_goto (pc' := 52) dX5_hasRivals_25 rfl ?_
        show bw_go _ _ _ _ _ _ _ 52 [(4, .int _), (3, .int _), (2, .int _), (0, .ref _), (1, .int _)] ([]) _ _
        refine go_iinc dX5_hasRivals_52 rfl (nI_1 k) (Nat.lt_of_lt_of_le (Nat.lt_succ_self _) (Nat.le_of_ble_eq_true rfl)) ?_
        show bw_go _ _ _ _ _ _ _ 55 [(4, .int _), (3, .int _), (2, .int _), (0, .ref _), (1, .int _)] ([]) _ _
        refine go_goto (pc' := 7) dX5_hasRivals_55 rfl ?_
        have e1 : orf (fun i => if set.testBit i = true then A.2.1 i else 0) (k + 1) = orf (fun i => if set.testBit i = true then A.2.1 i else 0) k ||| (if set.testBit k = true then A.2.1 k else 0) := rfl
        have e2 : orf (fun i => if set.testBit i = true then A.2.2 i else 0) (k + 1) = orf (fun i => if set.testBit i = true then A.2.2 i else 0) k ||| (if set.testBit k = true then A.2.2 k else 0) := rfl
        first | (rw [if_pos c_22] at e1 e2; rw [or_n, or_n, ← e1, ← e2]; exact K) | (rw [if_neg (by rw [c_22]; decide), Nat.or_zero] at e1 e2; rw [← e1, ← e2]; exact K)
  · -- behind the last
    show bw_go _ _ _ _ _ _ _ 7 [(4, .int _), (3, .int _), (2, .int _), (0, .ref _), (1, .int _)] ([]) _ _
    refine go_iload dX5_hasRivals_7 rfl ?_
    refine go_aload_n dX5_hasRivals_9 rfl ?_
    refine go_gfi dX5_hasRivals_10 fl_5_9 rfl hc.1.1.1 hc.1.1.2.1 ?_
    rw [hc.2.1]
    refine go_icmp_ge (pc' := 58) dX5_hasRivals_13 rfl (fun c_13 => ?_) (fun c_13 => ?_)
    · -- ge at 13: yes
      show bw_go _ _ _ _ _ _ _ 58 [(4, .int _), (3, .int _), (2, .int _), (0, .ref _), (1, .int _)] ([]) _ _
      refine go_iload_n dX5_hasRivals_58 rfl ?_
      refine go_iload_n dX5_hasRivals_59 rfl ?_
      refine go_iand dX5_hasRivals_60 ?_
      refine go_if_eq (pc' := 68) dX5_hasRivals_61 rfl (fun c_61 => ?_) (fun c_61 => ?_)
      · -- eq at 61: yes
        show bw_go _ _ _ _ _ _ _ 68 [(4, .int _), (3, .int _), (2, .int _), (0, .ref _), (1, .int _)] ([]) _ _
        refine go_iconst (0) dX5_hasRivals_68 rfl ?_
        refine go_iret dX5_hasRivals_69 rfl rfl ?_
        have e3 := and0 (b := orf (fun i => if set.testBit i = true then A.2.2 i else 0) A.1) (orf_lt' (f := (fun i => if set.testBit i = true then A.2.1 i else 0)) A.1 (fun i hi => by split <;> first | exact (hc.2.2.2 i hi).2.2.1 | omega))
        refine bi_0 ?_ hQ
        exact decide_eq_false (fun z => z (e3.mp c_61))
      · -- eq at 61: no
        show bw_go _ _ _ _ _ _ _ 64 [(4, .int _), (3, .int _), (2, .int _), (0, .ref _), (1, .int _)] ([]) _ _
        refine go_iconst (1) dX5_hasRivals_64 rfl ?_
        refine go_goto (pc' := 69) dX5_hasRivals_65 rfl ?_
        show bw_go _ _ _ _ _ _ _ 69 [(4, .int _), (3, .int _), (2, .int _), (0, .ref _), (1, .int _)] ((.int _) :: []) _ _
        refine go_iret dX5_hasRivals_69 rfl rfl ?_
        have e3 := and0 (b := orf (fun i => if set.testBit i = true then A.2.2 i else 0) A.1) (orf_lt' (f := (fun i => if set.testBit i = true then A.2.1 i else 0)) A.1 (fun i hi => by split <;> first | exact (hc.2.2.2 i hi).2.2.1 | omega))
        refine bi_1 ?_ hQ
        exact decide_eq_true (fun z => c_61 (e3.mpr z))
    · -- ge at 13: no
      exfalso; have k6 := hc.2.2.1; have t_0 := nI_toInt (n := A.1) (by omega); simp only [i_le, i_lt, i_eq, bi_eq] at c_13; omega
