/-! the reference: what a bear sees and tells -/
def byE (e t : Nat) : Bool := decide (e = 2 ∨ (e = 1 ∧ t % 2 = 0))
def sAs (k e w v t : Nat) : Bool := if 9 ≤ w then false else if k = 1 ∨ k = 4 then v.testBit t else if k = 2 then byE e t && (v.testBit t || (decide (0 < t) && v.testBit (t - 1))) else if k = 5 then decide (w < 3) && (v.testBit t && byE e t) else v.testBit t && byE e t
theorem sAs_t : ∀ k, k < 6 → ∀ e, e < 3 → ∀ w, w < 10 → ∀ t, t < 6 → ∀ v, v < 64 → sAs k e w v t = (see k w v e).testBit t := by decide +kernel
def sya (k e w v t dn : Nat) : Int32 := if (see k w v e).testBit t = true then (if k = 4 then 1 else if (k = 3 ∨ k = 5) ∧ 5 ≤ w then (if dn.testBit t = true then 0 else 1) else (if dn.testBit t = true then 1 else 0)) else -9
theorem t63 : ∀ t, t < 6 → (63 : Nat).testBit t = true := by decide
theorem ans_sya {wl i k w v e t dn : Nat} (ht : t < 6) : ans wl i k w v e t dn = if wl.testBit i = true then -9 else sya k e w v t dn := by
  unfold ans tol sya one
  by_cases z : wl.testBit i = true
  · rw [if_pos z, if_pos z, if_neg (by rw [Nat.zero_testBit]; decide)]
  · rw [if_neg z, if_neg z]
    by_cases y : (see k w v e).testBit t = true
    · rw [if_pos y, if_pos y]
      by_cases k4 : k = 4
      · rw [if_pos k4, if_pos k4, if_pos y]
      · rw [if_neg k4, if_neg k4]
        by_cases km : (k = 3 ∨ k = 5) ∧ 5 ≤ w
        · rw [if_pos km, if_pos km, Nat.testBit_and, Nat.testBit_xor, t63 t ht, y]
          cases dn.testBit t <;> rfl
        · rw [if_neg km, if_neg km, Nat.testBit_and, y]
          cases dn.testBit t <;> rfl
    · rw [if_neg y, if_neg y]
theorem isb_t : ∀ s, s < 64 → ∀ t, t < 8 → ((nI s >>> (nI t &&& 31)) &&& 1) = nI (if s.testBit t = true then 1 else 0) := by decide +kernel
theorem bt_1 : ∀ s, s < 64 → ∀ k, k < 7 → nI (s >>> k) ≤ 0 → cnt (fun i => s.testBit i) k = bc s := by decide +kernel
theorem bt_2 : ∀ s, s < 64 → ∀ k, k < 6 → nI (cnt (fun i => s.testBit i) k) + (nI (s >>> k) &&& 1) = nI (cnt (fun i => s.testBit i) (k + 1)) := by decide +kernel
theorem bt_3 : ∀ s, s < 64 → ∀ k, k < 6 → (nI (s >>> k) >>> ((1 : Int32) &&& 31)) = nI (s >>> (k + 1)) := by decide +kernel
theorem bt_4 : ∀ s, s < 64 → nI (s >>> 6) ≤ 0 := by decide +kernel
set_option maxRecDepth 100000 in
set_option maxHeartbeats 4000000 in
theorem me_X8_has {X : Nat × (Nat → Int32)} {Q : Option Value → bw_H → Prop} {h : bw_H} {s k : Nat} (hs : s < 64) (hk : k < 8) (hQ : Q (some (.int (bi (s.testBit k)))) h) : bw_me X 0 bm_X8_has false [.int (nI s), .int (nI k)] h Q := by
  show bw_go _ 0 8 2 false (some .boolean) cX8_has 0 [(0, .int _), (1, .int _)] [] _ _
  refine go_iload_n dX8_has_0 rfl ?_
  refine go_iload_n dX8_has_1 rfl ?_
  refine go_ishr dX8_has_2 ?_
  refine go_iconst (1) dX8_has_3 rfl ?_
  refine go_iand dX8_has_4 ?_
  refine go_iconst (1) dX8_has_5 rfl ?_
  skip
  refine go_icmp_ne (pc' := 13) dX8_has_6 rfl (fun c_6 => ?_) (fun c_6 => ?_)
  · -- ne at 6: yes
    show bw_go _ _ _ _ _ _ _ 13 [(0, .int _), (1, .int _)] ([]) _ _
    refine go_iconst (0) dX8_has_13 rfl ?_
    refine go_iret dX8_has_14 rfl rfl ?_
    exact bi_0 (by have z := in_t s hs k hk; first | (rw [if_neg c_6] at z; exact z.symm) | (rw [if_pos (Decidable.of_not_not c_6)] at z; exact z.symm)) hQ
  · -- ne at 6: no
    show bw_go _ _ _ _ _ _ _ 9 [(0, .int _), (1, .int _)] ([]) _ _
    refine go_iconst (1) dX8_has_9 rfl ?_
    refine go_goto (pc' := 14) dX8_has_10 rfl ?_
    show bw_go _ _ _ _ _ _ _ 14 [(0, .int _), (1, .int _)] ((.int _) :: []) _ _
    refine go_iret dX8_has_14 rfl rfl ?_
    exact bi_1 (by have z := in_t s hs k hk; first | (rw [if_neg c_6] at z; exact z.symm) | (rw [if_pos (Decidable.of_not_not c_6)] at z; exact z.symm)) hQ
set_option maxRecDepth 100000 in
set_option maxHeartbeats 4000000 in
theorem me_X8_bits {X : Nat × (Nat → Int32)} {Q : Option Value → bw_H → Prop} {h : bw_H} {s : Nat} (hs : s < 64) (hQ : Q (some (.int (nI (bc s)))) h) : bw_me X 0 bm_X8_bits false [.int (nI s)] h Q := by
  show bw_go _ 0 8 3 false (some .int) cX8_bits 0 [(0, .int _)] [] _ _
  refine go_iconst (0) dX8_bits_0 rfl ?_
  refine go_istore_n dX8_bits_1 (Nat.lt_of_lt_of_le (Nat.lt_succ_self _) (Nat.le_of_ble_eq_true rfl)) ?_
  show bw_go _ _ _ _ _ _ _ 2 [(1, .int _), (0, .int _)] ([]) _ _
  refine go_iload_n dX8_bits_2 rfl ?_
  refine go_istore_n dX8_bits_3 (Nat.lt_of_lt_of_le (Nat.lt_succ_self _) (Nat.le_of_ble_eq_true rfl)) ?_
  show bw_go _ _ _ _ _ _ _ 4 [(2, .int _), (1, .int _), (0, .int _)] ([]) _ _
  refine go_for (P := fun k => bw_go X 0 8 3 false (some .int) cX8_bits 4 [(2, .int (nI (s >>> k))), (1, .int (nI (cnt (fun i => s.testBit i) k))), (0, .int (nI s))] [] h Q) (N := 6) (fun k hk K => ?_) ?_ (0) (Nat.zero_le _)
  · -- a turn
    show bw_go _ _ _ _ _ _ _ 4 [(2, .int _), (1, .int _), (0, .int _)] ([]) _ _
    refine go_iload_n dX8_bits_4 rfl ?_
    refine go_if_le (pc' := 21) dX8_bits_5 rfl (fun c_5 => ?_) (fun c_5 => ?_)
    · -- le at 5: yes
      show bw_go _ _ _ _ _ _ _ 21 [(2, .int _), (1, .int _), (0, .int _)] ([]) _ _
      refine go_iload_n dX8_bits_21 rfl ?_
      refine go_iret dX8_bits_22 rfl rfl ?_
      exact qi hQ (congrArg nI (bt_1 s hs k (by omega) c_5))
    · -- le at 5: no
      show bw_go _ _ _ _ _ _ _ 8 [(2, .int _), (1, .int _), (0, .int _)] ([]) _ _
      refine go_iload_n dX8_bits_8 rfl ?_
      refine go_iload_n dX8_bits_9 rfl ?_
      refine go_iconst (1) dX8_bits_10 rfl ?_
      refine go_iand dX8_bits_11 ?_
      refine go_iadd dX8_bits_12 ?_
      rw [bt_2 s hs k hk]
      refine go_istore_n dX8_bits_13 (Nat.lt_of_lt_of_le (Nat.lt_succ_self _) (Nat.le_of_ble_eq_true rfl)) ?_
      show bw_go _ _ _ _ _ _ _ 14 [(1, .int _), (2, .int _), (0, .int _)] ([]) _ _
      refine go_iload_n dX8_bits_14 rfl ?_
      refine go_iconst (1) dX8_bits_15 rfl ?_
      refine go_ishr dX8_bits_16 ?_
      rw [bt_3 s hs k hk]
      refine go_istore_n dX8_bits_17 (Nat.lt_of_lt_of_le (Nat.lt_succ_self _) (Nat.le_of_ble_eq_true rfl)) ?_
      show bw_go _ _ _ _ _ _ _ 18 [(2, .int _), (1, .int _), (0, .int _)] ([]) _ _
      refine go_goto (pc' := 4) dX8_bits_18 rfl ?_
      exact K
  · -- behind the last
    show bw_go _ _ _ _ _ _ _ 4 [(2, .int _), (1, .int _), (0, .int _)] ([]) _ _
    refine go_iload_n dX8_bits_4 rfl ?_
    refine go_if_le (pc' := 21) dX8_bits_5 rfl (fun c_5 => ?_) (fun c_5 => ?_)
    · -- le at 5: yes
      show bw_go _ _ _ _ _ _ _ 21 [(2, .int _), (1, .int _), (0, .int _)] ([]) _ _
      refine go_iload_n dX8_bits_21 rfl ?_
      refine go_iret dX8_bits_22 rfl rfl ?_
      exact qi hQ (congrArg nI (bt_1 s hs 6 (by omega) c_5))
    · -- le at 5: no
      exact absurd (bt_4 s hs) c_5
set_option maxRecDepth 100000 in
set_option maxHeartbeats 4000000 in
theorem me_X8_seesAs {X : Nat × (Nat → Int32)} {Q : Option Value → bw_H → Prop} {h : bw_H} {k e w v t : Nat} (hk : k < 6) (he : e ≤ 2) (hw : w ≤ 9) (hv : v < 64) (ht : t < 6) (hQ : Q (some (.int (bi ((see k w v e).testBit t)))) h) : bw_me X 1 bm_X8_seesAs false [.int (nI k), .int (nI e), .int (nI w), .int (nI v), .int (nI t)] h Q := by
  show bw_go _ 1 8 7 false (some .boolean) cX8_seesAs 0 [(0, .int _), (1, .int _), (2, .int _), (3, .int _), (4, .int _)] [] _ _
  refine go_iload_n dX8_seesAs_0 rfl ?_
  refine go_iload dX8_seesAs_1 rfl ?_
  refine go_cs (as := [.int _, .int _]) 0 dX8_seesAs_3 rfl rfl mt_8_129 (Nat.le_of_ble_eq_true rfl) rfl rfl (Nat.le_of_ble_eq_true rfl) (Nat.le_of_ble_eq_true rfl) (Nat.le_of_ble_eq_true rfl) (Nat.le_of_ble_eq_true rfl) ?_
  refine me_X8_has hv (by omega) ?_
  show bw_go _ _ _ _ _ _ _ 6 [(0, .int _), (1, .int _), (2, .int _), (3, .int _), (4, .int _)] ((.int _) :: []) _ _
  refine go_istore dX8_seesAs_6 (Nat.lt_of_lt_of_le (Nat.lt_succ_self _) (Nat.le_of_ble_eq_true rfl)) ?_
  show bw_go _ _ _ _ _ _ _ 8 [(5, .int _), (0, .int _), (1, .int _), (2, .int _), (3, .int _), (4, .int _)] ([]) _ _
  have K : bw_go X 1 8 7 false (some .boolean) cX8_seesAs 32 [(6, .int (bi (byE e t))), (5, .int (bi (v.testBit t))), (0, .int (nI k)), (1, .int (nI e)), (2, .int (nI w)), (3, .int (nI v)), (4, .int (nI t))] [] h Q := by
      show bw_go _ _ _ _ _ _ _ 32 [(6, .int _), (5, .int _), (0, .int _), (1, .int _), (2, .int _), (3, .int _), (4, .int _)] ([]) _ _
      refine go_iload_n dX8_seesAs_32 rfl ?_
      refine go_bipush (9) dX8_seesAs_33 rfl ?_
      refine go_icmp_lt (pc' := 40) dX8_seesAs_35 rfl (fun c_35 => ?_) (fun c_35 => ?_)
      · -- lt at 35: yes
        show bw_go _ _ _ _ _ _ _ 40 [(6, .int _), (5, .int _), (0, .int _), (1, .int _), (2, .int _), (3, .int _), (4, .int _)] ([]) _ _
        have hw9 : ¬ 9 ≤ w := by have t_0 := nI_toInt (n := w) (by omega); have l_9 : (9 : Int32).toInt = 9 := rfl; simp only [i_lt] at c_35; omega
        refine go_iload_n dX8_seesAs_40 rfl ?_
        rcases (show k = 0 ∨ k = 1 ∨ k = 2 ∨ k = 3 ∨ k = 4 ∨ k = 5 by omega) with rfl | rfl | rfl | rfl | rfl | rfl
        · -- k = 0
          refine go_tsOut (pc' := 132) dX8_seesAs_41 (by decide) rfl ?_
          show bw_go _ _ _ _ _ _ _ 132 [(6, .int _), (5, .int _), (0, .int _), (1, .int _), (2, .int _), (3, .int _), (4, .int _)] ([]) _ _
          refine go_iload dX8_seesAs_132 rfl ?_
          refine go_ifb_eq (pc' := 146) dX8_seesAs_134 rfl (fun c_134 => ?_) (fun c_134 => ?_)
          · -- eq at 134: yes
            show bw_go _ _ _ _ _ _ _ 146 [(6, .int _), (5, .int _), (0, .int _), (1, .int _), (2, .int _), (3, .int _), (4, .int _)] ([]) _ _
            refine go_iconst (0) dX8_seesAs_146 rfl ?_
            refine go_iret dX8_seesAs_147 rfl rfl ?_
            refine bi_0 ?_ hQ
            rw [← sAs_t _ (by omega) e (by omega) w (by omega) t ht v hv]
            unfold sAs
            have t_0 := nI_toInt (n := w) (by omega)
            have t_1 := nI_toInt (n := t) (by omega)
            have l_9 : (9 : Int32).toInt = 9 := rfl
            have l_3 : (3 : Int32).toInt = 3 := rfl
            have l_0 := i_0
            try simp only [i_le, i_lt] at c_35
            try simp only [i_le, i_lt] at c_91
            try simp only [i_le, i_lt] at c_113
            first
            | (rw [if_pos (by omega)]; done)
            | (rw [if_neg hw9]; simp [*]; done)
            | (rw [if_neg hw9]; have hw3 : decide (w < 3) = false := (decide_eq_false (by omega)); simp [hw3]; done)
            | (rw [if_neg hw9]; have hw3 : decide (w < 3) = true := (decide_eq_true (by omega)); simp [hw3, *]; done)
            | (rw [if_neg hw9]; have hw3 : decide (w < 3) = true := (decide_eq_true (by omega)); simp [*]; omega)
            | (rw [if_neg hw9]; have ht0 : decide (0 < t) = false := (decide_eq_false (by omega)); simp [ht0, *]; done)
            | (rw [if_neg hw9]; have ht0 : decide (0 < t) = true := (decide_eq_true (by omega)); simp [ht0, *]; done)
            | (rw [if_neg hw9]; have ht0 : decide (0 < t) = true := (decide_eq_true (by omega)); simp [*]; omega)
          · -- eq at 134: no
            show bw_go _ _ _ _ _ _ _ 137 [(6, .int _), (5, .int _), (0, .int _), (1, .int _), (2, .int _), (3, .int _), (4, .int _)] ([]) _ _
            refine go_iload dX8_seesAs_137 rfl ?_
            refine go_ifb_eq (pc' := 146) dX8_seesAs_139 rfl (fun c_139 => ?_) (fun c_139 => ?_)
            · -- eq at 139: yes
              show bw_go _ _ _ _ _ _ _ 146 [(6, .int _), (5, .int _), (0, .int _), (1, .int _), (2, .int _), (3, .int _), (4, .int _)] ([]) _ _
              refine go_iconst (0) dX8_seesAs_146 rfl ?_
              refine go_iret dX8_seesAs_147 rfl rfl ?_
              refine bi_0 ?_ hQ
              rw [← sAs_t _ (by omega) e (by omega) w (by omega) t ht v hv]
              unfold sAs
              have t_0 := nI_toInt (n := w) (by omega)
              have t_1 := nI_toInt (n := t) (by omega)
              have l_9 : (9 : Int32).toInt = 9 := rfl
              have l_3 : (3 : Int32).toInt = 3 := rfl
              have l_0 := i_0
              try simp only [i_le, i_lt] at c_35
              try simp only [i_le, i_lt] at c_91
              try simp only [i_le, i_lt] at c_113
              first
              | (rw [if_pos (by omega)]; done)
              | (rw [if_neg hw9]; simp [*]; done)
              | (rw [if_neg hw9]; have hw3 : decide (w < 3) = false := (decide_eq_false (by omega)); simp [hw3]; done)
              | (rw [if_neg hw9]; have hw3 : decide (w < 3) = true := (decide_eq_true (by omega)); simp [hw3, *]; done)
              | (rw [if_neg hw9]; have hw3 : decide (w < 3) = true := (decide_eq_true (by omega)); simp [*]; omega)
              | (rw [if_neg hw9]; have ht0 : decide (0 < t) = false := (decide_eq_false (by omega)); simp [ht0, *]; done)
              | (rw [if_neg hw9]; have ht0 : decide (0 < t) = true := (decide_eq_true (by omega)); simp [ht0, *]; done)
              | (rw [if_neg hw9]; have ht0 : decide (0 < t) = true := (decide_eq_true (by omega)); simp [*]; omega)
            · -- eq at 139: no
              show bw_go _ _ _ _ _ _ _ 142 [(6, .int _), (5, .int _), (0, .int _), (1, .int _), (2, .int _), (3, .int _), (4, .int _)] ([]) _ _
              refine go_iconst (1) dX8_seesAs_142 rfl ?_
              refine go_goto (pc' := 147) dX8_seesAs_143 rfl ?_
              show bw_go _ _ _ _ _ _ _ 147 [(6, .int _), (5, .int _), (0, .int _), (1, .int _), (2, .int _), (3, .int _), (4, .int _)] ((.int _) :: []) _ _
              refine go_iret dX8_seesAs_147 rfl rfl ?_
              refine bi_1 ?_ hQ
              rw [← sAs_t _ (by omega) e (by omega) w (by omega) t ht v hv]
              unfold sAs
              have t_0 := nI_toInt (n := w) (by omega)
              have t_1 := nI_toInt (n := t) (by omega)
              have l_9 : (9 : Int32).toInt = 9 := rfl
              have l_3 : (3 : Int32).toInt = 3 := rfl
              have l_0 := i_0
              try simp only [i_le, i_lt] at c_35
              try simp only [i_le, i_lt] at c_91
              try simp only [i_le, i_lt] at c_113
              first
              | (rw [if_pos (by omega)]; done)
              | (rw [if_neg hw9]; simp [*]; done)
              | (rw [if_neg hw9]; have hw3 : decide (w < 3) = false := (decide_eq_false (by omega)); simp [hw3]; done)
              | (rw [if_neg hw9]; have hw3 : decide (w < 3) = true := (decide_eq_true (by omega)); simp [hw3, *]; done)
              | (rw [if_neg hw9]; have hw3 : decide (w < 3) = true := (decide_eq_true (by omega)); simp [*]; omega)
              | (rw [if_neg hw9]; have ht0 : decide (0 < t) = false := (decide_eq_false (by omega)); simp [ht0, *]; done)
              | (rw [if_neg hw9]; have ht0 : decide (0 < t) = true := (decide_eq_true (by omega)); simp [ht0, *]; done)
              | (rw [if_neg hw9]; have ht0 : decide (0 < t) = true := (decide_eq_true (by omega)); simp [*]; omega)
        · -- k = 1
          refine go_tsIn (pc' := 76) dX8_seesAs_41 (by decide) (by decide) rfl rfl ?_
          show bw_go _ _ _ _ _ _ _ 76 [(6, .int _), (5, .int _), (0, .int _), (1, .int _), (2, .int _), (3, .int _), (4, .int _)] ([]) _ _
          refine go_iload dX8_seesAs_76 rfl ?_
          refine go_iret dX8_seesAs_78 rfl (bi_nar _) ?_
          rw [← sAs_t _ (by omega) e (by omega) w (by omega) t ht v hv] at hQ
          unfold sAs at hQ
          rw [if_neg hw9] at hQ
          exact hQ
        · -- k = 2
          refine go_tsIn (pc' := 79) dX8_seesAs_41 (by decide) (by decide) rfl rfl ?_
          show bw_go _ _ _ _ _ _ _ 79 [(6, .int _), (5, .int _), (0, .int _), (1, .int _), (2, .int _), (3, .int _), (4, .int _)] ([]) _ _
          refine go_iload dX8_seesAs_79 rfl ?_
          refine go_ifb_eq (pc' := 109) dX8_seesAs_81 rfl (fun c_81 => ?_) (fun c_81 => ?_)
          · -- eq at 81: yes
            show bw_go _ _ _ _ _ _ _ 109 [(6, .int _), (5, .int _), (0, .int _), (1, .int _), (2, .int _), (3, .int _), (4, .int _)] ([]) _ _
            refine go_iconst (0) dX8_seesAs_109 rfl ?_
            refine go_iret dX8_seesAs_110 rfl rfl ?_
            refine bi_0 ?_ hQ
            rw [← sAs_t _ (by omega) e (by omega) w (by omega) t ht v hv]
            unfold sAs
            have t_0 := nI_toInt (n := w) (by omega)
            have t_1 := nI_toInt (n := t) (by omega)
            have l_9 : (9 : Int32).toInt = 9 := rfl
            have l_3 : (3 : Int32).toInt = 3 := rfl
            have l_0 := i_0
            try simp only [i_le, i_lt] at c_35
            try simp only [i_le, i_lt] at c_91
            try simp only [i_le, i_lt] at c_113
            first
            | (rw [if_pos (by omega)]; done)
            | (rw [if_neg hw9]; simp [*]; done)
            | (rw [if_neg hw9]; have hw3 : decide (w < 3) = false := (decide_eq_false (by omega)); simp [hw3]; done)
            | (rw [if_neg hw9]; have hw3 : decide (w < 3) = true := (decide_eq_true (by omega)); simp [hw3, *]; done)
            | (rw [if_neg hw9]; have hw3 : decide (w < 3) = true := (decide_eq_true (by omega)); simp [*]; omega)
            | (rw [if_neg hw9]; have ht0 : decide (0 < t) = false := (decide_eq_false (by omega)); simp [ht0, *]; done)
            | (rw [if_neg hw9]; have ht0 : decide (0 < t) = true := (decide_eq_true (by omega)); simp [ht0, *]; done)
            | (rw [if_neg hw9]; have ht0 : decide (0 < t) = true := (decide_eq_true (by omega)); simp [*]; omega)
          · -- eq at 81: no
            show bw_go _ _ _ _ _ _ _ 84 [(6, .int _), (5, .int _), (0, .int _), (1, .int _), (2, .int _), (3, .int _), (4, .int _)] ([]) _ _
            refine go_iload dX8_seesAs_84 rfl ?_
            refine go_ifb_ne (pc' := 105) dX8_seesAs_86 rfl (fun c_86 => ?_) (fun c_86 => ?_)
            · -- ne at 86: yes
              show bw_go _ _ _ _ _ _ _ 105 [(6, .int _), (5, .int _), (0, .int _), (1, .int _), (2, .int _), (3, .int _), (4, .int _)] ([]) _ _
              refine go_iconst (1) dX8_seesAs_105 rfl ?_
              refine go_goto (pc' := 110) dX8_seesAs_106 rfl ?_
              show bw_go _ _ _ _ _ _ _ 110 [(6, .int _), (5, .int _), (0, .int _), (1, .int _), (2, .int _), (3, .int _), (4, .int _)] ((.int _) :: []) _ _
              refine go_iret dX8_seesAs_110 rfl rfl ?_
              refine bi_1 ?_ hQ
              rw [← sAs_t _ (by omega) e (by omega) w (by omega) t ht v hv]
              unfold sAs
              have t_0 := nI_toInt (n := w) (by omega)
              have t_1 := nI_toInt (n := t) (by omega)
              have l_9 : (9 : Int32).toInt = 9 := rfl
              have l_3 : (3 : Int32).toInt = 3 := rfl
              have l_0 := i_0
              try simp only [i_le, i_lt] at c_35
              try simp only [i_le, i_lt] at c_91
              try simp only [i_le, i_lt] at c_113
              first
              | (rw [if_pos (by omega)]; done)
              | (rw [if_neg hw9]; simp [*]; done)
              | (rw [if_neg hw9]; have hw3 : decide (w < 3) = false := (decide_eq_false (by omega)); simp [hw3]; done)
              | (rw [if_neg hw9]; have hw3 : decide (w < 3) = true := (decide_eq_true (by omega)); simp [hw3, *]; done)
              | (rw [if_neg hw9]; have hw3 : decide (w < 3) = true := (decide_eq_true (by omega)); simp [*]; omega)
              | (rw [if_neg hw9]; have ht0 : decide (0 < t) = false := (decide_eq_false (by omega)); simp [ht0, *]; done)
              | (rw [if_neg hw9]; have ht0 : decide (0 < t) = true := (decide_eq_true (by omega)); simp [ht0, *]; done)
              | (rw [if_neg hw9]; have ht0 : decide (0 < t) = true := (decide_eq_true (by omega)); simp [*]; omega)
            · -- ne at 86: no
              show bw_go _ _ _ _ _ _ _ 89 [(6, .int _), (5, .int _), (0, .int _), (1, .int _), (2, .int _), (3, .int _), (4, .int _)] ([]) _ _
              refine go_iload dX8_seesAs_89 rfl ?_
              refine go_if_le (pc' := 109) dX8_seesAs_91 rfl (fun c_91 => ?_) (fun c_91 => ?_)
              · -- le at 91: yes
                show bw_go _ _ _ _ _ _ _ 109 [(6, .int _), (5, .int _), (0, .int _), (1, .int _), (2, .int _), (3, .int _), (4, .int _)] ([]) _ _
                refine go_iconst (0) dX8_seesAs_109 rfl ?_
                refine go_iret dX8_seesAs_110 rfl rfl ?_
                refine bi_0 ?_ hQ
                rw [← sAs_t _ (by omega) e (by omega) w (by omega) t ht v hv]
                unfold sAs
                have t_0 := nI_toInt (n := w) (by omega)
                have t_1 := nI_toInt (n := t) (by omega)
                have l_9 : (9 : Int32).toInt = 9 := rfl
                have l_3 : (3 : Int32).toInt = 3 := rfl
                have l_0 := i_0
                try simp only [i_le, i_lt] at c_35
                try simp only [i_le, i_lt] at c_91
                try simp only [i_le, i_lt] at c_113
                first
                | (rw [if_pos (by omega)]; done)
                | (rw [if_neg hw9]; simp [*]; done)
                | (rw [if_neg hw9]; have hw3 : decide (w < 3) = false := (decide_eq_false (by omega)); simp [hw3]; done)
                | (rw [if_neg hw9]; have hw3 : decide (w < 3) = true := (decide_eq_true (by omega)); simp [hw3, *]; done)
                | (rw [if_neg hw9]; have hw3 : decide (w < 3) = true := (decide_eq_true (by omega)); simp [*]; omega)
                | (rw [if_neg hw9]; have ht0 : decide (0 < t) = false := (decide_eq_false (by omega)); simp [ht0, *]; done)
                | (rw [if_neg hw9]; have ht0 : decide (0 < t) = true := (decide_eq_true (by omega)); simp [ht0, *]; done)
                | (rw [if_neg hw9]; have ht0 : decide (0 < t) = true := (decide_eq_true (by omega)); simp [*]; omega)
              · -- le at 91: no
                show bw_go _ _ _ _ _ _ _ 94 [(6, .int _), (5, .int _), (0, .int _), (1, .int _), (2, .int _), (3, .int _), (4, .int _)] ([]) _ _
                refine go_iload_n dX8_seesAs_94 rfl ?_
                refine go_iload dX8_seesAs_95 rfl ?_
                refine go_iconst (1) dX8_seesAs_97 rfl ?_
                refine go_isub dX8_seesAs_98 ?_
                rw [show (1 : Int32) = nI 1 from rfl, pk_sub (by have t_0 := nI_toInt (n := t) (by omega); have l_0 := i_0; simp only [i_le] at c_91; omega)]
                refine go_cs (as := [.int _, .int _]) 0 dX8_seesAs_99 rfl rfl mt_8_129 (Nat.le_of_ble_eq_true rfl) rfl rfl (Nat.le_of_ble_eq_true rfl) (Nat.le_of_ble_eq_true rfl) (Nat.le_of_ble_eq_true rfl) (Nat.le_of_ble_eq_true rfl) ?_
                refine me_X8_has hv (by omega) ?_
                show bw_go _ _ _ _ _ _ _ 102 [(6, .int _), (5, .int _), (0, .int _), (1, .int _), (2, .int _), (3, .int _), (4, .int _)] ((.int _) :: []) _ _
                refine go_ifb_eq (pc' := 109) dX8_seesAs_102 rfl (fun c_102 => ?_) (fun c_102 => ?_)
                · -- eq at 102: yes
                  show bw_go _ _ _ _ _ _ _ 109 [(6, .int _), (5, .int _), (0, .int _), (1, .int _), (2, .int _), (3, .int _), (4, .int _)] ([]) _ _
                  refine go_iconst (0) dX8_seesAs_109 rfl ?_
                  refine go_iret dX8_seesAs_110 rfl rfl ?_
                  refine bi_0 ?_ hQ
                  rw [← sAs_t _ (by omega) e (by omega) w (by omega) t ht v hv]
                  unfold sAs
                  have t_0 := nI_toInt (n := w) (by omega)
                  have t_1 := nI_toInt (n := t) (by omega)
                  have l_9 : (9 : Int32).toInt = 9 := rfl
                  have l_3 : (3 : Int32).toInt = 3 := rfl
                  have l_0 := i_0
                  try simp only [i_le, i_lt] at c_35
                  try simp only [i_le, i_lt] at c_91
                  try simp only [i_le, i_lt] at c_113
                  first
                  | (rw [if_pos (by omega)]; done)
                  | (rw [if_neg hw9]; simp [*]; done)
                  | (rw [if_neg hw9]; have hw3 : decide (w < 3) = false := (decide_eq_false (by omega)); simp [hw3]; done)
                  | (rw [if_neg hw9]; have hw3 : decide (w < 3) = true := (decide_eq_true (by omega)); simp [hw3, *]; done)
                  | (rw [if_neg hw9]; have hw3 : decide (w < 3) = true := (decide_eq_true (by omega)); simp [*]; omega)
                  | (rw [if_neg hw9]; have ht0 : decide (0 < t) = false := (decide_eq_false (by omega)); simp [ht0, *]; done)
                  | (rw [if_neg hw9]; have ht0 : decide (0 < t) = true := (decide_eq_true (by omega)); simp [ht0, *]; done)
                  | (rw [if_neg hw9]; have ht0 : decide (0 < t) = true := (decide_eq_true (by omega)); simp [*]; omega)
                · -- eq at 102: no
                  show bw_go _ _ _ _ _ _ _ 105 [(6, .int _), (5, .int _), (0, .int _), (1, .int _), (2, .int _), (3, .int _), (4, .int _)] ([]) _ _
                  refine go_iconst (1) dX8_seesAs_105 rfl ?_
                  refine go_goto (pc' := 110) dX8_seesAs_106 rfl ?_
                  show bw_go _ _ _ _ _ _ _ 110 [(6, .int _), (5, .int _), (0, .int _), (1, .int _), (2, .int _), (3, .int _), (4, .int _)] ((.int _) :: []) _ _
                  refine go_iret dX8_seesAs_110 rfl rfl ?_
                  refine bi_1 ?_ hQ
                  rw [← sAs_t _ (by omega) e (by omega) w (by omega) t ht v hv]
                  unfold sAs
                  have t_0 := nI_toInt (n := w) (by omega)
                  have t_1 := nI_toInt (n := t) (by omega)
                  have l_9 : (9 : Int32).toInt = 9 := rfl
                  have l_3 : (3 : Int32).toInt = 3 := rfl
                  have l_0 := i_0
                  try simp only [i_le, i_lt] at c_35
                  try simp only [i_le, i_lt] at c_91
                  try simp only [i_le, i_lt] at c_113
                  first
                  | (rw [if_pos (by omega)]; done)
                  | (rw [if_neg hw9]; simp [*]; done)
                  | (rw [if_neg hw9]; have hw3 : decide (w < 3) = false := (decide_eq_false (by omega)); simp [hw3]; done)
                  | (rw [if_neg hw9]; have hw3 : decide (w < 3) = true := (decide_eq_true (by omega)); simp [hw3, *]; done)
                  | (rw [if_neg hw9]; have hw3 : decide (w < 3) = true := (decide_eq_true (by omega)); simp [*]; omega)
                  | (rw [if_neg hw9]; have ht0 : decide (0 < t) = false := (decide_eq_false (by omega)); simp [ht0, *]; done)
                  | (rw [if_neg hw9]; have ht0 : decide (0 < t) = true := (decide_eq_true (by omega)); simp [ht0, *]; done)
                  | (rw [if_neg hw9]; have ht0 : decide (0 < t) = true := (decide_eq_true (by omega)); simp [*]; omega)
        · -- k = 3
          refine go_tsIn (pc' := 132) dX8_seesAs_41 (by decide) (by decide) rfl rfl ?_
          show bw_go _ _ _ _ _ _ _ 132 [(6, .int _), (5, .int _), (0, .int _), (1, .int _), (2, .int _), (3, .int _), (4, .int _)] ([]) _ _
          refine go_iload dX8_seesAs_132 rfl ?_
          refine go_ifb_eq (pc' := 146) dX8_seesAs_134 rfl (fun c_134 => ?_) (fun c_134 => ?_)
          · -- eq at 134: yes
            show bw_go _ _ _ _ _ _ _ 146 [(6, .int _), (5, .int _), (0, .int _), (1, .int _), (2, .int _), (3, .int _), (4, .int _)] ([]) _ _
            refine go_iconst (0) dX8_seesAs_146 rfl ?_
            refine go_iret dX8_seesAs_147 rfl rfl ?_
            refine bi_0 ?_ hQ
            rw [← sAs_t _ (by omega) e (by omega) w (by omega) t ht v hv]
            unfold sAs
            have t_0 := nI_toInt (n := w) (by omega)
            have t_1 := nI_toInt (n := t) (by omega)
            have l_9 : (9 : Int32).toInt = 9 := rfl
            have l_3 : (3 : Int32).toInt = 3 := rfl
            have l_0 := i_0
            try simp only [i_le, i_lt] at c_35
            try simp only [i_le, i_lt] at c_91
            try simp only [i_le, i_lt] at c_113
            first
            | (rw [if_pos (by omega)]; done)
            | (rw [if_neg hw9]; simp [*]; done)
            | (rw [if_neg hw9]; have hw3 : decide (w < 3) = false := (decide_eq_false (by omega)); simp [hw3]; done)
            | (rw [if_neg hw9]; have hw3 : decide (w < 3) = true := (decide_eq_true (by omega)); simp [hw3, *]; done)
            | (rw [if_neg hw9]; have hw3 : decide (w < 3) = true := (decide_eq_true (by omega)); simp [*]; omega)
            | (rw [if_neg hw9]; have ht0 : decide (0 < t) = false := (decide_eq_false (by omega)); simp [ht0, *]; done)
            | (rw [if_neg hw9]; have ht0 : decide (0 < t) = true := (decide_eq_true (by omega)); simp [ht0, *]; done)
            | (rw [if_neg hw9]; have ht0 : decide (0 < t) = true := (decide_eq_true (by omega)); simp [*]; omega)
          · -- eq at 134: no
            show bw_go _ _ _ _ _ _ _ 137 [(6, .int _), (5, .int _), (0, .int _), (1, .int _), (2, .int _), (3, .int _), (4, .int _)] ([]) _ _
            refine go_iload dX8_seesAs_137 rfl ?_
            refine go_ifb_eq (pc' := 146) dX8_seesAs_139 rfl (fun c_139 => ?_) (fun c_139 => ?_)
            · -- eq at 139: yes
              show bw_go _ _ _ _ _ _ _ 146 [(6, .int _), (5, .int _), (0, .int _), (1, .int _), (2, .int _), (3, .int _), (4, .int _)] ([]) _ _
              refine go_iconst (0) dX8_seesAs_146 rfl ?_
              refine go_iret dX8_seesAs_147 rfl rfl ?_
              refine bi_0 ?_ hQ
              rw [← sAs_t _ (by omega) e (by omega) w (by omega) t ht v hv]
              unfold sAs
              have t_0 := nI_toInt (n := w) (by omega)
              have t_1 := nI_toInt (n := t) (by omega)
              have l_9 : (9 : Int32).toInt = 9 := rfl
              have l_3 : (3 : Int32).toInt = 3 := rfl
              have l_0 := i_0
              try simp only [i_le, i_lt] at c_35
              try simp only [i_le, i_lt] at c_91
              try simp only [i_le, i_lt] at c_113
              first
              | (rw [if_pos (by omega)]; done)
              | (rw [if_neg hw9]; simp [*]; done)
              | (rw [if_neg hw9]; have hw3 : decide (w < 3) = false := (decide_eq_false (by omega)); simp [hw3]; done)
              | (rw [if_neg hw9]; have hw3 : decide (w < 3) = true := (decide_eq_true (by omega)); simp [hw3, *]; done)
              | (rw [if_neg hw9]; have hw3 : decide (w < 3) = true := (decide_eq_true (by omega)); simp [*]; omega)
              | (rw [if_neg hw9]; have ht0 : decide (0 < t) = false := (decide_eq_false (by omega)); simp [ht0, *]; done)
              | (rw [if_neg hw9]; have ht0 : decide (0 < t) = true := (decide_eq_true (by omega)); simp [ht0, *]; done)
              | (rw [if_neg hw9]; have ht0 : decide (0 < t) = true := (decide_eq_true (by omega)); simp [*]; omega)
            · -- eq at 139: no
              show bw_go _ _ _ _ _ _ _ 142 [(6, .int _), (5, .int _), (0, .int _), (1, .int _), (2, .int _), (3, .int _), (4, .int _)] ([]) _ _
              refine go_iconst (1) dX8_seesAs_142 rfl ?_
              refine go_goto (pc' := 147) dX8_seesAs_143 rfl ?_
              show bw_go _ _ _ _ _ _ _ 147 [(6, .int _), (5, .int _), (0, .int _), (1, .int _), (2, .int _), (3, .int _), (4, .int _)] ((.int _) :: []) _ _
              refine go_iret dX8_seesAs_147 rfl rfl ?_
              refine bi_1 ?_ hQ
              rw [← sAs_t _ (by omega) e (by omega) w (by omega) t ht v hv]
              unfold sAs
              have t_0 := nI_toInt (n := w) (by omega)
              have t_1 := nI_toInt (n := t) (by omega)
              have l_9 : (9 : Int32).toInt = 9 := rfl
              have l_3 : (3 : Int32).toInt = 3 := rfl
              have l_0 := i_0
              try simp only [i_le, i_lt] at c_35
              try simp only [i_le, i_lt] at c_91
              try simp only [i_le, i_lt] at c_113
              first
              | (rw [if_pos (by omega)]; done)
              | (rw [if_neg hw9]; simp [*]; done)
              | (rw [if_neg hw9]; have hw3 : decide (w < 3) = false := (decide_eq_false (by omega)); simp [hw3]; done)
              | (rw [if_neg hw9]; have hw3 : decide (w < 3) = true := (decide_eq_true (by omega)); simp [hw3, *]; done)
              | (rw [if_neg hw9]; have hw3 : decide (w < 3) = true := (decide_eq_true (by omega)); simp [*]; omega)
              | (rw [if_neg hw9]; have ht0 : decide (0 < t) = false := (decide_eq_false (by omega)); simp [ht0, *]; done)
              | (rw [if_neg hw9]; have ht0 : decide (0 < t) = true := (decide_eq_true (by omega)); simp [ht0, *]; done)
              | (rw [if_neg hw9]; have ht0 : decide (0 < t) = true := (decide_eq_true (by omega)); simp [*]; omega)
        · -- k = 4
          refine go_tsIn (pc' := 76) dX8_seesAs_41 (by decide) (by decide) rfl rfl ?_
          show bw_go _ _ _ _ _ _ _ 76 [(6, .int _), (5, .int _), (0, .int _), (1, .int _), (2, .int _), (3, .int _), (4, .int _)] ([]) _ _
          refine go_iload dX8_seesAs_76 rfl ?_
          refine go_iret dX8_seesAs_78 rfl (bi_nar _) ?_
          rw [← sAs_t _ (by omega) e (by omega) w (by omega) t ht v hv] at hQ
          unfold sAs at hQ
          rw [if_neg hw9] at hQ
          exact hQ
        · -- k = 5
          refine go_tsIn (pc' := 111) dX8_seesAs_41 (by decide) (by decide) rfl rfl ?_
          show bw_go _ _ _ _ _ _ _ 111 [(6, .int _), (5, .int _), (0, .int _), (1, .int _), (2, .int _), (3, .int _), (4, .int _)] ([]) _ _
          refine go_iload_n dX8_seesAs_111 rfl ?_
          refine go_iconst (3) dX8_seesAs_112 rfl ?_
          refine go_icmp_ge (pc' := 130) dX8_seesAs_113 rfl (fun c_113 => ?_) (fun c_113 => ?_)
          · -- ge at 113: yes
            show bw_go _ _ _ _ _ _ _ 130 [(6, .int _), (5, .int _), (0, .int _), (1, .int _), (2, .int _), (3, .int _), (4, .int _)] ([]) _ _
            refine go_iconst (0) dX8_seesAs_130 rfl ?_
            refine go_iret dX8_seesAs_131 rfl rfl ?_
            refine bi_0 ?_ hQ
            rw [← sAs_t _ (by omega) e (by omega) w (by omega) t ht v hv]
            unfold sAs
            have t_0 := nI_toInt (n := w) (by omega)
            have t_1 := nI_toInt (n := t) (by omega)
            have l_9 : (9 : Int32).toInt = 9 := rfl
            have l_3 : (3 : Int32).toInt = 3 := rfl
            have l_0 := i_0
            try simp only [i_le, i_lt] at c_35
            try simp only [i_le, i_lt] at c_91
            try simp only [i_le, i_lt] at c_113
            first
            | (rw [if_pos (by omega)]; done)
            | (rw [if_neg hw9]; simp [*]; done)
            | (rw [if_neg hw9]; have hw3 : decide (w < 3) = false := (decide_eq_false (by omega)); simp [hw3]; done)
            | (rw [if_neg hw9]; have hw3 : decide (w < 3) = true := (decide_eq_true (by omega)); simp [hw3, *]; done)
            | (rw [if_neg hw9]; have hw3 : decide (w < 3) = true := (decide_eq_true (by omega)); simp [*]; omega)
            | (rw [if_neg hw9]; have ht0 : decide (0 < t) = false := (decide_eq_false (by omega)); simp [ht0, *]; done)
            | (rw [if_neg hw9]; have ht0 : decide (0 < t) = true := (decide_eq_true (by omega)); simp [ht0, *]; done)
            | (rw [if_neg hw9]; have ht0 : decide (0 < t) = true := (decide_eq_true (by omega)); simp [*]; omega)
          · -- ge at 113: no
            show bw_go _ _ _ _ _ _ _ 116 [(6, .int _), (5, .int _), (0, .int _), (1, .int _), (2, .int _), (3, .int _), (4, .int _)] ([]) _ _
            refine go_iload dX8_seesAs_116 rfl ?_
            refine go_ifb_eq (pc' := 130) dX8_seesAs_118 rfl (fun c_118 => ?_) (fun c_118 => ?_)
            · -- eq at 118: yes
              show bw_go _ _ _ _ _ _ _ 130 [(6, .int _), (5, .int _), (0, .int _), (1, .int _), (2, .int _), (3, .int _), (4, .int _)] ([]) _ _
              refine go_iconst (0) dX8_seesAs_130 rfl ?_
              refine go_iret dX8_seesAs_131 rfl rfl ?_
              refine bi_0 ?_ hQ
              rw [← sAs_t _ (by omega) e (by omega) w (by omega) t ht v hv]
              unfold sAs
              have t_0 := nI_toInt (n := w) (by omega)
              have t_1 := nI_toInt (n := t) (by omega)
              have l_9 : (9 : Int32).toInt = 9 := rfl
              have l_3 : (3 : Int32).toInt = 3 := rfl
              have l_0 := i_0
              try simp only [i_le, i_lt] at c_35
              try simp only [i_le, i_lt] at c_91
              try simp only [i_le, i_lt] at c_113
              first
              | (rw [if_pos (by omega)]; done)
              | (rw [if_neg hw9]; simp [*]; done)
              | (rw [if_neg hw9]; have hw3 : decide (w < 3) = false := (decide_eq_false (by omega)); simp [hw3]; done)
              | (rw [if_neg hw9]; have hw3 : decide (w < 3) = true := (decide_eq_true (by omega)); simp [hw3, *]; done)
              | (rw [if_neg hw9]; have hw3 : decide (w < 3) = true := (decide_eq_true (by omega)); simp [*]; omega)
              | (rw [if_neg hw9]; have ht0 : decide (0 < t) = false := (decide_eq_false (by omega)); simp [ht0, *]; done)
              | (rw [if_neg hw9]; have ht0 : decide (0 < t) = true := (decide_eq_true (by omega)); simp [ht0, *]; done)
              | (rw [if_neg hw9]; have ht0 : decide (0 < t) = true := (decide_eq_true (by omega)); simp [*]; omega)
            · -- eq at 118: no
              show bw_go _ _ _ _ _ _ _ 121 [(6, .int _), (5, .int _), (0, .int _), (1, .int _), (2, .int _), (3, .int _), (4, .int _)] ([]) _ _
              refine go_iload dX8_seesAs_121 rfl ?_
              refine go_ifb_eq (pc' := 130) dX8_seesAs_123 rfl (fun c_123 => ?_) (fun c_123 => ?_)
              · -- eq at 123: yes
                show bw_go _ _ _ _ _ _ _ 130 [(6, .int _), (5, .int _), (0, .int _), (1, .int _), (2, .int _), (3, .int _), (4, .int _)] ([]) _ _
                refine go_iconst (0) dX8_seesAs_130 rfl ?_
                refine go_iret dX8_seesAs_131 rfl rfl ?_
                refine bi_0 ?_ hQ
                rw [← sAs_t _ (by omega) e (by omega) w (by omega) t ht v hv]
                unfold sAs
                have t_0 := nI_toInt (n := w) (by omega)
                have t_1 := nI_toInt (n := t) (by omega)
                have l_9 : (9 : Int32).toInt = 9 := rfl
                have l_3 : (3 : Int32).toInt = 3 := rfl
                have l_0 := i_0
                try simp only [i_le, i_lt] at c_35
                try simp only [i_le, i_lt] at c_91
                try simp only [i_le, i_lt] at c_113
                first
                | (rw [if_pos (by omega)]; done)
                | (rw [if_neg hw9]; simp [*]; done)
                | (rw [if_neg hw9]; have hw3 : decide (w < 3) = false := (decide_eq_false (by omega)); simp [hw3]; done)
                | (rw [if_neg hw9]; have hw3 : decide (w < 3) = true := (decide_eq_true (by omega)); simp [hw3, *]; done)
                | (rw [if_neg hw9]; have hw3 : decide (w < 3) = true := (decide_eq_true (by omega)); simp [*]; omega)
                | (rw [if_neg hw9]; have ht0 : decide (0 < t) = false := (decide_eq_false (by omega)); simp [ht0, *]; done)
                | (rw [if_neg hw9]; have ht0 : decide (0 < t) = true := (decide_eq_true (by omega)); simp [ht0, *]; done)
                | (rw [if_neg hw9]; have ht0 : decide (0 < t) = true := (decide_eq_true (by omega)); simp [*]; omega)
              · -- eq at 123: no
                show bw_go _ _ _ _ _ _ _ 126 [(6, .int _), (5, .int _), (0, .int _), (1, .int _), (2, .int _), (3, .int _), (4, .int _)] ([]) _ _
                refine go_iconst (1) dX8_seesAs_126 rfl ?_
                refine go_goto (pc' := 131) dX8_seesAs_127 rfl ?_
                show bw_go _ _ _ _ _ _ _ 131 [(6, .int _), (5, .int _), (0, .int _), (1, .int _), (2, .int _), (3, .int _), (4, .int _)] ((.int _) :: []) _ _
                refine go_iret dX8_seesAs_131 rfl rfl ?_
                refine bi_1 ?_ hQ
                rw [← sAs_t _ (by omega) e (by omega) w (by omega) t ht v hv]
                unfold sAs
                have t_0 := nI_toInt (n := w) (by omega)
                have t_1 := nI_toInt (n := t) (by omega)
                have l_9 : (9 : Int32).toInt = 9 := rfl
                have l_3 : (3 : Int32).toInt = 3 := rfl
                have l_0 := i_0
                try simp only [i_le, i_lt] at c_35
                try simp only [i_le, i_lt] at c_91
                try simp only [i_le, i_lt] at c_113
                first
                | (rw [if_pos (by omega)]; done)
                | (rw [if_neg hw9]; simp [*]; done)
                | (rw [if_neg hw9]; have hw3 : decide (w < 3) = false := (decide_eq_false (by omega)); simp [hw3]; done)
                | (rw [if_neg hw9]; have hw3 : decide (w < 3) = true := (decide_eq_true (by omega)); simp [hw3, *]; done)
                | (rw [if_neg hw9]; have hw3 : decide (w < 3) = true := (decide_eq_true (by omega)); simp [*]; omega)
                | (rw [if_neg hw9]; have ht0 : decide (0 < t) = false := (decide_eq_false (by omega)); simp [ht0, *]; done)
                | (rw [if_neg hw9]; have ht0 : decide (0 < t) = true := (decide_eq_true (by omega)); simp [ht0, *]; done)
                | (rw [if_neg hw9]; have ht0 : decide (0 < t) = true := (decide_eq_true (by omega)); simp [*]; omega)
      · -- lt at 35: no
        show bw_go _ _ _ _ _ _ _ 38 [(6, .int _), (5, .int _), (0, .int _), (1, .int _), (2, .int _), (3, .int _), (4, .int _)] ([]) _ _
        refine go_iconst (0) dX8_seesAs_38 rfl ?_
        skip
        refine go_iret dX8_seesAs_39 rfl rfl ?_
        refine bi_0 ?_ hQ
        rw [← sAs_t _ (by omega) e (by omega) w (by omega) t ht v hv]
        unfold sAs
        have t_0 := nI_toInt (n := w) (by omega)
        have t_1 := nI_toInt (n := t) (by omega)
        have l_9 : (9 : Int32).toInt = 9 := rfl
        have l_3 : (3 : Int32).toInt = 3 := rfl
        have l_0 := i_0
        try simp only [i_le, i_lt] at c_35
        try simp only [i_le, i_lt] at c_91
        try simp only [i_le, i_lt] at c_113
        first
        | (rw [if_pos (by omega)]; done)
        | (rw [if_neg hw9]; simp [*]; done)
        | (rw [if_neg hw9]; have hw3 : decide (w < 3) = false := (decide_eq_false (by omega)); simp [hw3]; done)
        | (rw [if_neg hw9]; have hw3 : decide (w < 3) = true := (decide_eq_true (by omega)); simp [hw3, *]; done)
        | (rw [if_neg hw9]; have hw3 : decide (w < 3) = true := (decide_eq_true (by omega)); simp [*]; omega)
        | (rw [if_neg hw9]; have ht0 : decide (0 < t) = false := (decide_eq_false (by omega)); simp [ht0, *]; done)
        | (rw [if_neg hw9]; have ht0 : decide (0 < t) = true := (decide_eq_true (by omega)); simp [ht0, *]; done)
        | (rw [if_neg hw9]; have ht0 : decide (0 < t) = true := (decide_eq_true (by omega)); simp [*]; omega)
  refine go_iload_n dX8_seesAs_8 rfl ?_
  refine go_iconst (2) dX8_seesAs_9 rfl ?_
  refine go_icmp_eq (pc' := 25) dX8_seesAs_10 rfl (fun c_10 => ?_) (fun c_10 => ?_)
  · -- eq at 10: yes
    show bw_go _ _ _ _ _ _ _ 25 [(5, .int _), (0, .int _), (1, .int _), (2, .int _), (3, .int _), (4, .int _)] ([]) _ _
    refine go_iconst (1) dX8_seesAs_25 rfl ?_
    refine go_goto (pc' := 30) dX8_seesAs_26 rfl ?_
    show bw_go _ _ _ _ _ _ _ 30 [(5, .int _), (0, .int _), (1, .int _), (2, .int _), (3, .int _), (4, .int _)] ((.int _) :: []) _ _
    refine go_istore dX8_seesAs_30 (Nat.lt_of_lt_of_le (Nat.lt_succ_self _) (Nat.le_of_ble_eq_true rfl)) ?_
    show bw_go _ _ _ _ _ _ _ 32 [(6, .int _), (5, .int _), (0, .int _), (1, .int _), (2, .int _), (3, .int _), (4, .int _)] ([]) _ _
    have hb : byE e t = true := by
      have t_0 := nI_toInt (n := e) (by omega)
      have l_1 : (1 : Int32).toInt = 1 := rfl
      have l_2 : (2 : Int32).toInt = 2 := rfl
      try simp only [i_eq] at c_10
      try simp only [i_eq] at c_15
      have m0 : (nI (t % 2) = 0) ↔ t % 2 = 0 := nI_eq (b := 0) (by omega) (by omega)
      try rw [m0] at c_22
      first | exact decide_eq_true (by omega) | exact decide_eq_false (by omega)
    rw [hb] at K
    exact K
  · -- eq at 10: no
    show bw_go _ _ _ _ _ _ _ 13 [(5, .int _), (0, .int _), (1, .int _), (2, .int _), (3, .int _), (4, .int _)] ([]) _ _
    refine go_iload_n dX8_seesAs_13 rfl ?_
    refine go_iconst (1) dX8_seesAs_14 rfl ?_
    refine go_icmp_ne (pc' := 29) dX8_seesAs_15 rfl (fun c_15 => ?_) (fun c_15 => ?_)
    · -- ne at 15: yes
      show bw_go _ _ _ _ _ _ _ 29 [(5, .int _), (0, .int _), (1, .int _), (2, .int _), (3, .int _), (4, .int _)] ([]) _ _
      refine go_iconst (0) dX8_seesAs_29 rfl ?_
      refine go_istore dX8_seesAs_30 (Nat.lt_of_lt_of_le (Nat.lt_succ_self _) (Nat.le_of_ble_eq_true rfl)) ?_
      show bw_go _ _ _ _ _ _ _ 32 [(6, .int _), (5, .int _), (0, .int _), (1, .int _), (2, .int _), (3, .int _), (4, .int _)] ([]) _ _
      have hb : byE e t = false := by
        have t_0 := nI_toInt (n := e) (by omega)
        have l_1 : (1 : Int32).toInt = 1 := rfl
        have l_2 : (2 : Int32).toInt = 2 := rfl
        try simp only [i_eq] at c_10
        try simp only [i_eq] at c_15
        have m0 : (nI (t % 2) = 0) ↔ t % 2 = 0 := nI_eq (b := 0) (by omega) (by omega)
        try rw [m0] at c_22
        first | exact decide_eq_true (by omega) | exact decide_eq_false (by omega)
      rw [hb] at K
      exact K
    · -- ne at 15: no
      show bw_go _ _ _ _ _ _ _ 18 [(5, .int _), (0, .int _), (1, .int _), (2, .int _), (3, .int _), (4, .int _)] ([]) _ _
      refine go_iload dX8_seesAs_18 rfl ?_
      refine go_iconst (2) dX8_seesAs_20 rfl ?_
      refine go_irem dX8_seesAs_21 (by decide) ?_
      rw [show (2 : Int32) = nI 2 from rfl, pk_rem (by omega) (by decide) (by decide)]
      refine go_if_ne (pc' := 29) dX8_seesAs_22 rfl (fun c_22 => ?_) (fun c_22 => ?_)
      · -- ne at 22: yes
        show bw_go _ _ _ _ _ _ _ 29 [(5, .int _), (0, .int _), (1, .int _), (2, .int _), (3, .int _), (4, .int _)] ([]) _ _
        refine go_iconst (0) dX8_seesAs_29 rfl ?_
        refine go_istore dX8_seesAs_30 (Nat.lt_of_lt_of_le (Nat.lt_succ_self _) (Nat.le_of_ble_eq_true rfl)) ?_
        show bw_go _ _ _ _ _ _ _ 32 [(6, .int _), (5, .int _), (0, .int _), (1, .int _), (2, .int _), (3, .int _), (4, .int _)] ([]) _ _
        have hb : byE e t = false := by
          have t_0 := nI_toInt (n := e) (by omega)
          have l_1 : (1 : Int32).toInt = 1 := rfl
          have l_2 : (2 : Int32).toInt = 2 := rfl
          try simp only [i_eq] at c_10
          try simp only [i_eq] at c_15
          have m0 : (nI (t % 2) = 0) ↔ t % 2 = 0 := nI_eq (b := 0) (by omega) (by omega)
          try rw [m0] at c_22
          first | exact decide_eq_true (by omega) | exact decide_eq_false (by omega)
        rw [hb] at K
        exact K
      · -- ne at 22: no
        show bw_go _ _ _ _ _ _ _ 25 [(5, .int _), (0, .int _), (1, .int _), (2, .int _), (3, .int _), (4, .int _)] ([]) _ _
        refine go_iconst (1) dX8_seesAs_25 rfl ?_
        refine go_goto (pc' := 30) dX8_seesAs_26 rfl ?_
        show bw_go _ _ _ _ _ _ _ 30 [(5, .int _), (0, .int _), (1, .int _), (2, .int _), (3, .int _), (4, .int _)] ((.int _) :: []) _ _
        refine go_istore dX8_seesAs_30 (Nat.lt_of_lt_of_le (Nat.lt_succ_self _) (Nat.le_of_ble_eq_true rfl)) ?_
        show bw_go _ _ _ _ _ _ _ 32 [(6, .int _), (5, .int _), (0, .int _), (1, .int _), (2, .int _), (3, .int _), (4, .int _)] ([]) _ _
        have hb : byE e t = true := by
          have t_0 := nI_toInt (n := e) (by omega)
          have l_1 : (1 : Int32).toInt = 1 := rfl
          have l_2 : (2 : Int32).toInt = 2 := rfl
          try simp only [i_eq] at c_10
          try simp only [i_eq] at c_15
          have m0 : (nI (t % 2) = 0) ↔ t % 2 = 0 := nI_eq (b := 0) (by omega) (by omega)
          try rw [m0] at c_22
          first | exact decide_eq_true (by omega) | exact decide_eq_false (by omega)
        rw [hb] at K
        exact K
set_option maxRecDepth 100000 in
set_option maxHeartbeats 4000000 in
theorem me_X8_tellsAs {X : Nat × (Nat → Int32)} {Q : Option Value → bw_H → Prop} {h : bw_H} {k e w v t dn : Nat} (hk : k < 6) (he : e ≤ 2) (hw : w ≤ 9) (hv : v < 64) (ht : t < 6) (hd : dn < 64) (hQ : Q (some (.int (sya k e w v t dn))) h) : bw_me X 2 bm_X8_tellsAs false [.int (nI k), .int (nI e), .int (nI w), .int (nI v), .int (nI t), .int (nI dn)] h Q := by
  show bw_go _ 2 8 7 false (some .int) cX8_tellsAs 0 [(0, .int _), (1, .int _), (2, .int _), (3, .int _), (4, .int _), (5, .int _)] [] _ _
  refine go_iload_n dX8_tellsAs_0 rfl ?_
  refine go_iload_n dX8_tellsAs_1 rfl ?_
  refine go_iload_n dX8_tellsAs_2 rfl ?_
  refine go_iload_n dX8_tellsAs_3 rfl ?_
  refine go_iload dX8_tellsAs_4 rfl ?_
  refine go_cs (as := [.int _, .int _, .int _, .int _, .int _]) 1 dX8_tellsAs_6 rfl rfl mt_8_132 (Nat.le_of_ble_eq_true rfl) rfl rfl (Nat.le_of_ble_eq_true rfl) (Nat.le_of_ble_eq_true rfl) (Nat.le_of_ble_eq_true rfl) (Nat.le_of_ble_eq_true rfl) ?_
  refine me_X8_seesAs hk he hw hv ht ?_
  show bw_go _ _ _ _ _ _ _ 9 [(0, .int _), (1, .int _), (2, .int _), (3, .int _), (4, .int _), (5, .int _)] ((.int _) :: []) _ _
  refine go_ifb_ne (pc' := 15) dX8_tellsAs_9 rfl (fun c_9 => ?_) (fun c_9 => ?_)
  · -- ne at 9: yes
    show bw_go _ _ _ _ _ _ _ 15 [(0, .int _), (1, .int _), (2, .int _), (3, .int _), (4, .int _), (5, .int _)] ([]) _ _
    refine go_iload dX8_tellsAs_15 rfl ?_
    refine go_iload dX8_tellsAs_17 rfl ?_
    refine go_ishr dX8_tellsAs_19 ?_
    refine go_iconst (1) dX8_tellsAs_20 rfl ?_
    refine go_iand dX8_tellsAs_21 ?_
    rw [isb_t dn hd t (by omega)]
    refine go_istore dX8_tellsAs_22 (Nat.lt_of_lt_of_le (Nat.lt_succ_self _) (Nat.le_of_ble_eq_true rfl)) ?_
    show bw_go _ _ _ _ _ _ _ 24 [(6, .int _), (0, .int _), (1, .int _), (2, .int _), (3, .int _), (4, .int _), (5, .int _)] ([]) _ _
    refine go_iload_n dX8_tellsAs_24 rfl ?_
    refine go_iconst (4) dX8_tellsAs_25 rfl ?_
    refine go_icmp_ne (pc' := 33) dX8_tellsAs_26 rfl (fun c_26 => ?_) (fun c_26 => ?_)
    · -- ne at 26: yes
      show bw_go _ _ _ _ _ _ _ 33 [(6, .int _), (0, .int _), (1, .int _), (2, .int _), (3, .int _), (4, .int _), (5, .int _)] ([]) _ _
      refine go_iload_n dX8_tellsAs_33 rfl ?_
      refine go_iconst (3) dX8_tellsAs_34 rfl ?_
      refine go_icmp_eq (pc' := 43) dX8_tellsAs_35 rfl (fun c_35 => ?_) (fun c_35 => ?_)
      · -- eq at 35: yes
        show bw_go _ _ _ _ _ _ _ 43 [(6, .int _), (0, .int _), (1, .int _), (2, .int _), (3, .int _), (4, .int _), (5, .int _)] ([]) _ _
        refine go_iload_n dX8_tellsAs_43 rfl ?_
        refine go_iconst (5) dX8_tellsAs_44 rfl ?_
        refine go_icmp_lt (pc' := 55) dX8_tellsAs_45 rfl (fun c_45 => ?_) (fun c_45 => ?_)
        · -- lt at 45: yes
          show bw_go _ _ _ _ _ _ _ 55 [(6, .int _), (0, .int _), (1, .int _), (2, .int _), (3, .int _), (4, .int _), (5, .int _)] ([]) _ _
          refine go_iload dX8_tellsAs_55 rfl ?_
          refine go_iret dX8_tellsAs_57 rfl rfl ?_
          refine qi hQ ?_
          unfold sya
          have t_0 := nI_toInt (n := k) (by omega)
          have t_1 := nI_toInt (n := w) (by omega)
          have l_4 : (4 : Int32).toInt = 4 := rfl
          have l_3 : (3 : Int32).toInt = 3 := rfl
          have l_5 : (5 : Int32).toInt = 5 := rfl
          try simp only [i_eq] at c_26
          try simp only [i_eq] at c_35
          try simp only [i_eq] at c_40
          try simp only [i_lt] at c_45
          first
          | (rw [if_neg (show ¬ (see k w v e).testBit t = true from fun z => Bool.noConfusion (c_9.symm.trans z))]; done)
          | (rw [if_pos c_9, if_pos (show k = 4 by omega)]; done)
          | (rw [if_pos c_9, if_neg (show ¬ k = 4 by omega), if_pos (show (k = 3 ∨ k = 5) ∧ 5 ≤ w by omega)]; cases dn.testBit t <;> rfl)
          | (rw [if_pos c_9, if_neg (show ¬ k = 4 by omega), if_neg (show ¬ ((k = 3 ∨ k = 5) ∧ 5 ≤ w) by omega)]; cases dn.testBit t <;> rfl)
        · -- lt at 45: no
          show bw_go _ _ _ _ _ _ _ 48 [(6, .int _), (0, .int _), (1, .int _), (2, .int _), (3, .int _), (4, .int _), (5, .int _)] ([]) _ _
          refine go_iconst (1) dX8_tellsAs_48 rfl ?_
          refine go_iload dX8_tellsAs_49 rfl ?_
          refine go_isub dX8_tellsAs_51 ?_
          refine go_goto (pc' := 57) dX8_tellsAs_52 rfl ?_
          show bw_go _ _ _ _ _ _ _ 57 [(6, .int _), (0, .int _), (1, .int _), (2, .int _), (3, .int _), (4, .int _), (5, .int _)] ((.int _) :: []) _ _
          refine go_iret dX8_tellsAs_57 rfl rfl ?_
          refine qi hQ ?_
          unfold sya
          have t_0 := nI_toInt (n := k) (by omega)
          have t_1 := nI_toInt (n := w) (by omega)
          have l_4 : (4 : Int32).toInt = 4 := rfl
          have l_3 : (3 : Int32).toInt = 3 := rfl
          have l_5 : (5 : Int32).toInt = 5 := rfl
          try simp only [i_eq] at c_26
          try simp only [i_eq] at c_35
          try simp only [i_eq] at c_40
          try simp only [i_lt] at c_45
          first
          | (rw [if_neg (show ¬ (see k w v e).testBit t = true from fun z => Bool.noConfusion (c_9.symm.trans z))]; done)
          | (rw [if_pos c_9, if_pos (show k = 4 by omega)]; done)
          | (rw [if_pos c_9, if_neg (show ¬ k = 4 by omega), if_pos (show (k = 3 ∨ k = 5) ∧ 5 ≤ w by omega)]; cases dn.testBit t <;> rfl)
          | (rw [if_pos c_9, if_neg (show ¬ k = 4 by omega), if_neg (show ¬ ((k = 3 ∨ k = 5) ∧ 5 ≤ w) by omega)]; cases dn.testBit t <;> rfl)
      · -- eq at 35: no
        show bw_go _ _ _ _ _ _ _ 38 [(6, .int _), (0, .int _), (1, .int _), (2, .int _), (3, .int _), (4, .int _), (5, .int _)] ([]) _ _
        refine go_iload_n dX8_tellsAs_38 rfl ?_
        refine go_iconst (5) dX8_tellsAs_39 rfl ?_
        refine go_icmp_ne (pc' := 55) dX8_tellsAs_40 rfl (fun c_40 => ?_) (fun c_40 => ?_)
        · -- ne at 40: yes
          show bw_go _ _ _ _ _ _ _ 55 [(6, .int _), (0, .int _), (1, .int _), (2, .int _), (3, .int _), (4, .int _), (5, .int _)] ([]) _ _
          refine go_iload dX8_tellsAs_55 rfl ?_
          refine go_iret dX8_tellsAs_57 rfl rfl ?_
          refine qi hQ ?_
          unfold sya
          have t_0 := nI_toInt (n := k) (by omega)
          have t_1 := nI_toInt (n := w) (by omega)
          have l_4 : (4 : Int32).toInt = 4 := rfl
          have l_3 : (3 : Int32).toInt = 3 := rfl
          have l_5 : (5 : Int32).toInt = 5 := rfl
          try simp only [i_eq] at c_26
          try simp only [i_eq] at c_35
          try simp only [i_eq] at c_40
          try simp only [i_lt] at c_45
          first
          | (rw [if_neg (show ¬ (see k w v e).testBit t = true from fun z => Bool.noConfusion (c_9.symm.trans z))]; done)
          | (rw [if_pos c_9, if_pos (show k = 4 by omega)]; done)
          | (rw [if_pos c_9, if_neg (show ¬ k = 4 by omega), if_pos (show (k = 3 ∨ k = 5) ∧ 5 ≤ w by omega)]; cases dn.testBit t <;> rfl)
          | (rw [if_pos c_9, if_neg (show ¬ k = 4 by omega), if_neg (show ¬ ((k = 3 ∨ k = 5) ∧ 5 ≤ w) by omega)]; cases dn.testBit t <;> rfl)
        · -- ne at 40: no
          show bw_go _ _ _ _ _ _ _ 43 [(6, .int _), (0, .int _), (1, .int _), (2, .int _), (3, .int _), (4, .int _), (5, .int _)] ([]) _ _
          refine go_iload_n dX8_tellsAs_43 rfl ?_
          refine go_iconst (5) dX8_tellsAs_44 rfl ?_
          refine go_icmp_lt (pc' := 55) dX8_tellsAs_45 rfl (fun c_45 => ?_) (fun c_45 => ?_)
          · -- lt at 45: yes
            show bw_go _ _ _ _ _ _ _ 55 [(6, .int _), (0, .int _), (1, .int _), (2, .int _), (3, .int _), (4, .int _), (5, .int _)] ([]) _ _
            refine go_iload dX8_tellsAs_55 rfl ?_
            refine go_iret dX8_tellsAs_57 rfl rfl ?_
            refine qi hQ ?_
            unfold sya
            have t_0 := nI_toInt (n := k) (by omega)
            have t_1 := nI_toInt (n := w) (by omega)
            have l_4 : (4 : Int32).toInt = 4 := rfl
            have l_3 : (3 : Int32).toInt = 3 := rfl
            have l_5 : (5 : Int32).toInt = 5 := rfl
            try simp only [i_eq] at c_26
            try simp only [i_eq] at c_35
            try simp only [i_eq] at c_40
            try simp only [i_lt] at c_45
            first
            | (rw [if_neg (show ¬ (see k w v e).testBit t = true from fun z => Bool.noConfusion (c_9.symm.trans z))]; done)
            | (rw [if_pos c_9, if_pos (show k = 4 by omega)]; done)
            | (rw [if_pos c_9, if_neg (show ¬ k = 4 by omega), if_pos (show (k = 3 ∨ k = 5) ∧ 5 ≤ w by omega)]; cases dn.testBit t <;> rfl)
            | (rw [if_pos c_9, if_neg (show ¬ k = 4 by omega), if_neg (show ¬ ((k = 3 ∨ k = 5) ∧ 5 ≤ w) by omega)]; cases dn.testBit t <;> rfl)
          · -- lt at 45: no
            show bw_go _ _ _ _ _ _ _ 48 [(6, .int _), (0, .int _), (1, .int _), (2, .int _), (3, .int _), (4, .int _), (5, .int _)] ([]) _ _
            refine go_iconst (1) dX8_tellsAs_48 rfl ?_
            refine go_iload dX8_tellsAs_49 rfl ?_
            refine go_isub dX8_tellsAs_51 ?_
            refine go_goto (pc' := 57) dX8_tellsAs_52 rfl ?_
            show bw_go _ _ _ _ _ _ _ 57 [(6, .int _), (0, .int _), (1, .int _), (2, .int _), (3, .int _), (4, .int _), (5, .int _)] ((.int _) :: []) _ _
            refine go_iret dX8_tellsAs_57 rfl rfl ?_
            refine qi hQ ?_
            unfold sya
            have t_0 := nI_toInt (n := k) (by omega)
            have t_1 := nI_toInt (n := w) (by omega)
            have l_4 : (4 : Int32).toInt = 4 := rfl
            have l_3 : (3 : Int32).toInt = 3 := rfl
            have l_5 : (5 : Int32).toInt = 5 := rfl
            try simp only [i_eq] at c_26
            try simp only [i_eq] at c_35
            try simp only [i_eq] at c_40
            try simp only [i_lt] at c_45
            first
            | (rw [if_neg (show ¬ (see k w v e).testBit t = true from fun z => Bool.noConfusion (c_9.symm.trans z))]; done)
            | (rw [if_pos c_9, if_pos (show k = 4 by omega)]; done)
            | (rw [if_pos c_9, if_neg (show ¬ k = 4 by omega), if_pos (show (k = 3 ∨ k = 5) ∧ 5 ≤ w by omega)]; cases dn.testBit t <;> rfl)
            | (rw [if_pos c_9, if_neg (show ¬ k = 4 by omega), if_neg (show ¬ ((k = 3 ∨ k = 5) ∧ 5 ≤ w) by omega)]; cases dn.testBit t <;> rfl)
    · -- ne at 26: no
      show bw_go _ _ _ _ _ _ _ 29 [(6, .int _), (0, .int _), (1, .int _), (2, .int _), (3, .int _), (4, .int _), (5, .int _)] ([]) _ _
      refine go_iconst (1) dX8_tellsAs_29 rfl ?_
      refine go_goto (pc' := 57) dX8_tellsAs_30 rfl ?_
      show bw_go _ _ _ _ _ _ _ 57 [(6, .int _), (0, .int _), (1, .int _), (2, .int _), (3, .int _), (4, .int _), (5, .int _)] ((.int _) :: []) _ _
      refine go_iret dX8_tellsAs_57 rfl rfl ?_
      refine qi hQ ?_
      unfold sya
      have t_0 := nI_toInt (n := k) (by omega)
      have t_1 := nI_toInt (n := w) (by omega)
      have l_4 : (4 : Int32).toInt = 4 := rfl
      have l_3 : (3 : Int32).toInt = 3 := rfl
      have l_5 : (5 : Int32).toInt = 5 := rfl
      try simp only [i_eq] at c_26
      try simp only [i_eq] at c_35
      try simp only [i_eq] at c_40
      try simp only [i_lt] at c_45
      first
      | (rw [if_neg (show ¬ (see k w v e).testBit t = true from fun z => Bool.noConfusion (c_9.symm.trans z))]; done)
      | (rw [if_pos c_9, if_pos (show k = 4 by omega)]; done)
      | (rw [if_pos c_9, if_neg (show ¬ k = 4 by omega), if_pos (show (k = 3 ∨ k = 5) ∧ 5 ≤ w by omega)]; cases dn.testBit t <;> rfl)
      | (rw [if_pos c_9, if_neg (show ¬ k = 4 by omega), if_neg (show ¬ ((k = 3 ∨ k = 5) ∧ 5 ≤ w) by omega)]; cases dn.testBit t <;> rfl)
  · -- ne at 9: no
    show bw_go _ _ _ _ _ _ _ 12 [(0, .int _), (1, .int _), (2, .int _), (3, .int _), (4, .int _), (5, .int _)] ([]) _ _
    refine go_bipush (-9) dX8_tellsAs_12 rfl ?_
    refine go_iret dX8_tellsAs_14 rfl rfl ?_
    refine qi hQ ?_
    unfold sya
    have t_0 := nI_toInt (n := k) (by omega)
    have t_1 := nI_toInt (n := w) (by omega)
    have l_4 : (4 : Int32).toInt = 4 := rfl
    have l_3 : (3 : Int32).toInt = 3 := rfl
    have l_5 : (5 : Int32).toInt = 5 := rfl
    try simp only [i_eq] at c_26
    try simp only [i_eq] at c_35
    try simp only [i_eq] at c_40
    try simp only [i_lt] at c_45
    first
    | (rw [if_neg (show ¬ (see k w v e).testBit t = true from fun z => Bool.noConfusion (c_9.symm.trans z))]; done)
    | (rw [if_pos c_9, if_pos (show k = 4 by omega)]; done)
    | (rw [if_pos c_9, if_neg (show ¬ k = 4 by omega), if_pos (show (k = 3 ∨ k = 5) ∧ 5 ≤ w by omega)]; cases dn.testBit t <;> rfl)
    | (rw [if_pos c_9, if_neg (show ¬ k = 4 by omega), if_neg (show ¬ ((k = 3 ∨ k = 5) ∧ 5 ≤ w) by omega)]; cases dn.testBit t <;> rfl)
