/-! bit counts; Court: deeds, copies -/
def bw_wi (h : bw_H) (I : Nat → Nat → Int32) : bw_H := (h.1, h.2.1, I, h.2.2.2)
theorem wi_q {Q : Option Value → bw_H → Prop} {r : Option Value} {h : bw_H} {P : (Nat → Nat → Int32) → Prop} (hQ : ∀ I, P I → Q r (bw_wi h I)) {H : bw_H} (e : H = bw_wi h (bw_i H)) (hp : P (bw_i H)) : Q r H := by rw [e]; exact hQ _ hp
theorem i_wi (h : bw_H) (I : Nat → Nat → Int32) : bw_i (bw_wi h I) = I := rfl
theorem i_si_s (h : bw_H) (q k : Nat) (v : Int32) : bw_i (bw_si h q k v) q = bw_up (bw_i h q) k v := bw_up2_s _ _ _ _
theorem i_si_o {h : bw_H} {p q k : Nat} {v : Int32} (n : p ≠ q) : bw_i (bw_si h q k v) p = bw_i h p := bw_up2_o n
theorem mix_i {F G : Nat → Int32} {n j : Nat} (h : j < n) : mix F G n j = F j := by unfold mix; rw [if_pos h]
theorem mix_o {F G : Nat → Int32} {n j : Nat} (h : n ≤ j) : mix F G n j = G j := by unfold mix; rw [if_neg (by omega)]
def bc (s : Nat) : Nat := cnt (fun i => s.testBit i) 6
def jc1 (i : Int32) : Int32 := i - (((i.toUInt32 >>> ((1 : Int32).toUInt32 &&& Int32.toUInt32 31)).toInt32) &&& 1431655765)
def jc2 (i : Int32) : Int32 := (i &&& 858993459) + (((i.toUInt32 >>> ((2 : Int32).toUInt32 &&& Int32.toUInt32 31)).toInt32) &&& 858993459)
def jc3 (i : Int32) : Int32 := (i + ((i.toUInt32 >>> ((4 : Int32).toUInt32 &&& Int32.toUInt32 31)).toInt32)) &&& 252645135
def jc4 (i : Int32) : Int32 := i + ((i.toUInt32 >>> ((8 : Int32).toUInt32 &&& Int32.toUInt32 31)).toInt32)
def jc5 (i : Int32) : Int32 := i + ((i.toUInt32 >>> ((16 : Int32).toUInt32 &&& Int32.toUInt32 31)).toInt32)
def jbc (i : Int32) : Int32 := jc5 (jc4 (jc3 (jc2 (jc1 i)))) &&& 63
theorem jbc_t : ∀ s, s < 64 → jbc (nI s) = nI (bc s) := by decide +kernel
def lc1 (i : Int64) : Int64 := i - (((i.toUInt64 >>> ((1 : Int32).toInt64.toUInt64 &&& Int64.toUInt64 63)).toInt64) &&& 6148914691236517205)
def lc2 (i : Int64) : Int64 := (i &&& 3689348814741910323) + (((i.toUInt64 >>> ((2 : Int32).toInt64.toUInt64 &&& Int64.toUInt64 63)).toInt64) &&& 3689348814741910323)
def lc3 (i : Int64) : Int64 := (i + ((i.toUInt64 >>> ((4 : Int32).toInt64.toUInt64 &&& Int64.toUInt64 63)).toInt64)) &&& 1085102592571150095
def lc4 (i : Int64) : Int64 := i + ((i.toUInt64 >>> ((8 : Int32).toInt64.toUInt64 &&& Int64.toUInt64 63)).toInt64)
def lc5 (i : Int64) : Int64 := i + ((i.toUInt64 >>> ((16 : Int32).toInt64.toUInt64 &&& Int64.toUInt64 63)).toInt64)
def lc6 (i : Int64) : Int64 := i + ((i.toUInt64 >>> ((32 : Int32).toInt64.toUInt64 &&& Int64.toUInt64 63)).toInt64)
def lbc (i : Int64) : Int32 := (lc6 (lc5 (lc4 (lc3 (lc2 (lc1 i)))))).toInt32 &&& 127
set_option maxRecDepth 100000 in
set_option maxHeartbeats 4000000 in
theorem me_bitCount {X : Nat × (Nat → Int32)} {Q : Option Value → bw_H → Prop} {h : bw_H} {s : Nat} (hs : s < 64) (hQ : Q (some (.int (nI (bc s)))) h) : bw_me X 0 bm_J6_bitCount_0f7a4 false [.int (nI s)] h Q := by
  show bw_go _ 0 10 1 false (some .int) cJ6_bitCount_0f7a4 0 [(0, .int _)] [] _ _
  refine go_iload_n dJ6_bitCount_0f7a4_0 rfl ?_
  refine go_iload_n dJ6_bitCount_0f7a4_1 rfl ?_
  refine go_iconst (1) dJ6_bitCount_0f7a4_2 rfl ?_
  refine go_iushr dJ6_bitCount_0f7a4_3 ?_
  refine go_ldc_w dJ6_bitCount_0f7a4_4 kc_10_265 ?_
  refine go_iand dJ6_bitCount_0f7a4_7 ?_
  refine go_isub dJ6_bitCount_0f7a4_8 ?_
  refine go_istore_n dJ6_bitCount_0f7a4_9 (Nat.lt_of_lt_of_le (Nat.lt_succ_self _) (Nat.le_of_ble_eq_true rfl)) ?_
  show bw_go _ _ _ _ _ _ _ 10 [(0, .int _)] ([]) _ _
  refine go_iload_n dJ6_bitCount_0f7a4_10 rfl ?_
  refine go_ldc_w dJ6_bitCount_0f7a4_11 kc_10_266 ?_
  refine go_iand dJ6_bitCount_0f7a4_14 ?_
  refine go_iload_n dJ6_bitCount_0f7a4_15 rfl ?_
  refine go_iconst (2) dJ6_bitCount_0f7a4_16 rfl ?_
  refine go_iushr dJ6_bitCount_0f7a4_17 ?_
  refine go_ldc_w dJ6_bitCount_0f7a4_18 kc_10_266 ?_
  refine go_iand dJ6_bitCount_0f7a4_21 ?_
  refine go_iadd dJ6_bitCount_0f7a4_22 ?_
  refine go_istore_n dJ6_bitCount_0f7a4_23 (Nat.lt_of_lt_of_le (Nat.lt_succ_self _) (Nat.le_of_ble_eq_true rfl)) ?_
  show bw_go _ _ _ _ _ _ _ 24 [(0, .int _)] ([]) _ _
  refine go_iload_n dJ6_bitCount_0f7a4_24 rfl ?_
  refine go_iload_n dJ6_bitCount_0f7a4_25 rfl ?_
  refine go_iconst (4) dJ6_bitCount_0f7a4_26 rfl ?_
  refine go_iushr dJ6_bitCount_0f7a4_27 ?_
  refine go_iadd dJ6_bitCount_0f7a4_28 ?_
  refine go_ldc_w dJ6_bitCount_0f7a4_29 kc_10_267 ?_
  refine go_iand dJ6_bitCount_0f7a4_32 ?_
  refine go_istore_n dJ6_bitCount_0f7a4_33 (Nat.lt_of_lt_of_le (Nat.lt_succ_self _) (Nat.le_of_ble_eq_true rfl)) ?_
  show bw_go _ _ _ _ _ _ _ 34 [(0, .int _)] ([]) _ _
  refine go_iload_n dJ6_bitCount_0f7a4_34 rfl ?_
  refine go_iload_n dJ6_bitCount_0f7a4_35 rfl ?_
  refine go_bipush (8) dJ6_bitCount_0f7a4_36 rfl ?_
  refine go_iushr dJ6_bitCount_0f7a4_38 ?_
  refine go_iadd dJ6_bitCount_0f7a4_39 ?_
  refine go_istore_n dJ6_bitCount_0f7a4_40 (Nat.lt_of_lt_of_le (Nat.lt_succ_self _) (Nat.le_of_ble_eq_true rfl)) ?_
  show bw_go _ _ _ _ _ _ _ 41 [(0, .int _)] ([]) _ _
  refine go_iload_n dJ6_bitCount_0f7a4_41 rfl ?_
  refine go_iload_n dJ6_bitCount_0f7a4_42 rfl ?_
  refine go_bipush (16) dJ6_bitCount_0f7a4_43 rfl ?_
  refine go_iushr dJ6_bitCount_0f7a4_45 ?_
  refine go_iadd dJ6_bitCount_0f7a4_46 ?_
  refine go_istore_n dJ6_bitCount_0f7a4_47 (Nat.lt_of_lt_of_le (Nat.lt_succ_self _) (Nat.le_of_ble_eq_true rfl)) ?_
  show bw_go _ _ _ _ _ _ _ 48 [(0, .int _)] ([]) _ _
  refine go_iload_n dJ6_bitCount_0f7a4_48 rfl ?_
  refine go_bipush (63) dJ6_bitCount_0f7a4_49 rfl ?_
  refine go_iand dJ6_bitCount_0f7a4_51 ?_
  refine go_iret dJ6_bitCount_0f7a4_52 rfl rfl ?_
  exact qi hQ (jbc_t s hs)
set_option maxRecDepth 100000 in
set_option maxHeartbeats 4000000 in
theorem me_lbitCount {X : Nat × (Nat → Int32)} {Q : Option Value → bw_H → Prop} {h : bw_H} {x : Int64} (hQ : Q (some (.int (lbc x))) h) : bw_me X 0 bm_J13_bitCount_95d88 false [.long x] h Q := by
  show bw_go _ 0 11 2 false (some .int) cJ13_bitCount_95d88 0 [(0, .long _)] [] _ _
  refine go_lload_n dJ13_bitCount_95d88_0 rfl ?_
  refine go_lload_n dJ13_bitCount_95d88_1 rfl ?_
  refine go_iconst (1) dJ13_bitCount_95d88_2 rfl ?_
  refine go_lushr dJ13_bitCount_95d88_3 ?_
  refine go_ldc2_w dJ13_bitCount_95d88_4 kc_11_314 ?_
  refine go_land dJ13_bitCount_95d88_7 ?_
  refine go_lsub dJ13_bitCount_95d88_8 ?_
  refine go_lstore_n dJ13_bitCount_95d88_9 (Nat.lt_of_lt_of_le (Nat.lt_succ_self _) (Nat.le_of_ble_eq_true rfl)) ?_
  show bw_go _ _ _ _ _ _ _ 10 [(0, .long _)] ([]) _ _
  refine go_lload_n dJ13_bitCount_95d88_10 rfl ?_
  refine go_ldc2_w dJ13_bitCount_95d88_11 kc_11_316 ?_
  refine go_land dJ13_bitCount_95d88_14 ?_
  refine go_lload_n dJ13_bitCount_95d88_15 rfl ?_
  refine go_iconst (2) dJ13_bitCount_95d88_16 rfl ?_
  refine go_lushr dJ13_bitCount_95d88_17 ?_
  refine go_ldc2_w dJ13_bitCount_95d88_18 kc_11_316 ?_
  refine go_land dJ13_bitCount_95d88_21 ?_
  refine go_ladd dJ13_bitCount_95d88_22 ?_
  refine go_lstore_n dJ13_bitCount_95d88_23 (Nat.lt_of_lt_of_le (Nat.lt_succ_self _) (Nat.le_of_ble_eq_true rfl)) ?_
  show bw_go _ _ _ _ _ _ _ 24 [(0, .long _)] ([]) _ _
  refine go_lload_n dJ13_bitCount_95d88_24 rfl ?_
  refine go_lload_n dJ13_bitCount_95d88_25 rfl ?_
  refine go_iconst (4) dJ13_bitCount_95d88_26 rfl ?_
  refine go_lushr dJ13_bitCount_95d88_27 ?_
  refine go_ladd dJ13_bitCount_95d88_28 ?_
  refine go_ldc2_w dJ13_bitCount_95d88_29 kc_11_318 ?_
  refine go_land dJ13_bitCount_95d88_32 ?_
  refine go_lstore_n dJ13_bitCount_95d88_33 (Nat.lt_of_lt_of_le (Nat.lt_succ_self _) (Nat.le_of_ble_eq_true rfl)) ?_
  show bw_go _ _ _ _ _ _ _ 34 [(0, .long _)] ([]) _ _
  refine go_lload_n dJ13_bitCount_95d88_34 rfl ?_
  refine go_lload_n dJ13_bitCount_95d88_35 rfl ?_
  refine go_bipush (8) dJ13_bitCount_95d88_36 rfl ?_
  refine go_lushr dJ13_bitCount_95d88_38 ?_
  refine go_ladd dJ13_bitCount_95d88_39 ?_
  refine go_lstore_n dJ13_bitCount_95d88_40 (Nat.lt_of_lt_of_le (Nat.lt_succ_self _) (Nat.le_of_ble_eq_true rfl)) ?_
  show bw_go _ _ _ _ _ _ _ 41 [(0, .long _)] ([]) _ _
  refine go_lload_n dJ13_bitCount_95d88_41 rfl ?_
  refine go_lload_n dJ13_bitCount_95d88_42 rfl ?_
  refine go_bipush (16) dJ13_bitCount_95d88_43 rfl ?_
  refine go_lushr dJ13_bitCount_95d88_45 ?_
  refine go_ladd dJ13_bitCount_95d88_46 ?_
  refine go_lstore_n dJ13_bitCount_95d88_47 (Nat.lt_of_lt_of_le (Nat.lt_succ_self _) (Nat.le_of_ble_eq_true rfl)) ?_
  show bw_go _ _ _ _ _ _ _ 48 [(0, .long _)] ([]) _ _
  refine go_lload_n dJ13_bitCount_95d88_48 rfl ?_
  refine go_lload_n dJ13_bitCount_95d88_49 rfl ?_
  refine go_bipush (32) dJ13_bitCount_95d88_50 rfl ?_
  refine go_lushr dJ13_bitCount_95d88_52 ?_
  refine go_ladd dJ13_bitCount_95d88_53 ?_
  refine go_lstore_n dJ13_bitCount_95d88_54 (Nat.lt_of_lt_of_le (Nat.lt_succ_self _) (Nat.le_of_ble_eq_true rfl)) ?_
  show bw_go _ _ _ _ _ _ _ 55 [(0, .long _)] ([]) _ _
  refine go_lload_n dJ13_bitCount_95d88_55 rfl ?_
  refine go_l2i dJ13_bitCount_95d88_56 ?_
  refine go_bipush (127) dJ13_bitCount_95d88_57 rfl ?_
  refine go_iand dJ13_bitCount_95d88_59 ?_
  refine go_iret dJ13_bitCount_95d88_60 rfl rfl ?_
  exact hQ
/-- what a bear that is of kind w tells -/
def mkf (C : CT) (w i : Nat) : Nat := if w = 1 then bc (cV C i) else if w = 2 then bc (see (cK C i) (cR C i) (cV C i) (cE C i) &&& (63 ^^^ cV C i)) else if w = 3 then 5 - cR C i else if w = 4 then bc (see (cK C i) (cR C i) (cV C i) (cE C i) &&& (63 ^^^ cD C)) else 3 - cR C i
theorem max_t : ∀ a, a < 10 → ∀ r, r < 10 → (if (0 : Int32) < nI a - nI r then nI a - nI r else 0) = nI (a - r) := by decide +kernel
