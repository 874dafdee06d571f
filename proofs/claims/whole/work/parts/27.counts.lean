/-! bit counts; Court: deeds, copies -/
def bw_wi (h : bw_H) (I : Nat → Nat → Int32) : bw_H := (h.1, h.2.1, I, h.2.2.2)
theorem wi_q {Q : Option Value → bw_H → Prop} {r : Option Value} {h : bw_H} {P : (Nat → Nat → Int32) → Prop} (hQ : ∀ I, P I → Q r (bw_wi h I)) {H : bw_H} (e : H = bw_wi h (bw_i H)) (hp : P (bw_i H)) : Q r H := by rw [e]; exact hQ _ hp
theorem i_wi (h : bw_H) (I : Nat → Nat → Int32) : bw_i (bw_wi h I) = I := rfl
theorem i_si_s (h : bw_H) (q k : Nat) (v : Int32) : bw_i (bw_si h q k v) q = bw_up (bw_i h q) k v := bw_up2_s _ _ _ _
theorem i_si_o {h : bw_H} {p q k : Nat} {v : Int32} (n : p ≠ q) : bw_i (bw_si h q k v) p = bw_i h p := bw_up2_o n
theorem mix_i {F G : Nat → Int32} {n j : Nat} (h : j < n) : mix F G n j = F j := by unfold mix; rw [if_pos h]
theorem mix_o {F G : Nat → Int32} {n j : Nat} (h : n ≤ j) : mix F G n j = G j := by unfold mix; rw [if_neg (by omega)]
def bc (s : Nat) : Nat := cnt (fun i => s.testBit i) 6
def jc1 (i : Int32) : Int32 := i - (((i.toUInt32 >>> ((1 : Int32).toUInt32 &&& Int32.toUInt32 31)).toInt32) &&& 1431655765)
def jc2 (i : Int32) : Int32 := (i &&& 858993459) + (((i.toUInt32 >>> ((2 : Int32).toUInt32 &&& Int32.toUInt32 31)).toInt32) &&& 858993459)
def jc3 (i : Int32) : Int32 := (i + ((i.toUInt32 >>> ((4 : Int32).toUInt32 &&& Int32.toUInt32 31)).toInt32)) &&& 252645135
def jc4 (i : Int32) : Int32 := i + ((i.toUInt32 >>> ((8 : Int32).toUInt32 &&& Int32.toUInt32 31)).toInt32)
def jc5 (i : Int32) : Int32 := i + ((i.toUInt32 >>> ((16 : Int32).toUInt32 &&& Int32.toUInt32 31)).toInt32)
def jbc (i : Int32) : Int32 := jc5 (jc4 (jc3 (jc2 (jc1 i)))) &&& 63
theorem jbc_t : ∀ s, s < 64 → jbc (nI s) = nI (bc s) := by decide +kernel
def lc1 (i : Int64) : Int64 := i - (((i.toUInt64 >>> ((1 : Int32).toInt64.toUInt64 &&& Int64.toUInt64 63)).toInt64) &&& 6148914691236517205)
def lc2 (i : Int64) : Int64 := (i &&& 3689348814741910323) + (((i.toUInt64 >>> ((2 : Int32).toInt64.toUInt64 &&& Int64.toUInt64 63)).toInt64) &&& 3689348814741910323)
def lc3 (i : Int64) : Int64 := (i + ((i.toUInt64 >>> ((4 : Int32).toInt64.toUInt64 &&& Int64.toUInt64 63)).toInt64)) &&& 1085102592571150095
def lc4 (i : Int64) : Int64 := i + ((i.toUInt64 >>> ((8 : Int32).toInt64.toUInt64 &&& Int64.toUInt64 63)).toInt64)
def lc5 (i : Int64) : Int64 := i + ((i.toUInt64 >>> ((16 : Int32).toInt64.toUInt64 &&& Int64.toUInt64 63)).toInt64)
def lc6 (i : Int64) : Int64 := i + ((i.toUInt64 >>> ((32 : Int32).toInt64.toUInt64 &&& Int64.toUInt64 63)).toInt64)
def lbc (i : Int64) : Int32 := (lc6 (lc5 (lc4 (lc3 (lc2 (lc1 i)))))).toInt32 &&& 127
set_option maxRecDepth 100000 in
set_option maxHeartbeats 4000000 in
theorem me_bitCount {X : Nat × (Nat → Int32)} {Q : Option Value → bw_H → Prop} {h : bw_H} {s : Nat} (hs : s < 64) (hQ : Q (some (.int (nI (bc s)))) h) : bw_me X 0 bm_J6_bitCount_0f7a4 false [.int (nI s)] h Q := by
  show bw_go _ 0 10 1 false (some .int) cJ6_bitCount_0f7a4 0 [(0, .int _)] [] _ _
  refine go_iload_n dJ6_bitCount_0f7a4_0 rfl ?_
  refine go_iload_n dJ6_bitCount_0f7a4_1 rfl ?_
  refine go_iconst (1) dJ6_bitCount_0f7a4_2 rfl ?_
  refine go_iushr dJ6_bitCount_0f7a4_3 ?_
  refine go_ldc_w dJ6_bitCount_0f7a4_4 kc_10_265 ?_
  refine go_iand dJ6_bitCount_0f7a4_7 ?_
  refine go_isub dJ6_bitCount_0f7a4_8 ?_
  refine go_istore_n dJ6_bitCount_0f7a4_9 (Nat.lt_of_lt_of_le (Nat.lt_succ_self _) (Nat.le_of_ble_eq_true rfl)) ?_
  show bw_go _ _ _ _ _ _ _ 10 [(0, .int _)] ([]) _ _
  refine go_iload_n dJ6_bitCount_0f7a4_10 rfl ?_
  refine go_ldc_w dJ6_bitCount_0f7a4_11 kc_10_266 ?_
  refine go_iand dJ6_bitCount_0f7a4_14 ?_
  refine go_iload_n dJ6_bitCount_0f7a4_15 rfl ?_
  refine go_iconst (2) dJ6_bitCount_0f7a4_16 rfl ?_
  refine go_iushr dJ6_bitCount_0f7a4_17 ?_
  refine go_ldc_w dJ6_bitCount_0f7a4_18 kc_10_266 ?_
  refine go_iand dJ6_bitCount_0f7a4_21 ?_
  refine go_iadd dJ6_bitCount_0f7a4_22 ?_
  refine go_istore_n dJ6_bitCount_0f7a4_23 (Nat.lt_of_lt_of_le (Nat.lt_succ_self _) (Nat.le_of_ble_eq_true rfl)) ?_
  show bw_go _ _ _ _ _ _ _ 24 [(0, .int _)] ([]) _ _
  refine go_iload_n dJ6_bitCount_0f7a4_24 rfl ?_
  refine go_iload_n dJ6_bitCount_0f7a4_25 rfl ?_
  refine go_iconst (4) dJ6_bitCount_0f7a4_26 rfl ?_
  refine go_iushr dJ6_bitCount_0f7a4_27 ?_
  refine go_iadd dJ6_bitCount_0f7a4_28 ?_
  refine go_ldc_w dJ6_bitCount_0f7a4_29 kc_10_267 ?_
  refine go_iand dJ6_bitCount_0f7a4_32 ?_
  refine go_istore_n dJ6_bitCount_0f7a4_33 (Nat.lt_of_lt_of_le (Nat.lt_succ_self _) (Nat.le_of_ble_eq_true rfl)) ?_
  show bw_go _ _ _ _ _ _ _ 34 [(0, .int _)] ([]) _ _
  refine go_iload_n dJ6_bitCount_0f7a4_34 rfl ?_
  refine go_iload_n dJ6_bitCount_0f7a4_35 rfl ?_
  refine go_bipush (8) dJ6_bitCount_0f7a4_36 rfl ?_
  refine go_iushr dJ6_bitCount_0f7a4_38 ?_
  refine go_iadd dJ6_bitCount_0f7a4_39 ?_
  refine go_istore_n dJ6_bitCount_0f7a4_40 (Nat.lt_of_lt_of_le (Nat.lt_succ_self _) (Nat.le_of_ble_eq_true rfl)) ?_
  show bw_go _ _ _ _ _ _ _ 41 [(0, .int _)] ([]) _ _
  refine go_iload_n dJ6_bitCount_0f7a4_41 rfl ?_
  refine go_iload_n dJ6_bitCount_0f7a4_42 rfl ?_
  refine go_bipush (16) dJ6_bitCount_0f7a4_43 rfl ?_
  refine go_iushr dJ6_bitCount_0f7a4_45 ?_
  refine go_iadd dJ6_bitCount_0f7a4_46 ?_
  refine go_istore_n dJ6_bitCount_0f7a4_47 (Nat.lt_of_lt_of_le (Nat.lt_succ_self _) (Nat.le_of_ble_eq_true rfl)) ?_
  show bw_go _ _ _ _ _ _ _ 48 [(0, .int _)] ([]) _ _
  refine go_iload_n dJ6_bitCount_0f7a4_48 rfl ?_
  refine go_bipush (63) dJ6_bitCount_0f7a4_49 rfl ?_
  refine go_iand dJ6_bitCount_0f7a4_51 ?_
  refine go_iret dJ6_bitCount_0f7a4_52 rfl rfl ?_
  exact qi hQ (jbc_t s hs)
set_option maxRecDepth 100000 in
set_option maxHeartbeats 4000000 in
theorem me_lbitCount {X : Nat × (Nat → Int32)} {Q : Option Value → bw_H → Prop} {h : bw_H} {x : Int64} (hQ : Q (some (.int (lbc x))) h) : bw_me X 0 bm_J13_bitCount_95d88 false [.long x] h Q := by
  show bw_go _ 0 11 2 false (some .int) cJ13_bitCount_95d88 0 [(0, .long _)] [] _ _
  refine go_lload_n dJ13_bitCount_95d88_0 rfl ?_
  refine go_lload_n dJ13_bitCount_95d88_1 rfl ?_
  refine go_iconst (1) dJ13_bitCount_95d88_2 rfl ?_
  refine go_lushr dJ13_bitCount_95d88_3 ?_
  refine go_ldc2_w dJ13_bitCount_95d88_4 kc_11_314 ?_
  refine go_land dJ13_bitCount_95d88_7 ?_
  refine go_lsub dJ13_bitCount_95d88_8 ?_
  refine go_lstore_n dJ13_bitCount_95d88_9 (Nat.lt_of_lt_of_le (Nat.lt_succ_self _) (Nat.le_of_ble_eq_true rfl)) ?_
  show bw_go _ _ _ _ _ _ _ 10 [(0, .long _)] ([]) _ _
  refine go_lload_n dJ13_bitCount_95d88_10 rfl ?_
  refine go_ldc2_w dJ13_bitCount_95d88_11 kc_11_316 ?_
  refine go_land dJ13_bitCount_95d88_14 ?_
  refine go_lload_n dJ13_bitCount_95d88_15 rfl ?_
  refine go_iconst (2) dJ13_bitCount_95d88_16 rfl ?_
  refine go_lushr dJ13_bitCount_95d88_17 ?_
  refine go_ldc2_w dJ13_bitCount_95d88_18 kc_11_316 ?_
  refine go_land dJ13_bitCount_95d88_21 ?_
  refine go_ladd dJ13_bitCount_95d88_22 ?_
  refine go_lstore_n dJ13_bitCount_95d88_23 (Nat.lt_of_lt_of_le (Nat.lt_succ_self _) (Nat.le_of_ble_eq_true rfl)) ?_
  show bw_go _ _ _ _ _ _ _ 24 [(0, .long _)] ([]) _ _
  refine go_lload_n dJ13_bitCount_95d88_24 rfl ?_
  refine go_lload_n dJ13_bitCount_95d88_25 rfl ?_
  refine go_iconst (4) dJ13_bitCount_95d88_26 rfl ?_
  refine go_lushr dJ13_bitCount_95d88_27 ?_
  refine go_ladd dJ13_bitCount_95d88_28 ?_
  refine go_ldc2_w dJ13_bitCount_95d88_29 kc_11_318 ?_
  refine go_land dJ13_bitCount_95d88_32 ?_
  refine go_lstore_n dJ13_bitCount_95d88_33 (Nat.lt_of_lt_of_le (Nat.lt_succ_self _) (Nat.le_of_ble_eq_true rfl)) ?_
  show bw_go _ _ _ _ _ _ _ 34 [(0, .long _)] ([]) _ _
  refine go_lload_n dJ13_bitCount_95d88_34 rfl ?_
  refine go_lload_n dJ13_bitCount_95d88_35 rfl ?_
  refine go_bipush (8) dJ13_bitCount_95d88_36 rfl ?_
  refine go_lushr dJ13_bitCount_95d88_38 ?_
  refine go_ladd dJ13_bitCount_95d88_39 ?_
  refine go_lstore_n dJ13_bitCount_95d88_40 (Nat.lt_of_lt_of_le (Nat.lt_succ_self _) (Nat.le_of_ble_eq_true rfl)) ?_
  show bw_go _ _ _ _ _ _ _ 41 [(0, .long _)] ([]) _ _
  refine go_lload_n dJ13_bitCount_95d88_41 rfl ?_
  refine go_lload_n dJ13_bitCount_95d88_42 rfl ?_
  refine go_bipush (16) dJ13_bitCount_95d88_43 rfl ?_
  refine go_lushr dJ13_bitCount_95d88_45 ?_
  refine go_ladd dJ13_bitCount_95d88_46 ?_
  refine go_lstore_n dJ13_bitCount_95d88_47 (Nat.lt_of_lt_of_le (Nat.lt_succ_self _) (Nat.le_of_ble_eq_true rfl)) ?_
  show bw_go _ _ _ _ _ _ _ 48 [(0, .long _)] ([]) _ _
  refine go_lload_n dJ13_bitCount_95d88_48 rfl ?_
  refine go_lload_n dJ13_bitCount_95d88_49 rfl ?_
  refine go_bipush (32) dJ13_bitCount_95d88_50 rfl ?_
  refine go_lushr dJ13_bitCount_95d88_52 ?_
  refine go_ladd dJ13_bitCount_95d88_53 ?_
  refine go_lstore_n dJ13_bitCount_95d88_54 (Nat.lt_of_lt_of_le (Nat.lt_succ_self _) (Nat.le_of_ble_eq_true rfl)) ?_
  show bw_go _ _ _ _ _ _ _ 55 [(0, .long _)] ([]) _ _
  refine go_lload_n dJ13_bitCount_95d88_55 rfl ?_
  refine go_l2i dJ13_bitCount_95d88_56 ?_
  refine go_bipush (127) dJ13_bitCount_95d88_57 rfl ?_
  refine go_iand dJ13_bitCount_95d88_59 ?_
  refine go_iret dJ13_bitCount_95d88_60 rfl rfl ?_
  exact hQ
/-- what a bear that is of kind w tells -/
def mkf (C : CT) (w i : Nat) : Nat := if w = 1 then bc (cV C i) else if w = 2 then bc (see (cK C i) (cR C i) (cV C i) (cE C i) &&& (63 ^^^ cV C i)) else if w = 3 then 5 - cR C i else if w = 4 then bc (see (cK C i) (cR C i) (cV C i) (cE C i) &&& (63 ^^^ cD C)) else 3 - cR C i
theorem max_t : ∀ a, a < 10 → ∀ r, r < 10 → (if (0 : Int32) < nI a - nI r then nI a - nI r else 0) = nI (a - r) := by decide +kernel
set_option maxRecDepth 100000 in
set_option maxHeartbeats 4000000 in
theorem me_X1_markOf {X : Nat × (Nat → Int32)} {Q : Option Value → bw_H → Prop} {h : bw_H} {p : Nat} {C : CT} (hc : bw_ct h p C) {i w : Nat} (hi : i < cN C) (hw : 1 ≤ w) (hw2 : w < 6) (hQ : Q (some (.int (nI (mkf C w i)))) h) : bw_me X 2 bm_X1_markOf false [.ref p, .int (nI i), .int (nI w)] h Q := by
  show bw_go _ 2 1 4 false (some .int) cX1_markOf 0 [(0, .ref _), (1, .int _), (2, .int _)] [] _ _
  have k1 := hc.2.2.2.2.2.2 i hi
  refine go_aload_n dX1_markOf_0 rfl ?_
  refine go_iload_n dX1_markOf_1 rfl ?_
  refine go_aload_n dX1_markOf_2 rfl ?_
  refine go_gfr dX1_markOf_3 fl_1_29 rfl hc.1.1.1 hc.1.1.2.1 hc.1.1.2.2.1 ?_
  refine go_iload_n dX1_markOf_6 rfl ?_
  refine go_cv (as := [.int _]) 0 dX1_markOf_7 mt_1_60 (Or.inr rfl) rfl rfl hc.1.2.1.1 hc.1.2.1.2.1 (Nat.le_of_ble_eq_true rfl) (Nat.le_of_ble_eq_true rfl) (Nat.le_of_ble_eq_true rfl) (Nat.le_of_ble_eq_true rfl) (Nat.le_of_ble_eq_true rfl) ?_
  refine me_X0_get hc.1.2.1 ?_
  rw [cg_n (Nat.lt_of_lt_of_le hi hc.2.2.1) (Nat.le_of_ble_eq_true rfl), (hc.2.1.2.2.2.2 _ hi).1]
  show bw_go _ _ _ _ _ _ _ 10 [(0, .ref _), (1, .int _), (2, .int _)] ((.int _) :: (.int _) :: (.ref _) :: []) _ _
  refine go_aload_n dX1_markOf_10 rfl ?_
  refine go_gfr dX1_markOf_11 fl_1_36 rfl hc.1.1.1 hc.1.1.2.1 hc.1.1.2.2.2.2.1 ?_
  refine go_iload_n dX1_markOf_14 rfl ?_
  refine go_cv (as := [.int _]) 0 dX1_markOf_15 mt_1_60 (Or.inr rfl) rfl rfl hc.1.2.2.2.1.1 hc.1.2.2.2.1.2.1 (Nat.le_of_ble_eq_true rfl) (Nat.le_of_ble_eq_true rfl) (Nat.le_of_ble_eq_true rfl) (Nat.le_of_ble_eq_true rfl) (Nat.le_of_ble_eq_true rfl) ?_
  refine me_X0_get hc.1.2.2.2.1 ?_
  rw [cg_n (Nat.lt_of_lt_of_le hi hc.2.2.1) (Nat.le_of_ble_eq_true rfl), (hc.2.1.2.2.2.2 _ hi).2.2.1]
  show bw_go _ _ _ _ _ _ _ 18 [(0, .ref _), (1, .int _), (2, .int _)] ((.int _) :: (.int _) :: (.int _) :: (.ref _) :: []) _ _
  refine go_cv (as := [.int _, .int _, .int _]) 1 dX1_markOf_18 mt_1_75 (Or.inl rfl) rfl rfl hc.1.1.1 hc.1.1.2.1 (Nat.le_of_ble_eq_true rfl) (Nat.le_of_ble_eq_true rfl) (Nat.le_of_ble_eq_true rfl) (Nat.le_of_ble_eq_true rfl) (Nat.le_of_ble_eq_true rfl) ?_
  refine me_X1_seenBy hc hi k1.1 (by omega) ?_
  show bw_go _ _ _ _ _ _ _ 21 [(0, .ref _), (1, .int _), (2, .int _)] ((.int _) :: []) _ _
  refine go_istore_n dX1_markOf_21 (Nat.lt_of_lt_of_le (Nat.lt_succ_self _) (Nat.le_of_ble_eq_true rfl)) ?_
  show bw_go _ _ _ _ _ _ _ 22 [(3, .int _), (0, .ref _), (1, .int _), (2, .int _)] ([]) _ _
  refine go_iload_n dX1_markOf_22 rfl ?_
  rcases (show w = 1 ∨ w = 2 ∨ w = 3 ∨ w = 4 ∨ w = 5 by omega) with rfl | rfl | rfl | rfl | rfl
  · -- w = 1
    refine go_tsIn (pc' := 52) dX1_markOf_23 (by decide) (by decide) rfl rfl ?_
    show bw_go _ _ _ _ _ _ _ 52 [(3, .int _), (0, .ref _), (1, .int _), (2, .int _)] ([]) _ _
    refine go_aload_n dX1_markOf_52 rfl ?_
    refine go_gfr dX1_markOf_53 fl_1_39 rfl hc.1.1.1 hc.1.1.2.1 hc.1.1.2.2.2.2.2.1 ?_
    refine go_iload_n dX1_markOf_56 rfl ?_
    refine go_cv (as := [.int _]) 0 dX1_markOf_57 mt_1_60 (Or.inr rfl) rfl rfl hc.1.2.2.2.2.1.1 hc.1.2.2.2.2.1.2.1 (Nat.le_of_ble_eq_true rfl) (Nat.le_of_ble_eq_true rfl) (Nat.le_of_ble_eq_true rfl) (Nat.le_of_ble_eq_true rfl) (Nat.le_of_ble_eq_true rfl) ?_
    refine me_X0_get hc.1.2.2.2.2.1 ?_
    rw [cg_n (Nat.lt_of_lt_of_le hi hc.2.2.1) (Nat.le_of_ble_eq_true rfl), (hc.2.1.2.2.2.2 _ hi).2.2.2]
    show bw_go _ _ _ _ _ _ _ 60 [(3, .int _), (0, .ref _), (1, .int _), (2, .int _)] ((.int _) :: []) _ _
    refine go_cs (as := [.int _]) 0 dX1_markOf_60 rfl rfl mt_1_89 (Nat.le_of_ble_eq_true rfl) rfl rfl (Nat.le_of_ble_eq_true rfl) (Nat.le_of_ble_eq_true rfl) (Nat.le_of_ble_eq_true rfl) (Nat.le_of_ble_eq_true rfl) ?_
    refine me_bitCount k1.2.2.2 ?_
    show bw_go _ _ _ _ _ _ _ 63 [(3, .int _), (0, .ref _), (1, .int _), (2, .int _)] ((.int _) :: []) _ _
    refine go_iret dX1_markOf_63 rfl rfl ?_
    exact hQ
  · -- w = 2
    refine go_tsIn (pc' := 64) dX1_markOf_23 (by decide) (by decide) rfl rfl ?_
    show bw_go _ _ _ _ _ _ _ 64 [(3, .int _), (0, .ref _), (1, .int _), (2, .int _)] ([]) _ _
    refine go_iload_n dX1_markOf_64 rfl ?_
    refine go_aload_n dX1_markOf_65 rfl ?_
    refine go_gfr dX1_markOf_66 fl_1_39 rfl hc.1.1.1 hc.1.1.2.1 hc.1.1.2.2.2.2.2.1 ?_
    refine go_iload_n dX1_markOf_69 rfl ?_
    refine go_cv (as := [.int _]) 0 dX1_markOf_70 mt_1_60 (Or.inr rfl) rfl rfl hc.1.2.2.2.2.1.1 hc.1.2.2.2.2.1.2.1 (Nat.le_of_ble_eq_true rfl) (Nat.le_of_ble_eq_true rfl) (Nat.le_of_ble_eq_true rfl) (Nat.le_of_ble_eq_true rfl) (Nat.le_of_ble_eq_true rfl) ?_
    refine me_X0_get hc.1.2.2.2.2.1 ?_
    rw [cg_n (Nat.lt_of_lt_of_le hi hc.2.2.1) (Nat.le_of_ble_eq_true rfl), (hc.2.1.2.2.2.2 _ hi).2.2.2]
    show bw_go _ _ _ _ _ _ _ 73 [(3, .int _), (0, .ref _), (1, .int _), (2, .int _)] ((.int _) :: (.int _) :: []) _ _
    refine go_iconst (-1) dX1_markOf_73 rfl ?_
    refine go_ixor dX1_markOf_74 ?_
    refine go_iand dX1_markOf_75 ?_
    refine go_cs (as := [.int _]) 0 dX1_markOf_76 rfl rfl mt_1_89 (Nat.le_of_ble_eq_true rfl) rfl rfl (Nat.le_of_ble_eq_true rfl) (Nat.le_of_ble_eq_true rfl) (Nat.le_of_ble_eq_true rfl) (Nat.le_of_ble_eq_true rfl) ?_
    rw [not_n _ k1.2.2.2 _ (see_lt k1.2.2.2)]
    refine me_bitCount (and_lt (see_lt k1.2.2.2)) ?_
    show bw_go _ _ _ _ _ _ _ 79 [(3, .int _), (0, .ref _), (1, .int _), (2, .int _)] ((.int _) :: []) _ _
    refine go_iret dX1_markOf_79 rfl rfl ?_
    exact hQ
  · -- w = 3
    refine go_tsIn (pc' := 80) dX1_markOf_23 (by decide) (by decide) rfl rfl ?_
    show bw_go _ _ _ _ _ _ _ 80 [(3, .int _), (0, .ref _), (1, .int _), (2, .int _)] ([]) _ _
    refine go_iconst (0) dX1_markOf_80 rfl ?_
    refine go_iconst (5) dX1_markOf_81 rfl ?_
    refine go_aload_n dX1_markOf_82 rfl ?_
    refine go_gfr dX1_markOf_83 fl_1_36 rfl hc.1.1.1 hc.1.1.2.1 hc.1.1.2.2.2.2.1 ?_
    refine go_iload_n dX1_markOf_86 rfl ?_
    refine go_cv (as := [.int _]) 0 dX1_markOf_87 mt_1_60 (Or.inr rfl) rfl rfl hc.1.2.2.2.1.1 hc.1.2.2.2.1.2.1 (Nat.le_of_ble_eq_true rfl) (Nat.le_of_ble_eq_true rfl) (Nat.le_of_ble_eq_true rfl) (Nat.le_of_ble_eq_true rfl) (Nat.le_of_ble_eq_true rfl) ?_
    refine me_X0_get hc.1.2.2.2.1 ?_
    rw [cg_n (Nat.lt_of_lt_of_le hi hc.2.2.1) (Nat.le_of_ble_eq_true rfl), (hc.2.1.2.2.2.2 _ hi).2.2.1]
    show bw_go _ _ _ _ _ _ _ 90 [(3, .int _), (0, .ref _), (1, .int _), (2, .int _)] ((.int _) :: (.int _) :: (.int _) :: []) _ _
    refine go_isub dX1_markOf_90 ?_
    refine go_max dX1_markOf_91 rfl (Nat.le_of_ble_eq_true rfl) ?_
    refine go_iret dX1_markOf_94 rfl rfl ?_
    exact qi hQ (max_t 5 (by decide) _ (by omega))
  · -- w = 4
    refine go_tsIn (pc' := 95) dX1_markOf_23 (by decide) (by decide) rfl rfl ?_
    show bw_go _ _ _ _ _ _ _ 95 [(3, .int _), (0, .ref _), (1, .int _), (2, .int _)] ([]) _ _
    refine go_iload_n dX1_markOf_95 rfl ?_
    refine go_aload_n dX1_markOf_96 rfl ?_
    refine go_gfi dX1_markOf_97 fl_1_15 rfl hc.1.1.1 hc.1.1.2.1 ?_
    rw [hc.2.1.2.1]
    refine go_iconst (-1) dX1_markOf_100 rfl ?_
    refine go_ixor dX1_markOf_101 ?_
    refine go_iand dX1_markOf_102 ?_
    refine go_cs (as := [.int _]) 0 dX1_markOf_103 rfl rfl mt_1_89 (Nat.le_of_ble_eq_true rfl) rfl rfl (Nat.le_of_ble_eq_true rfl) (Nat.le_of_ble_eq_true rfl) (Nat.le_of_ble_eq_true rfl) (Nat.le_of_ble_eq_true rfl) ?_
    rw [not_n _ hc.2.2.2.1 _ (see_lt k1.2.2.2)]
    refine me_bitCount (and_lt (see_lt k1.2.2.2)) ?_
    show bw_go _ _ _ _ _ _ _ 106 [(3, .int _), (0, .ref _), (1, .int _), (2, .int _)] ((.int _) :: []) _ _
    refine go_iret dX1_markOf_106 rfl rfl ?_
    exact hQ
  · -- w = 5
    refine go_tsOut (pc' := 107) dX1_markOf_23 (by decide) rfl ?_
    show bw_go _ _ _ _ _ _ _ 107 [(3, .int _), (0, .ref _), (1, .int _), (2, .int _)] ([]) _ _
    refine go_iconst (0) dX1_markOf_107 rfl ?_
    refine go_iconst (3) dX1_markOf_108 rfl ?_
    refine go_aload_n dX1_markOf_109 rfl ?_
    refine go_gfr dX1_markOf_110 fl_1_36 rfl hc.1.1.1 hc.1.1.2.1 hc.1.1.2.2.2.2.1 ?_
    refine go_iload_n dX1_markOf_113 rfl ?_
    refine go_cv (as := [.int _]) 0 dX1_markOf_114 mt_1_60 (Or.inr rfl) rfl rfl hc.1.2.2.2.1.1 hc.1.2.2.2.1.2.1 (Nat.le_of_ble_eq_true rfl) (Nat.le_of_ble_eq_true rfl) (Nat.le_of_ble_eq_true rfl) (Nat.le_of_ble_eq_true rfl) (Nat.le_of_ble_eq_true rfl) ?_
    refine me_X0_get hc.1.2.2.2.1 ?_
    rw [cg_n (Nat.lt_of_lt_of_le hi hc.2.2.1) (Nat.le_of_ble_eq_true rfl), (hc.2.1.2.2.2.2 _ hi).2.2.1]
    show bw_go _ _ _ _ _ _ _ 117 [(3, .int _), (0, .ref _), (1, .int _), (2, .int _)] ((.int _) :: (.int _) :: (.int _) :: []) _ _
    refine go_isub dX1_markOf_117 ?_
    refine go_max dX1_markOf_118 rfl (Nat.le_of_ble_eq_true rfl) ?_
    refine go_iret dX1_markOf_121 rfl rfl ?_
    exact qi hQ (max_t 3 (by decide) _ (by omega))
