/-! the reference: what is told, balances, what is shown -/
theorem mr_k {h : bw_H} {S : ST} (hm : MR h S) : co_k (nowC S) := hsT_k hm.2.2.2.2.2.2.2.1 (Nat.le_refl _)
theorem mr_v {h : bw_H} {S : ST} (hm : MR h S) : mcv (bw_i h 61) (nowC S) := hm.2.1.1
def anC (C : CT) (i t dn : Nat) : Int32 := ans (cW C) i (cK C i) (cR C i) (cV C i) (cE C i) t dn
def toC (C : CT) (i : Nat) : Nat := tol (cW C) i (cK C i) (cR C i) (cV C i) (cE C i)
theorem ans_9 {C : CT} {i t dn : Nat} : anC C i t dn = -9 ↔ ¬ (toC C i).testBit t = true := by
  unfold anC ans toC
  constructor
  · intro z y
    rw [if_pos y] at z
    split at z <;> exact absurd z (by decide)
  · intro z; rw [if_neg z]
theorem ans_01 {C : CT} {i t dn : Nat} (h : ¬ anC C i t dn = -9) : anC C i t dn = 0 ∨ anC C i t dn = 1 := by
  unfold anC ans at h ⊢
  split
  · split
    · exact Or.inr rfl
    · exact Or.inl rfl
  · rename_i z; rw [if_neg z] at h; exact absurd rfl h
theorem orf_id : ∀ x, x < 64 → orf (fun t => if x.testBit t = true then 2 ^ t else 0) 6 = x := by decide +kernel
theorem toC_lt {C : CT} {i : Nat} (hk : co_k C) (hi : i < cN C) : toC C i < 64 := tol_lt (hk.2.2.2.2 i hi).2.2.2
def vlt (x : Int32) : Int := if x = -9 then 0 else 2 * x.toInt - 1
theorem vlt_9 {x : Int32} (h : x = -9) : vlt x = 0 := if_pos h
theorem vlt_n {x : Int32} (h : ¬ x = -9) (h2 : x = 0 ∨ x = 1) : Int32.ofInt (vlt x) = 2 * x - 1 := by
  unfold vlt
  rw [if_neg h]
  rcases h2 with rfl | rfl <;> rfl
theorem bal_ans {C : CT} {s t k : Nat} (ht : t < 6) (hk : co_k C) (hi : k < cN C) : bal (taC C) s t (k + 1) = bal (taC C) s t k + (if s.testBit k = true then vlt (anC C k t (cD C)) else 0) := by
  have e0 : bal (taC C) s t (k + 1) = bal (taC C) s t k + (if s.testBit k = true then (if ((taC C).2.1 k).testBit t = true then 1 else 0) - (if ((taC C).2.2 k).testBit t = true then 1 else 0) else 0) := rfl
  rw [e0]
  congr 1
  by_cases z : s.testBit k = true
  · rw [if_pos z, if_pos z]
    show (if (one (toC C k) (cK C k) (cR C k) (cD C)).testBit t = true then (1 : Int) else 0) - (if (toC C k &&& (63 ^^^ one (toC C k) (cK C k) (cR C k) (cD C))).testBit t = true then 1 else 0) = _
    rw [Nat.testBit_and, Nat.testBit_xor, t63 t ht]
    unfold vlt anC ans
    show _ = if (if (toC C k).testBit t = true then (if (one (toC C k) (cK C k) (cR C k) (cD C)).testBit t = true then (1 : Int32) else 0) else -9) = -9 then (0 : Int) else 2 * (if (toC C k).testBit t = true then (if (one (toC C k) (cK C k) (cR C k) (cD C)).testBit t = true then (1 : Int32) else 0) else -9).toInt - 1
    have hs : (one (toC C k) (cK C k) (cR C k) (cD C)).testBit t = true → (toC C k).testBit t = true := by
      unfold one
      split
      · exact id
      · split
        · rw [Nat.testBit_and]; intro q; cases h : (toC C k).testBit t with
          | true => rfl
          | false => rw [h] at q; cases q
        · rw [Nat.testBit_and]; intro q; cases h : (toC C k).testBit t with
          | true => rfl
          | false => rw [h] at q; cases q
    cases h1 : (toC C k).testBit t with
    | true => cases (one (toC C k) (cK C k) (cR C k) (cD C)).testBit t <;> rfl
    | false =>
      cases h2 : (one (toC C k) (cK C k) (cR C k) (cD C)).testBit t with
      | true => rw [hs h2] at h1; cases h1
      | false => rfl
  · rw [if_neg z, if_neg z]
set_option maxRecDepth 100000 in
set_option maxHeartbeats 4000000 in
theorem me_X8_sayOf {X : Nat × (Nat → Int32)} {Q : Option Value → bw_H → Prop} {h : bw_H} {q : Nat} {C : CT} (hms : MS h) (hq : q < bw_n h) (hkq : bw_k h q = .inr (.int, 80)) (hv : mcv (bw_i h q) C) (hk : co_k C) {i t dn : Nat} (hi : i < cN C) (ht : t < 6) (hd : dn < 64) (hQ : Q (some (.int (sya (cK C i) (cE C i) (cR C i) (cV C i) t dn))) h) : bw_me X 3 bm_X8_sayOf false [.ref 60, .ref q, .int (nI i), .int (nI t), .int (nI dn)] h Q := by
  have k1 := hk.1
  have k2 := hk.2.2.2.2 i hi
  show bw_go _ 3 8 5 false (some .int) cX8_sayOf 0 [(0, .ref _), (1, .ref _), (2, .int _), (3, .int _), (4, .int _)] [] _ _
  refine go_aload_n dX8_sayOf_0 rfl ?_
  refine go_iconst (2) dX8_sayOf_1 rfl ?_
  refine go_iload_n dX8_sayOf_2 rfl ?_
  refine go_iadd dX8_sayOf_3 ?_
  rw [show (2 : Int32) = nI 2 from rfl, nI_add]
  refine go_ia dX8_sayOf_4 hkq hq (n_in (N := 80) (by omega) (by decide)) ?_
  rw [nI_clamp (by omega), (hv.2.2.2 i hi).1]
  refine go_aload_n dX8_sayOf_5 rfl ?_
  refine go_bipush (67) dX8_sayOf_6 rfl ?_
  refine go_iload_n dX8_sayOf_8 rfl ?_
  refine go_iadd dX8_sayOf_9 ?_
  rw [show (67 : Int32) = nI 67 from rfl, nI_add]
  refine go_ia dX8_sayOf_10 hkq hq (n_in (N := 80) (by omega) (by decide)) ?_
  rw [nI_clamp (by omega), (hv.2.2.2 i hi).2.1]
  refine go_aload_n dX8_sayOf_11 rfl ?_
  refine go_bipush (73) dX8_sayOf_12 rfl ?_
  refine go_iload_n dX8_sayOf_14 rfl ?_
  refine go_iadd dX8_sayOf_15 ?_
  rw [show (73 : Int32) = nI 73 from rfl, nI_add]
  refine go_ia dX8_sayOf_16 hkq hq (n_in (N := 80) (by omega) (by decide)) ?_
  rw [nI_clamp (by omega), (hv.2.2.2 i hi).2.2.1]
  refine go_aload_n dX8_sayOf_17 rfl ?_
  refine go_bipush (20) dX8_sayOf_18 rfl ?_
  refine go_iload_n dX8_sayOf_20 rfl ?_
  refine go_iadd dX8_sayOf_21 ?_
  rw [show (20 : Int32) = nI 20 from rfl, nI_add]
  refine go_ia dX8_sayOf_22 hkq hq (n_in (N := 80) (by omega) (by decide)) ?_
  rw [nI_clamp (by omega), (hv.2.2.2 i hi).2.2.2]
  refine go_iload_n dX8_sayOf_23 rfl ?_
  refine go_iload dX8_sayOf_24 rfl ?_
  refine go_cs (as := [.int _, .int _, .int _, .int _, .int _, .int _]) 2 dX8_sayOf_26 rfl rfl mt_8_136 (Nat.le_of_ble_eq_true rfl) rfl rfl (Nat.le_of_ble_eq_true rfl) (Nat.le_of_ble_eq_true rfl) (Nat.le_of_ble_eq_true rfl) (Nat.le_of_ble_eq_true rfl) ?_
  refine me_X8_tellsAs k2.1 k2.2.1 k2.2.2.1 k2.2.2.2 ht hd ?_
  show bw_go _ _ _ _ _ _ _ 29 [(0, .ref _), (1, .ref _), (2, .int _), (3, .int _), (4, .int _)] ((.int _) :: []) _ _
  refine go_iret dX8_sayOf_29 rfl rfl ?_
  exact hQ
set_option maxRecDepth 100000 in
set_option maxHeartbeats 4000000 in
theorem me_X8_tellOf {X : Nat × (Nat → Int32)} {Q : Option Value → bw_H → Prop} {h : bw_H} {q : Nat} {C : CT} (hms : MS h) (hq : q < bw_n h) (hkq : bw_k h q = .inr (.int, 80)) (hv : mcv (bw_i h q) C) (hk : co_k C) {i t dn : Nat} (hi : i < cN C) (ht : t < 6) (hd : dn < 64) (hQ : Q (some (.int (anC C i t dn))) h) : bw_me X 4 bm_X8_tellOf false [.ref 60, .ref q, .int (nI i), .int (nI t), .int (nI dn)] h Q := by
  have k1 := hk.1
  have k2 := hk.2.2.2.2 i hi
  show bw_go _ 4 8 5 false (some .int) cX8_tellOf 0 [(0, .ref _), (1, .ref _), (2, .int _), (3, .int _), (4, .int _)] [] _ _
  refine go_aload_n dX8_tellOf_0 rfl ?_
  refine go_bipush (79) dX8_tellOf_1 rfl ?_
  refine go_ia dX8_tellOf_3 hkq hq (by decide) ?_
  rw [show (79 : Int32).toNatClampNeg = 79 from rfl, hv.2.2.1]
  refine go_iload_n dX8_tellOf_4 rfl ?_
  refine go_cs (as := [.int _, .int _]) 0 dX8_tellOf_5 rfl rfl mt_8_129 (Nat.le_of_ble_eq_true rfl) rfl rfl (Nat.le_of_ble_eq_true rfl) (Nat.le_of_ble_eq_true rfl) (Nat.le_of_ble_eq_true rfl) (Nat.le_of_ble_eq_true rfl) ?_
  refine me_X8_has hk.2.2.1 (by omega) ?_
  show bw_go _ _ _ _ _ _ _ 8 [(0, .ref _), (1, .ref _), (2, .int _), (3, .int _), (4, .int _)] ((.int _) :: []) _ _
  refine go_ifb_eq (pc' := 16) dX8_tellOf_8 rfl (fun c_8 => ?_) (fun c_8 => ?_)
  · -- eq at 8: yes
    show bw_go _ _ _ _ _ _ _ 16 [(0, .ref _), (1, .ref _), (2, .int _), (3, .int _), (4, .int _)] ([]) _ _
    refine go_aload_n dX8_tellOf_16 rfl ?_
    refine go_aload_n dX8_tellOf_17 rfl ?_
    refine go_iload_n dX8_tellOf_18 rfl ?_
    refine go_iload_n dX8_tellOf_19 rfl ?_
    refine go_iload dX8_tellOf_20 rfl ?_
    refine go_cv (as := [.ref _, .int _, .int _, .int _]) 3 dX8_tellOf_22 mt_8_140 (Or.inl rfl) rfl rfl (ms_lt hms (by decide)) hms.1.2 (Nat.le_of_ble_eq_true rfl) (Nat.le_of_ble_eq_true rfl) (Nat.le_of_ble_eq_true rfl) (Nat.le_of_ble_eq_true rfl) (Nat.le_of_ble_eq_true rfl) ?_
    refine me_X8_sayOf hms hq hkq hv hk hi ht hd ?_
    show bw_go _ _ _ _ _ _ _ 25 [(0, .ref _), (1, .ref _), (2, .int _), (3, .int _), (4, .int _)] ((.int _) :: []) _ _
    refine go_iret dX8_tellOf_25 rfl rfl ?_
    refine qi hQ ?_
    unfold anC
    rw [ans_sya ht]
    first | rw [if_pos c_8] | rw [if_neg (fun z => Bool.noConfusion (c_8.symm.trans z))]
  · -- eq at 8: no
    show bw_go _ _ _ _ _ _ _ 11 [(0, .ref _), (1, .ref _), (2, .int _), (3, .int _), (4, .int _)] ([]) _ _
    refine go_bipush (-9) dX8_tellOf_11 rfl ?_
    refine go_goto (pc' := 25) dX8_tellOf_13 rfl ?_
    show bw_go _ _ _ _ _ _ _ 25 [(0, .ref _), (1, .ref _), (2, .int _), (3, .int _), (4, .int _)] ((.int _) :: []) _ _
    refine go_iret dX8_tellOf_25 rfl rfl ?_
    refine qi hQ ?_
    unfold anC
    rw [ans_sya ht]
    first | rw [if_pos c_8] | rw [if_neg (fun z => Bool.noConfusion (c_8.symm.trans z))]
set_option maxRecDepth 100000 in
set_option maxHeartbeats 4000000 in
theorem me_X8_tellNow {X : Nat × (Nat → Int32)} {Q : Option Value → bw_H → Prop} {h : bw_H} {S : ST} {i t : Nat} (hm : MR h S) (hi : i < cN (nowC S)) (ht : t < 6) (hQ : Q (some (.int (anC (nowC S) i t (cD (nowC S))))) h) : bw_me X 5 bm_X8_tellNow false [.ref 60, .int (nI i), .int (nI t)] h Q := by
  have hv := mr_v hm
  have hk := mr_k hm
  have k1 := hk.1
  show bw_go _ 5 8 3 false (some .int) cX8_tellNow 0 [(0, .ref _), (1, .int _), (2, .int _)] [] _ _
  refine go_aload_n dX8_tellNow_0 rfl ?_
  refine go_aload_n dX8_tellNow_1 rfl ?_
  refine go_gfr dX8_tellNow_2 fl_8_7 rfl (ms_lt hm.1 (by decide)) hm.1.1.2 hm.1.2.1.1 ?_
  refine go_iload_n dX8_tellNow_5 rfl ?_
  refine go_iload_n dX8_tellNow_6 rfl ?_
  refine go_aload_n dX8_tellNow_7 rfl ?_
  refine go_gfr dX8_tellNow_8 fl_8_7 rfl (ms_lt hm.1 (by decide)) hm.1.1.2 hm.1.2.1.1 ?_
  refine go_iconst (1) dX8_tellNow_11 rfl ?_
  refine go_ia dX8_tellNow_12 hm.1.2.2.1 (ms_lt hm.1 (by decide)) (by decide) ?_
  rw [show (1 : Int32).toNatClampNeg = 1 from rfl, hv.2.1]
  refine go_cv (as := [.ref _, .int _, .int _, .int _]) 4 dX8_tellNow_13 mt_8_144 (Or.inl rfl) rfl rfl (ms_lt hm.1 (by decide)) hm.1.1.2 (Nat.le_of_ble_eq_true rfl) (Nat.le_of_ble_eq_true rfl) (Nat.le_of_ble_eq_true rfl) (Nat.le_of_ble_eq_true rfl) (Nat.le_of_ble_eq_true rfl) ?_
  refine me_X8_tellOf hm.1 (ms_lt hm.1 (by decide)) hm.1.2.2.1 hv hk hi ht hk.2.1 ?_
  show bw_go _ _ _ _ _ _ _ 16 [(0, .ref _), (1, .int _), (2, .int _)] ((.int _) :: []) _ _
  refine go_iret dX8_tellNow_16 rfl rfl ?_
  exact hQ
set_option maxRecDepth 100000 in
set_option maxHeartbeats 4000000 in
theorem me_X8_toldThings {X : Nat × (Nat → Int32)} {Q : Option Value → bw_H → Prop} {h : bw_H} {S : ST} {i : Nat} (hm : MR h S) (hi : i < cN (nowC S)) (hQ : Q (some (.int (nI (toC (nowC S) i)))) h) : bw_me X 6 bm_X8_toldThings false [.ref 60, .int (nI i)] h Q := by
  have hv := mr_v hm
  have hk := mr_k hm
  have k1 := hk.1
  show bw_go _ 6 8 4 false (some .int) cX8_toldThings 0 [(0, .ref _), (1, .int _)] [] _ _
  refine go_iconst (0) dX8_toldThings_0 rfl ?_
  refine go_istore_n dX8_toldThings_1 (Nat.lt_of_lt_of_le (Nat.lt_succ_self _) (Nat.le_of_ble_eq_true rfl)) ?_
  show bw_go _ _ _ _ _ _ _ 2 [(2, .int _), (0, .ref _), (1, .int _)] ([]) _ _
  refine go_iconst (0) dX8_toldThings_2 rfl ?_
  refine go_istore_n dX8_toldThings_3 (Nat.lt_of_lt_of_le (Nat.lt_succ_self _) (Nat.le_of_ble_eq_true rfl)) ?_
  show bw_go _ _ _ _ _ _ _ 4 [(3, .int _), (2, .int _), (0, .ref _), (1, .int _)] ([]) _ _
  refine go_for (P := fun k => bw_go X 6 8 4 false (some .int) cX8_toldThings 4 [(3, .int (nI k)), (2, .int (nI (orf (fun t => if (toC (nowC S) i).testBit t = true then 2 ^ t else 0) k))), (0, .ref (60)), (1, .int (nI i))] [] h Q) (N := 6) (fun k hk K => ?_) ?_ (0) (Nat.zero_le _)
  · -- a turn
    have hk6 : k < 6 := hk
    show bw_go _ _ _ _ _ _ _ 4 [(3, .int _), (2, .int _), (0, .ref _), (1, .int _)] ([]) _ _
    refine go_iload_n dX8_toldThings_4 rfl ?_
    refine go_bipush (6) dX8_toldThings_5 rfl ?_
    refine go_icmp_ge (pc' := 37) dX8_toldThings_7 rfl (fun c_7 => ?_) (fun c_7 => ?_)
    · -- ge at 7: yes
      exfalso; have t_0 := nI_toInt (n := k) (by omega); have l_0 : (6 : Int32).toInt = 6 := rfl; simp only [i_le, i_lt, i_eq, bi_eq] at c_7; omega
    · -- ge at 7: no
      show bw_go _ _ _ _ _ _ _ 10 [(3, .int _), (2, .int _), (0, .ref _), (1, .int _)] ([]) _ _
      refine go_iload_n dX8_toldThings_10 rfl ?_
      refine go_aload_n dX8_toldThings_11 rfl ?_
      refine go_iload_n dX8_toldThings_12 rfl ?_
      refine go_iload_n dX8_toldThings_13 rfl ?_
      refine go_cv (as := [.int _, .int _]) 5 dX8_toldThings_14 mt_8_147 (Or.inl rfl) rfl rfl (ms_lt hm.1 (by decide)) hm.1.1.2 (Nat.le_of_ble_eq_true rfl) (Nat.le_of_ble_eq_true rfl) (Nat.le_of_ble_eq_true rfl) (Nat.le_of_ble_eq_true rfl) (Nat.le_of_ble_eq_true rfl) ?_
      refine me_X8_tellNow hm hi hk6 ?_
      show bw_go _ _ _ _ _ _ _ 17 [(3, .int _), (2, .int _), (0, .ref _), (1, .int _)] ((.int _) :: (.int _) :: []) _ _
      refine go_bipush (-9) dX8_toldThings_17 rfl ?_
      refine go_icmp_eq (pc' := 28) dX8_toldThings_19 rfl (fun c_19 => ?_) (fun c_19 => ?_)
      · -- eq at 19: yes
        show bw_go _ _ _ _ _ _ _ 28 [(3, .int _), (2, .int _), (0, .ref _), (1, .int _)] ((.int _) :: []) _ _
        refine go_iconst (0) dX8_toldThings_28 rfl ?_
        refine go_ior dX8_toldThings_29 ?_
        first | rw [or_n] | rw [show (0 : Int32) = nI 0 from rfl, or_n, Nat.or_zero]
        refine go_istore_n dX8_toldThings_30 (Nat.lt_of_lt_of_le (Nat.lt_succ_self _) (Nat.le_of_ble_eq_true rfl)) ?_
        show bw_go _ _ _ _ _ _ _ 31 [(2, .int _), (3, .int _), (0, .ref _), (1, .int _)] ([]) _ _
        refine go_iinc dX8_toldThings_31 rfl (nI_1 k) (Nat.lt_of_lt_of_le (Nat.lt_succ_self _) (Nat.le_of_ble_eq_true rfl)) ?_
        show bw_go _ _ _ _ _ _ _ 34 [(3, .int _), (2, .int _), (0, .ref _), (1, .int _)] ([]) _ _
        refine go_goto (pc' := 4) dX8_toldThings_34 rfl ?_
        have e1 : orf (fun t => if (toC (nowC S) i).testBit t = true then 2 ^ t else 0) (k + 1) = orf (fun t => if (toC (nowC S) i).testBit t = true then 2 ^ t else 0) k ||| (if (toC (nowC S) i).testBit k = true then 2 ^ k else 0) := rfl
        first | (rw [if_neg (ans_9.mp c_19), Nat.or_zero] at e1; rw [e1] at K; exact K) | (rw [if_pos (Decidable.of_not_not (fun z => c_19 (ans_9.mpr z)))] at e1; rw [e1] at K; exact K)
      · -- eq at 19: no
        show bw_go _ _ _ _ _ _ _ 22 [(3, .int _), (2, .int _), (0, .ref _), (1, .int _)] ((.int _) :: []) _ _
        refine go_iconst (1) dX8_toldThings_22 rfl ?_
        refine go_iload_n dX8_toldThings_23 rfl ?_
        refine go_ishl dX8_toldThings_24 ?_
        rw [sh_t k (by omega)]
        refine go_goto (pc' := 29) dX8_toldThings_25 rfl ?_
        show bw_go _ _ _ _ _ _ _ 29 [(3, .int _), (2, .int _), (0, .ref _), (1, .int _)] ((.int _) :: (.int _) :: []) _ _
        refine go_ior dX8_toldThings_29 ?_
        first | rw [or_n] | rw [show (0 : Int32) = nI 0 from rfl, or_n, Nat.or_zero]
        refine go_istore_n dX8_toldThings_30 (Nat.lt_of_lt_of_le (Nat.lt_succ_self _) (Nat.le_of_ble_eq_true rfl)) ?_
        show bw_go _ _ _ _ _ _ _ 31 [(2, .int _), (3, .int _), (0, .ref _), (1, .int _)] ([]) _ _
        refine go_iinc dX8_toldThings_31 rfl (nI_1 k) (Nat.lt_of_lt_of_le (Nat.lt_succ_self _) (Nat.le_of_ble_eq_true rfl)) ?_
        show bw_go _ _ _ _ _ _ _ 34 [(3, .int _), (2, .int _), (0, .ref _), (1, .int _)] ([]) _ _
        refine go_goto (pc' := 4) dX8_toldThings_34 rfl ?_
        have e1 : orf (fun t => if (toC (nowC S) i).testBit t = true then 2 ^ t else 0) (k + 1) = orf (fun t => if (toC (nowC S) i).testBit t = true then 2 ^ t else 0) k ||| (if (toC (nowC S) i).testBit k = true then 2 ^ k else 0) := rfl
        first | (rw [if_neg (ans_9.mp c_19), Nat.or_zero] at e1; rw [e1] at K; exact K) | (rw [if_pos (Decidable.of_not_not (fun z => c_19 (ans_9.mpr z)))] at e1; rw [e1] at K; exact K)
  · -- behind the last
    show bw_go _ _ _ _ _ _ _ 4 [(3, .int _), (2, .int _), (0, .ref _), (1, .int _)] ([]) _ _
    refine go_iload_n dX8_toldThings_4 rfl ?_
    refine go_bipush (6) dX8_toldThings_5 rfl ?_
    refine go_icmp_ge (pc' := 37) dX8_toldThings_7 rfl (fun c_7 => ?_) (fun c_7 => ?_)
    · -- ge at 7: yes
      show bw_go _ _ _ _ _ _ _ 37 [(3, .int _), (2, .int _), (0, .ref _), (1, .int _)] ([]) _ _
      refine go_iload_n dX8_toldThings_37 rfl ?_
      refine go_iret dX8_toldThings_38 rfl rfl ?_
      rw [orf_id _ (toC_lt hk hi)]
      exact hQ
    · -- ge at 7: no
      exfalso; have t_0 := nI_toInt (n := 6) (by omega); have l_0 : (6 : Int32).toInt = 6 := rfl; simp only [i_le, i_lt, i_eq, bi_eq] at c_7; omega
set_option maxRecDepth 100000 in
set_option maxHeartbeats 4000000 in
theorem me_X8_balance {X : Nat × (Nat → Int32)} {Q : Option Value → bw_H → Prop} {h : bw_H} {q : Nat} {C : CT} (hms : MS h) (hq : q < bw_n h) (hkq : bw_k h q = .inr (.int, 80)) (hv : mcv (bw_i h q) C) (hkC : co_k C) {s t : Nat} (hs : s < 64) (ht : t < 6) (hQ : Q (some (.int (Int32.ofInt (bal (taC C) s t (cN C))))) h) : bw_me X 5 bm_X8_balance false [.ref 60, .ref q, .int (nI s), .int (nI t)] h Q := by
  have k1 := hkC.1
  show bw_go _ 5 8 7 false (some .int) cX8_balance 0 [(0, .ref _), (1, .ref _), (2, .int _), (3, .int _)] [] _ _
  refine go_iconst (0) dX8_balance_0 rfl ?_
  refine go_istore dX8_balance_1 (Nat.lt_of_lt_of_le (Nat.lt_succ_self _) (Nat.le_of_ble_eq_true rfl)) ?_
  show bw_go _ _ _ _ _ _ _ 3 [(4, .int _), (0, .ref _), (1, .ref _), (2, .int _), (3, .int _)] ([]) _ _
  refine go_iconst (0) dX8_balance_3 rfl ?_
  refine go_istore dX8_balance_4 (Nat.lt_of_lt_of_le (Nat.lt_succ_self _) (Nat.le_of_ble_eq_true rfl)) ?_
  show bw_go _ _ _ _ _ _ _ 6 [(5, .int _), (4, .int _), (0, .ref _), (1, .ref _), (2, .int _), (3, .int _)] ([]) _ _
  refine go_for (P := fun k => bw_go X 5 8 7 false (some .int) cX8_balance 6 [(5, .int (nI k)), (4, .int (Int32.ofInt (bal (taC C) s t k))), (0, .ref (60)), (1, .ref (q)), (2, .int (nI s)), (3, .int (nI t))] [] h Q) (N := cN C) (fun k hk K => ?_) ?_ (0) (Nat.zero_le _)
  · -- a turn
    have hi : k < cN C := hk
    show bw_go _ _ _ _ _ _ _ 6 [(5, .int _), (4, .int _), (0, .ref _), (1, .ref _), (2, .int _), (3, .int _)] ([]) _ _
    refine go_iload dX8_balance_6 rfl ?_
    refine go_aload_n dX8_balance_8 rfl ?_
    refine go_iconst (0) dX8_balance_9 rfl ?_
    refine go_ia dX8_balance_10 hkq hq (by decide) ?_
    rw [show (0 : Int32).toNatClampNeg = 0 from rfl, hv.1]
    refine go_icmp_ge (pc' := 69) dX8_balance_11 rfl (fun c_11 => ?_) (fun c_11 => ?_)
    · -- ge at 11: yes
      exfalso; have t_0 := nI_toInt (n := cN C) (by omega); have t_1 := nI_toInt (n := k) (by omega); simp only [i_le, i_lt, i_eq, bi_eq] at c_11; omega
    · -- ge at 11: no
      show bw_go _ _ _ _ _ _ _ 14 [(5, .int _), (4, .int _), (0, .ref _), (1, .ref _), (2, .int _), (3, .int _)] ([]) _ _
      refine go_iload_n dX8_balance_14 rfl ?_
      refine go_iload dX8_balance_15 rfl ?_
      refine go_cs (as := [.int _, .int _]) 0 dX8_balance_17 rfl rfl mt_8_129 (Nat.le_of_ble_eq_true rfl) rfl rfl (Nat.le_of_ble_eq_true rfl) (Nat.le_of_ble_eq_true rfl) (Nat.le_of_ble_eq_true rfl) (Nat.le_of_ble_eq_true rfl) ?_
      refine me_X8_has hs (by omega) ?_
      show bw_go _ _ _ _ _ _ _ 20 [(5, .int _), (4, .int _), (0, .ref _), (1, .ref _), (2, .int _), (3, .int _)] ((.int _) :: []) _ _
      refine go_ifb_eq (pc' := 37) dX8_balance_20 rfl (fun c_20 => ?_) (fun c_20 => ?_)
      · -- eq at 20: yes
        show bw_go _ _ _ _ _ _ _ 37 [(5, .int _), (4, .int _), (0, .ref _), (1, .ref _), (2, .int _), (3, .int _)] ([]) _ _
        refine go_bipush (-9) dX8_balance_37 rfl ?_
        refine go_istore dX8_balance_39 (Nat.lt_of_lt_of_le (Nat.lt_succ_self _) (Nat.le_of_ble_eq_true rfl)) ?_
        show bw_go _ _ _ _ _ _ _ 41 [(6, .int _), (5, .int _), (4, .int _), (0, .ref _), (1, .ref _), (2, .int _), (3, .int _)] ([]) _ _
        refine go_iload dX8_balance_41 rfl ?_
        refine go_iload dX8_balance_43 rfl ?_
        refine go_bipush (-9) dX8_balance_45 rfl ?_
        refine go_icmp_ne (pc' := 54) dX8_balance_47 rfl (fun c_47 => ?_) (fun c_47 => ?_)
        · -- ne at 47: yes
          show bw_go _ _ _ _ _ _ _ 54 [(6, .int _), (5, .int _), (4, .int _), (0, .ref _), (1, .ref _), (2, .int _), (3, .int _)] ((.int _) :: []) _ _
          refine go_iconst (2) dX8_balance_54 rfl ?_
          refine go_iload dX8_balance_55 rfl ?_
          refine go_imul dX8_balance_57 ?_
          refine go_iconst (1) dX8_balance_58 rfl ?_
          refine go_isub dX8_balance_59 ?_
          refine go_iadd dX8_balance_60 ?_
          refine go_istore dX8_balance_61 (Nat.lt_of_lt_of_le (Nat.lt_succ_self _) (Nat.le_of_ble_eq_true rfl)) ?_
          show bw_go _ _ _ _ _ _ _ 63 [(4, .int _), (6, .int _), (5, .int _), (0, .ref _), (1, .ref _), (2, .int _), (3, .int _)] ([]) _ _
          refine go_iinc dX8_balance_63 rfl (nI_1 k) (Nat.lt_of_lt_of_le (Nat.lt_succ_self _) (Nat.le_of_ble_eq_true rfl)) ?_
          show bw_go _ _ _ _ _ _ _ 66 [(5, .int _), (4, .int _), (6, .int _), (0, .ref _), (1, .ref _), (2, .int _), (3, .int _)] ([]) _ _
          refine go_goto (pc' := 6) dX8_balance_66 rfl ?_
          refine go_ls [(5, .int _), (4, .int _), (0, .ref _), (1, .ref _), (2, .int _), (3, .int _)] (by show List.Nodup ([5, 4, 0, 1, 2, 3] : List Nat); decide) (by show List.Nodup ([5, 4, 6, 0, 1, 2, 3] : List Nat); decide) (le_cons rfl (le_cons rfl (le_cons rfl (le_cons rfl (le_cons rfl (le_cons rfl (le_nil _))))))) ?_
          rw [bal_ans ht hkC hi, ← ofI_add] at K
          first
          | exact absurd rfl c_47
          | (rw [if_neg (fun z => Bool.noConfusion (c_20.symm.trans z))] at K; exact K)
          | (rw [if_pos c_20, vlt_9 (Decidable.of_not_not c_47)] at K; exact K)
          | (rw [if_pos c_20, vlt_n c_47 (ans_01 c_47)] at K; exact K)
        · -- ne at 47: no
          show bw_go _ _ _ _ _ _ _ 50 [(6, .int _), (5, .int _), (4, .int _), (0, .ref _), (1, .ref _), (2, .int _), (3, .int _)] ((.int _) :: []) _ _
          refine go_iconst (0) dX8_balance_50 rfl ?_
          refine go_goto (pc' := 60) dX8_balance_51 rfl ?_
          show bw_go _ _ _ _ _ _ _ 60 [(6, .int _), (5, .int _), (4, .int _), (0, .ref _), (1, .ref _), (2, .int _), (3, .int _)] ((.int _) :: (.int _) :: []) _ _
          refine go_iadd dX8_balance_60 ?_
          refine go_istore dX8_balance_61 (Nat.lt_of_lt_of_le (Nat.lt_succ_self _) (Nat.le_of_ble_eq_true rfl)) ?_
          show bw_go _ _ _ _ _ _ _ 63 [(4, .int _), (6, .int _), (5, .int _), (0, .ref _), (1, .ref _), (2, .int _), (3, .int _)] ([]) _ _
          refine go_iinc dX8_balance_63 rfl (nI_1 k) (Nat.lt_of_lt_of_le (Nat.lt_succ_self _) (Nat.le_of_ble_eq_true rfl)) ?_
          show bw_go _ _ _ _ _ _ _ 66 [(5, .int _), (4, .int _), (6, .int _), (0, .ref _), (1, .ref _), (2, .int _), (3, .int _)] ([]) _ _
          refine go_goto (pc' := 6) dX8_balance_66 rfl ?_
          refine go_ls [(5, .int _), (4, .int _), (0, .ref _), (1, .ref _), (2, .int _), (3, .int _)] (by show List.Nodup ([5, 4, 0, 1, 2, 3] : List Nat); decide) (by show List.Nodup ([5, 4, 6, 0, 1, 2, 3] : List Nat); decide) (le_cons rfl (le_cons rfl (le_cons rfl (le_cons rfl (le_cons rfl (le_cons rfl (le_nil _))))))) ?_
          rw [bal_ans ht hkC hi, ← ofI_add] at K
          first
          | exact absurd rfl c_47
          | (rw [if_neg (fun z => Bool.noConfusion (c_20.symm.trans z))] at K; exact K)
          | (rw [if_pos c_20, vlt_9 (Decidable.of_not_not c_47)] at K; exact K)
          | (rw [if_pos c_20, vlt_n c_47 (ans_01 c_47)] at K; exact K)
      · -- eq at 20: no
        show bw_go _ _ _ _ _ _ _ 23 [(5, .int _), (4, .int _), (0, .ref _), (1, .ref _), (2, .int _), (3, .int _)] ([]) _ _
        refine go_aload_n dX8_balance_23 rfl ?_
        refine go_aload_n dX8_balance_24 rfl ?_
        refine go_iload dX8_balance_25 rfl ?_
        refine go_iload_n dX8_balance_27 rfl ?_
        refine go_aload_n dX8_balance_28 rfl ?_
        refine go_iconst (1) dX8_balance_29 rfl ?_
        refine go_ia dX8_balance_30 hkq hq (by decide) ?_
        rw [show (1 : Int32).toNatClampNeg = 1 from rfl, hv.2.1]
        refine go_cv (as := [.ref _, .int _, .int _, .int _]) 4 dX8_balance_31 mt_8_144 (Or.inl rfl) rfl rfl (ms_lt hms (by decide)) hms.1.2 (Nat.le_of_ble_eq_true rfl) (Nat.le_of_ble_eq_true rfl) (Nat.le_of_ble_eq_true rfl) (Nat.le_of_ble_eq_true rfl) (Nat.le_of_ble_eq_true rfl) ?_
        refine me_X8_tellOf hms hq hkq hv hkC hi ht hkC.2.1 ?_
        show bw_go _ _ _ _ _ _ _ 34 [(5, .int _), (4, .int _), (0, .ref _), (1, .ref _), (2, .int _), (3, .int _)] ((.int _) :: []) _ _
        refine go_goto (pc' := 39) dX8_balance_34 rfl ?_
        show bw_go _ _ _ _ _ _ _ 39 [(5, .int _), (4, .int _), (0, .ref _), (1, .ref _), (2, .int _), (3, .int _)] ((.int _) :: []) _ _
        refine go_istore dX8_balance_39 (Nat.lt_of_lt_of_le (Nat.lt_succ_self _) (Nat.le_of_ble_eq_true rfl)) ?_
        show bw_go _ _ _ _ _ _ _ 41 [(6, .int _), (5, .int _), (4, .int _), (0, .ref _), (1, .ref _), (2, .int _), (3, .int _)] ([]) _ _
        refine go_iload dX8_balance_41 rfl ?_
        refine go_iload dX8_balance_43 rfl ?_
        refine go_bipush (-9) dX8_balance_45 rfl ?_
        refine go_icmp_ne (pc' := 54) dX8_balance_47 rfl (fun c_47 => ?_) (fun c_47 => ?_)
        · -- ne at 47: yes
          show bw_go _ _ _ _ _ _ _ 54 [(6, .int _), (5, .int _), (4, .int _), (0, .ref _), (1, .ref _), (2, .int _), (3, .int _)] ((.int _) :: []) _ _
          refine go_iconst (2) dX8_balance_54 rfl ?_
          refine go_iload dX8_balance_55 rfl ?_
          refine go_imul dX8_balance_57 ?_
          refine go_iconst (1) dX8_balance_58 rfl ?_
          refine go_isub dX8_balance_59 ?_
          refine go_iadd dX8_balance_60 ?_
          refine go_istore dX8_balance_61 (Nat.lt_of_lt_of_le (Nat.lt_succ_self _) (Nat.le_of_ble_eq_true rfl)) ?_
          show bw_go _ _ _ _ _ _ _ 63 [(4, .int _), (6, .int _), (5, .int _), (0, .ref _), (1, .ref _), (2, .int _), (3, .int _)] ([]) _ _
          refine go_iinc dX8_balance_63 rfl (nI_1 k) (Nat.lt_of_lt_of_le (Nat.lt_succ_self _) (Nat.le_of_ble_eq_true rfl)) ?_
          show bw_go _ _ _ _ _ _ _ 66 [(5, .int _), (4, .int _), (6, .int _), (0, .ref _), (1, .ref _), (2, .int _), (3, .int _)] ([]) _ _
          refine go_goto (pc' := 6) dX8_balance_66 rfl ?_
          refine go_ls [(5, .int _), (4, .int _), (0, .ref _), (1, .ref _), (2, .int _), (3, .int _)] (by show List.Nodup ([5, 4, 0, 1, 2, 3] : List Nat); decide) (by show List.Nodup ([5, 4, 6, 0, 1, 2, 3] : List Nat); decide) (le_cons rfl (le_cons rfl (le_cons rfl (le_cons rfl (le_cons rfl (le_cons rfl (le_nil _))))))) ?_
          rw [bal_ans ht hkC hi, ← ofI_add] at K
          first
          | exact absurd rfl c_47
          | (rw [if_neg (fun z => Bool.noConfusion (c_20.symm.trans z))] at K; exact K)
          | (rw [if_pos c_20, vlt_9 (Decidable.of_not_not c_47)] at K; exact K)
          | (rw [if_pos c_20, vlt_n c_47 (ans_01 c_47)] at K; exact K)
        · -- ne at 47: no
          show bw_go _ _ _ _ _ _ _ 50 [(6, .int _), (5, .int _), (4, .int _), (0, .ref _), (1, .ref _), (2, .int _), (3, .int _)] ((.int _) :: []) _ _
          refine go_iconst (0) dX8_balance_50 rfl ?_
          refine go_goto (pc' := 60) dX8_balance_51 rfl ?_
          show bw_go _ _ _ _ _ _ _ 60 [(6, .int _), (5, .int _), (4, .int _), (0, .ref _), (1, .ref _), (2, .int _), (3, .int _)] ((.int _) :: (.int _) :: []) _ _
          refine go_iadd dX8_balance_60 ?_
          refine go_istore dX8_balance_61 (Nat.lt_of_lt_of_le (Nat.lt_succ_self _) (Nat.le_of_ble_eq_true rfl)) ?_
          show bw_go _ _ _ _ _ _ _ 63 [(4, .int _), (6, .int _), (5, .int _), (0, .ref _), (1, .ref _), (2, .int _), (3, .int _)] ([]) _ _
          refine go_iinc dX8_balance_63 rfl (nI_1 k) (Nat.lt_of_lt_of_le (Nat.lt_succ_self _) (Nat.le_of_ble_eq_true rfl)) ?_
          show bw_go _ _ _ _ _ _ _ 66 [(5, .int _), (4, .int _), (6, .int _), (0, .ref _), (1, .ref _), (2, .int _), (3, .int _)] ([]) _ _
          refine go_goto (pc' := 6) dX8_balance_66 rfl ?_
          refine go_ls [(5, .int _), (4, .int _), (0, .ref _), (1, .ref _), (2, .int _), (3, .int _)] (by show List.Nodup ([5, 4, 0, 1, 2, 3] : List Nat); decide) (by show List.Nodup ([5, 4, 6, 0, 1, 2, 3] : List Nat); decide) (le_cons rfl (le_cons rfl (le_cons rfl (le_cons rfl (le_cons rfl (le_cons rfl (le_nil _))))))) ?_
          rw [bal_ans ht hkC hi, ← ofI_add] at K
          first
          | exact absurd rfl c_47
          | (rw [if_neg (fun z => Bool.noConfusion (c_20.symm.trans z))] at K; exact K)
          | (rw [if_pos c_20, vlt_9 (Decidable.of_not_not c_47)] at K; exact K)
          | (rw [if_pos c_20, vlt_n c_47 (ans_01 c_47)] at K; exact K)
  · -- behind the last
    show bw_go _ _ _ _ _ _ _ 6 [(5, .int _), (4, .int _), (0, .ref _), (1, .ref _), (2, .int _), (3, .int _)] ([]) _ _
    refine go_iload dX8_balance_6 rfl ?_
    refine go_aload_n dX8_balance_8 rfl ?_
    refine go_iconst (0) dX8_balance_9 rfl ?_
    refine go_ia dX8_balance_10 hkq hq (by decide) ?_
    rw [show (0 : Int32).toNatClampNeg = 0 from rfl, hv.1]
    refine go_icmp_ge (pc' := 69) dX8_balance_11 rfl (fun c_11 => ?_) (fun c_11 => ?_)
    · -- ge at 11: yes
      show bw_go _ _ _ _ _ _ _ 69 [(5, .int _), (4, .int _), (0, .ref _), (1, .ref _), (2, .int _), (3, .int _)] ([]) _ _
      refine go_iload dX8_balance_69 rfl ?_
      refine go_iret dX8_balance_71 rfl rfl ?_
      exact hQ
    · -- ge at 11: no
      exfalso; have t_0 := nI_toInt (n := cN C) (by omega); simp only [i_le, i_lt, i_eq, bi_eq] at c_11; omega
set_option maxRecDepth 100000 in
set_option maxHeartbeats 4000000 in
theorem me_X8_shownBy {X : Nat × (Nat → Int32)} {Q : Option Value → bw_H → Prop} {h : bw_H} {S : ST} {s : Nat} (hm : MR h S) (hs : s < 64) (hQ : Q (some (.int (nI (sho (taC (nowC S)) s)))) h) : bw_me X 6 bm_X8_shownBy false [.ref 60, .int (nI s)] h Q := by
  have hv := mr_v hm
  have hkC := mr_k hm
  have k1 := hkC.1
  show bw_go _ 6 8 4 false (some .int) cX8_shownBy 0 [(0, .ref _), (1, .int _)] [] _ _
  refine go_iconst (0) dX8_shownBy_0 rfl ?_
  refine go_istore_n dX8_shownBy_1 (Nat.lt_of_lt_of_le (Nat.lt_succ_self _) (Nat.le_of_ble_eq_true rfl)) ?_
  show bw_go _ _ _ _ _ _ _ 2 [(2, .int _), (0, .ref _), (1, .int _)] ([]) _ _
  refine go_iconst (0) dX8_shownBy_2 rfl ?_
  refine go_istore_n dX8_shownBy_3 (Nat.lt_of_lt_of_le (Nat.lt_succ_self _) (Nat.le_of_ble_eq_true rfl)) ?_
  show bw_go _ _ _ _ _ _ _ 4 [(3, .int _), (2, .int _), (0, .ref _), (1, .int _)] ([]) _ _
  refine go_for (P := fun k => bw_go X 6 8 4 false (some .int) cX8_shownBy 4 [(3, .int (nI k)), (2, .int (nI (orf (fun t => if 0 < bal (taC (nowC S)) s t (taC (nowC S)).1 then 2 ^ t else 0) k))), (0, .ref (60)), (1, .int (nI s))] [] h Q) (N := 6) (fun k hk K => ?_) ?_ (0) (Nat.zero_le _)
  · -- a turn
    show bw_go _ _ _ _ _ _ _ 4 [(3, .int _), (2, .int _), (0, .ref _), (1, .int _)] ([]) _ _
    refine go_iload_n dX8_shownBy_4 rfl ?_
    refine go_bipush (6) dX8_shownBy_5 rfl ?_
    refine go_icmp_ge (pc' := 39) dX8_shownBy_7 rfl (fun c_7 => ?_) (fun c_7 => ?_)
    · -- ge at 7: yes
      exfalso; have t_0 := nI_toInt (n := k) (by omega); have l_0 : (6 : Int32).toInt = 6 := rfl; simp only [i_le, i_lt, i_eq, bi_eq] at c_7; omega
    · -- ge at 7: no
      show bw_go _ _ _ _ _ _ _ 10 [(3, .int _), (2, .int _), (0, .ref _), (1, .int _)] ([]) _ _
      refine go_iload_n dX8_shownBy_10 rfl ?_
      refine go_aload_n dX8_shownBy_11 rfl ?_
      refine go_aload_n dX8_shownBy_12 rfl ?_
      refine go_gfr dX8_shownBy_13 fl_8_7 rfl (ms_lt hm.1 (by decide)) hm.1.1.2 hm.1.2.1.1 ?_
      refine go_iload_n dX8_shownBy_16 rfl ?_
      refine go_iload_n dX8_shownBy_17 rfl ?_
      refine go_cv (as := [.ref _, .int _, .int _]) 5 dX8_shownBy_18 mt_8_150 (Or.inl rfl) rfl rfl (ms_lt hm.1 (by decide)) hm.1.1.2 (Nat.le_of_ble_eq_true rfl) (Nat.le_of_ble_eq_true rfl) (Nat.le_of_ble_eq_true rfl) (Nat.le_of_ble_eq_true rfl) (Nat.le_of_ble_eq_true rfl) ?_
      refine me_X8_balance hm.1 (ms_lt hm.1 (by decide)) hm.1.2.2.1 hv hkC hs hk ?_
      show bw_go _ _ _ _ _ _ _ 21 [(3, .int _), (2, .int _), (0, .ref _), (1, .int _)] ((.int _) :: (.int _) :: []) _ _
      refine go_if_le (pc' := 30) dX8_shownBy_21 rfl (fun c_21 => ?_) (fun c_21 => ?_)
      · -- le at 21: yes
        show bw_go _ _ _ _ _ _ _ 30 [(3, .int _), (2, .int _), (0, .ref _), (1, .int _)] ((.int _) :: []) _ _
        refine go_iconst (0) dX8_shownBy_30 rfl ?_
        refine go_ior dX8_shownBy_31 ?_
        first | rw [or_n] | rw [show (0 : Int32) = nI 0 from rfl, or_n, Nat.or_zero]
        refine go_istore_n dX8_shownBy_32 (Nat.lt_of_lt_of_le (Nat.lt_succ_self _) (Nat.le_of_ble_eq_true rfl)) ?_
        show bw_go _ _ _ _ _ _ _ 33 [(2, .int _), (3, .int _), (0, .ref _), (1, .int _)] ([]) _ _
        refine go_iinc dX8_shownBy_33 rfl (nI_1 k) (Nat.lt_of_lt_of_le (Nat.lt_succ_self _) (Nat.le_of_ble_eq_true rfl)) ?_
        show bw_go _ _ _ _ _ _ _ 36 [(3, .int _), (2, .int _), (0, .ref _), (1, .int _)] ([]) _ _
        refine go_goto (pc' := 4) dX8_shownBy_36 rfl ?_
        have e1 : orf (fun t => if 0 < bal (taC (nowC S)) s t (taC (nowC S)).1 then 2 ^ t else 0) (k + 1) = orf (fun t => if 0 < bal (taC (nowC S)) s t (taC (nowC S)).1 then 2 ^ t else 0) k ||| (if 0 < bal (taC (nowC S)) s k (cN (nowC S)) then 2 ^ k else 0) := rfl
        have b1 := bal_b (taC (nowC S)) s k (cN (nowC S))
        have t_0 := ofI_t (z := bal (taC (nowC S)) s k (cN (nowC S))) (by omega) (by omega)
        have l_0 := i_0
        simp only [i_le] at c_21
        first | (rw [if_neg (by omega), Nat.or_zero] at e1; rw [e1] at K; exact K) | (rw [if_pos (by omega)] at e1; rw [e1] at K; exact K)
      · -- le at 21: no
        show bw_go _ _ _ _ _ _ _ 24 [(3, .int _), (2, .int _), (0, .ref _), (1, .int _)] ((.int _) :: []) _ _
        refine go_iconst (1) dX8_shownBy_24 rfl ?_
        refine go_iload_n dX8_shownBy_25 rfl ?_
        refine go_ishl dX8_shownBy_26 ?_
        rw [sh_t k (by omega)]
        refine go_goto (pc' := 31) dX8_shownBy_27 rfl ?_
        show bw_go _ _ _ _ _ _ _ 31 [(3, .int _), (2, .int _), (0, .ref _), (1, .int _)] ((.int _) :: (.int _) :: []) _ _
        refine go_ior dX8_shownBy_31 ?_
        first | rw [or_n] | rw [show (0 : Int32) = nI 0 from rfl, or_n, Nat.or_zero]
        refine go_istore_n dX8_shownBy_32 (Nat.lt_of_lt_of_le (Nat.lt_succ_self _) (Nat.le_of_ble_eq_true rfl)) ?_
        show bw_go _ _ _ _ _ _ _ 33 [(2, .int _), (3, .int _), (0, .ref _), (1, .int _)] ([]) _ _
        refine go_iinc dX8_shownBy_33 rfl (nI_1 k) (Nat.lt_of_lt_of_le (Nat.lt_succ_self _) (Nat.le_of_ble_eq_true rfl)) ?_
        show bw_go _ _ _ _ _ _ _ 36 [(3, .int _), (2, .int _), (0, .ref _), (1, .int _)] ([]) _ _
        refine go_goto (pc' := 4) dX8_shownBy_36 rfl ?_
        have e1 : orf (fun t => if 0 < bal (taC (nowC S)) s t (taC (nowC S)).1 then 2 ^ t else 0) (k + 1) = orf (fun t => if 0 < bal (taC (nowC S)) s t (taC (nowC S)).1 then 2 ^ t else 0) k ||| (if 0 < bal (taC (nowC S)) s k (cN (nowC S)) then 2 ^ k else 0) := rfl
        have b1 := bal_b (taC (nowC S)) s k (cN (nowC S))
        have t_0 := ofI_t (z := bal (taC (nowC S)) s k (cN (nowC S))) (by omega) (by omega)
        have l_0 := i_0
        simp only [i_le] at c_21
        first | (rw [if_neg (by omega), Nat.or_zero] at e1; rw [e1] at K; exact K) | (rw [if_pos (by omega)] at e1; rw [e1] at K; exact K)
  · -- behind the last
    show bw_go _ _ _ _ _ _ _ 4 [(3, .int _), (2, .int _), (0, .ref _), (1, .int _)] ([]) _ _
    refine go_iload_n dX8_shownBy_4 rfl ?_
    refine go_bipush (6) dX8_shownBy_5 rfl ?_
    refine go_icmp_ge (pc' := 39) dX8_shownBy_7 rfl (fun c_7 => ?_) (fun c_7 => ?_)
    · -- ge at 7: yes
      show bw_go _ _ _ _ _ _ _ 39 [(3, .int _), (2, .int _), (0, .ref _), (1, .int _)] ([]) _ _
      refine go_iload_n dX8_shownBy_39 rfl ?_
      refine go_iret dX8_shownBy_40 rfl rfl ?_
      exact hQ
    · -- ge at 7: no
      exfalso; have t_0 := nI_toInt (n := 6) (by omega); have l_0 : (6 : Int32).toInt = 6 := rfl; simp only [i_le, i_lt, i_eq, bi_eq] at c_7; omega
set_option maxRecDepth 100000 in
set_option maxHeartbeats 4000000 in
theorem me_X8_allBears {X : Nat × (Nat → Int32)} {Q : Option Value → bw_H → Prop} {h : bw_H} {S : ST} (hm : MR h S) (hQ : Q (some (.int (nI (2 ^ cN (nowC S) - 1)))) h) : bw_me X 0 bm_X8_allBears false [.ref 60] h Q := by
  have hv := mr_v hm
  have hk := mr_k hm
  have k1 := hk.1
  show bw_go _ 0 8 1 false (some .int) cX8_allBears 0 [(0, .ref _)] [] _ _
  refine go_iconst (1) dX8_allBears_0 rfl ?_
  refine go_aload_n dX8_allBears_1 rfl ?_
  refine go_gfr dX8_allBears_2 fl_8_7 rfl (ms_lt hm.1 (by decide)) hm.1.1.2 hm.1.2.1.1 ?_
  refine go_iconst (0) dX8_allBears_5 rfl ?_
  refine go_ia dX8_allBears_6 hm.1.2.2.1 (ms_lt hm.1 (by decide)) (by decide) ?_
  rw [show (0 : Int32).toNatClampNeg = 0 from rfl, hv.1]
  refine go_ishl dX8_allBears_7 ?_
  refine go_iconst (1) dX8_allBears_8 rfl ?_
  refine go_isub dX8_allBears_9 ?_
  refine go_iret dX8_allBears_10 rfl rfl ?_
  exact qi hQ (all_t _ (by omega))
set_option maxRecDepth 100000 in
set_option maxHeartbeats 4000000 in
theorem me_X8_isBear {X : Nat × (Nat → Int32)} {Q : Option Value → bw_H → Prop} {h : bw_H} {S : ST} {i : Int32} (hm : MR h S) (hQ : Q (some (.int (bi (isn i (cN (nowC S)))))) h) : bw_me X 1 bm_X8_isBear false [.ref 60, .int i] h Q := by
  have hv := mr_v hm
  have hk := mr_k hm
  have k1 := hk.1
  show bw_go _ 1 8 2 false (some .boolean) cX8_isBear 0 [(0, .ref _), (1, .int _)] [] _ _
  refine go_iload_n dX8_isBear_0 rfl ?_
  refine go_i2l dX8_isBear_1 ?_
  refine go_lconst (0) dX8_isBear_2 rfl ?_
  refine go_aload_n dX8_isBear_3 rfl ?_
  refine go_gfr dX8_isBear_4 fl_8_7 rfl (ms_lt hm.1 (by decide)) hm.1.1.2 hm.1.2.1.1 ?_
  refine go_iconst (0) dX8_isBear_7 rfl ?_
  refine go_ia dX8_isBear_8 hm.1.2.2.1 (ms_lt hm.1 (by decide)) (by decide) ?_
  rw [show (0 : Int32).toNatClampNeg = 0 from rfl, hv.1]
  refine go_iconst (1) dX8_isBear_9 rfl ?_
  refine go_isub dX8_isBear_10 ?_
  refine go_i2l dX8_isBear_11 ?_
  refine go_cs (as := [.long _, .long _, .long _]) 0 dX8_isBear_12 rfl rfl mt_8_69 (Nat.le_of_ble_eq_true rfl) rfl rfl (Nat.le_of_ble_eq_true rfl) (Nat.le_of_ble_eq_true rfl) (Nat.le_of_ble_eq_true rfl) (Nat.le_of_ble_eq_true rfl) ?_
  refine me_X8_in ?_
  rw [in_pin (by omega)]
  show bw_go _ _ _ _ _ _ _ 15 [(0, .ref _), (1, .int _)] ((.int _) :: []) _ _
  refine go_iret dX8_isBear_15 rfl (bi_nar _) ?_
  exact hQ
