/-! BearWitness: chances -/
def wgt (s p : Nat) : Nat → Nat
  | 0 => 1
  | k + 1 => wgt s p k * (if s.testBit k = true then 12 - p else p)
theorem wgt_le {s p : Nat} (hp : p ≤ 12) : ∀ k, wgt s p k ≤ 12 ^ k
  | 0 => Nat.le_refl _
  | k + 1 => by
    have h1 := wgt_le (s := s) hp k
    show wgt s p k * (if s.testBit k = true then 12 - p else p) ≤ 12 ^ k * 12
    exact Nat.mul_le_mul h1 (by split <;> omega)
theorem p12 {n : Nat} (h : n ≤ 6) : 12 ^ n ≤ 2985984 := Nat.le_trans (Nat.pow_le_pow_right (n := 12) (by decide) h) (by decide)
theorem lz {b : Nat} (h : b < 2 ^ 63) : lN b = 0 ↔ b = 0 := pk_lEQ (b := 0) h (by decide)
def odK (C : CT) (x p : Nat) : Nat → Nat
  | 0 => 0
  | k + 1 => odK C x p k + (if (sho (taC C) k).testBit x = true then wgt k p (cN C) else 0)
def miK (C : CT) (p : Nat) : Nat → Nat
  | 0 => 0
  | k + 1 => miK C p k + wgt k p (cN C) * bc (sho (taC C) k)
theorem odK_le {C : CT} {x p : Nat} (hp : p ≤ 12) (hN : cN C ≤ 6) : ∀ k, odK C x p k ≤ k * 2985984
  | 0 => Nat.zero_le _
  | k + 1 => by
    have h1 := odK_le (x := x) hp hN k
    have h2 := Nat.le_trans (wgt_le (s := k) hp (cN C)) (p12 hN)
    have h3 : (if (sho (taC C) k).testBit x = true then wgt k p (cN C) else 0) ≤ 2985984 := by
      by_cases z : (sho (taC C) k).testBit x = true
      · rw [if_pos z]; exact h2
      · rw [if_neg z]; exact Nat.zero_le _
    rw [Nat.succ_mul]
    exact Nat.add_le_add h1 h3
theorem miK_le {C : CT} {p : Nat} (hp : p ≤ 12) (hN : cN C ≤ 6) : ∀ k, miK C p k ≤ k * 17915904
  | 0 => Nat.zero_le _
  | k + 1 => by
    have h1 := miK_le hp hN k
    have h2 := Nat.le_trans (wgt_le (s := k) hp (cN C)) (p12 hN)
    have h3 : wgt k p (cN C) * bc (sho (taC C) k) ≤ 2985984 * 6 := Nat.mul_le_mul h2 (cnt_le6 _ 6)
    rw [Nat.succ_mul]
    exact Nat.add_le_add h1 h3
def tlP (S : ST) (a b : Nat) : ST := wU S (lN (a / Nat.gcd a b)) (lN (b / Nat.gcd a b))
def yOdds (x p : Int32) (S : ST) : Int32 × ST := if isn x 6 = true ∧ 0 ≤ p.toInt ∧ p.toInt ≤ 12 then (if cN (nowC S) = 0 then (-4, S) else (1, tlP S (odK (nowC S) (rn x) (rn p) (2 ^ cN (nowC S))) (12 ^ cN (nowC S)))) else (-1, S)
def yMid (p : Int32) (S : ST) : Int32 × ST := if 0 ≤ p.toInt ∧ p.toInt ≤ 12 then (if cN (nowC S) = 0 then (-4, S) else (1, tlP S (miK (nowC S) (rn p) (2 ^ cN (nowC S))) (12 ^ cN (nowC S)))) else (-1, S)
theorem eu_s {a b k : Nat} (hb : 0 < b) (hk : k < 100) (h1 : a * b < 2 ^ (100 - k)) (h2 : k = 0 → a * b < 2 ^ 98) (h3 : k = 0 ∨ b ≤ a) : b * (a % b) < 2 ^ (100 - (k + 1)) := by
  by_cases hk0 : k = 0
  · subst hk0
    have h4 := h2 rfl
    have h5 : b * (a % b) ≤ b * a := Nat.mul_le_mul_left b (Nat.mod_le a b)
    rw [Nat.mul_comm b a] at h5
    have h6 : (2 : Nat) ^ 98 ≤ 2 ^ (100 - (0 + 1)) := Nat.pow_le_pow_right (by decide) (by decide)
    exact Nat.lt_of_le_of_lt h5 (Nat.lt_of_lt_of_le h4 h6)
  · have hle : b ≤ a := by omega
    have h6 : 2 * (a % b) ≤ a := by
      have z1 := Nat.div_add_mod a b
      have z2 : 1 ≤ a / b := Nat.div_pos hle hb
      have z3 : b * 1 ≤ b * (a / b) := Nat.mul_le_mul_left b z2
      have z4 := Nat.mod_lt a hb
      omega
    have h7 : b * (2 * (a % b)) ≤ b * a := Nat.mul_le_mul_left b h6
    rw [Nat.mul_comm b a, Nat.mul_left_comm] at h7
    have e : (2 : Nat) ^ (100 - k) = 2 * 2 ^ (100 - (k + 1)) := by
      rw [show 100 - k = (100 - (k + 1)) + 1 by omega, Nat.pow_succ, Nat.mul_comm]
    rw [e] at h1
    omega
theorem gcd_s (a b : Nat) : Nat.gcd b (a % b) = Nat.gcd a b := by rw [Nat.gcd_comm b, ← Nat.gcd_rec, Nat.gcd_comm]
theorem l_sl_s (h : bw_H) (q k : Nat) (v : Int64) : bw_l (bw_sl h q k v) q = bw_up (bw_l h q) k v := bw_up2_s _ _ _ _
theorem l_sl_o {h : bw_H} {p q k : Nat} {v : Int64} (n : p ≠ q) : bw_l (bw_sl h q k v) p = bw_l h p := bw_up2_o n
theorem xr_wU {h : bw_H} {S : ST} (hx : XR h S) (u o : Int64) : XR (bw_sl (bw_sl h 0 12 u) 0 13 o) (wU S u o) := by
  obtain ⟨h1, h2, h3, h4, h6, h7, h8⟩ := hx
  refine ⟨h1, h2, h3, h4, h6, h7, h8.1, h8.2.1, ?_, ?_⟩
  · rw [l_sl_s, bw_up_o (by decide), l_sl_s, bw_up_s]; rfl
  · rw [l_sl_s, bw_up_s]; rfl
theorem frM_sl {h : bw_H} {k : Nat} {u : Int64} : frM h (bw_sl h 0 k u) := rfl
set_option maxRecDepth 100000 in
set_option maxHeartbeats 4000000 in
theorem me_X7_commonDivisor {X : Nat × (Nat → Int32)} {Q : Option Value → bw_H → Prop} {h : bw_H} {a0 b0 : Nat} (ha : a0 < 2 ^ 40) (hb : b0 < 2 ^ 40) (hQ : Q (some (.long (lN (Nat.gcd a0 b0)))) h) : bw_me X 0 bm_X7_commonDivisor false [.long (lN a0), .long (lN b0)] h Q := by
  have hab : a0 * b0 < 2 ^ 98 := by
    have z : a0 * b0 ≤ 2 ^ 40 * 2 ^ 40 := Nat.mul_le_mul (Nat.le_of_lt ha) (Nat.le_of_lt hb)
    exact Nat.lt_of_le_of_lt z (by decide)
  show bw_go _ 0 7 7 false (some .long) cX7_commonDivisor 0 [(0, .long _), (2, .long _)] [] _ _
  refine go_iconst (0) dX7_commonDivisor_0 rfl ?_
  refine go_istore dX7_commonDivisor_1 (Nat.lt_of_lt_of_le (Nat.lt_succ_self _) (Nat.le_of_ble_eq_true rfl)) ?_
  show bw_go _ _ _ _ _ _ _ 3 [(4, .int _), (0, .long _), (2, .long _)] ([]) _ _
  refine go_for (P := fun k => ∀ (a b : Nat), (a < 2 ^ 60 ∧ b < 2 ^ 60 ∧ Nat.gcd a b = Nat.gcd a0 b0 ∧ a * b < 2 ^ (100 - k) ∧ (k = 0 → a * b < 2 ^ 98) ∧ (k = 0 ∨ b ≤ a)) → bw_go X 0 7 7 false (some .long) cX7_commonDivisor 3 [(4, .int (nI k)), (0, .long (lN a)), (2, .long (lN b))] [] h Q) (N := 100) (fun k hk K => ?_) ?_ (0) (Nat.zero_le _) a0 b0 ⟨by omega, by omega, rfl, Nat.lt_of_lt_of_le hab (Nat.pow_le_pow_right (by decide) (by decide)), fun _ => hab, Or.inl rfl⟩
  · -- a turn
    intro a b hv
    obtain ⟨v1, v2, v3, v4, v5, v6⟩ := hv
    show bw_go _ _ _ _ _ _ _ 3 [(4, .int _), (0, .long _), (2, .long _)] ([]) _ _
    refine go_iload dX7_commonDivisor_3 rfl ?_
    refine go_bipush (100) dX7_commonDivisor_5 rfl ?_
    refine go_icmp_ge (pc' := 32) dX7_commonDivisor_7 rfl (fun c_7 => ?_) (fun c_7 => ?_)
    · -- ge at 7: yes
      show bw_go _ _ _ _ _ _ _ 32 [(4, .int _), (0, .long _), (2, .long _)] ([]) _ _
      refine go_lload_n dX7_commonDivisor_32 rfl ?_
      refine go_lret dX7_commonDivisor_33 rfl ?_
      exfalso; have t_0 := nI_toInt (n := k) (by omega); have l_0 : (100 : Int32).toInt = 100 := rfl; simp only [i_le, i_lt, i_eq, bi_eq] at c_7; omega
    · -- ge at 7: no
      show bw_go _ _ _ _ _ _ _ 10 [(4, .int _), (0, .long _), (2, .long _)] ([]) _ _
      refine go_lload_n dX7_commonDivisor_10 rfl ?_
      refine go_lconst (0) dX7_commonDivisor_11 rfl ?_
      refine go_lcmp dX7_commonDivisor_12 ?_
      refine go_if_eq (pc' := 32) dX7_commonDivisor_13 rfl (fun c_13 => ?_) (fun c_13 => ?_)
      · -- eq at 13: yes
        show bw_go _ _ _ _ _ _ _ 32 [(4, .int _), (0, .long _), (2, .long _)] ([]) _ _
        refine go_lload_n dX7_commonDivisor_32 rfl ?_
        refine go_lret dX7_commonDivisor_33 rfl ?_
        have e0 : b = 0 := (lz (by omega)).mp ((lg_cmp_eq _ _).mp c_13)
        subst e0
        rw [← v3, Nat.gcd_zero_right] at hQ
        exact hQ
      · -- eq at 13: no
        show bw_go _ _ _ _ _ _ _ 16 [(4, .int _), (0, .long _), (2, .long _)] ([]) _ _
        have hbz : ¬ b = 0 := fun z => c_13 ((lg_cmp_eq _ _).mpr ((lz (by omega)).mpr z))
        refine go_lload_n dX7_commonDivisor_16 rfl ?_
        refine go_lload_n dX7_commonDivisor_17 rfl ?_
        refine go_lrem dX7_commonDivisor_18 (fun z => hbz ((lz (by omega)).mp z)) ?_
        rw [pk_lRem (by omega) (by omega) (by omega)]
        refine go_lstore dX7_commonDivisor_19 (Nat.lt_of_lt_of_le (Nat.lt_succ_self _) (Nat.le_of_ble_eq_true rfl)) ?_
        show bw_go _ _ _ _ _ _ _ 21 [(5, .long _), (4, .int _), (0, .long _), (2, .long _)] ([]) _ _
        refine go_lload_n dX7_commonDivisor_21 rfl ?_
        refine go_lstore_n dX7_commonDivisor_22 (Nat.lt_of_lt_of_le (Nat.lt_succ_self _) (Nat.le_of_ble_eq_true rfl)) ?_
        show bw_go _ _ _ _ _ _ _ 23 [(0, .long _), (5, .long _), (4, .int _), (2, .long _)] ([]) _ _
        refine go_lload dX7_commonDivisor_23 rfl ?_
        refine go_lstore_n dX7_commonDivisor_25 (Nat.lt_of_lt_of_le (Nat.lt_succ_self _) (Nat.le_of_ble_eq_true rfl)) ?_
        show bw_go _ _ _ _ _ _ _ 26 [(2, .long _), (0, .long _), (5, .long _), (4, .int _)] ([]) _ _
        refine go_iinc dX7_commonDivisor_26 rfl (nI_1 k) (Nat.lt_of_lt_of_le (Nat.lt_succ_self _) (Nat.le_of_ble_eq_true rfl)) ?_
        show bw_go _ _ _ _ _ _ _ 29 [(4, .int _), (2, .long _), (0, .long _), (5, .long _)] ([]) _ _
        refine go_goto (pc' := 3) dX7_commonDivisor_29 rfl ?_
        refine go_ls [(4, .int _), (0, .long _), (2, .long _)] (by show List.Nodup ([4, 0, 2] : List Nat); decide) (by show List.Nodup ([4, 2, 0, 5] : List Nat); decide) (le_cons rfl (le_cons rfl (le_cons rfl (le_nil _)))) ?_
        exact K b (a % b) ⟨v2, Nat.lt_trans (Nat.mod_lt a (by omega)) v2, (gcd_s a b).trans v3, eu_s (by omega) hk v4 v5 v6, fun z => absurd z (by omega), Or.inr (Nat.le_of_lt (Nat.mod_lt a (by omega)))⟩
  · -- behind the last
    intro a b hv
    obtain ⟨v1, v2, v3, v4, v5, v6⟩ := hv
    show bw_go _ _ _ _ _ _ _ 3 [(4, .int _), (0, .long _), (2, .long _)] ([]) _ _
    refine go_iload dX7_commonDivisor_3 rfl ?_
    refine go_bipush (100) dX7_commonDivisor_5 rfl ?_
    refine go_icmp_ge (pc' := 32) dX7_commonDivisor_7 rfl (fun c_7 => ?_) (fun c_7 => ?_)
    · -- ge at 7: yes
      show bw_go _ _ _ _ _ _ _ 32 [(4, .int _), (0, .long _), (2, .long _)] ([]) _ _
      refine go_lload_n dX7_commonDivisor_32 rfl ?_
      refine go_lret dX7_commonDivisor_33 rfl ?_
      have hab : a * b = 0 := by
        have z : a * b < 2 ^ (100 - 100) := v4
        have z2 : (2 : Nat) ^ (100 - 100) = 1 := by decide
        omega
      have hb0 : b = 0 := by
        rcases Nat.mul_eq_zero.mp hab with z | z
        · omega
        · exact z
      subst hb0
      rw [← v3, Nat.gcd_zero_right] at hQ
      exact hQ
    · -- ge at 7: no
      exfalso; have t_0 := nI_toInt (n := 100) (by omega); have l_0 : (100 : Int32).toInt = 100 := rfl; simp only [i_le, i_lt, i_eq, bi_eq] at c_7; omega
set_option maxRecDepth 100000 in
set_option maxHeartbeats 4000000 in
theorem me_X7_tellPart {X : Nat × (Nat → Int32)} {Q : Option Value → bw_H → Prop} {h : bw_H} {S : ST} {a b : Nat} (hx : XR h S) (ha : a < 2 ^ 40) (hb : b < 2 ^ 40) (hb0 : 0 < b) (hQ : ∀ g, XR g (tlP S a b) → frM h g → Q none g) : bw_me X 1 bm_X7_tellPart false [.ref 0, .long (lN a), .long (lN b)] h Q := by
  have hg0 : 0 < Nat.gcd a b := Nat.gcd_pos_of_pos_right a hb0
  have hgb : Nat.gcd a b ≤ b := Nat.gcd_le_right a hb0
  have hgz : ¬ lN (Nat.gcd a b) = 0 := fun z => by have := (lz (by omega)).mp z; omega
  show bw_go _ 1 7 7 false none cX7_tellPart 0 [(0, .ref _), (1, .long _), (3, .long _)] [] _ _
  refine go_lload_n dX7_tellPart_0 rfl ?_
  refine go_lload_n dX7_tellPart_1 rfl ?_
  refine go_cs (as := [.long _, .long _]) 0 dX7_tellPart_2 rfl rfl mt_7_363 (Nat.le_of_ble_eq_true rfl) rfl rfl (Nat.le_of_ble_eq_true rfl) (Nat.le_of_ble_eq_true rfl) (Nat.le_of_ble_eq_true rfl) (Nat.le_of_ble_eq_true rfl) ?_
  refine me_X7_commonDivisor ha hb ?_
  show bw_go _ _ _ _ _ _ _ 5 [(0, .ref _), (1, .long _), (3, .long _)] ((.long _) :: []) _ _
  refine go_lstore dX7_tellPart_5 (Nat.lt_of_lt_of_le (Nat.lt_succ_self _) (Nat.le_of_ble_eq_true rfl)) ?_
  show bw_go _ _ _ _ _ _ _ 7 [(5, .long _), (0, .ref _), (1, .long _), (3, .long _)] ([]) _ _
  refine go_lload dX7_tellPart_7 rfl ?_
  refine go_lconst (0) dX7_tellPart_9 rfl ?_
  refine go_lcmp dX7_tellPart_10 ?_
  refine go_if_gt (pc' := 15) dX7_tellPart_11 rfl (fun c_11 => ?_) (fun c_11 => ?_)
  · -- gt at 11: yes
    show bw_go _ _ _ _ _ _ _ 15 [(5, .long _), (0, .ref _), (1, .long _), (3, .long _)] ([]) _ _
    refine go_aload_n dX7_tellPart_15 rfl ?_
    refine go_lload_n dX7_tellPart_16 rfl ?_
    refine go_lload dX7_tellPart_17 rfl ?_
    refine go_ldiv dX7_tellPart_19 hgz ?_
    rw [pk_lDiv (by omega) hg0 (by omega)]
    refine go_pfl dX7_tellPart_20 fl_7_79 rfl hx.1.1.1 hx.1.1.2.1 (Nat.le_of_ble_eq_true rfl) rfl ?_
    show bw_go _ _ _ _ _ _ _ 23 [(5, .long _), (0, .ref _), (1, .long _), (3, .long _)] ([]) _ _
    refine go_aload_n dX7_tellPart_23 rfl ?_
    refine go_lload_n dX7_tellPart_24 rfl ?_
    refine go_lload dX7_tellPart_25 rfl ?_
    refine go_ldiv dX7_tellPart_27 hgz ?_
    rw [pk_lDiv (by omega) hg0 (by omega)]
    refine go_pfl dX7_tellPart_28 fl_7_83 rfl hx.1.1.1 hx.1.1.2.1 (Nat.le_of_ble_eq_true rfl) rfl ?_
    show bw_go _ _ _ _ _ _ _ 31 [(5, .long _), (0, .ref _), (1, .long _), (3, .long _)] ([]) _ _
    refine go_vret dX7_tellPart_31 rfl ?_
    exact hQ _ (xr_wU hx _ _) (frM_t frM_sl frM_sl)
  · -- gt at 11: no
    show bw_go _ _ _ _ _ _ _ 14 [(5, .long _), (0, .ref _), (1, .long _), (3, .long _)] ([]) _ _
    refine go_vret dX7_tellPart_14 rfl ?_
    exact absurd ((lg_cmp_gt _ _).mpr ((pk_lLT (a := 0) (by decide) (by omega)).mpr hg0)) c_11
set_option maxRecDepth 100000 in
set_option maxHeartbeats 4000000 in
theorem me_X7_weightOf {X : Nat × (Nat → Int32)} {Q : Option Value → bw_H → Prop} {h : bw_H} {S : ST} {s p : Nat} (hx : XR h S) (hs : s < 64) (hp : p ≤ 12) (hQ : Q (some (.long (lN (wgt s p (cN (nowC S)))))) h) : bw_me X 1 bm_X7_weightOf false [.ref 0, .int (nI s), .int (nI p)] h Q := by
  have hc : bw_ct h 11 (nowC S) := hx.2.2.2.1.1.1
  have hN := hc.2.2.1
  show bw_go _ 1 7 6 false (some .long) cX7_weightOf 0 [(0, .ref _), (1, .int _), (2, .int _)] [] _ _
  refine go_lconst (1) dX7_weightOf_0 rfl ?_
  refine go_lstore_n dX7_weightOf_1 (Nat.lt_of_lt_of_le (Nat.lt_succ_self _) (Nat.le_of_ble_eq_true rfl)) ?_
  show bw_go _ _ _ _ _ _ _ 2 [(3, .long _), (0, .ref _), (1, .int _), (2, .int _)] ([]) _ _
  refine go_iconst (0) dX7_weightOf_2 rfl ?_
  refine go_istore dX7_weightOf_3 (Nat.lt_of_lt_of_le (Nat.lt_succ_self _) (Nat.le_of_ble_eq_true rfl)) ?_
  show bw_go _ _ _ _ _ _ _ 5 [(5, .int _), (3, .long _), (0, .ref _), (1, .int _), (2, .int _)] ([]) _ _
  refine go_for (P := fun k => bw_go X 1 7 6 false (some .long) cX7_weightOf 5 [(5, .int (nI k)), (3, .long (lN (wgt s p k))), (0, .ref (0)), (1, .int (nI s)), (2, .int (nI p))] [] h Q) (N := cN (nowC S)) (fun k hk K => ?_) ?_ (0) (Nat.zero_le _)
  · -- a turn
    show bw_go _ _ _ _ _ _ _ 5 [(5, .int _), (3, .long _), (0, .ref _), (1, .int _), (2, .int _)] ([]) _ _
    refine go_iload dX7_weightOf_5 rfl ?_
    refine go_aload_n dX7_weightOf_7 rfl ?_
    refine go_gfr dX7_weightOf_8 fl_7_24 rfl hx.1.1.1 hx.1.1.2.1 hx.1.1.2.2.2.2.1 ?_
    refine go_gfi dX7_weightOf_11 fl_7_141 rfl hc.1.1.1 hc.1.1.2.1 ?_
    rw [hc.2.1.1]
    refine go_icmp_ge (pc' := 45) dX7_weightOf_14 rfl (fun c_14 => ?_) (fun c_14 => ?_)
    · -- ge at 14: yes
      exfalso; have t_0 := nI_toInt (n := cN (nowC S)) (by omega); have t_1 := nI_toInt (n := k) (by omega); simp only [i_le, i_lt, i_eq, bi_eq] at c_14; omega
    · -- ge at 14: no
      show bw_go _ _ _ _ _ _ _ 17 [(5, .int _), (3, .long _), (0, .ref _), (1, .int _), (2, .int _)] ([]) _ _
      refine go_lload_n dX7_weightOf_17 rfl ?_
      refine go_iload_n dX7_weightOf_18 rfl ?_
      refine go_iload dX7_weightOf_19 rfl ?_
      refine go_cs (as := [.int _, .int _]) 0 dX7_weightOf_21 rfl rfl mt_7_202 (Nat.le_of_ble_eq_true rfl) rfl rfl (Nat.le_of_ble_eq_true rfl) (Nat.le_of_ble_eq_true rfl) (Nat.le_of_ble_eq_true rfl) (Nat.le_of_ble_eq_true rfl) ?_
      refine me_X7_isIn hs (by omega) ?_
      show bw_go _ _ _ _ _ _ _ 24 [(5, .int _), (3, .long _), (0, .ref _), (1, .int _), (2, .int _)] ((.int _) :: (.long _) :: []) _ _
      refine go_ifb_eq (pc' := 35) dX7_weightOf_24 rfl (fun c_24 => ?_) (fun c_24 => ?_)
      · -- eq at 24: yes
        show bw_go _ _ _ _ _ _ _ 35 [(5, .int _), (3, .long _), (0, .ref _), (1, .int _), (2, .int _)] ((.long _) :: []) _ _
        refine go_iload_n dX7_weightOf_35 rfl ?_
        refine go_i2l dX7_weightOf_36 ?_
        first | rw [nI_l (by omega)] | skip
        refine go_lmul dX7_weightOf_37 ?_
        rw [lN_mul]
        refine go_lstore_n dX7_weightOf_38 (Nat.lt_of_lt_of_le (Nat.lt_succ_self _) (Nat.le_of_ble_eq_true rfl)) ?_
        show bw_go _ _ _ _ _ _ _ 39 [(3, .long _), (5, .int _), (0, .ref _), (1, .int _), (2, .int _)] ([]) _ _
        refine go_iinc dX7_weightOf_39 rfl (nI_1 k) (Nat.lt_of_lt_of_le (Nat.lt_succ_self _) (Nat.le_of_ble_eq_true rfl)) ?_
        show bw_go _ _ _ _ _ _ _ 42 [(5, .int _), (3, .long _), (0, .ref _), (1, .int _), (2, .int _)] ([]) _ _
        refine go_goto (pc' := 5) dX7_weightOf_42 rfl ?_
        first | rw [show wgt s p (k + 1) = wgt s p k * (12 - p) from congrArg (wgt s p k * ·) (if_pos c_24)] at K | rw [show wgt s p (k + 1) = wgt s p k * p from congrArg (wgt s p k * ·) (if_neg (by rw [c_24]; decide))] at K
        exact K
      · -- eq at 24: no
        show bw_go _ _ _ _ _ _ _ 27 [(5, .int _), (3, .long _), (0, .ref _), (1, .int _), (2, .int _)] ((.long _) :: []) _ _
        refine go_bipush (12) dX7_weightOf_27 rfl ?_
        refine go_iload_n dX7_weightOf_29 rfl ?_
        refine go_isub dX7_weightOf_30 ?_
        rw [show (12 : Int32) = nI 12 from rfl, pk_sub (by omega)]
        refine go_i2l dX7_weightOf_31 ?_
        rw [nI_l (by omega)]
        refine go_goto (pc' := 37) dX7_weightOf_32 rfl ?_
        show bw_go _ _ _ _ _ _ _ 37 [(5, .int _), (3, .long _), (0, .ref _), (1, .int _), (2, .int _)] ((.long _) :: (.long _) :: []) _ _
        first | rw [nI_l (by omega)] | skip
        refine go_lmul dX7_weightOf_37 ?_
        rw [lN_mul]
        refine go_lstore_n dX7_weightOf_38 (Nat.lt_of_lt_of_le (Nat.lt_succ_self _) (Nat.le_of_ble_eq_true rfl)) ?_
        show bw_go _ _ _ _ _ _ _ 39 [(3, .long _), (5, .int _), (0, .ref _), (1, .int _), (2, .int _)] ([]) _ _
        refine go_iinc dX7_weightOf_39 rfl (nI_1 k) (Nat.lt_of_lt_of_le (Nat.lt_succ_self _) (Nat.le_of_ble_eq_true rfl)) ?_
        show bw_go _ _ _ _ _ _ _ 42 [(5, .int _), (3, .long _), (0, .ref _), (1, .int _), (2, .int _)] ([]) _ _
        refine go_goto (pc' := 5) dX7_weightOf_42 rfl ?_
        first | rw [show wgt s p (k + 1) = wgt s p k * (12 - p) from congrArg (wgt s p k * ·) (if_pos c_24)] at K | rw [show wgt s p (k + 1) = wgt s p k * p from congrArg (wgt s p k * ·) (if_neg (by rw [c_24]; decide))] at K
        exact K
  · -- behind the last
    show bw_go _ _ _ _ _ _ _ 5 [(5, .int _), (3, .long _), (0, .ref _), (1, .int _), (2, .int _)] ([]) _ _
    refine go_iload dX7_weightOf_5 rfl ?_
    refine go_aload_n dX7_weightOf_7 rfl ?_
    refine go_gfr dX7_weightOf_8 fl_7_24 rfl hx.1.1.1 hx.1.1.2.1 hx.1.1.2.2.2.2.1 ?_
    refine go_gfi dX7_weightOf_11 fl_7_141 rfl hc.1.1.1 hc.1.1.2.1 ?_
    rw [hc.2.1.1]
    refine go_icmp_ge (pc' := 45) dX7_weightOf_14 rfl (fun c_14 => ?_) (fun c_14 => ?_)
    · -- ge at 14: yes
      show bw_go _ _ _ _ _ _ _ 45 [(5, .int _), (3, .long _), (0, .ref _), (1, .int _), (2, .int _)] ([]) _ _
      refine go_lload_n dX7_weightOf_45 rfl ?_
      refine go_lret dX7_weightOf_46 rfl ?_
      exact hQ
    · -- ge at 14: no
      exfalso; have t_0 := nI_toInt (n := cN (nowC S)) (by omega); simp only [i_le, i_lt, i_eq, bi_eq] at c_14; omega
set_option maxRecDepth 100000 in
set_option maxHeartbeats 4000000 in
theorem me_X7_allWeight {X : Nat × (Nat → Int32)} {Q : Option Value → bw_H → Prop} {h : bw_H} {S : ST} (hx : XR h S) (hQ : Q (some (.long (lN (12 ^ cN (nowC S))))) h) : bw_me X 0 bm_X7_allWeight false [.ref 0] h Q := by
  have hc : bw_ct h 11 (nowC S) := hx.2.2.2.1.1.1
  have hN := hc.2.2.1
  show bw_go _ 0 7 4 false (some .long) cX7_allWeight 0 [(0, .ref _)] [] _ _
  refine go_lconst (1) dX7_allWeight_0 rfl ?_
  refine go_lstore_n dX7_allWeight_1 (Nat.lt_of_lt_of_le (Nat.lt_succ_self _) (Nat.le_of_ble_eq_true rfl)) ?_
  show bw_go _ _ _ _ _ _ _ 2 [(1, .long _), (0, .ref _)] ([]) _ _
  refine go_iconst (0) dX7_allWeight_2 rfl ?_
  refine go_istore_n dX7_allWeight_3 (Nat.lt_of_lt_of_le (Nat.lt_succ_self _) (Nat.le_of_ble_eq_true rfl)) ?_
  show bw_go _ _ _ _ _ _ _ 4 [(3, .int _), (1, .long _), (0, .ref _)] ([]) _ _
  refine go_for (P := fun k => bw_go X 0 7 4 false (some .long) cX7_allWeight 4 [(3, .int (nI k)), (1, .long (lN (12 ^ k))), (0, .ref (0))] [] h Q) (N := cN (nowC S)) (fun k hk K => ?_) ?_ (0) (Nat.zero_le _)
  · -- a turn
    show bw_go _ _ _ _ _ _ _ 4 [(3, .int _), (1, .long _), (0, .ref _)] ([]) _ _
    refine go_iload_n dX7_allWeight_4 rfl ?_
    refine go_aload_n dX7_allWeight_5 rfl ?_
    refine go_gfr dX7_allWeight_6 fl_7_24 rfl hx.1.1.1 hx.1.1.2.1 hx.1.1.2.2.2.2.1 ?_
    refine go_gfi dX7_allWeight_9 fl_7_141 rfl hc.1.1.1 hc.1.1.2.1 ?_
    rw [hc.2.1.1]
    refine go_icmp_ge (pc' := 27) dX7_allWeight_12 rfl (fun c_12 => ?_) (fun c_12 => ?_)
    · -- ge at 12: yes
      exfalso; have t_0 := nI_toInt (n := cN (nowC S)) (by omega); have t_1 := nI_toInt (n := k) (by omega); simp only [i_le, i_lt, i_eq, bi_eq] at c_12; omega
    · -- ge at 12: no
      show bw_go _ _ _ _ _ _ _ 15 [(3, .int _), (1, .long _), (0, .ref _)] ([]) _ _
      refine go_lload_n dX7_allWeight_15 rfl ?_
      refine go_ldc2_w dX7_allWeight_16 kc_7_361 ?_
      refine go_lmul dX7_allWeight_19 ?_
      rw [show (12 : Int64) = lN 12 from rfl, lN_mul, ← Nat.pow_succ]
      refine go_lstore_n dX7_allWeight_20 (Nat.lt_of_lt_of_le (Nat.lt_succ_self _) (Nat.le_of_ble_eq_true rfl)) ?_
      show bw_go _ _ _ _ _ _ _ 21 [(1, .long _), (3, .int _), (0, .ref _)] ([]) _ _
      refine go_iinc dX7_allWeight_21 rfl (nI_1 k) (Nat.lt_of_lt_of_le (Nat.lt_succ_self _) (Nat.le_of_ble_eq_true rfl)) ?_
      show bw_go _ _ _ _ _ _ _ 24 [(3, .int _), (1, .long _), (0, .ref _)] ([]) _ _
      refine go_goto (pc' := 4) dX7_allWeight_24 rfl ?_
      exact K
  · -- behind the last
    show bw_go _ _ _ _ _ _ _ 4 [(3, .int _), (1, .long _), (0, .ref _)] ([]) _ _
    refine go_iload_n dX7_allWeight_4 rfl ?_
    refine go_aload_n dX7_allWeight_5 rfl ?_
    refine go_gfr dX7_allWeight_6 fl_7_24 rfl hx.1.1.1 hx.1.1.2.1 hx.1.1.2.2.2.2.1 ?_
    refine go_gfi dX7_allWeight_9 fl_7_141 rfl hc.1.1.1 hc.1.1.2.1 ?_
    rw [hc.2.1.1]
    refine go_icmp_ge (pc' := 27) dX7_allWeight_12 rfl (fun c_12 => ?_) (fun c_12 => ?_)
    · -- ge at 12: yes
      show bw_go _ _ _ _ _ _ _ 27 [(3, .int _), (1, .long _), (0, .ref _)] ([]) _ _
      refine go_lload_n dX7_allWeight_27 rfl ?_
      refine go_lret dX7_allWeight_28 rfl ?_
      exact hQ
    · -- ge at 12: no
      exfalso; have t_0 := nI_toInt (n := cN (nowC S)) (by omega); simp only [i_le, i_lt, i_eq, bi_eq] at c_12; omega
set_option maxRecDepth 100000 in
set_option maxHeartbeats 4000000 in
theorem me_X7_odds {X : Nat × (Nat → Int32)} {Q : Option Value → bw_H → Prop} {h : bw_H} {S : ST} {x p : Int32} (hx : XR h S) (hQ : PX h Q (yOdds x p S)) : bw_me X 4 bm_X7_odds false [.ref 0, .int x, .int p] h Q := by
  have hc : bw_ct h 11 (nowC S) := hx.2.2.2.1.1.1
  have hN := hc.2.2.1
  show bw_go _ 4 7 6 false (some .int) cX7_odds 0 [(0, .ref _), (1, .int _), (2, .int _)] [] _ _
  refine go_iload_n dX7_odds_0 rfl ?_
  refine go_cs (as := [.int _]) 0 dX7_odds_1 rfl rfl mt_7_175 (Nat.le_of_ble_eq_true rfl) rfl rfl (Nat.le_of_ble_eq_true rfl) (Nat.le_of_ble_eq_true rfl) (Nat.le_of_ble_eq_true rfl) (Nat.le_of_ble_eq_true rfl) ?_
  refine me_X7_isThing ?_
  show bw_go _ _ _ _ _ _ _ 4 [(0, .ref _), (1, .int _), (2, .int _)] ((.int _) :: []) _ _
  refine go_ifb_eq (pc' := 14) dX7_odds_4 rfl (fun c_4 => ?_) (fun c_4 => ?_)
  · -- eq at 4: yes
    show bw_go _ _ _ _ _ _ _ 14 [(0, .ref _), (1, .int _), (2, .int _)] ([]) _ _
    refine go_iconst (-1) dX7_odds_14 rfl ?_
    refine go_iret dX7_odds_15 rfl rfl ?_
    refine q_x hQ ?_ hx (frM_r h)
    unfold yOdds
    rw [if_neg (fun z => Bool.noConfusion ((show isn x 6 = false from c_4).symm.trans z.1))]
  · -- eq at 4: no
    show bw_go _ _ _ _ _ _ _ 7 [(0, .ref _), (1, .int _), (2, .int _)] ([]) _ _
    refine go_iload_n dX7_odds_7 rfl ?_
    refine go_cs (as := [.int _]) 0 dX7_odds_8 rfl rfl mt_7_269 (Nat.le_of_ble_eq_true rfl) rfl rfl (Nat.le_of_ble_eq_true rfl) (Nat.le_of_ble_eq_true rfl) (Nat.le_of_ble_eq_true rfl) (Nat.le_of_ble_eq_true rfl) ?_
    refine me_X7_isChance ?_
    show bw_go _ _ _ _ _ _ _ 11 [(0, .ref _), (1, .int _), (2, .int _)] ((.int _) :: []) _ _
    refine go_ifb_ne (pc' := 16) dX7_odds_11 rfl (fun c_11 => ?_) (fun c_11 => ?_)
    · -- ne at 11: yes
      show bw_go _ _ _ _ _ _ _ 16 [(0, .ref _), (1, .int _), (2, .int _)] ([]) _ _
      obtain ⟨y, hy, rfl⟩ := isn_ex (r := x) (num := 6) c_4 (by decide)
      have hp12 : p.toInt ≤ 12 ∧ 0 ≤ p.toInt := (of_decide_eq_true c_11).symm
      obtain ⟨w, hw, rfl⟩ := isn_ex (r := p) (num := 13) (decide_eq_true (by omega)) (by decide)
      have hw12 : w ≤ 12 := by omega
      refine go_aload_n dX7_odds_16 rfl ?_
      refine go_gfr dX7_odds_17 fl_7_24 rfl hx.1.1.1 hx.1.1.2.1 hx.1.1.2.2.2.2.1 ?_
      refine go_gfi dX7_odds_20 fl_7_141 rfl hc.1.1.1 hc.1.1.2.1 ?_
      rw [hc.2.1.1]
      refine go_if_ne (pc' := 29) dX7_odds_23 rfl (fun c_23 => ?_) (fun c_23 => ?_)
      · -- ne at 23: yes
        show bw_go _ _ _ _ _ _ _ 29 [(0, .ref _), (1, .int _), (2, .int _)] ([]) _ _
        refine go_aload_n dX7_odds_29 rfl ?_
        refine go_gfr dX7_odds_30 fl_7_52 rfl hx.1.1.1 hx.1.1.2.1 hx.1.1.2.2.2.2.2.2.2.2.2.1 ?_
        refine go_aload_n dX7_odds_33 rfl ?_
        refine go_gfr dX7_odds_34 fl_7_24 rfl hx.1.1.1 hx.1.1.2.1 hx.1.1.2.2.2.2.1 ?_
        refine go_cv (as := [.ref _]) 3 dX7_odds_37 mt_7_184 (Or.inr rfl) rfl rfl hx.1.2.2.2.2.2.1.1.1 hx.1.2.2.2.2.2.1.1.2.1 (Nat.le_of_ble_eq_true rfl) (Nat.le_of_ble_eq_true rfl) (Nat.le_of_ble_eq_true rfl) (Nat.le_of_ble_eq_true rfl) (Nat.le_of_ble_eq_true rfl) ?_
        refine me_X5_hear hx.1.2.2.2.2.2.1 hc (Or.inr (by decide)) (fun I hI => ?_)
        have hx2 : XR (bw_wi h I) S := xr_sc hx (fun q hq => hI.2 q (by omega) (by omega) (by omega))
        have hf2 : frM h (bw_wi h I) := frM_wi rfl (fun q h1 h2 => hI.2 q (by omega) (by omega) (by omega))
        have ht : bw_ta (bw_wi h I) 46 (taC (nowC S)) := hI.1
        have h2N := p2N hN
        have hc2 : bw_ct (bw_wi h I) 11 (nowC S) := hx2.2.2.2.1.1.1
        have hp0 : 0 < 2 ^ cN (nowC S) := Nat.two_pow_pos _
        have h0 : ¬ cN (nowC S) = 0 := fun z => c_23 ((nI_eq (a := cN (nowC S)) (b := 0) (by omega) (by omega)).mpr z)
        show bw_go _ _ _ _ _ _ _ 40 [(0, .ref _), (1, .int _), (2, .int _)] ([]) _ _
        refine go_lconst (0) dX7_odds_40 rfl ?_
        refine go_lstore_n dX7_odds_41 (Nat.lt_of_lt_of_le (Nat.lt_succ_self _) (Nat.le_of_ble_eq_true rfl)) ?_
        show bw_go _ _ _ _ _ _ _ 42 [(3, .long _), (0, .ref _), (1, .int _), (2, .int _)] ([]) _ _
        refine go_iconst (0) dX7_odds_42 rfl ?_
        refine go_istore dX7_odds_43 (Nat.lt_of_lt_of_le (Nat.lt_succ_self _) (Nat.le_of_ble_eq_true rfl)) ?_
        show bw_go _ _ _ _ _ _ _ 45 [(5, .int _), (3, .long _), (0, .ref _), (1, .int _), (2, .int _)] ([]) _ _
        refine go_for (P := fun k => bw_go X 4 7 6 false (some .int) cX7_odds 45 [(5, .int (nI k)), (3, .long (lN (odK (nowC S) y w k))), (0, .ref (0)), (1, .int (nI y)), (2, .int (nI w))] [] (bw_wi h I) Q) (N := 2 ^ cN (nowC S)) (fun k hk K => ?_) ?_ (0) (Nat.zero_le _)
        · -- a turn
          show bw_go _ _ _ _ _ _ _ 45 [(5, .int _), (3, .long _), (0, .ref _), (1, .int _), (2, .int _)] ([]) _ _
          refine go_iload dX7_odds_45 rfl ?_
          refine go_aload_n dX7_odds_47 rfl ?_
          refine go_gfr dX7_odds_48 fl_7_24 rfl hx.1.1.1 hx.1.1.2.1 hx.1.1.2.2.2.2.1 ?_
          refine go_cv (as := []) 0 dX7_odds_51 mt_7_193 (Or.inr rfl) rfl rfl hc.1.1.1 hc.1.1.2.1 (Nat.le_of_ble_eq_true rfl) (Nat.le_of_ble_eq_true rfl) (Nat.le_of_ble_eq_true rfl) (Nat.le_of_ble_eq_true rfl) (Nat.le_of_ble_eq_true rfl) ?_
          refine me_X1_allBears hc2 ?_
          show bw_go _ _ _ _ _ _ _ 54 [(5, .int _), (3, .long _), (0, .ref _), (1, .int _), (2, .int _)] ((.int _) :: (.int _) :: []) _ _
          refine go_icmp_gt (pc' := 89) dX7_odds_54 rfl (fun c_54 => ?_) (fun c_54 => ?_)
          · -- gt at 54: yes
            exfalso; have t_0 := nI_toInt (n := k) (by omega); have t_1 := nI_toInt (n := 2 ^ cN (nowC S) - 1) (by omega); simp only [i_le, i_lt, i_eq, bi_eq] at c_54; omega
          · -- gt at 54: no
            show bw_go _ _ _ _ _ _ _ 57 [(5, .int _), (3, .long _), (0, .ref _), (1, .int _), (2, .int _)] ([]) _ _
            refine go_aload_n dX7_odds_57 rfl ?_
            refine go_gfr dX7_odds_58 fl_7_52 rfl hx.1.1.1 hx.1.1.2.1 hx.1.1.2.2.2.2.2.2.2.2.2.1 ?_
            refine go_iload dX7_odds_61 rfl ?_
            refine go_cv (as := [.int _]) 2 dX7_odds_63 mt_7_190 (Or.inr rfl) rfl rfl hx.1.2.2.2.2.2.1.1.1 hx.1.2.2.2.2.2.1.1.2.1 (Nat.le_of_ble_eq_true rfl) (Nat.le_of_ble_eq_true rfl) (Nat.le_of_ble_eq_true rfl) (Nat.le_of_ble_eq_true rfl) (Nat.le_of_ble_eq_true rfl) ?_
            refine me_X5_shownBy ht (by omega) ?_
            show bw_go _ _ _ _ _ _ _ 66 [(5, .int _), (3, .long _), (0, .ref _), (1, .int _), (2, .int _)] ((.int _) :: []) _ _
            refine go_iload_n dX7_odds_66 rfl ?_
            refine go_cs (as := [.int _, .int _]) 0 dX7_odds_67 rfl rfl mt_7_202 (Nat.le_of_ble_eq_true rfl) rfl rfl (Nat.le_of_ble_eq_true rfl) (Nat.le_of_ble_eq_true rfl) (Nat.le_of_ble_eq_true rfl) (Nat.le_of_ble_eq_true rfl) ?_
            refine me_X7_isIn (sho_lt _ _) (by omega) ?_
            show bw_go _ _ _ _ _ _ _ 70 [(5, .int _), (3, .long _), (0, .ref _), (1, .int _), (2, .int _)] ((.int _) :: []) _ _
            refine go_ifb_eq (pc' := 83) dX7_odds_70 rfl (fun c_70 => ?_) (fun c_70 => ?_)
            · -- eq at 70: yes
              show bw_go _ _ _ _ _ _ _ 83 [(5, .int _), (3, .long _), (0, .ref _), (1, .int _), (2, .int _)] ([]) _ _
              refine go_iinc dX7_odds_83 rfl (nI_1 k) (Nat.lt_of_lt_of_le (Nat.lt_succ_self _) (Nat.le_of_ble_eq_true rfl)) ?_
              show bw_go _ _ _ _ _ _ _ 86 [(5, .int _), (3, .long _), (0, .ref _), (1, .int _), (2, .int _)] ([]) _ _
              refine go_goto (pc' := 45) dX7_odds_86 rfl ?_
              first | rw [show odK (nowC S) y w (k + 1) = odK (nowC S) y w k + wgt k w (cN (nowC S)) from congrArg (odK (nowC S) y w k + ·) (if_pos c_70)] at K | rw [show odK (nowC S) y w (k + 1) = odK (nowC S) y w k from congrArg (odK (nowC S) y w k + ·) (if_neg (by rw [c_70]; decide))] at K
              exact K
            · -- eq at 70: no
              show bw_go _ _ _ _ _ _ _ 73 [(5, .int _), (3, .long _), (0, .ref _), (1, .int _), (2, .int _)] ([]) _ _
              refine go_lload_n dX7_odds_73 rfl ?_
              refine go_aload_n dX7_odds_74 rfl ?_
              refine go_iload dX7_odds_75 rfl ?_
              refine go_iload_n dX7_odds_77 rfl ?_
              refine go_cv (as := [.int _, .int _]) 1 dX7_odds_78 mt_7_272 (Or.inl rfl) rfl rfl hx.1.1.1 hx.1.1.2.1 (Nat.le_of_ble_eq_true rfl) (Nat.le_of_ble_eq_true rfl) (Nat.le_of_ble_eq_true rfl) (Nat.le_of_ble_eq_true rfl) (Nat.le_of_ble_eq_true rfl) ?_
              refine me_X7_weightOf hx2 (by omega) hw12 ?_
              show bw_go _ _ _ _ _ _ _ 81 [(5, .int _), (3, .long _), (0, .ref _), (1, .int _), (2, .int _)] ((.long _) :: (.long _) :: []) _ _
              refine go_ladd dX7_odds_81 ?_
              rw [lN_add]
              refine go_lstore_n dX7_odds_82 (Nat.lt_of_lt_of_le (Nat.lt_succ_self _) (Nat.le_of_ble_eq_true rfl)) ?_
              show bw_go _ _ _ _ _ _ _ 83 [(3, .long _), (5, .int _), (0, .ref _), (1, .int _), (2, .int _)] ([]) _ _
              refine go_iinc dX7_odds_83 rfl (nI_1 k) (Nat.lt_of_lt_of_le (Nat.lt_succ_self _) (Nat.le_of_ble_eq_true rfl)) ?_
              show bw_go _ _ _ _ _ _ _ 86 [(5, .int _), (3, .long _), (0, .ref _), (1, .int _), (2, .int _)] ([]) _ _
              refine go_goto (pc' := 45) dX7_odds_86 rfl ?_
              first | rw [show odK (nowC S) y w (k + 1) = odK (nowC S) y w k + wgt k w (cN (nowC S)) from congrArg (odK (nowC S) y w k + ·) (if_pos c_70)] at K | rw [show odK (nowC S) y w (k + 1) = odK (nowC S) y w k from congrArg (odK (nowC S) y w k + ·) (if_neg (by rw [c_70]; decide))] at K
              exact K
        · -- behind the last
          show bw_go _ _ _ _ _ _ _ 45 [(5, .int _), (3, .long _), (0, .ref _), (1, .int _), (2, .int _)] ([]) _ _
          refine go_iload dX7_odds_45 rfl ?_
          refine go_aload_n dX7_odds_47 rfl ?_
          refine go_gfr dX7_odds_48 fl_7_24 rfl hx.1.1.1 hx.1.1.2.1 hx.1.1.2.2.2.2.1 ?_
          refine go_cv (as := []) 0 dX7_odds_51 mt_7_193 (Or.inr rfl) rfl rfl hc.1.1.1 hc.1.1.2.1 (Nat.le_of_ble_eq_true rfl) (Nat.le_of_ble_eq_true rfl) (Nat.le_of_ble_eq_true rfl) (Nat.le_of_ble_eq_true rfl) (Nat.le_of_ble_eq_true rfl) ?_
          refine me_X1_allBears hc2 ?_
          show bw_go _ _ _ _ _ _ _ 54 [(5, .int _), (3, .long _), (0, .ref _), (1, .int _), (2, .int _)] ((.int _) :: (.int _) :: []) _ _
          refine go_icmp_gt (pc' := 89) dX7_odds_54 rfl (fun c_54 => ?_) (fun c_54 => ?_)
          · -- gt at 54: yes
            show bw_go _ _ _ _ _ _ _ 89 [(5, .int _), (3, .long _), (0, .ref _), (1, .int _), (2, .int _)] ([]) _ _
            refine go_aload_n dX7_odds_89 rfl ?_
            refine go_lload_n dX7_odds_90 rfl ?_
            refine go_aload_n dX7_odds_91 rfl ?_
            refine go_cv (as := []) 0 dX7_odds_92 mt_7_276 (Or.inl rfl) rfl rfl hx.1.1.1 hx.1.1.2.1 (Nat.le_of_ble_eq_true rfl) (Nat.le_of_ble_eq_true rfl) (Nat.le_of_ble_eq_true rfl) (Nat.le_of_ble_eq_true rfl) (Nat.le_of_ble_eq_true rfl) ?_
            refine me_X7_allWeight hx2 ?_
            show bw_go _ _ _ _ _ _ _ 95 [(5, .int _), (3, .long _), (0, .ref _), (1, .int _), (2, .int _)] ((.long _) :: (.long _) :: (.ref _) :: []) _ _
            refine go_cv (as := [.long _, .long _]) 1 dX7_odds_95 mt_7_242 (Or.inl rfl) rfl rfl hx.1.1.1 hx.1.1.2.1 (Nat.le_of_ble_eq_true rfl) (Nat.le_of_ble_eq_true rfl) (Nat.le_of_ble_eq_true rfl) (Nat.le_of_ble_eq_true rfl) (Nat.le_of_ble_eq_true rfl) ?_
            have b1 := odK_le (x := y) hw12 hN (2 ^ cN (nowC S))
            have b2 := p12 hN
            have b3 : 0 < 12 ^ cN (nowC S) := Nat.pow_pos (by decide)
            refine me_X7_tellPart hx2 (by omega) (by omega) b3 (fun g hg hf => ?_)
            show bw_go _ _ _ _ _ _ _ 98 [(5, .int _), (3, .long _), (0, .ref _), (1, .int _), (2, .int _)] ([]) _ _
            refine go_iconst (1) dX7_odds_98 rfl ?_
            refine go_iret dX7_odds_99 rfl rfl ?_
            refine q_x hQ ?_ hg (frM_t hf2 hf)
            unfold yOdds
            rw [if_pos ⟨show isn (nI y) 6 = true from c_4, of_decide_eq_true c_11⟩, if_neg h0, rn_n (by omega), rn_n (by omega)]
          · -- gt at 54: no
            exfalso; have t_0 := nI_toInt (n := 2 ^ cN (nowC S)) (by omega); have t_1 := nI_toInt (n := 2 ^ cN (nowC S) - 1) (by omega); simp only [i_le, i_lt, i_eq, bi_eq] at c_54; omega
      · -- ne at 23: no
        show bw_go _ _ _ _ _ _ _ 26 [(0, .ref _), (1, .int _), (2, .int _)] ([]) _ _
        refine go_bipush (-4) dX7_odds_26 rfl ?_
        refine go_iret dX7_odds_28 rfl rfl ?_
        refine q_x hQ ?_ hx (frM_r h)
        unfold yOdds
        rw [if_pos ⟨show isn (nI y) 6 = true from c_4, of_decide_eq_true c_11⟩, if_pos ((nI_eq (a := cN (nowC S)) (b := 0) (by omega) (by omega)).mp (Decidable.of_not_not c_23))]
    · -- ne at 11: no
      show bw_go _ _ _ _ _ _ _ 14 [(0, .ref _), (1, .int _), (2, .int _)] ([]) _ _
      refine go_iconst (-1) dX7_odds_14 rfl ?_
      refine go_iret dX7_odds_15 rfl rfl ?_
      refine q_x hQ ?_ hx (frM_r h)
      unfold yOdds
      rw [if_neg (fun z => absurd z.2 (of_decide_eq_false c_11))]
set_option maxRecDepth 100000 in
set_option maxHeartbeats 4000000 in
theorem me_X7_mid {X : Nat × (Nat → Int32)} {Q : Option Value → bw_H → Prop} {h : bw_H} {S : ST} {p : Int32} (hx : XR h S) (hQ : PX h Q (yMid p S)) : bw_me X 4 bm_X7_mid false [.ref 0, .int p] h Q := by
  have hc : bw_ct h 11 (nowC S) := hx.2.2.2.1.1.1
  have hN := hc.2.2.1
  show bw_go _ 4 7 5 false (some .int) cX7_mid 0 [(0, .ref _), (1, .int _)] [] _ _
  refine go_iload_n dX7_mid_0 rfl ?_
  refine go_cs (as := [.int _]) 0 dX7_mid_1 rfl rfl mt_7_269 (Nat.le_of_ble_eq_true rfl) rfl rfl (Nat.le_of_ble_eq_true rfl) (Nat.le_of_ble_eq_true rfl) (Nat.le_of_ble_eq_true rfl) (Nat.le_of_ble_eq_true rfl) ?_
  refine me_X7_isChance ?_
  show bw_go _ _ _ _ _ _ _ 4 [(0, .ref _), (1, .int _)] ((.int _) :: []) _ _
  refine go_ifb_ne (pc' := 9) dX7_mid_4 rfl (fun c_4 => ?_) (fun c_4 => ?_)
  · -- ne at 4: yes
    show bw_go _ _ _ _ _ _ _ 9 [(0, .ref _), (1, .int _)] ([]) _ _
    have hp12 : p.toInt ≤ 12 ∧ 0 ≤ p.toInt := (of_decide_eq_true c_4).symm
    obtain ⟨w, hw, rfl⟩ := isn_ex (r := p) (num := 13) (decide_eq_true (by omega)) (by decide)
    have hw12 : w ≤ 12 := by omega
    refine go_aload_n dX7_mid_9 rfl ?_
    refine go_gfr dX7_mid_10 fl_7_24 rfl hx.1.1.1 hx.1.1.2.1 hx.1.1.2.2.2.2.1 ?_
    refine go_gfi dX7_mid_13 fl_7_141 rfl hc.1.1.1 hc.1.1.2.1 ?_
    rw [hc.2.1.1]
    refine go_if_ne (pc' := 22) dX7_mid_16 rfl (fun c_16 => ?_) (fun c_16 => ?_)
    · -- ne at 16: yes
      show bw_go _ _ _ _ _ _ _ 22 [(0, .ref _), (1, .int _)] ([]) _ _
      refine go_aload_n dX7_mid_22 rfl ?_
      refine go_gfr dX7_mid_23 fl_7_52 rfl hx.1.1.1 hx.1.1.2.1 hx.1.1.2.2.2.2.2.2.2.2.2.1 ?_
      refine go_aload_n dX7_mid_26 rfl ?_
      refine go_gfr dX7_mid_27 fl_7_24 rfl hx.1.1.1 hx.1.1.2.1 hx.1.1.2.2.2.2.1 ?_
      refine go_cv (as := [.ref _]) 3 dX7_mid_30 mt_7_184 (Or.inr rfl) rfl rfl hx.1.2.2.2.2.2.1.1.1 hx.1.2.2.2.2.2.1.1.2.1 (Nat.le_of_ble_eq_true rfl) (Nat.le_of_ble_eq_true rfl) (Nat.le_of_ble_eq_true rfl) (Nat.le_of_ble_eq_true rfl) (Nat.le_of_ble_eq_true rfl) ?_
      refine me_X5_hear hx.1.2.2.2.2.2.1 hc (Or.inr (by decide)) (fun I hI => ?_)
      have hx2 : XR (bw_wi h I) S := xr_sc hx (fun q hq => hI.2 q (by omega) (by omega) (by omega))
      have hf2 : frM h (bw_wi h I) := frM_wi rfl (fun q h1 h2 => hI.2 q (by omega) (by omega) (by omega))
      have ht : bw_ta (bw_wi h I) 46 (taC (nowC S)) := hI.1
      have h2N := p2N hN
      have hc2 : bw_ct (bw_wi h I) 11 (nowC S) := hx2.2.2.2.1.1.1
      have hp0 : 0 < 2 ^ cN (nowC S) := Nat.two_pow_pos _
      have h0 : ¬ cN (nowC S) = 0 := fun z => c_16 ((nI_eq (a := cN (nowC S)) (b := 0) (by omega) (by omega)).mpr z)
      show bw_go _ _ _ _ _ _ _ 33 [(0, .ref _), (1, .int _)] ([]) _ _
      refine go_lconst (0) dX7_mid_33 rfl ?_
      refine go_lstore_n dX7_mid_34 (Nat.lt_of_lt_of_le (Nat.lt_succ_self _) (Nat.le_of_ble_eq_true rfl)) ?_
      show bw_go _ _ _ _ _ _ _ 35 [(2, .long _), (0, .ref _), (1, .int _)] ([]) _ _
      refine go_iconst (0) dX7_mid_35 rfl ?_
      refine go_istore dX7_mid_36 (Nat.lt_of_lt_of_le (Nat.lt_succ_self _) (Nat.le_of_ble_eq_true rfl)) ?_
      show bw_go _ _ _ _ _ _ _ 38 [(4, .int _), (2, .long _), (0, .ref _), (1, .int _)] ([]) _ _
      refine go_for (P := fun k => bw_go X 4 7 5 false (some .int) cX7_mid 38 [(4, .int (nI k)), (2, .long (lN (miK (nowC S) w k))), (0, .ref (0)), (1, .int (nI w))] [] (bw_wi h I) Q) (N := 2 ^ cN (nowC S)) (fun k hk K => ?_) ?_ (0) (Nat.zero_le _)
      · -- a turn
        show bw_go _ _ _ _ _ _ _ 38 [(4, .int _), (2, .long _), (0, .ref _), (1, .int _)] ([]) _ _
        refine go_iload dX7_mid_38 rfl ?_
        refine go_aload_n dX7_mid_40 rfl ?_
        refine go_gfr dX7_mid_41 fl_7_24 rfl hx.1.1.1 hx.1.1.2.1 hx.1.1.2.2.2.2.1 ?_
        refine go_cv (as := []) 0 dX7_mid_44 mt_7_193 (Or.inr rfl) rfl rfl hc.1.1.1 hc.1.1.2.1 (Nat.le_of_ble_eq_true rfl) (Nat.le_of_ble_eq_true rfl) (Nat.le_of_ble_eq_true rfl) (Nat.le_of_ble_eq_true rfl) (Nat.le_of_ble_eq_true rfl) ?_
        refine me_X1_allBears hc2 ?_
        show bw_go _ _ _ _ _ _ _ 47 [(4, .int _), (2, .long _), (0, .ref _), (1, .int _)] ((.int _) :: (.int _) :: []) _ _
        refine go_icmp_gt (pc' := 80) dX7_mid_47 rfl (fun c_47 => ?_) (fun c_47 => ?_)
        · -- gt at 47: yes
          exfalso; have t_0 := nI_toInt (n := k) (by omega); have t_1 := nI_toInt (n := 2 ^ cN (nowC S) - 1) (by omega); simp only [i_le, i_lt, i_eq, bi_eq] at c_47; omega
        · -- gt at 47: no
          show bw_go _ _ _ _ _ _ _ 50 [(4, .int _), (2, .long _), (0, .ref _), (1, .int _)] ([]) _ _
          refine go_lload_n dX7_mid_50 rfl ?_
          refine go_aload_n dX7_mid_51 rfl ?_
          refine go_iload dX7_mid_52 rfl ?_
          refine go_iload_n dX7_mid_54 rfl ?_
          refine go_cv (as := [.int _, .int _]) 1 dX7_mid_55 mt_7_272 (Or.inl rfl) rfl rfl hx.1.1.1 hx.1.1.2.1 (Nat.le_of_ble_eq_true rfl) (Nat.le_of_ble_eq_true rfl) (Nat.le_of_ble_eq_true rfl) (Nat.le_of_ble_eq_true rfl) (Nat.le_of_ble_eq_true rfl) ?_
          refine me_X7_weightOf hx2 (by omega) hw12 ?_
          show bw_go _ _ _ _ _ _ _ 58 [(4, .int _), (2, .long _), (0, .ref _), (1, .int _)] ((.long _) :: (.long _) :: []) _ _
          refine go_aload_n dX7_mid_58 rfl ?_
          refine go_gfr dX7_mid_59 fl_7_52 rfl hx.1.1.1 hx.1.1.2.1 hx.1.1.2.2.2.2.2.2.2.2.2.1 ?_
          refine go_iload dX7_mid_62 rfl ?_
          refine go_cv (as := [.int _]) 2 dX7_mid_64 mt_7_190 (Or.inr rfl) rfl rfl hx.1.2.2.2.2.2.1.1.1 hx.1.2.2.2.2.2.1.1.2.1 (Nat.le_of_ble_eq_true rfl) (Nat.le_of_ble_eq_true rfl) (Nat.le_of_ble_eq_true rfl) (Nat.le_of_ble_eq_true rfl) (Nat.le_of_ble_eq_true rfl) ?_
          refine me_X5_shownBy ht (by omega) ?_
          show bw_go _ _ _ _ _ _ _ 67 [(4, .int _), (2, .long _), (0, .ref _), (1, .int _)] ((.int _) :: (.long _) :: (.long _) :: []) _ _
          refine go_cs (as := [.int _]) 0 dX7_mid_67 rfl rfl mt_7_197 (Nat.le_of_ble_eq_true rfl) rfl rfl (Nat.le_of_ble_eq_true rfl) (Nat.le_of_ble_eq_true rfl) (Nat.le_of_ble_eq_true rfl) (Nat.le_of_ble_eq_true rfl) ?_
          refine me_bitCount (sho_lt _ _) ?_
          show bw_go _ _ _ _ _ _ _ 70 [(4, .int _), (2, .long _), (0, .ref _), (1, .int _)] ((.int _) :: (.long _) :: (.long _) :: []) _ _
          refine go_i2l dX7_mid_70 ?_
          rw [nI_l (by have := bc_lt (sho (taC (nowC S)) k); omega)]
          refine go_lmul dX7_mid_71 ?_
          rw [lN_mul]
          refine go_ladd dX7_mid_72 ?_
          rw [lN_add]
          refine go_lstore_n dX7_mid_73 (Nat.lt_of_lt_of_le (Nat.lt_succ_self _) (Nat.le_of_ble_eq_true rfl)) ?_
          show bw_go _ _ _ _ _ _ _ 74 [(2, .long _), (4, .int _), (0, .ref _), (1, .int _)] ([]) _ _
          refine go_iinc dX7_mid_74 rfl (nI_1 k) (Nat.lt_of_lt_of_le (Nat.lt_succ_self _) (Nat.le_of_ble_eq_true rfl)) ?_
          show bw_go _ _ _ _ _ _ _ 77 [(4, .int _), (2, .long _), (0, .ref _), (1, .int _)] ([]) _ _
          refine go_goto (pc' := 38) dX7_mid_77 rfl ?_
          exact K
      · -- behind the last
        show bw_go _ _ _ _ _ _ _ 38 [(4, .int _), (2, .long _), (0, .ref _), (1, .int _)] ([]) _ _
        refine go_iload dX7_mid_38 rfl ?_
        refine go_aload_n dX7_mid_40 rfl ?_
        refine go_gfr dX7_mid_41 fl_7_24 rfl hx.1.1.1 hx.1.1.2.1 hx.1.1.2.2.2.2.1 ?_
        refine go_cv (as := []) 0 dX7_mid_44 mt_7_193 (Or.inr rfl) rfl rfl hc.1.1.1 hc.1.1.2.1 (Nat.le_of_ble_eq_true rfl) (Nat.le_of_ble_eq_true rfl) (Nat.le_of_ble_eq_true rfl) (Nat.le_of_ble_eq_true rfl) (Nat.le_of_ble_eq_true rfl) ?_
        refine me_X1_allBears hc2 ?_
        show bw_go _ _ _ _ _ _ _ 47 [(4, .int _), (2, .long _), (0, .ref _), (1, .int _)] ((.int _) :: (.int _) :: []) _ _
        refine go_icmp_gt (pc' := 80) dX7_mid_47 rfl (fun c_47 => ?_) (fun c_47 => ?_)
        · -- gt at 47: yes
          show bw_go _ _ _ _ _ _ _ 80 [(4, .int _), (2, .long _), (0, .ref _), (1, .int _)] ([]) _ _
          refine go_aload_n dX7_mid_80 rfl ?_
          refine go_lload_n dX7_mid_81 rfl ?_
          refine go_aload_n dX7_mid_82 rfl ?_
          refine go_cv (as := []) 0 dX7_mid_83 mt_7_276 (Or.inl rfl) rfl rfl hx.1.1.1 hx.1.1.2.1 (Nat.le_of_ble_eq_true rfl) (Nat.le_of_ble_eq_true rfl) (Nat.le_of_ble_eq_true rfl) (Nat.le_of_ble_eq_true rfl) (Nat.le_of_ble_eq_true rfl) ?_
          refine me_X7_allWeight hx2 ?_
          show bw_go _ _ _ _ _ _ _ 86 [(4, .int _), (2, .long _), (0, .ref _), (1, .int _)] ((.long _) :: (.long _) :: (.ref _) :: []) _ _
          refine go_cv (as := [.long _, .long _]) 1 dX7_mid_86 mt_7_242 (Or.inl rfl) rfl rfl hx.1.1.1 hx.1.1.2.1 (Nat.le_of_ble_eq_true rfl) (Nat.le_of_ble_eq_true rfl) (Nat.le_of_ble_eq_true rfl) (Nat.le_of_ble_eq_true rfl) (Nat.le_of_ble_eq_true rfl) ?_
          have b1 := miK_le hw12 hN (2 ^ cN (nowC S))
          have b2 := p12 hN
          have b3 : 0 < 12 ^ cN (nowC S) := Nat.pow_pos (by decide)
          refine me_X7_tellPart hx2 (by omega) (by omega) b3 (fun g hg hf => ?_)
          show bw_go _ _ _ _ _ _ _ 89 [(4, .int _), (2, .long _), (0, .ref _), (1, .int _)] ([]) _ _
          refine go_iconst (1) dX7_mid_89 rfl ?_
          refine go_iret dX7_mid_90 rfl rfl ?_
          refine q_x hQ ?_ hg (frM_t hf2 hf)
          unfold yMid
          rw [if_pos (of_decide_eq_true c_4), if_neg h0, rn_n (by omega)]
        · -- gt at 47: no
          exfalso; have t_0 := nI_toInt (n := 2 ^ cN (nowC S)) (by omega); have t_1 := nI_toInt (n := 2 ^ cN (nowC S) - 1) (by omega); simp only [i_le, i_lt, i_eq, bi_eq] at c_47; omega
    · -- ne at 16: no
      show bw_go _ _ _ _ _ _ _ 19 [(0, .ref _), (1, .int _)] ([]) _ _
      refine go_bipush (-4) dX7_mid_19 rfl ?_
      refine go_iret dX7_mid_21 rfl rfl ?_
      refine q_x hQ ?_ hx (frM_r h)
      unfold yMid
      rw [if_pos (of_decide_eq_true c_4), if_pos ((nI_eq (a := cN (nowC S)) (b := 0) (by omega) (by omega)).mp (Decidable.of_not_not c_16))]
  · -- ne at 4: no
    show bw_go _ _ _ _ _ _ _ 7 [(0, .ref _), (1, .int _)] ([]) _ _
    refine go_iconst (-1) dX7_mid_7 rfl ?_
    refine go_iret dX7_mid_8 rfl rfl ?_
    refine q_x hQ ?_ hx (frM_r h)
    unfold yMid
    rw [if_neg (of_decide_eq_false c_4)]
