/-! the reference: truths, what is sure -/
theorem lkf_t {S : ST} {j m : Nat} (hl : lkf S j m) : ∀ q, q < m / 2 → (rdA (sRc S j) 0 m).2.2.1 q < 6 := fun q hq => by
  obtain ⟨a, v, ea, ev, b1, b2, b3, b4⟩ := hl.2.2.2.2 q hq
  show (sRc S j (0 + 2 * q)).toNatClampNeg % 8 < 6
  rw [Nat.zero_add, ea, nI_clamp (by omega)]; exact b2
theorem lA_l {S : ST} {j m : Nat} (hl : lkf S j m) : lA S (nI j) = lAk (nowC S) (rdA (sRc S j) 0 m) (m / 2) := by
  unfold lA; rw [lk_v1 hl]; rfl
theorem lB_l {S : ST} {j m : Nat} (hl : lkf S j m) : lB S (nI j) = lBk (nowC S) (rdA (sRc S j) 0 m) (m / 2) := by
  unfold lB; rw [lk_v1 hl]; rfl
theorem lkf_a {S : ST} {j m : Nat} (hl : lkf S j m) : lA S (nI j) < 64 := by rw [lA_l hl]; exact lA_lt _ (lkf_t hl)
theorem lkf_b {S : ST} {j m : Nat} (hl : lkf S j m) : lB S (nI j) < 64 := by rw [lB_l hl]; exact lB_lt _ (lkf_t hl)
theorem tru_l {S : ST} {j m dn : Nat} (hl : lkf S j m) (hd : dn < 64) : tru (nowC S) (rdA (sRc S j) 0 m) dn (m / 2) = tq (lA S (nI j)) (lB S (nI j)) dn := by
  rw [lA_l hl, lB_l hl]; exact tru_e hd _ (lkf_t hl)
theorem cnt_0 {P : Nat → Bool} : ∀ n, cnt P n = 0 ↔ ∀ i, i < n → P i = false
  | 0 => ⟨fun _ i hi => absurd hi (Nat.not_lt_zero i), fun _ => rfl⟩
  | n + 1 => by
    show cnt P n + (if P n = true then 1 else 0) = 0 ↔ _
    have ih := cnt_0 (P := P) n
    cases h : P n with
    | true => rw [if_pos rfl]; exact ⟨fun z => by omega, fun z => by rw [z n (by omega)] at h; cases h⟩
    | false =>
      rw [if_neg (by decide), Nat.add_zero, ih]
      constructor
      · intro z i hi
        by_cases e : i = n
        · subst e; exact h
        · exact z i (by omega)
      · intro z i hi; exact z i (by omega)
theorem lst_0 {P : Nat → Bool} : ∀ n, lst P n = none ↔ cnt P n = 0
  | 0 => ⟨fun _ => rfl, fun _ => rfl⟩
  | n + 1 => by
    have ih := lst_0 (P := P) n
    show (match lst P n with | some x => some x | none => if P n = true then some n else none) = none ↔ cnt P n + (if P n = true then 1 else 0) = 0
    cases h : lst P n with
    | some x =>
      rw [h] at ih
      have h1 : ¬ cnt P n = 0 := fun z => by have := ih.mpr z; cases this
      exact ⟨(fun z => by cases z), (fun z => absurd (by omega) h1)⟩
    | none =>
      have h1 := ih.mp h
      simp only
      cases h2 : P n with
      | true => rw [if_pos rfl, if_pos rfl]; exact ⟨(fun z => by cases z), (fun z => by omega)⟩
      | false => rw [if_neg (by decide), if_neg (by decide)]; exact ⟨fun _ => by omega, fun _ => rfl⟩
theorem lst_lt {P : Nat → Bool} {x : Nat} : ∀ {n : Nat}, lst P n = some x → x < n
  | 0, h => by cases h
  | n + 1, h => by
    have h2 : (match lst P n with | some x => some x | none => if P n = true then some n else none) = some x := h
    cases h3 : lst P n with
    | some y => rw [h3] at h2; cases h2; have := lst_lt h3; omega
    | none =>
      rw [h3] at h2
      simp only at h2
      split at h2
      · cases h2; omega
      · cases h2
theorem lst_s {P : Nat → Bool} {n : Nat} : lst P (n + 1) = (if P n = true ∧ cnt P n = 0 then some n else lst P n) := by
  show (match lst P n with | some x => some x | none => if P n = true then some n else none) = _
  have h0 := lst_0 (P := P) n
  cases h : lst P n with
  | some x =>
    exact (if_neg (show ¬ (P n = true ∧ cnt P n = 0) from fun z => by rw [h0.mpr z.2] at h; cases h)).symm
  | none =>
    simp only
    have h1 := h0.mp h
    by_cases z : P n = true
    · rw [if_pos z, if_pos ⟨z, h1⟩]
    · rw [if_neg z, if_neg (fun y => z y.1)]
theorem tlP_1 (S : ST) (c : Nat) : tlP S c 1 = wU S (lN c) 1 := by
  unfold tlP
  rw [Nat.gcd_one_right, Nat.div_one]
  rfl
def iaF (P : Nat → Bool) : Nat → Nat
  | 0 => 63
  | k + 1 => if P k = true then iaF P k &&& k else iaF P k
def inF (P : Nat → Bool) : Nat → Nat
  | 0 => 63
  | k + 1 => if P k = true then inF P k &&& (63 ^^^ k) else inF P k
theorem iaF_lt (P : Nat → Bool) : ∀ k, iaF P k < 64
  | 0 => by show 63 < 64; decide
  | k + 1 => by
    show (if P k = true then iaF P k &&& k else iaF P k) < 64
    split
    · exact Nat.lt_of_le_of_lt Nat.and_le_left (iaF_lt P k)
    · exact iaF_lt P k
theorem inF_lt (P : Nat → Bool) : ∀ k, inF P k < 64
  | 0 => by show 63 < 64; decide
  | k + 1 => by
    show (if P k = true then inF P k &&& (63 ^^^ k) else inF P k) < 64
    split
    · exact Nat.lt_of_le_of_lt Nat.and_le_left (inF_lt P k)
    · exact inF_lt P k
theorem iaF_t {P : Nat → Bool} {t : Nat} (ht : t < 6) : ∀ k, (iaF P k).testBit t = true ↔ ∀ d, d < k → P d = true → d.testBit t = true
  | 0 => ⟨fun _ d hd => absurd hd (Nat.not_lt_zero d), fun _ => t63 t ht⟩
  | k + 1 => by
    have ih := iaF_t (P := P) ht k
    show (if P k = true then iaF P k &&& k else iaF P k).testBit t = true ↔ _
    by_cases z : P k = true
    · rw [if_pos z, Nat.testBit_and, Bool.and_eq_true, ih]
      constructor
      · intro h d hd hp
        by_cases e : d = k
        · subst e; exact h.2
        · exact h.1 d (by omega) hp
      · intro h; exact ⟨fun d hd hp => h d (by omega) hp, h k (by omega) z⟩
    · rw [if_neg z, ih]
      constructor
      · intro h d hd hp
        by_cases e : d = k
        · subst e; exact absurd hp z
        · exact h d (by omega) hp
      · intro h d hd hp; exact h d (by omega) hp
theorem inF_t {P : Nat → Bool} {t : Nat} (ht : t < 6) : ∀ k, (inF P k).testBit t = true ↔ ∀ d, d < k → P d = true → d.testBit t = false
  | 0 => ⟨fun _ d hd => absurd hd (Nat.not_lt_zero d), fun _ => t63 t ht⟩
  | k + 1 => by
    have ih := inF_t (P := P) ht k
    show (if P k = true then inF P k &&& (63 ^^^ k) else inF P k).testBit t = true ↔ _
    by_cases z : P k = true
    · rw [if_pos z, Nat.testBit_and, Nat.testBit_xor, t63 t ht, Bool.true_xor, Bool.and_eq_true, Bool.not_eq_true', ih]
      constructor
      · intro h d hd hp
        by_cases e : d = k
        · subst e; exact h.2
        · exact h.1 d (by omega) hp
      · intro h; exact ⟨fun d hd hp => h d (by omega) hp, h k (by omega) z⟩
    · rw [if_neg z, ih]
      constructor
      · intro h d hd hp
        by_cases e : d = k
        · subst e; exact absurd hp z
        · exact h d (by omega) hp
      · intro h d hd hp; exact h d (by omega) hp
theorem bits6 {x y : Nat} (hx : x < 64) (hy : y < 64) (h : ∀ t, t < 6 → (x.testBit t = true ↔ y.testBit t = true)) : x = y := by
  apply Nat.eq_of_testBit_eq
  intro t
  by_cases ht : t < 6
  · have h1 := h t ht
    cases e1 : x.testBit t with
    | true => exact (h1.mp e1).symm
    | false =>
      cases e2 : y.testBit t with
      | true => rw [h1.mpr e2] at e1; cases e1
      | false => rfl
  · have hp : 64 ≤ 2 ^ t := Nat.pow_le_pow_right (n := 2) (by decide) (show 6 ≤ t by omega)
    rw [Nat.testBit_lt_two_pow (by omega), Nat.testBit_lt_two_pow (by omega)]
theorem orf_b2 {f : Nat → Nat} {c : Nat → Nat} (j : Nat) (hj : j < 6) (hf : ∀ t, t < 6 → f t = if c t = 0 then 2 ^ t else 0) : (orf f 6).testBit j = true ↔ c j = 0 := by
  have e : orf f 6 = orf (fun t => if decide (c t = 0) = true then 2 ^ t else 0) 6 := orf_cc 6 (fun i hi => by
    rw [hf i hi]
    by_cases z : c i = 0
    · rw [if_pos z, if_pos (decide_eq_true z)]
    · rw [if_neg z, if_neg (by rw [decide_eq_false z]; decide)])
  rw [e, orf_bit, decide_eq_true hj, Bool.true_and, decide_eq_true_eq]
theorem surE_e {a b : Nat} (ha : a < 64) (hb : b < 64) : iaF (tq a b) 64 = surE a b := by
  refine bits6 (iaF_lt _ _) (orf_lt' 6 (fun t ht => by have := p2_lt t ht; show (if trc a (b ||| 2 ^ t) = 0 then 2 ^ t else 0) < 64; split <;> omega)) (fun t ht => ?_)
  rw [iaF_t ht]
  unfold surE
  rw [orf_b2 (c := fun t => trc a (b ||| 2 ^ t)) t ht (fun i hi => rfl)]
  unfold trc
  rw [cnt_0]
  constructor
  · intro h d hd
    rw [tq_b ht hb hd]
    cases z : tq a b d with
    | true => rw [h d hd z]; rfl
    | false => rfl
  · intro h d hd hp
    have z := h d hd
    rw [tq_b ht hb hd, hp] at z
    cases y : d.testBit t with
    | true => rfl
    | false => rw [y] at z; cases z
theorem surN_e {a b : Nat} (ha : a < 64) (hb : b < 64) : inF (tq a b) 64 = surN a b := by
  refine bits6 (inF_lt _ _) (orf_lt' 6 (fun t ht => by have := p2_lt t ht; show (if trc (a ||| 2 ^ t) b = 0 then 2 ^ t else 0) < 64; split <;> omega)) (fun t ht => ?_)
  rw [inF_t ht]
  unfold surN
  rw [orf_b2 (c := fun t => trc (a ||| 2 ^ t) b) t ht (fun i hi => rfl)]
  unfold trc
  rw [cnt_0]
  constructor
  · intro h d hd
    rw [tq_a ht ha hd]
    cases z : tq a b d with
    | true => rw [h d hd z]; rfl
    | false => rfl
  · intro h d hd hp
    have z := h d hd
    rw [tq_a ht ha hd, hp] at z
    cases y : d.testBit t with
    | true => rw [y] at z; cases z
    | false => rfl
set_option maxRecDepth 100000 in
set_option maxHeartbeats 4000000 in
theorem me_X8_truths {X : Nat × (Nat → Int32)} {Q : Option Value → bw_H → Prop} {h : bw_H} {S : ST} {r : Int32} (hm : MR h S) (hQ : PM h Q (yTruths r S)) : bw_me X 6 bm_X8_truths false [.ref 60, .int r] h Q := by
  have hv := mr_v hm
  have hk := mr_k hm
  have k1 := hk.1
  have hkC := hk
  have h2N := p2N k1
  have hp0 : 0 < 2 ^ cN (nowC S) := Nat.two_pow_pos _
  show bw_go _ 6 8 6 false (some .int) cX8_truths 0 [(0, .ref _), (1, .int _)] [] _ _
  refine go_aload_n dX8_truths_0 rfl ?_
  refine go_iload_n dX8_truths_1 rfl ?_
  refine go_cv (as := [.int _]) 3 dX8_truths_2 mt_8_222 (Or.inl rfl) rfl rfl (ms_lt hm.1 (by decide)) hm.1.1.2 (Nat.le_of_ble_eq_true rfl) (Nat.le_of_ble_eq_true rfl) (Nat.le_of_ble_eq_true rfl) (Nat.le_of_ble_eq_true rfl) (Nat.le_of_ble_eq_true rfl) ?_
  refine me_X8_refusesLooks hm (fun g hg hf => ?_)
  have hm00 := hm
  have hm := hg
  show bw_go _ _ _ _ _ _ _ 5 [(0, .ref _), (1, .int _)] ((.int _) :: []) _ _
  refine go_istore_n dX8_truths_5 (Nat.lt_of_lt_of_le (Nat.lt_succ_self _) (Nat.le_of_ble_eq_true rfl)) ?_
  show bw_go _ _ _ _ _ _ _ 6 [(2, .int _), (0, .ref _), (1, .int _)] ([]) _ _
  refine go_iload_n dX8_truths_6 rfl ?_
  refine go_if_eq (pc' := 12) dX8_truths_7 rfl (fun c_7 => ?_) (fun c_7 => ?_)
  · -- eq at 7: yes
    show bw_go _ _ _ _ _ _ _ 12 [(2, .int _), (0, .ref _), (1, .int _)] ([]) _ _
    obtain ⟨j, m, rfl, hl, hpos, e2⟩ := yRL_0 k1 c_7
    rw [e2] at hg
    have hm := hg
    have ha := lkf_a hl
    have hb := lkf_b hl
    have hv := mr_v hm
    have hkC := mr_k hm
    refine go_iconst (0) dX8_truths_12 rfl ?_
    refine go_istore_n dX8_truths_13 (Nat.lt_of_lt_of_le (Nat.lt_succ_self _) (Nat.le_of_ble_eq_true rfl)) ?_
    show bw_go _ _ _ _ _ _ _ 14 [(3, .int _), (2, .int _), (0, .ref _), (1, .int _)] ([]) _ _
    refine go_bipush (-9) dX8_truths_14 rfl ?_
    refine go_istore dX8_truths_16 (Nat.lt_of_lt_of_le (Nat.lt_succ_self _) (Nat.le_of_ble_eq_true rfl)) ?_
    show bw_go _ _ _ _ _ _ _ 18 [(4, .int _), (3, .int _), (2, .int _), (0, .ref _), (1, .int _)] ([]) _ _
    refine go_iconst (0) dX8_truths_18 rfl ?_
    refine go_istore dX8_truths_19 (Nat.lt_of_lt_of_le (Nat.lt_succ_self _) (Nat.le_of_ble_eq_true rfl)) ?_
    show bw_go _ _ _ _ _ _ _ 21 [(5, .int _), (4, .int _), (3, .int _), (2, .int _), (0, .ref _), (1, .int _)] ([]) _ _
    refine go_ls [(5, .int _), (4, .int _), (3, .int _), (0, .ref _), (1, .int _), (2, .int _)] (by show List.Nodup ([5, 4, 3, 0, 1, 2] : List Nat); decide) (by show List.Nodup ([5, 4, 3, 2, 0, 1] : List Nat); decide) (le_cons rfl (le_cons rfl (le_cons rfl (le_cons rfl (le_cons rfl (le_cons rfl (le_nil _))))))) ?_
    refine go_for (P := fun k => bw_go X 6 8 6 false (some .int) cX8_truths 21 [(5, .int (nI k)), (4, .int (mtI (lst (tq (lA S (nI j)) (lB S (nI j))) k))), (3, .int (nI (cnt (tq (lA S (nI j)) (lB S (nI j))) k))), (0, .ref (60)), (1, .int (nI j)), (2, .int ((yRL (nI j) S).1))] [] g Q) (N := 64) (fun k hk K => ?_) ?_ (0) (Nat.zero_le _)
    · -- a turn
      have hc64 : cnt (tq (lA S (nI j)) (lB S (nI j))) k ≤ k := cnt_le6 _ k
      show bw_go _ _ _ _ _ _ _ 21 [(5, .int _), (4, .int _), (3, .int _), (0, .ref _), (1, .int _), (2, .int _)] ([]) _ _
      refine go_iload dX8_truths_21 rfl ?_
      refine go_bipush (64) dX8_truths_23 rfl ?_
      refine go_icmp_ge (pc' := 60) dX8_truths_25 rfl (fun c_25 => ?_) (fun c_25 => ?_)
      · -- ge at 25: yes
        exfalso; have t_0 := nI_toInt (n := k) (by omega); have l_0 : (64 : Int32).toInt = 64 := rfl; simp only [i_le, i_lt, i_eq, bi_eq] at c_25; omega
      · -- ge at 25: no
        show bw_go _ _ _ _ _ _ _ 28 [(5, .int _), (4, .int _), (3, .int _), (0, .ref _), (1, .int _), (2, .int _)] ([]) _ _
        refine go_aload_n dX8_truths_28 rfl ?_
        refine go_iload dX8_truths_29 rfl ?_
        refine go_iload_n dX8_truths_31 rfl ?_
        refine go_cv (as := [.int _, .int _]) 5 dX8_truths_32 mt_8_225 (Or.inl rfl) rfl rfl (ms_lt hm.1 (by decide)) hm.1.1.2 (Nat.le_of_ble_eq_true rfl) (Nat.le_of_ble_eq_true rfl) (Nat.le_of_ble_eq_true rfl) (Nat.le_of_ble_eq_true rfl) (Nat.le_of_ble_eq_true rfl) ?_
        refine me_X8_isTruth hm hl hk ?_
        rw [tru_l hl hk]
        show bw_go _ _ _ _ _ _ _ 35 [(5, .int _), (4, .int _), (3, .int _), (0, .ref _), (1, .int _), (2, .int _)] ((.int _) :: []) _ _
        refine go_ifb_eq (pc' := 54) dX8_truths_35 rfl (fun c_35 => ?_) (fun c_35 => ?_)
        · -- eq at 35: yes
          show bw_go _ _ _ _ _ _ _ 54 [(5, .int _), (4, .int _), (3, .int _), (0, .ref _), (1, .int _), (2, .int _)] ([]) _ _
          refine go_iinc dX8_truths_54 rfl (nI_1 k) (Nat.lt_of_lt_of_le (Nat.lt_succ_self _) (Nat.le_of_ble_eq_true rfl)) ?_
          show bw_go _ _ _ _ _ _ _ 57 [(5, .int _), (4, .int _), (3, .int _), (0, .ref _), (1, .int _), (2, .int _)] ([]) _ _
          refine go_goto (pc' := 21) dX8_truths_57 rfl ?_
          have e1 := lst_s (P := (tq (lA S (nI j)) (lB S (nI j)))) (n := k)
          have e2 : cnt (tq (lA S (nI j)) (lB S (nI j))) (k + 1) = cnt (tq (lA S (nI j)) (lB S (nI j))) k + (if (tq (lA S (nI j)) (lB S (nI j))) k = true then 1 else 0) := rfl
          have hz : nI (cnt (tq (lA S (nI j)) (lB S (nI j))) k) = 0 ↔ cnt (tq (lA S (nI j)) (lB S (nI j))) k = 0 := nI_eq (b := 0) (by omega) (by decide)
          first
          | (rw [if_neg (fun z => Bool.noConfusion (c_35.symm.trans z.1))] at e1; rw [if_neg (fun z => Bool.noConfusion (c_35.symm.trans z)), Nat.add_zero] at e2; rw [e1, e2] at K; exact K)
          | (rw [if_neg (fun z => c_39 (hz.mpr z.2))] at e1; rw [if_pos c_35] at e2; rw [e1, e2] at K; exact K)
          | (rw [if_pos ⟨c_35, hz.mp (Decidable.of_not_not c_39)⟩] at e1; rw [if_pos c_35] at e2; rw [e1, e2] at K; exact K)
        · -- eq at 35: no
          show bw_go _ _ _ _ _ _ _ 38 [(5, .int _), (4, .int _), (3, .int _), (0, .ref _), (1, .int _), (2, .int _)] ([]) _ _
          refine go_iload_n dX8_truths_38 rfl ?_
          refine go_if_ne (pc' := 47) dX8_truths_39 rfl (fun c_39 => ?_) (fun c_39 => ?_)
          · -- ne at 39: yes
            show bw_go _ _ _ _ _ _ _ 47 [(5, .int _), (4, .int _), (3, .int _), (0, .ref _), (1, .int _), (2, .int _)] ([]) _ _
            refine go_iload dX8_truths_47 rfl ?_
            refine go_istore dX8_truths_49 (Nat.lt_of_lt_of_le (Nat.lt_succ_self _) (Nat.le_of_ble_eq_true rfl)) ?_
            show bw_go _ _ _ _ _ _ _ 51 [(4, .int _), (5, .int _), (3, .int _), (0, .ref _), (1, .int _), (2, .int _)] ([]) _ _
            refine go_iinc dX8_truths_51 rfl (nI_1 _) (Nat.lt_of_lt_of_le (Nat.lt_succ_self _) (Nat.le_of_ble_eq_true rfl)) ?_
            show bw_go _ _ _ _ _ _ _ 54 [(3, .int _), (4, .int _), (5, .int _), (0, .ref _), (1, .int _), (2, .int _)] ([]) _ _
            refine go_iinc dX8_truths_54 rfl (nI_1 k) (Nat.lt_of_lt_of_le (Nat.lt_succ_self _) (Nat.le_of_ble_eq_true rfl)) ?_
            show bw_go _ _ _ _ _ _ _ 57 [(5, .int _), (3, .int _), (4, .int _), (0, .ref _), (1, .int _), (2, .int _)] ([]) _ _
            refine go_goto (pc' := 21) dX8_truths_57 rfl ?_
            refine go_ls [(5, .int _), (4, .int _), (3, .int _), (0, .ref _), (1, .int _), (2, .int _)] (by show List.Nodup ([5, 4, 3, 0, 1, 2] : List Nat); decide) (by show List.Nodup ([5, 3, 4, 0, 1, 2] : List Nat); decide) (le_cons rfl (le_cons rfl (le_cons rfl (le_cons rfl (le_cons rfl (le_cons rfl (le_nil _))))))) ?_
            have e1 := lst_s (P := (tq (lA S (nI j)) (lB S (nI j)))) (n := k)
            have e2 : cnt (tq (lA S (nI j)) (lB S (nI j))) (k + 1) = cnt (tq (lA S (nI j)) (lB S (nI j))) k + (if (tq (lA S (nI j)) (lB S (nI j))) k = true then 1 else 0) := rfl
            have hz : nI (cnt (tq (lA S (nI j)) (lB S (nI j))) k) = 0 ↔ cnt (tq (lA S (nI j)) (lB S (nI j))) k = 0 := nI_eq (b := 0) (by omega) (by decide)
            first
            | (rw [if_neg (fun z => Bool.noConfusion (c_35.symm.trans z.1))] at e1; rw [if_neg (fun z => Bool.noConfusion (c_35.symm.trans z)), Nat.add_zero] at e2; rw [e1, e2] at K; exact K)
            | (rw [if_neg (fun z => c_39 (hz.mpr z.2))] at e1; rw [if_pos c_35] at e2; rw [e1, e2] at K; exact K)
            | (rw [if_pos ⟨c_35, hz.mp (Decidable.of_not_not c_39)⟩] at e1; rw [if_pos c_35] at e2; rw [e1, e2] at K; exact K)
          · -- ne at 39: no
            show bw_go _ _ _ _ _ _ _ 42 [(5, .int _), (4, .int _), (3, .int _), (0, .ref _), (1, .int _), (2, .int _)] ([]) _ _
            refine go_iload dX8_truths_42 rfl ?_
            refine go_goto (pc' := 49) dX8_truths_44 rfl ?_
            show bw_go _ _ _ _ _ _ _ 49 [(5, .int _), (4, .int _), (3, .int _), (0, .ref _), (1, .int _), (2, .int _)] ((.int _) :: []) _ _
            refine go_istore dX8_truths_49 (Nat.lt_of_lt_of_le (Nat.lt_succ_self _) (Nat.le_of_ble_eq_true rfl)) ?_
            show bw_go _ _ _ _ _ _ _ 51 [(4, .int _), (5, .int _), (3, .int _), (0, .ref _), (1, .int _), (2, .int _)] ([]) _ _
            refine go_iinc dX8_truths_51 rfl (nI_1 _) (Nat.lt_of_lt_of_le (Nat.lt_succ_self _) (Nat.le_of_ble_eq_true rfl)) ?_
            show bw_go _ _ _ _ _ _ _ 54 [(3, .int _), (4, .int _), (5, .int _), (0, .ref _), (1, .int _), (2, .int _)] ([]) _ _
            refine go_iinc dX8_truths_54 rfl (nI_1 k) (Nat.lt_of_lt_of_le (Nat.lt_succ_self _) (Nat.le_of_ble_eq_true rfl)) ?_
            show bw_go _ _ _ _ _ _ _ 57 [(5, .int _), (3, .int _), (4, .int _), (0, .ref _), (1, .int _), (2, .int _)] ([]) _ _
            refine go_goto (pc' := 21) dX8_truths_57 rfl ?_
            refine go_ls [(5, .int _), (4, .int _), (3, .int _), (0, .ref _), (1, .int _), (2, .int _)] (by show List.Nodup ([5, 4, 3, 0, 1, 2] : List Nat); decide) (by show List.Nodup ([5, 3, 4, 0, 1, 2] : List Nat); decide) (le_cons rfl (le_cons rfl (le_cons rfl (le_cons rfl (le_cons rfl (le_cons rfl (le_nil _))))))) ?_
            have e1 := lst_s (P := (tq (lA S (nI j)) (lB S (nI j)))) (n := k)
            have e2 : cnt (tq (lA S (nI j)) (lB S (nI j))) (k + 1) = cnt (tq (lA S (nI j)) (lB S (nI j))) k + (if (tq (lA S (nI j)) (lB S (nI j))) k = true then 1 else 0) := rfl
            have hz : nI (cnt (tq (lA S (nI j)) (lB S (nI j))) k) = 0 ↔ cnt (tq (lA S (nI j)) (lB S (nI j))) k = 0 := nI_eq (b := 0) (by omega) (by decide)
            first
            | (rw [if_neg (fun z => Bool.noConfusion (c_35.symm.trans z.1))] at e1; rw [if_neg (fun z => Bool.noConfusion (c_35.symm.trans z)), Nat.add_zero] at e2; rw [e1, e2] at K; exact K)
            | (rw [if_neg (fun z => c_39 (hz.mpr z.2))] at e1; rw [if_pos c_35] at e2; rw [e1, e2] at K; exact K)
            | (rw [if_pos ⟨c_35, hz.mp (Decidable.of_not_not c_39)⟩] at e1; rw [if_pos c_35] at e2; rw [e1, e2] at K; exact K)
    · -- behind the last
      show bw_go _ _ _ _ _ _ _ 21 [(5, .int _), (4, .int _), (3, .int _), (0, .ref _), (1, .int _), (2, .int _)] ([]) _ _
      refine go_iload dX8_truths_21 rfl ?_
      refine go_bipush (64) dX8_truths_23 rfl ?_
      refine go_icmp_ge (pc' := 60) dX8_truths_25 rfl (fun c_25 => ?_) (fun c_25 => ?_)
      · -- ge at 25: yes
        show bw_go _ _ _ _ _ _ _ 60 [(5, .int _), (4, .int _), (3, .int _), (0, .ref _), (1, .int _), (2, .int _)] ([]) _ _
        refine go_aload_n dX8_truths_60 rfl ?_
        refine go_iload_n dX8_truths_61 rfl ?_
        refine go_i2l dX8_truths_62 ?_
        rw [nI_l (by have := cnt_le6 (tq (lA S (nI j)) (lB S (nI j))) 64; omega)]
        refine go_pfl dX8_truths_63 fl_8_228 rfl (ms_lt hm.1 (by decide)) hm.1.1.2 (Nat.le_of_ble_eq_true rfl) rfl ?_
        show bw_go _ _ _ _ _ _ _ 66 [(5, .int _), (4, .int _), (3, .int _), (0, .ref _), (1, .int _), (2, .int _)] ([]) _ _
        refine go_aload_n dX8_truths_66 rfl ?_
        refine go_lconst (1) dX8_truths_67 rfl ?_
        refine go_pfl dX8_truths_68 fl_8_35 rfl (ms_lt hm.1 (by decide)) hm.1.1.2 (Nat.le_of_ble_eq_true rfl) rfl ?_
        show bw_go _ _ _ _ _ _ _ 71 [(5, .int _), (4, .int _), (3, .int _), (0, .ref _), (1, .int _), (2, .int _)] ([]) _ _
        refine go_aload_n dX8_truths_71 rfl ?_
        refine go_iload dX8_truths_72 rfl ?_
        refine go_cv (as := [.int _]) 0 dX8_truths_74 mt_8_87 (Or.inl rfl) rfl rfl (ms_lt hm.1 (by decide)) hm.1.1.2 (Nat.le_of_ble_eq_true rfl) (Nat.le_of_ble_eq_true rfl) (Nat.le_of_ble_eq_true rfl) (Nat.le_of_ble_eq_true rfl) (Nat.le_of_ble_eq_true rfl) ?_
        refine me_X8_asks (mr_u hm _ _) (fun g2 hg2 hf2 => ?_)
        show bw_go _ _ _ _ _ _ _ 77 [(5, .int _), (4, .int _), (3, .int _), (0, .ref _), (1, .int _), (2, .int _)] ((.int _) :: []) _ _
        refine go_iret dX8_truths_77 rfl rfl ?_
        refine q_m hQ ?_ hg2 (frX_t hf (frX_t (frX_t (frX_sl (by decide)) (frX_sl (by decide))) hf2))
        unfold yTruths
        rw [if_pos c_7, tlP_1]
        rfl
      · -- ge at 25: no
        exfalso; have t_0 := nI_toInt (n := 64) (by omega); have l_0 : (64 : Int32).toInt = 64 := rfl; simp only [i_le, i_lt, i_eq, bi_eq] at c_25; omega
  · -- eq at 7: no
    show bw_go _ _ _ _ _ _ _ 10 [(2, .int _), (0, .ref _), (1, .int _)] ([]) _ _
    refine go_iload_n dX8_truths_10 rfl ?_
    refine go_iret dX8_truths_11 rfl rfl ?_
    refine q_m hQ ?_ hg hf
    unfold yTruths
    rw [if_neg c_7]
set_option maxRecDepth 100000 in
set_option maxHeartbeats 4000000 in
theorem me_X8_sure {X : Nat × (Nat → Int32)} {Q : Option Value → bw_H → Prop} {h : bw_H} {S : ST} {r : Int32} (hm : MR h S) (hQ : PM h Q (ySure r S)) : bw_me X 6 bm_X8_sure false [.ref 60, .int r] h Q := by
  have hv := mr_v hm
  have hk := mr_k hm
  have k1 := hk.1
  have hkC := hk
  have h2N := p2N k1
  have hp0 : 0 < 2 ^ cN (nowC S) := Nat.two_pow_pos _
  show bw_go _ 6 8 6 false (some .int) cX8_sure 0 [(0, .ref _), (1, .int _)] [] _ _
  refine go_aload_n dX8_sure_0 rfl ?_
  refine go_iload_n dX8_sure_1 rfl ?_
  refine go_cv (as := [.int _]) 3 dX8_sure_2 mt_8_222 (Or.inl rfl) rfl rfl (ms_lt hm.1 (by decide)) hm.1.1.2 (Nat.le_of_ble_eq_true rfl) (Nat.le_of_ble_eq_true rfl) (Nat.le_of_ble_eq_true rfl) (Nat.le_of_ble_eq_true rfl) (Nat.le_of_ble_eq_true rfl) ?_
  refine me_X8_refusesLooks hm (fun g hg hf => ?_)
  have hm00 := hm
  have hm := hg
  show bw_go _ _ _ _ _ _ _ 5 [(0, .ref _), (1, .int _)] ((.int _) :: []) _ _
  refine go_istore_n dX8_sure_5 (Nat.lt_of_lt_of_le (Nat.lt_succ_self _) (Nat.le_of_ble_eq_true rfl)) ?_
  show bw_go _ _ _ _ _ _ _ 6 [(2, .int _), (0, .ref _), (1, .int _)] ([]) _ _
  refine go_iload_n dX8_sure_6 rfl ?_
  refine go_if_eq (pc' := 12) dX8_sure_7 rfl (fun c_7 => ?_) (fun c_7 => ?_)
  · -- eq at 7: yes
    show bw_go _ _ _ _ _ _ _ 12 [(2, .int _), (0, .ref _), (1, .int _)] ([]) _ _
    obtain ⟨j, m, rfl, hl, hpos, e2⟩ := yRL_0 k1 c_7
    rw [e2] at hg
    have hm := hg
    have ha := lkf_a hl
    have hb := lkf_b hl
    have hv := mr_v hm
    have hkC := mr_k hm
    refine go_bipush (63) dX8_sure_12 rfl ?_
    refine go_istore_n dX8_sure_14 (Nat.lt_of_lt_of_le (Nat.lt_succ_self _) (Nat.le_of_ble_eq_true rfl)) ?_
    show bw_go _ _ _ _ _ _ _ 15 [(3, .int _), (2, .int _), (0, .ref _), (1, .int _)] ([]) _ _
    refine go_bipush (63) dX8_sure_15 rfl ?_
    refine go_istore dX8_sure_17 (Nat.lt_of_lt_of_le (Nat.lt_succ_self _) (Nat.le_of_ble_eq_true rfl)) ?_
    show bw_go _ _ _ _ _ _ _ 19 [(4, .int _), (3, .int _), (2, .int _), (0, .ref _), (1, .int _)] ([]) _ _
    refine go_iconst (0) dX8_sure_19 rfl ?_
    refine go_istore dX8_sure_20 (Nat.lt_of_lt_of_le (Nat.lt_succ_self _) (Nat.le_of_ble_eq_true rfl)) ?_
    show bw_go _ _ _ _ _ _ _ 22 [(5, .int _), (4, .int _), (3, .int _), (2, .int _), (0, .ref _), (1, .int _)] ([]) _ _
    refine go_ls [(5, .int _), (4, .int _), (3, .int _), (0, .ref _), (1, .int _), (2, .int _)] (by show List.Nodup ([5, 4, 3, 0, 1, 2] : List Nat); decide) (by show List.Nodup ([5, 4, 3, 2, 0, 1] : List Nat); decide) (le_cons rfl (le_cons rfl (le_cons rfl (le_cons rfl (le_cons rfl (le_cons rfl (le_nil _))))))) ?_
    refine go_for (P := fun k => bw_go X 6 8 6 false (some .int) cX8_sure 22 [(5, .int (nI k)), (4, .int (nI (inF (tq (lA S (nI j)) (lB S (nI j))) k))), (3, .int (nI (iaF (tq (lA S (nI j)) (lB S (nI j))) k))), (0, .ref (60)), (1, .int (nI j)), (2, .int ((yRL (nI j) S).1))] [] g Q) (N := 64) (fun k hk K => ?_) ?_ (0) (Nat.zero_le _)
    · -- a turn
      show bw_go _ _ _ _ _ _ _ 22 [(5, .int _), (4, .int _), (3, .int _), (0, .ref _), (1, .int _), (2, .int _)] ([]) _ _
      refine go_iload dX8_sure_22 rfl ?_
      refine go_bipush (64) dX8_sure_24 rfl ?_
      refine go_icmp_ge (pc' := 59) dX8_sure_26 rfl (fun c_26 => ?_) (fun c_26 => ?_)
      · -- ge at 26: yes
        exfalso; have t_0 := nI_toInt (n := k) (by omega); have l_0 : (64 : Int32).toInt = 64 := rfl; simp only [i_le, i_lt, i_eq, bi_eq] at c_26; omega
      · -- ge at 26: no
        show bw_go _ _ _ _ _ _ _ 29 [(5, .int _), (4, .int _), (3, .int _), (0, .ref _), (1, .int _), (2, .int _)] ([]) _ _
        refine go_aload_n dX8_sure_29 rfl ?_
        refine go_iload dX8_sure_30 rfl ?_
        refine go_iload_n dX8_sure_32 rfl ?_
        refine go_cv (as := [.int _, .int _]) 5 dX8_sure_33 mt_8_225 (Or.inl rfl) rfl rfl (ms_lt hm.1 (by decide)) hm.1.1.2 (Nat.le_of_ble_eq_true rfl) (Nat.le_of_ble_eq_true rfl) (Nat.le_of_ble_eq_true rfl) (Nat.le_of_ble_eq_true rfl) (Nat.le_of_ble_eq_true rfl) ?_
        refine me_X8_isTruth hm hl hk ?_
        rw [tru_l hl hk]
        show bw_go _ _ _ _ _ _ _ 36 [(5, .int _), (4, .int _), (3, .int _), (0, .ref _), (1, .int _), (2, .int _)] ((.int _) :: []) _ _
        refine go_ifb_eq (pc' := 53) dX8_sure_36 rfl (fun c_36 => ?_) (fun c_36 => ?_)
        · -- eq at 36: yes
          show bw_go _ _ _ _ _ _ _ 53 [(5, .int _), (4, .int _), (3, .int _), (0, .ref _), (1, .int _), (2, .int _)] ([]) _ _
          refine go_iinc dX8_sure_53 rfl (nI_1 k) (Nat.lt_of_lt_of_le (Nat.lt_succ_self _) (Nat.le_of_ble_eq_true rfl)) ?_
          show bw_go _ _ _ _ _ _ _ 56 [(5, .int _), (4, .int _), (3, .int _), (0, .ref _), (1, .int _), (2, .int _)] ([]) _ _
          refine go_goto (pc' := 22) dX8_sure_56 rfl ?_
          have e1 : iaF (tq (lA S (nI j)) (lB S (nI j))) (k + 1) = if (tq (lA S (nI j)) (lB S (nI j))) k = true then iaF (tq (lA S (nI j)) (lB S (nI j))) k &&& k else iaF (tq (lA S (nI j)) (lB S (nI j))) k := rfl
          have e2 : inF (tq (lA S (nI j)) (lB S (nI j))) (k + 1) = if (tq (lA S (nI j)) (lB S (nI j))) k = true then inF (tq (lA S (nI j)) (lB S (nI j))) k &&& (63 ^^^ k) else inF (tq (lA S (nI j)) (lB S (nI j))) k := rfl
          first
          | (rw [if_neg (fun z => Bool.noConfusion (c_36.symm.trans z))] at e1; rw [if_neg (fun z => Bool.noConfusion (c_36.symm.trans z))] at e2; rw [e1, e2] at K; exact K)
          | (rw [if_pos c_36] at e1; rw [if_pos c_36] at e2; rw [e1, e2] at K; exact K)
        · -- eq at 36: no
          show bw_go _ _ _ _ _ _ _ 39 [(5, .int _), (4, .int _), (3, .int _), (0, .ref _), (1, .int _), (2, .int _)] ([]) _ _
          refine go_iload_n dX8_sure_39 rfl ?_
          refine go_iload dX8_sure_40 rfl ?_
          refine go_iand dX8_sure_42 ?_
          rw [and_n]
          refine go_istore_n dX8_sure_43 (Nat.lt_of_lt_of_le (Nat.lt_succ_self _) (Nat.le_of_ble_eq_true rfl)) ?_
          show bw_go _ _ _ _ _ _ _ 44 [(3, .int _), (5, .int _), (4, .int _), (0, .ref _), (1, .int _), (2, .int _)] ([]) _ _
          refine go_iload dX8_sure_44 rfl ?_
          refine go_iload dX8_sure_46 rfl ?_
          refine go_iconst (-1) dX8_sure_48 rfl ?_
          refine go_ixor dX8_sure_49 ?_
          refine go_iand dX8_sure_50 ?_
          rw [not_n k hk _ (inF_lt _ _)]
          refine go_istore dX8_sure_51 (Nat.lt_of_lt_of_le (Nat.lt_succ_self _) (Nat.le_of_ble_eq_true rfl)) ?_
          show bw_go _ _ _ _ _ _ _ 53 [(4, .int _), (3, .int _), (5, .int _), (0, .ref _), (1, .int _), (2, .int _)] ([]) _ _
          refine go_iinc dX8_sure_53 rfl (nI_1 k) (Nat.lt_of_lt_of_le (Nat.lt_succ_self _) (Nat.le_of_ble_eq_true rfl)) ?_
          show bw_go _ _ _ _ _ _ _ 56 [(5, .int _), (4, .int _), (3, .int _), (0, .ref _), (1, .int _), (2, .int _)] ([]) _ _
          refine go_goto (pc' := 22) dX8_sure_56 rfl ?_
          have e1 : iaF (tq (lA S (nI j)) (lB S (nI j))) (k + 1) = if (tq (lA S (nI j)) (lB S (nI j))) k = true then iaF (tq (lA S (nI j)) (lB S (nI j))) k &&& k else iaF (tq (lA S (nI j)) (lB S (nI j))) k := rfl
          have e2 : inF (tq (lA S (nI j)) (lB S (nI j))) (k + 1) = if (tq (lA S (nI j)) (lB S (nI j))) k = true then inF (tq (lA S (nI j)) (lB S (nI j))) k &&& (63 ^^^ k) else inF (tq (lA S (nI j)) (lB S (nI j))) k := rfl
          first
          | (rw [if_neg (fun z => Bool.noConfusion (c_36.symm.trans z))] at e1; rw [if_neg (fun z => Bool.noConfusion (c_36.symm.trans z))] at e2; rw [e1, e2] at K; exact K)
          | (rw [if_pos c_36] at e1; rw [if_pos c_36] at e2; rw [e1, e2] at K; exact K)
    · -- behind the last
      show bw_go _ _ _ _ _ _ _ 22 [(5, .int _), (4, .int _), (3, .int _), (0, .ref _), (1, .int _), (2, .int _)] ([]) _ _
      refine go_iload dX8_sure_22 rfl ?_
      refine go_bipush (64) dX8_sure_24 rfl ?_
      refine go_icmp_ge (pc' := 59) dX8_sure_26 rfl (fun c_26 => ?_) (fun c_26 => ?_)
      · -- ge at 26: yes
        show bw_go _ _ _ _ _ _ _ 59 [(5, .int _), (4, .int _), (3, .int _), (0, .ref _), (1, .int _), (2, .int _)] ([]) _ _
        refine go_aload_n dX8_sure_59 rfl ?_
        refine go_iload dX8_sure_60 rfl ?_
        refine go_cv (as := [.int _]) 0 dX8_sure_62 mt_8_87 (Or.inl rfl) rfl rfl (ms_lt hm.1 (by decide)) hm.1.1.2 (Nat.le_of_ble_eq_true rfl) (Nat.le_of_ble_eq_true rfl) (Nat.le_of_ble_eq_true rfl) (Nat.le_of_ble_eq_true rfl) (Nat.le_of_ble_eq_true rfl) ?_
        rw [surN_e ha hb, surE_e ha hb]
        refine me_X8_asks hm (fun g2 hg2 hf2 => ?_)
        show bw_go _ _ _ _ _ _ _ 65 [(5, .int _), (4, .int _), (3, .int _), (0, .ref _), (1, .int _), (2, .int _)] ((.int _) :: []) _ _
        refine go_istore dX8_sure_65 (Nat.lt_of_lt_of_le (Nat.lt_succ_self _) (Nat.le_of_ble_eq_true rfl)) ?_
        show bw_go _ _ _ _ _ _ _ 67 [(5, .int _), (4, .int _), (3, .int _), (0, .ref _), (1, .int _), (2, .int _)] ([]) _ _
        refine go_iload_n dX8_sure_67 rfl ?_
        refine go_iret dX8_sure_68 rfl rfl ?_
        refine q_m hQ ?_ hg2 (frX_t hf hf2)
        unfold ySure
        rw [if_pos c_7]
      · -- ge at 26: no
        exfalso; have t_0 := nI_toInt (n := 64) (by omega); have l_0 : (64 : Int32).toInt = 64 := rfl; simp only [i_le, i_lt, i_eq, bi_eq] at c_26; omega
  · -- eq at 7: no
    show bw_go _ _ _ _ _ _ _ 10 [(2, .int _), (0, .ref _), (1, .int _)] ([]) _ _
    refine go_iload_n dX8_sure_10 rfl ?_
    refine go_iret dX8_sure_11 rfl rfl ?_
    refine q_m hQ ?_ hg hf
    unfold ySure
    rw [if_neg c_7]
