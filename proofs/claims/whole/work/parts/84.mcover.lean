/-! the reference: cover, rivals, apart -/
def rvP (C : CT) (i j t : Nat) : Bool := (cla (taC C) i j).testBit t
theorem ans_one {C : CT} {i t : Nat} : ((taC C).2.1 i).testBit t = true → (toC C i).testBit t = true := by
  intro h
  have h1 : (one (toC C i) (cK C i) (cR C i) (cD C)).testBit t = true := h
  have h2 : (toC C i ||| one (toC C i) (cK C i) (cR C i) (cD C)).testBit t = (toC C i).testBit t := congrArg (fun z => Nat.testBit z t) (one_sub (toC C i) (cK C i) (cR C i) (cD C))
  rw [Nat.testBit_or, h1, Bool.or_true] at h2
  exact h2.symm
theorem ans_c {C : CT} {i t : Nat} (ht : t < 6) : ((taC C).2.1 i).testBit t = decide (anC C i t (cD C) = 1) ∧ ((taC C).2.2 i).testBit t = decide (anC C i t (cD C) = 0) := by
  have h0 := ans_one (C := C) (i := i) (t := t)
  have e2 : ((taC C).2.2 i).testBit t = ((toC C i).testBit t && !((taC C).2.1 i).testBit t) := by
    show (toC C i &&& (63 ^^^ one (toC C i) (cK C i) (cR C i) (cD C))).testBit t = _
    rw [Nat.testBit_and, Nat.testBit_xor, t63 t ht]
    rw [Bool.true_xor]
    rfl
  have e3 : anC C i t (cD C) = if (toC C i).testBit t = true then (if ((taC C).2.1 i).testBit t = true then 1 else 0) else -9 := rfl
  rw [e2, e3]
  cases h1 : (toC C i).testBit t with
  | true => cases ((taC C).2.1 i).testBit t <;> exact ⟨rfl, rfl⟩
  | false =>
    cases h2 : ((taC C).2.1 i).testBit t with
    | true => rw [h0 h2] at h1; cases h1
    | false => exact ⟨rfl, rfl⟩
theorem rv_c {C : CT} {i j t : Nat} (ht : t < 6) : rvP C i j t = decide (¬ anC C i t (cD C) = -9 ∧ ¬ anC C j t (cD C) = -9 ∧ ¬ anC C i t (cD C) = anC C j t (cD C)) := by
  unfold rvP cla
  rw [Nat.testBit_or, Nat.testBit_and, Nat.testBit_and, (ans_c ht).1, (ans_c ht).2, (ans_c ht).1, (ans_c ht).2]
  have hi : anC C i t (cD C) = -9 ∨ anC C i t (cD C) = 0 ∨ anC C i t (cD C) = 1 := by
    by_cases z : anC C i t (cD C) = -9
    · exact Or.inl z
    · exact Or.inr (ans_01 z)
  have hj : anC C j t (cD C) = -9 ∨ anC C j t (cD C) = 0 ∨ anC C j t (cD C) = 1 := by
    by_cases z : anC C j t (cD C) = -9
    · exact Or.inl z
    · exact Or.inr (ans_01 z)
  rcases hi with h1 | h1 | h1 <;> rcases hj with h2 | h2 | h2 <;> rw [h1, h2] <;> rfl
theorem cla_lt {C : CT} {i j : Nat} (hk : co_k C) (hi : i < cN C) (hj : j < cN C) : cla (taC C) i j < 64 := by
  have h1 : (taC C).2.1 i < 64 := one_lt (toC_lt hk hi)
  have h2 : (taC C).2.2 i < 64 := Nat.lt_of_le_of_lt Nat.and_le_left (toC_lt hk hi)
  exact or_lt (Nat.lt_of_le_of_lt Nat.and_le_left h1) (Nat.lt_of_le_of_lt Nat.and_le_left h2)
theorem rv_e {C : CT} {i j : Nat} (hk : co_k C) (hi : i < cN C) (hj : j < cN C) : orf (fun t => if rvP C i j t = true then 2 ^ t else 0) 6 = cla (taC C) i j := orf_id _ (cla_lt hk hi hj)
/-- peace among those that stay, one after another -/
def prI (C : CT) (o i : Nat) : Nat → Bool
  | 0 => true
  | j + 1 => prI C o i j && (o.testBit i || (o.testBit j || decide (cla (taC C) i j = 0)))
def prO (C : CT) (o : Nat) : Nat → Bool
  | 0 => true
  | i + 1 => prO C o i && prI C o i i
theorem prI_t {C : CT} {o i : Nat} : ∀ n, prI C o i n = true ↔ ∀ j, j < n → o.testBit i = true ∨ o.testBit j = true ∨ cla (taC C) i j = 0
  | 0 => ⟨fun _ j hj => absurd hj (Nat.not_lt_zero j), fun _ => rfl⟩
  | n + 1 => by
    show (prI C o i n && (o.testBit i || (o.testBit n || decide (cla (taC C) i n = 0)))) = true ↔ _
    rw [Bool.and_eq_true, prI_t n, Bool.or_eq_true, Bool.or_eq_true, decide_eq_true_eq]
    constructor
    · intro h j hj
      by_cases e : j = n
      · subst e; exact h.2
      · exact h.1 j (by omega)
    · intro h
      exact ⟨fun j hj => h j (by omega), h n (by omega)⟩
theorem prO_t {C : CT} {o : Nat} : ∀ n, prO C o n = true ↔ ∀ i, i < n → ∀ j, j < i → o.testBit i = true ∨ o.testBit j = true ∨ cla (taC C) i j = 0
  | 0 => ⟨fun _ j hj => absurd hj (Nat.not_lt_zero j), fun _ => rfl⟩
  | n + 1 => by
    show (prO C o n && prI C o n n) = true ↔ _
    rw [Bool.and_eq_true, prO_t n, prI_t]
    constructor
    · intro h j hj
      by_cases e : j = n
      · subst e; exact h.2
      · exact h.1 j (by omega)
    · intro h
      exact ⟨fun j hj => h j (by omega), h n (by omega)⟩
theorem orf_ex (f : Nat → Nat) (t : Nat) : ∀ n, (orf f n).testBit t = true ↔ ∃ i, i < n ∧ (f i).testBit t = true
  | 0 => by
    show (0 : Nat).testBit t = true ↔ _
    rw [Nat.zero_testBit]
    exact ⟨(fun z => by cases z), (fun ⟨i, hi, _⟩ => absurd hi (Nat.not_lt_zero i))⟩
  | n + 1 => by
    rw [orf_tb, Bool.or_eq_true, orf_ex f t n]
    constructor
    · rintro (⟨i, hi, h⟩ | h)
      · exact ⟨i, by omega, h⟩
      · exact ⟨n, by omega, h⟩
    · rintro ⟨i, hi, h⟩
      by_cases e : i = n
      · subst e; exact Or.inr h
      · exact Or.inl ⟨i, by omega, h⟩
theorem st_bit {n o i : Nat} (hn : n ≤ 6) (hi : i < n) : ((2 ^ n - 1) &&& (63 ^^^ o)).testBit i = !o.testBit i := by
  rw [Nat.testBit_and, Nat.testBit_xor, t63 i (by omega), Nat.testBit_two_pow_sub_one, decide_eq_true hi, Bool.true_and, Bool.true_xor]
theorem nz_bit {x : Nat} (h : x ≠ 0) : ∃ t, x.testBit t = true := Nat.exists_testBit_of_ne_zero h
theorem z_bit {x t : Nat} (h : x = 0) : x.testBit t = false := by rw [h]; exact Nat.zero_testBit t
theorem ap_e {S : ST} {o : Nat} (hk : co_k (nowC S)) : prO (nowC S) o (cN (nowC S)) = apP S o := by
  have hn := hk.1
  have key : prO (nowC S) o (cN (nowC S)) = true ↔ apP S o = true := by
    rw [prO_t]
    unfold apP riv
    rw [Bool.not_eq_true', decide_eq_false_iff_not, Decidable.not_not]
    constructor
    · intro h
      apply Decidable.byContradiction
      intro hne
      obtain ⟨t, ht⟩ := nz_bit hne
      rw [Nat.testBit_and, Bool.and_eq_true, orf_ex, orf_ex] at ht
      obtain ⟨⟨i, hi, h1⟩, ⟨j, hj, h2⟩⟩ := ht
      have hi : i < cN (nowC S) := hi
      have hj : j < cN (nowC S) := hj
      rw [st_bit hn hi] at h1
      rw [st_bit hn hj] at h2
      cases oi : o.testBit i with
      | true => rw [oi] at h1; rw [if_neg (by decide), Nat.zero_testBit] at h1; cases h1
      | false =>
        cases oj : o.testBit j with
        | true => rw [oj] at h2; rw [if_neg (by decide), Nat.zero_testBit] at h2; cases h2
        | false =>
          rw [oi, if_pos (by decide)] at h1
          rw [oj, if_pos (by decide)] at h2
          have hc : ∀ a b, cla (taC (nowC S)) a b = 0 → ¬ (((taC (nowC S)).2.1 a).testBit t = true ∧ ((taC (nowC S)).2.2 b).testBit t = true) := fun a b z y => by
            have z2 := z_bit (t := t) z
            unfold cla at z2
            rw [Nat.testBit_or, Nat.testBit_and, y.1, y.2] at z2
            cases z2
          have hc2 : ∀ a b, cla (taC (nowC S)) a b = 0 → ¬ (((taC (nowC S)).2.2 a).testBit t = true ∧ ((taC (nowC S)).2.1 b).testBit t = true) := fun a b z y => by
            have z2 := z_bit (t := t) z
            unfold cla at z2
            rw [Nat.testBit_or, Nat.testBit_and, Nat.testBit_and, y.1, y.2, Bool.and_self, Bool.or_true] at z2
            cases z2
          rcases Nat.lt_trichotomy i j with hl | hl | hl
          · rcases h j hj i hl with z | z | z
            · rw [oj] at z; cases z
            · rw [oi] at z; cases z
            · exact hc2 j i z ⟨h2, h1⟩
          · subst hl
            have h2' : (toC (nowC S) i &&& (63 ^^^ one (toC (nowC S) i) (cK (nowC S) i) (cR (nowC S) i) (cD (nowC S)))).testBit t = true := h2
            have h1' : (one (toC (nowC S) i) (cK (nowC S) i) (cR (nowC S) i) (cD (nowC S))).testBit t = true := h1
            rw [Nat.testBit_and, Nat.testBit_xor, h1'] at h2'
            have hto := toC_lt hk hi
            by_cases t6 : t < 6
            · rw [t63 t t6] at h2'; simp at h2'
            · have z : (toC (nowC S) i).testBit t = false := Nat.testBit_lt_two_pow (Nat.lt_of_lt_of_le hto (Nat.pow_le_pow_right (n := 2) (by decide) (by omega : 6 ≤ t)))
              rw [z] at h2'; cases h2'
          · rcases h i hi j hl with z | z | z
            · rw [oi] at z; cases z
            · rw [oj] at z; cases z
            · exact hc i j z ⟨h1, h2⟩
    · intro h i hi j hj
      cases oi : o.testBit i with
      | true => exact Or.inl rfl
      | false =>
        cases oj : o.testBit j with
        | true => exact Or.inr (Or.inl rfl)
        | false =>
          refine Or.inr (Or.inr ?_)
          apply Decidable.byContradiction
          intro hne
          obtain ⟨t, ht⟩ := nz_bit hne
          have hz := z_bit (t := t) h
          rw [Nat.testBit_and] at hz
          unfold cla at ht
          rw [Nat.testBit_or, Nat.testBit_and, Nat.testBit_and, Bool.or_eq_true, Bool.and_eq_true, Bool.and_eq_true] at ht
          have hjn : j < cN (nowC S) := by omega
          have mk : ∀ (f : Nat → Nat) (a : Nat), a < cN (nowC S) → o.testBit a = false → (f a).testBit t = true → (orf (fun i => if ((2 ^ cN (nowC S) - 1) &&& (63 ^^^ o)).testBit i = true then f i else 0) (taC (nowC S)).1).testBit t = true := fun f a ha oa hf => (orf_ex _ t _).mpr ⟨a, ha, by rw [st_bit hn ha, oa]; exact hf⟩
          rcases ht with ⟨h1, h2⟩ | ⟨h1, h2⟩
          · rw [mk _ i hi oi h1, mk _ j hjn oj h2] at hz; cases hz
          · rw [mk _ j hjn oj h2, mk _ i hi oi h1] at hz; cases hz
  cases h1 : prO (nowC S) o (cN (nowC S)) with
  | true => exact (key.mp h1).symm
  | false =>
    cases h2 : apP S o with
    | true => rw [key.mpr h2] at h1; cases h1
    | false => rfl
set_option maxRecDepth 100000 in
set_option maxHeartbeats 4000000 in
theorem me_X8_rivalThings {X : Nat × (Nat → Int32)} {Q : Option Value → bw_H → Prop} {h : bw_H} {S : ST} {i j : Nat} (hm : MR h S) (hi : i < cN (nowC S)) (hj : j < cN (nowC S)) (hQ : Q (some (.int (nI (cla (taC (nowC S)) i j)))) h) : bw_me X 6 bm_X8_rivalThings false [.ref 60, .int (nI i), .int (nI j)] h Q := by
  have hv := mr_v hm
  have hk := mr_k hm
  have k1 := hk.1
  have hkC := hk
  have h2N := p2N k1
  have hp0 : 0 < 2 ^ cN (nowC S) := Nat.two_pow_pos _
  show bw_go _ 6 8 7 false (some .int) cX8_rivalThings 0 [(0, .ref _), (1, .int _), (2, .int _)] [] _ _
  refine go_iconst (0) dX8_rivalThings_0 rfl ?_
  refine go_istore_n dX8_rivalThings_1 (Nat.lt_of_lt_of_le (Nat.lt_succ_self _) (Nat.le_of_ble_eq_true rfl)) ?_
  show bw_go _ _ _ _ _ _ _ 2 [(3, .int _), (0, .ref _), (1, .int _), (2, .int _)] ([]) _ _
  refine go_iconst (0) dX8_rivalThings_2 rfl ?_
  refine go_istore dX8_rivalThings_3 (Nat.lt_of_lt_of_le (Nat.lt_succ_self _) (Nat.le_of_ble_eq_true rfl)) ?_
  show bw_go _ _ _ _ _ _ _ 5 [(4, .int _), (3, .int _), (0, .ref _), (1, .int _), (2, .int _)] ([]) _ _
  refine go_for (P := fun k => bw_go X 6 8 7 false (some .int) cX8_rivalThings 5 [(4, .int (nI k)), (3, .int (nI (orf (fun t => if rvP (nowC S) i j t = true then 2 ^ t else 0) k))), (0, .ref (60)), (1, .int (nI i)), (2, .int (nI j))] [] h Q) (N := 6) (fun k hk K => ?_) ?_ (0) (Nat.zero_le _)
  · -- a turn
    have hk6 : k < 6 := hk
    show bw_go _ _ _ _ _ _ _ 5 [(4, .int _), (3, .int _), (0, .ref _), (1, .int _), (2, .int _)] ([]) _ _
    refine go_iload dX8_rivalThings_5 rfl ?_
    refine go_bipush (6) dX8_rivalThings_7 rfl ?_
    refine go_icmp_ge (pc' := 68) dX8_rivalThings_9 rfl (fun c_9 => ?_) (fun c_9 => ?_)
    · -- ge at 9: yes
      exfalso; have t_0 := nI_toInt (n := k) (by omega); have l_0 : (6 : Int32).toInt = 6 := rfl; simp only [i_le, i_lt, i_eq, bi_eq] at c_9; omega
    · -- ge at 9: no
      show bw_go _ _ _ _ _ _ _ 12 [(4, .int _), (3, .int _), (0, .ref _), (1, .int _), (2, .int _)] ([]) _ _
      refine go_aload_n dX8_rivalThings_12 rfl ?_
      refine go_iload_n dX8_rivalThings_13 rfl ?_
      refine go_iload dX8_rivalThings_14 rfl ?_
      refine go_cv (as := [.int _, .int _]) 5 dX8_rivalThings_16 mt_8_147 (Or.inl rfl) rfl rfl (ms_lt hm.1 (by decide)) hm.1.1.2 (Nat.le_of_ble_eq_true rfl) (Nat.le_of_ble_eq_true rfl) (Nat.le_of_ble_eq_true rfl) (Nat.le_of_ble_eq_true rfl) (Nat.le_of_ble_eq_true rfl) ?_
      refine me_X8_tellNow hm hi hk6 ?_
      show bw_go _ _ _ _ _ _ _ 19 [(4, .int _), (3, .int _), (0, .ref _), (1, .int _), (2, .int _)] ((.int _) :: []) _ _
      refine go_istore dX8_rivalThings_19 (Nat.lt_of_lt_of_le (Nat.lt_succ_self _) (Nat.le_of_ble_eq_true rfl)) ?_
      show bw_go _ _ _ _ _ _ _ 21 [(5, .int _), (4, .int _), (3, .int _), (0, .ref _), (1, .int _), (2, .int _)] ([]) _ _
      refine go_aload_n dX8_rivalThings_21 rfl ?_
      refine go_iload_n dX8_rivalThings_22 rfl ?_
      refine go_iload dX8_rivalThings_23 rfl ?_
      refine go_cv (as := [.int _, .int _]) 5 dX8_rivalThings_25 mt_8_147 (Or.inl rfl) rfl rfl (ms_lt hm.1 (by decide)) hm.1.1.2 (Nat.le_of_ble_eq_true rfl) (Nat.le_of_ble_eq_true rfl) (Nat.le_of_ble_eq_true rfl) (Nat.le_of_ble_eq_true rfl) (Nat.le_of_ble_eq_true rfl) ?_
      refine me_X8_tellNow hm hj hk6 ?_
      show bw_go _ _ _ _ _ _ _ 28 [(5, .int _), (4, .int _), (3, .int _), (0, .ref _), (1, .int _), (2, .int _)] ((.int _) :: []) _ _
      refine go_istore dX8_rivalThings_28 (Nat.lt_of_lt_of_le (Nat.lt_succ_self _) (Nat.le_of_ble_eq_true rfl)) ?_
      show bw_go _ _ _ _ _ _ _ 30 [(6, .int _), (5, .int _), (4, .int _), (3, .int _), (0, .ref _), (1, .int _), (2, .int _)] ([]) _ _
      refine go_iload_n dX8_rivalThings_30 rfl ?_
      refine go_iload dX8_rivalThings_31 rfl ?_
      refine go_bipush (-9) dX8_rivalThings_33 rfl ?_
      refine go_icmp_eq (pc' := 59) dX8_rivalThings_35 rfl (fun c_35 => ?_) (fun c_35 => ?_)
      · -- eq at 35: yes
        show bw_go _ _ _ _ _ _ _ 59 [(6, .int _), (5, .int _), (4, .int _), (3, .int _), (0, .ref _), (1, .int _), (2, .int _)] ((.int _) :: []) _ _
        refine go_iconst (0) dX8_rivalThings_59 rfl ?_
        refine go_ior dX8_rivalThings_60 ?_
        first | rw [or_n] | rw [show (0 : Int32) = nI 0 from rfl, or_n, Nat.or_zero]
        refine go_istore_n dX8_rivalThings_61 (Nat.lt_of_lt_of_le (Nat.lt_succ_self _) (Nat.le_of_ble_eq_true rfl)) ?_
        show bw_go _ _ _ _ _ _ _ 62 [(3, .int _), (6, .int _), (5, .int _), (4, .int _), (0, .ref _), (1, .int _), (2, .int _)] ([]) _ _
        refine go_iinc dX8_rivalThings_62 rfl (nI_1 k) (Nat.lt_of_lt_of_le (Nat.lt_succ_self _) (Nat.le_of_ble_eq_true rfl)) ?_
        show bw_go _ _ _ _ _ _ _ 65 [(4, .int _), (3, .int _), (6, .int _), (5, .int _), (0, .ref _), (1, .int _), (2, .int _)] ([]) _ _
        refine go_goto (pc' := 5) dX8_rivalThings_65 rfl ?_
        refine go_ls [(4, .int _), (3, .int _), (0, .ref _), (1, .int _), (2, .int _)] (by show List.Nodup ([4, 3, 0, 1, 2] : List Nat); decide) (by show List.Nodup ([4, 3, 6, 5, 0, 1, 2] : List Nat); decide) (le_cons rfl (le_cons rfl (le_cons rfl (le_cons rfl (le_cons rfl (le_nil _)))))) ?_
        have e1 : orf (fun t => if rvP (nowC S) i j t = true then 2 ^ t else 0) (k + 1) = orf (fun t => if rvP (nowC S) i j t = true then 2 ^ t else 0) k ||| (if rvP (nowC S) i j k = true then 2 ^ k else 0) := rfl
        first
        | (rw [if_neg (by rw [rv_c hk6]; exact fun z => absurd c_35 (of_decide_eq_true z).1), Nat.or_zero] at e1; rw [e1] at K; exact K)
        | (rw [if_neg (by rw [rv_c hk6]; exact fun z => absurd c_42 (of_decide_eq_true z).2.1), Nat.or_zero] at e1; rw [e1] at K; exact K)
        | (rw [if_neg (by rw [rv_c hk6]; exact fun z => absurd c_49 (of_decide_eq_true z).2.2), Nat.or_zero] at e1; rw [e1] at K; exact K)
        | (rw [if_pos (by rw [rv_c hk6]; exact decide_eq_true ⟨c_35, c_42, c_49⟩)] at e1; rw [e1] at K; exact K)
      · -- eq at 35: no
        show bw_go _ _ _ _ _ _ _ 38 [(6, .int _), (5, .int _), (4, .int _), (3, .int _), (0, .ref _), (1, .int _), (2, .int _)] ((.int _) :: []) _ _
        refine go_iload dX8_rivalThings_38 rfl ?_
        refine go_bipush (-9) dX8_rivalThings_40 rfl ?_
        refine go_icmp_eq (pc' := 59) dX8_rivalThings_42 rfl (fun c_42 => ?_) (fun c_42 => ?_)
        · -- eq at 42: yes
          show bw_go _ _ _ _ _ _ _ 59 [(6, .int _), (5, .int _), (4, .int _), (3, .int _), (0, .ref _), (1, .int _), (2, .int _)] ((.int _) :: []) _ _
          refine go_iconst (0) dX8_rivalThings_59 rfl ?_
          refine go_ior dX8_rivalThings_60 ?_
          first | rw [or_n] | rw [show (0 : Int32) = nI 0 from rfl, or_n, Nat.or_zero]
          refine go_istore_n dX8_rivalThings_61 (Nat.lt_of_lt_of_le (Nat.lt_succ_self _) (Nat.le_of_ble_eq_true rfl)) ?_
          show bw_go _ _ _ _ _ _ _ 62 [(3, .int _), (6, .int _), (5, .int _), (4, .int _), (0, .ref _), (1, .int _), (2, .int _)] ([]) _ _
          refine go_iinc dX8_rivalThings_62 rfl (nI_1 k) (Nat.lt_of_lt_of_le (Nat.lt_succ_self _) (Nat.le_of_ble_eq_true rfl)) ?_
          show bw_go _ _ _ _ _ _ _ 65 [(4, .int _), (3, .int _), (6, .int _), (5, .int _), (0, .ref _), (1, .int _), (2, .int _)] ([]) _ _
          refine go_goto (pc' := 5) dX8_rivalThings_65 rfl ?_
          refine go_ls [(4, .int _), (3, .int _), (0, .ref _), (1, .int _), (2, .int _)] (by show List.Nodup ([4, 3, 0, 1, 2] : List Nat); decide) (by show List.Nodup ([4, 3, 6, 5, 0, 1, 2] : List Nat); decide) (le_cons rfl (le_cons rfl (le_cons rfl (le_cons rfl (le_cons rfl (le_nil _)))))) ?_
          have e1 : orf (fun t => if rvP (nowC S) i j t = true then 2 ^ t else 0) (k + 1) = orf (fun t => if rvP (nowC S) i j t = true then 2 ^ t else 0) k ||| (if rvP (nowC S) i j k = true then 2 ^ k else 0) := rfl
          first
          | (rw [if_neg (by rw [rv_c hk6]; exact fun z => absurd c_35 (of_decide_eq_true z).1), Nat.or_zero] at e1; rw [e1] at K; exact K)
          | (rw [if_neg (by rw [rv_c hk6]; exact fun z => absurd c_42 (of_decide_eq_true z).2.1), Nat.or_zero] at e1; rw [e1] at K; exact K)
          | (rw [if_neg (by rw [rv_c hk6]; exact fun z => absurd c_49 (of_decide_eq_true z).2.2), Nat.or_zero] at e1; rw [e1] at K; exact K)
          | (rw [if_pos (by rw [rv_c hk6]; exact decide_eq_true ⟨c_35, c_42, c_49⟩)] at e1; rw [e1] at K; exact K)
        · -- eq at 42: no
          show bw_go _ _ _ _ _ _ _ 45 [(6, .int _), (5, .int _), (4, .int _), (3, .int _), (0, .ref _), (1, .int _), (2, .int _)] ((.int _) :: []) _ _
          refine go_iload dX8_rivalThings_45 rfl ?_
          refine go_iload dX8_rivalThings_47 rfl ?_
          refine go_icmp_eq (pc' := 59) dX8_rivalThings_49 rfl (fun c_49 => ?_) (fun c_49 => ?_)
          · -- eq at 49: yes
            show bw_go _ _ _ _ _ _ _ 59 [(6, .int _), (5, .int _), (4, .int _), (3, .int _), (0, .ref _), (1, .int _), (2, .int _)] ((.int _) :: []) _ _
            refine go_iconst (0) dX8_rivalThings_59 rfl ?_
            refine go_ior dX8_rivalThings_60 ?_
            first | rw [or_n] | rw [show (0 : Int32) = nI 0 from rfl, or_n, Nat.or_zero]
            refine go_istore_n dX8_rivalThings_61 (Nat.lt_of_lt_of_le (Nat.lt_succ_self _) (Nat.le_of_ble_eq_true rfl)) ?_
            show bw_go _ _ _ _ _ _ _ 62 [(3, .int _), (6, .int _), (5, .int _), (4, .int _), (0, .ref _), (1, .int _), (2, .int _)] ([]) _ _
            refine go_iinc dX8_rivalThings_62 rfl (nI_1 k) (Nat.lt_of_lt_of_le (Nat.lt_succ_self _) (Nat.le_of_ble_eq_true rfl)) ?_
            show bw_go _ _ _ _ _ _ _ 65 [(4, .int _), (3, .int _), (6, .int _), (5, .int _), (0, .ref _), (1, .int _), (2, .int _)] ([]) _ _
            refine go_goto (pc' := 5) dX8_rivalThings_65 rfl ?_
            refine go_ls [(4, .int _), (3, .int _), (0, .ref _), (1, .int _), (2, .int _)] (by show List.Nodup ([4, 3, 0, 1, 2] : List Nat); decide) (by show List.Nodup ([4, 3, 6, 5, 0, 1, 2] : List Nat); decide) (le_cons rfl (le_cons rfl (le_cons rfl (le_cons rfl (le_cons rfl (le_nil _)))))) ?_
            have e1 : orf (fun t => if rvP (nowC S) i j t = true then 2 ^ t else 0) (k + 1) = orf (fun t => if rvP (nowC S) i j t = true then 2 ^ t else 0) k ||| (if rvP (nowC S) i j k = true then 2 ^ k else 0) := rfl
            first
            | (rw [if_neg (by rw [rv_c hk6]; exact fun z => absurd c_35 (of_decide_eq_true z).1), Nat.or_zero] at e1; rw [e1] at K; exact K)
            | (rw [if_neg (by rw [rv_c hk6]; exact fun z => absurd c_42 (of_decide_eq_true z).2.1), Nat.or_zero] at e1; rw [e1] at K; exact K)
            | (rw [if_neg (by rw [rv_c hk6]; exact fun z => absurd c_49 (of_decide_eq_true z).2.2), Nat.or_zero] at e1; rw [e1] at K; exact K)
            | (rw [if_pos (by rw [rv_c hk6]; exact decide_eq_true ⟨c_35, c_42, c_49⟩)] at e1; rw [e1] at K; exact K)
          · -- eq at 49: no
            show bw_go _ _ _ _ _ _ _ 52 [(6, .int _), (5, .int _), (4, .int _), (3, .int _), (0, .ref _), (1, .int _), (2, .int _)] ((.int _) :: []) _ _
            refine go_iconst (1) dX8_rivalThings_52 rfl ?_
            refine go_iload dX8_rivalThings_53 rfl ?_
            refine go_ishl dX8_rivalThings_55 ?_
            rw [sh_t k (by omega)]
            refine go_goto (pc' := 60) dX8_rivalThings_56 rfl ?_
            show bw_go _ _ _ _ _ _ _ 60 [(6, .int _), (5, .int _), (4, .int _), (3, .int _), (0, .ref _), (1, .int _), (2, .int _)] ((.int _) :: (.int _) :: []) _ _
            refine go_ior dX8_rivalThings_60 ?_
            first | rw [or_n] | rw [show (0 : Int32) = nI 0 from rfl, or_n, Nat.or_zero]
            refine go_istore_n dX8_rivalThings_61 (Nat.lt_of_lt_of_le (Nat.lt_succ_self _) (Nat.le_of_ble_eq_true rfl)) ?_
            show bw_go _ _ _ _ _ _ _ 62 [(3, .int _), (6, .int _), (5, .int _), (4, .int _), (0, .ref _), (1, .int _), (2, .int _)] ([]) _ _
            refine go_iinc dX8_rivalThings_62 rfl (nI_1 k) (Nat.lt_of_lt_of_le (Nat.lt_succ_self _) (Nat.le_of_ble_eq_true rfl)) ?_
            show bw_go _ _ _ _ _ _ _ 65 [(4, .int _), (3, .int _), (6, .int _), (5, .int _), (0, .ref _), (1, .int _), (2, .int _)] ([]) _ _
            refine go_goto (pc' := 5) dX8_rivalThings_65 rfl ?_
            refine go_ls [(4, .int _), (3, .int _), (0, .ref _), (1, .int _), (2, .int _)] (by show List.Nodup ([4, 3, 0, 1, 2] : List Nat); decide) (by show List.Nodup ([4, 3, 6, 5, 0, 1, 2] : List Nat); decide) (le_cons rfl (le_cons rfl (le_cons rfl (le_cons rfl (le_cons rfl (le_nil _)))))) ?_
            have e1 : orf (fun t => if rvP (nowC S) i j t = true then 2 ^ t else 0) (k + 1) = orf (fun t => if rvP (nowC S) i j t = true then 2 ^ t else 0) k ||| (if rvP (nowC S) i j k = true then 2 ^ k else 0) := rfl
            first
            | (rw [if_neg (by rw [rv_c hk6]; exact fun z => absurd c_35 (of_decide_eq_true z).1), Nat.or_zero] at e1; rw [e1] at K; exact K)
            | (rw [if_neg (by rw [rv_c hk6]; exact fun z => absurd c_42 (of_decide_eq_true z).2.1), Nat.or_zero] at e1; rw [e1] at K; exact K)
            | (rw [if_neg (by rw [rv_c hk6]; exact fun z => absurd c_49 (of_decide_eq_true z).2.2), Nat.or_zero] at e1; rw [e1] at K; exact K)
            | (rw [if_pos (by rw [rv_c hk6]; exact decide_eq_true ⟨c_35, c_42, c_49⟩)] at e1; rw [e1] at K; exact K)
  · -- behind the last
    show bw_go _ _ _ _ _ _ _ 5 [(4, .int _), (3, .int _), (0, .ref _), (1, .int _), (2, .int _)] ([]) _ _
    refine go_iload dX8_rivalThings_5 rfl ?_
    refine go_bipush (6) dX8_rivalThings_7 rfl ?_
    refine go_icmp_ge (pc' := 68) dX8_rivalThings_9 rfl (fun c_9 => ?_) (fun c_9 => ?_)
    · -- ge at 9: yes
      show bw_go _ _ _ _ _ _ _ 68 [(4, .int _), (3, .int _), (0, .ref _), (1, .int _), (2, .int _)] ([]) _ _
      refine go_iload_n dX8_rivalThings_68 rfl ?_
      refine go_iret dX8_rivalThings_69 rfl rfl ?_
      rw [rv_e hkC hi hj]
      exact hQ
    · -- ge at 9: no
      exfalso; have t_0 := nI_toInt (n := 6) (by omega); have l_0 : (6 : Int32).toInt = 6 := rfl; simp only [i_le, i_lt, i_eq, bi_eq] at c_9; omega
set_option maxRecDepth 100000 in
set_option maxHeartbeats 4000000 in
theorem me_X8_rivals {X : Nat × (Nat → Int32)} {Q : Option Value → bw_H → Prop} {h : bw_H} {S : ST} {i j : Int32} (hm : MR h S) (hQ : PM h Q (yRivals i j S)) : bw_me X 7 bm_X8_rivals false [.ref 60, .int i, .int j] h Q := by
  have hv := mr_v hm
  have hk := mr_k hm
  have k1 := hk.1
  have hkC := hk
  have h2N := p2N k1
  have hp0 : 0 < 2 ^ cN (nowC S) := Nat.two_pow_pos _
  show bw_go _ 7 8 3 false (some .int) cX8_rivals 0 [(0, .ref _), (1, .int _), (2, .int _)] [] _ _
  refine go_aload_n dX8_rivals_0 rfl ?_
  refine go_iload_n dX8_rivals_1 rfl ?_
  refine go_cv (as := [.int _]) 1 dX8_rivals_2 mt_8_157 (Or.inl rfl) rfl rfl (ms_lt hm.1 (by decide)) hm.1.1.2 (Nat.le_of_ble_eq_true rfl) (Nat.le_of_ble_eq_true rfl) (Nat.le_of_ble_eq_true rfl) (Nat.le_of_ble_eq_true rfl) (Nat.le_of_ble_eq_true rfl) ?_
  refine me_X8_isBear hm ?_
  show bw_go _ _ _ _ _ _ _ 5 [(0, .ref _), (1, .int _), (2, .int _)] ((.int _) :: []) _ _
  refine go_ifb_eq (pc' := 30) dX8_rivals_5 rfl (fun c_5 => ?_) (fun c_5 => ?_)
  · -- eq at 5: yes
    show bw_go _ _ _ _ _ _ _ 30 [(0, .ref _), (1, .int _), (2, .int _)] ([]) _ _
    refine go_iconst (-1) dX8_rivals_30 rfl ?_
    refine go_iret dX8_rivals_31 rfl rfl ?_
    refine q_m hQ ?_ hm (frX_r h)
    unfold yRivals
    first
    | rw [if_neg (fun z => Bool.noConfusion ((show isn j (cN (nowC S)) = false from c_13).symm.trans z.2.1))]
    | rw [if_neg (fun z => Bool.noConfusion ((show isn i (cN (nowC S)) = false from c_5).symm.trans z.1))]
    | (have c18 : i = j := c_18; rw [if_neg (fun z => z.2.2 c18)])
  · -- eq at 5: no
    show bw_go _ _ _ _ _ _ _ 8 [(0, .ref _), (1, .int _), (2, .int _)] ([]) _ _
    refine go_aload_n dX8_rivals_8 rfl ?_
    refine go_iload_n dX8_rivals_9 rfl ?_
    refine go_cv (as := [.int _]) 1 dX8_rivals_10 mt_8_157 (Or.inl rfl) rfl rfl (ms_lt hm.1 (by decide)) hm.1.1.2 (Nat.le_of_ble_eq_true rfl) (Nat.le_of_ble_eq_true rfl) (Nat.le_of_ble_eq_true rfl) (Nat.le_of_ble_eq_true rfl) (Nat.le_of_ble_eq_true rfl) ?_
    refine me_X8_isBear hm ?_
    show bw_go _ _ _ _ _ _ _ 13 [(0, .ref _), (1, .int _), (2, .int _)] ((.int _) :: []) _ _
    refine go_ifb_eq (pc' := 30) dX8_rivals_13 rfl (fun c_13 => ?_) (fun c_13 => ?_)
    · -- eq at 13: yes
      show bw_go _ _ _ _ _ _ _ 30 [(0, .ref _), (1, .int _), (2, .int _)] ([]) _ _
      refine go_iconst (-1) dX8_rivals_30 rfl ?_
      refine go_iret dX8_rivals_31 rfl rfl ?_
      refine q_m hQ ?_ hm (frX_r h)
      unfold yRivals
      first
      | rw [if_neg (fun z => Bool.noConfusion ((show isn j (cN (nowC S)) = false from c_13).symm.trans z.2.1))]
      | rw [if_neg (fun z => Bool.noConfusion ((show isn i (cN (nowC S)) = false from c_5).symm.trans z.1))]
      | (have c18 : i = j := c_18; rw [if_neg (fun z => z.2.2 c18)])
    · -- eq at 13: no
      show bw_go _ _ _ _ _ _ _ 16 [(0, .ref _), (1, .int _), (2, .int _)] ([]) _ _
      refine go_iload_n dX8_rivals_16 rfl ?_
      refine go_iload_n dX8_rivals_17 rfl ?_
      refine go_icmp_eq (pc' := 30) dX8_rivals_18 rfl (fun c_18 => ?_) (fun c_18 => ?_)
      · -- eq at 18: yes
        show bw_go _ _ _ _ _ _ _ 30 [(0, .ref _), (1, .int _), (2, .int _)] ([]) _ _
        refine go_iconst (-1) dX8_rivals_30 rfl ?_
        refine go_iret dX8_rivals_31 rfl rfl ?_
        refine q_m hQ ?_ hm (frX_r h)
        unfold yRivals
        first
        | rw [if_neg (fun z => Bool.noConfusion ((show isn j (cN (nowC S)) = false from c_13).symm.trans z.2.1))]
        | rw [if_neg (fun z => Bool.noConfusion ((show isn i (cN (nowC S)) = false from c_5).symm.trans z.1))]
        | (have c18 : i = j := c_18; rw [if_neg (fun z => z.2.2 c18)])
      · -- eq at 18: no
        show bw_go _ _ _ _ _ _ _ 21 [(0, .ref _), (1, .int _), (2, .int _)] ([]) _ _
        obtain ⟨a, ha, rfl⟩ := isn_ex (r := i) (num := cN (nowC S)) c_5 (by omega)
        obtain ⟨b, hb, rfl⟩ := isn_ex (r := j) (num := cN (nowC S)) c_13 (by omega)
        refine go_aload_n dX8_rivals_21 rfl ?_
        refine go_iload_n dX8_rivals_22 rfl ?_
        refine go_iload_n dX8_rivals_23 rfl ?_
        refine go_cv (as := [.int _, .int _]) 6 dX8_rivals_24 mt_8_211 (Or.inl rfl) rfl rfl (ms_lt hm.1 (by decide)) hm.1.1.2 (Nat.le_of_ble_eq_true rfl) (Nat.le_of_ble_eq_true rfl) (Nat.le_of_ble_eq_true rfl) (Nat.le_of_ble_eq_true rfl) (Nat.le_of_ble_eq_true rfl) ?_
        refine me_X8_rivalThings hm ha hb ?_
        show bw_go _ _ _ _ _ _ _ 27 [(0, .ref _), (1, .int _), (2, .int _)] ((.int _) :: []) _ _
        refine go_goto (pc' := 31) dX8_rivals_27 rfl ?_
        show bw_go _ _ _ _ _ _ _ 31 [(0, .ref _), (1, .int _), (2, .int _)] ((.int _) :: []) _ _
        refine go_iret dX8_rivals_31 rfl rfl ?_
        refine q_m hQ ?_ hm (frX_r h)
        unfold yRivals
        rw [if_pos ⟨show isn (nI a) (cN (nowC S)) = true from c_5, show isn (nI b) (cN (nowC S)) = true from c_13, c_18⟩, rn_n (by omega), rn_n (by omega)]
theorem fw_n {P : Nat → Bool} {k : Nat} (hk : k ≤ 64) : (mtI (bst P k) = -9 ↔ bst P k = none) := mtI_9 (fun p hp => by have := bst_lt hp; omega)
theorem in_63 (n : Int32) : inr n.toInt64 0 63 = decide (0 ≤ n.toInt ∧ n.toInt ≤ 63) := by
  unfold inr
  rw [l_i, show (0 : Int64).toInt = 0 from rfl, show (63 : Int64).toInt = 63 from rfl]
set_option maxRecDepth 100000 in
set_option maxHeartbeats 4000000 in
theorem me_X8_cover {X : Nat × (Nat → Int32)} {Q : Option Value → bw_H → Prop} {h : bw_H} {S : ST} {x : Int32} (hm : MR h S) (hQ : PM h Q (yCover x S)) : bw_me X 7 bm_X8_cover false [.ref 60, .int x] h Q := by
  have hv := mr_v hm
  have hk := mr_k hm
  have k1 := hk.1
  have hkC := hk
  have h2N := p2N k1
  have hp0 : 0 < 2 ^ cN (nowC S) := Nat.two_pow_pos _
  show bw_go _ 7 8 6 false (some .int) cX8_cover 0 [(0, .ref _), (1, .int _)] [] _ _
  refine go_iload_n dX8_cover_0 rfl ?_
  refine go_i2l dX8_cover_1 ?_
  refine go_lconst (0) dX8_cover_2 rfl ?_
  refine go_ldc2_w dX8_cover_3 kc_8_209 ?_
  refine go_cs (as := [.long _, .long _, .long _]) 0 dX8_cover_6 rfl rfl mt_8_69 (Nat.le_of_ble_eq_true rfl) rfl rfl (Nat.le_of_ble_eq_true rfl) (Nat.le_of_ble_eq_true rfl) (Nat.le_of_ble_eq_true rfl) (Nat.le_of_ble_eq_true rfl) ?_
  refine me_X8_in ?_
  rw [in_63]
  show bw_go _ _ _ _ _ _ _ 9 [(0, .ref _), (1, .int _)] ((.int _) :: []) _ _
  refine go_ifb_ne (pc' := 14) dX8_cover_9 rfl (fun c_9 => ?_) (fun c_9 => ?_)
  · -- ne at 9: yes
    show bw_go _ _ _ _ _ _ _ 14 [(0, .ref _), (1, .int _)] ([]) _ _
    have hxr := of_decide_eq_true c_9
    obtain ⟨y, hy, rfl⟩ := isn_ex (r := x) (num := 64) (decide_eq_true (by omega)) (by decide)
    refine go_aload_n dX8_cover_14 rfl ?_
    refine go_gfr dX8_cover_15 fl_8_7 rfl (ms_lt hm.1 (by decide)) hm.1.1.2 hm.1.2.1.1 ?_
    refine go_iconst (0) dX8_cover_18 rfl ?_
    refine go_ia dX8_cover_19 hm.1.2.2.1 (ms_lt hm.1 (by decide)) (by decide) ?_
    rw [show (0 : Int32).toNatClampNeg = 0 from rfl, hv.1]
    refine go_if_ne (pc' := 26) dX8_cover_20 rfl (fun c_20 => ?_) (fun c_20 => ?_)
    · -- ne at 20: yes
      show bw_go _ _ _ _ _ _ _ 26 [(0, .ref _), (1, .int _)] ([]) _ _
      have h0 : ¬ cN (nowC S) = 0 := fun z => c_20 ((nI_eq (a := cN (nowC S)) (b := 0) (by omega) (by omega)).mpr z)
      refine go_bipush (-9) dX8_cover_26 rfl ?_
      refine go_istore_n dX8_cover_28 (Nat.lt_of_lt_of_le (Nat.lt_succ_self _) (Nat.le_of_ble_eq_true rfl)) ?_
      show bw_go _ _ _ _ _ _ _ 29 [(2, .int _), (0, .ref _), (1, .int _)] ([]) _ _
      refine go_iconst (0) dX8_cover_29 rfl ?_
      refine go_istore_n dX8_cover_30 (Nat.lt_of_lt_of_le (Nat.lt_succ_self _) (Nat.le_of_ble_eq_true rfl)) ?_
      show bw_go _ _ _ _ _ _ _ 31 [(3, .int _), (2, .int _), (0, .ref _), (1, .int _)] ([]) _ _
      refine go_for (P := fun k => bw_go X 7 8 6 false (some .int) cX8_cover 31 [(3, .int (nI k)), (2, .int (mtI (bst (cvP S y) k))), (0, .ref (60)), (1, .int (nI y))] [] h Q) (N := 2 ^ cN (nowC S)) (fun k hk K => ?_) ?_ (0) (Nat.zero_le _)
      · -- a turn
        show bw_go _ _ _ _ _ _ _ 31 [(3, .int _), (2, .int _), (0, .ref _), (1, .int _)] ([]) _ _
        refine go_iload_n dX8_cover_31 rfl ?_
        refine go_aload_n dX8_cover_32 rfl ?_
        refine go_cv (as := []) 0 dX8_cover_33 mt_8_194 (Or.inl rfl) rfl rfl (ms_lt hm.1 (by decide)) hm.1.1.2 (Nat.le_of_ble_eq_true rfl) (Nat.le_of_ble_eq_true rfl) (Nat.le_of_ble_eq_true rfl) (Nat.le_of_ble_eq_true rfl) (Nat.le_of_ble_eq_true rfl) ?_
        refine me_X8_allBears hm ?_
        show bw_go _ _ _ _ _ _ _ 36 [(3, .int _), (2, .int _), (0, .ref _), (1, .int _)] ((.int _) :: (.int _) :: []) _ _
        refine go_icmp_gt (pc' := 124) dX8_cover_36 rfl (fun c_36 => ?_) (fun c_36 => ?_)
        · -- gt at 36: yes
          exfalso; have t_0 := nI_toInt (n := k) (by omega); have t_1 := nI_toInt (n := 2 ^ cN (nowC S) - 1) (by omega); simp only [i_le, i_lt, i_eq, bi_eq] at c_36; omega
        · -- gt at 36: no
          show bw_go _ _ _ _ _ _ _ 39 [(3, .int _), (2, .int _), (0, .ref _), (1, .int _)] ([]) _ _
          refine go_iconst (0) dX8_cover_39 rfl ?_
          refine go_istore dX8_cover_40 (Nat.lt_of_lt_of_le (Nat.lt_succ_self _) (Nat.le_of_ble_eq_true rfl)) ?_
          show bw_go _ _ _ _ _ _ _ 42 [(4, .int _), (3, .int _), (2, .int _), (0, .ref _), (1, .int _)] ([]) _ _
          refine go_iconst (0) dX8_cover_42 rfl ?_
          refine go_istore dX8_cover_43 (Nat.lt_of_lt_of_le (Nat.lt_succ_self _) (Nat.le_of_ble_eq_true rfl)) ?_
          show bw_go _ _ _ _ _ _ _ 45 [(5, .int _), (4, .int _), (3, .int _), (2, .int _), (0, .ref _), (1, .int _)] ([]) _ _
          refine go_for (P := fun i => bw_go X 7 8 6 false (some .int) cX8_cover 45 [(5, .int (nI i)), (4, .int (nI (orf (fun i => if k.testBit i = true then toC (nowC S) i else 0) i))), (3, .int (nI k)), (2, .int (mtI (bst (cvP S y) k))), (0, .ref (60)), (1, .int (nI y))] [] h Q) (N := cN (nowC S)) (fun i hi K => ?_) ?_ (0) (Nat.zero_le _)
          · -- a turn
            show bw_go _ _ _ _ _ _ _ 45 [(5, .int _), (4, .int _), (3, .int _), (2, .int _), (0, .ref _), (1, .int _)] ([]) _ _
            refine go_iload dX8_cover_45 rfl ?_
            refine go_aload_n dX8_cover_47 rfl ?_
            refine go_gfr dX8_cover_48 fl_8_7 rfl (ms_lt hm.1 (by decide)) hm.1.1.2 hm.1.2.1.1 ?_
            refine go_iconst (0) dX8_cover_51 rfl ?_
            refine go_ia dX8_cover_52 hm.1.2.2.1 (ms_lt hm.1 (by decide)) (by decide) ?_
            rw [show (0 : Int32).toNatClampNeg = 0 from rfl, hv.1]
            refine go_icmp_ge (pc' := 86) dX8_cover_53 rfl (fun c_53 => ?_) (fun c_53 => ?_)
            · -- ge at 53: yes
              exfalso; have t_0 := nI_toInt (n := i) (by omega); have t_1 := nI_toInt (n := cN (nowC S)) (by omega); simp only [i_le, i_lt, i_eq, bi_eq] at c_53; omega
            · -- ge at 53: no
              show bw_go _ _ _ _ _ _ _ 56 [(5, .int _), (4, .int _), (3, .int _), (2, .int _), (0, .ref _), (1, .int _)] ([]) _ _
              refine go_iload dX8_cover_56 rfl ?_
              refine go_iload_n dX8_cover_58 rfl ?_
              refine go_iload dX8_cover_59 rfl ?_
              refine go_cs (as := [.int _, .int _]) 0 dX8_cover_61 rfl rfl mt_8_129 (Nat.le_of_ble_eq_true rfl) rfl rfl (Nat.le_of_ble_eq_true rfl) (Nat.le_of_ble_eq_true rfl) (Nat.le_of_ble_eq_true rfl) (Nat.le_of_ble_eq_true rfl) ?_
              refine me_X8_has (by omega) (by omega) ?_
              show bw_go _ _ _ _ _ _ _ 64 [(5, .int _), (4, .int _), (3, .int _), (2, .int _), (0, .ref _), (1, .int _)] ((.int _) :: (.int _) :: []) _ _
              refine go_ifb_eq (pc' := 76) dX8_cover_64 rfl (fun c_64 => ?_) (fun c_64 => ?_)
              · -- eq at 64: yes
                show bw_go _ _ _ _ _ _ _ 76 [(5, .int _), (4, .int _), (3, .int _), (2, .int _), (0, .ref _), (1, .int _)] ((.int _) :: []) _ _
                refine go_iconst (0) dX8_cover_76 rfl ?_
                refine go_ior dX8_cover_77 ?_
                first | rw [or_n] | rw [show (0 : Int32) = nI 0 from rfl, or_n, Nat.or_zero]
                refine go_istore dX8_cover_78 (Nat.lt_of_lt_of_le (Nat.lt_succ_self _) (Nat.le_of_ble_eq_true rfl)) ?_
                show bw_go _ _ _ _ _ _ _ 80 [(4, .int _), (5, .int _), (3, .int _), (2, .int _), (0, .ref _), (1, .int _)] ([]) _ _
                refine go_iinc dX8_cover_80 rfl (nI_1 i) (Nat.lt_of_lt_of_le (Nat.lt_succ_self _) (Nat.le_of_ble_eq_true rfl)) ?_
                show bw_go _ _ _ _ _ _ _ 83 [(5, .int _), (4, .int _), (3, .int _), (2, .int _), (0, .ref _), (1, .int _)] ([]) _ _
                refine go_goto (pc' := 45) dX8_cover_83 rfl ?_
                have e1 : orf (fun i => if k.testBit i = true then toC (nowC S) i else 0) (i + 1) = orf (fun i => if k.testBit i = true then toC (nowC S) i else 0) i ||| (if k.testBit i = true then toC (nowC S) i else 0) := rfl
                first | (rw [if_pos c_64] at e1; rw [e1] at K; exact K) | (rw [if_neg (by rw [c_64]; decide), Nat.or_zero] at e1; rw [e1] at K; exact K)
              · -- eq at 64: no
                show bw_go _ _ _ _ _ _ _ 67 [(5, .int _), (4, .int _), (3, .int _), (2, .int _), (0, .ref _), (1, .int _)] ((.int _) :: []) _ _
                refine go_aload_n dX8_cover_67 rfl ?_
                refine go_iload dX8_cover_68 rfl ?_
                refine go_cv (as := [.int _]) 6 dX8_cover_70 mt_8_154 (Or.inl rfl) rfl rfl (ms_lt hm.1 (by decide)) hm.1.1.2 (Nat.le_of_ble_eq_true rfl) (Nat.le_of_ble_eq_true rfl) (Nat.le_of_ble_eq_true rfl) (Nat.le_of_ble_eq_true rfl) (Nat.le_of_ble_eq_true rfl) ?_
                refine me_X8_toldThings hm hi ?_
                show bw_go _ _ _ _ _ _ _ 73 [(5, .int _), (4, .int _), (3, .int _), (2, .int _), (0, .ref _), (1, .int _)] ((.int _) :: (.int _) :: []) _ _
                refine go_goto (pc' := 77) dX8_cover_73 rfl ?_
                show bw_go _ _ _ _ _ _ _ 77 [(5, .int _), (4, .int _), (3, .int _), (2, .int _), (0, .ref _), (1, .int _)] ((.int _) :: (.int _) :: []) _ _
                refine go_ior dX8_cover_77 ?_
                first | rw [or_n] | rw [show (0 : Int32) = nI 0 from rfl, or_n, Nat.or_zero]
                refine go_istore dX8_cover_78 (Nat.lt_of_lt_of_le (Nat.lt_succ_self _) (Nat.le_of_ble_eq_true rfl)) ?_
                show bw_go _ _ _ _ _ _ _ 80 [(4, .int _), (5, .int _), (3, .int _), (2, .int _), (0, .ref _), (1, .int _)] ([]) _ _
                refine go_iinc dX8_cover_80 rfl (nI_1 i) (Nat.lt_of_lt_of_le (Nat.lt_succ_self _) (Nat.le_of_ble_eq_true rfl)) ?_
                show bw_go _ _ _ _ _ _ _ 83 [(5, .int _), (4, .int _), (3, .int _), (2, .int _), (0, .ref _), (1, .int _)] ([]) _ _
                refine go_goto (pc' := 45) dX8_cover_83 rfl ?_
                have e1 : orf (fun i => if k.testBit i = true then toC (nowC S) i else 0) (i + 1) = orf (fun i => if k.testBit i = true then toC (nowC S) i else 0) i ||| (if k.testBit i = true then toC (nowC S) i else 0) := rfl
                first | (rw [if_pos c_64] at e1; rw [e1] at K; exact K) | (rw [if_neg (by rw [c_64]; decide), Nat.or_zero] at e1; rw [e1] at K; exact K)
          · -- behind the last
            show bw_go _ _ _ _ _ _ _ 45 [(5, .int _), (4, .int _), (3, .int _), (2, .int _), (0, .ref _), (1, .int _)] ([]) _ _
            refine go_iload dX8_cover_45 rfl ?_
            refine go_aload_n dX8_cover_47 rfl ?_
            refine go_gfr dX8_cover_48 fl_8_7 rfl (ms_lt hm.1 (by decide)) hm.1.1.2 hm.1.2.1.1 ?_
            refine go_iconst (0) dX8_cover_51 rfl ?_
            refine go_ia dX8_cover_52 hm.1.2.2.1 (ms_lt hm.1 (by decide)) (by decide) ?_
            rw [show (0 : Int32).toNatClampNeg = 0 from rfl, hv.1]
            refine go_icmp_ge (pc' := 86) dX8_cover_53 rfl (fun c_53 => ?_) (fun c_53 => ?_)
            · -- ge at 53: yes
              show bw_go _ _ _ _ _ _ _ 86 [(5, .int _), (4, .int _), (3, .int _), (2, .int _), (0, .ref _), (1, .int _)] ([]) _ _
              rw [← tld_e hkC]
              refine go_iload_n dX8_cover_86 rfl ?_
              refine go_iload dX8_cover_87 rfl ?_
              refine go_iconst (-1) dX8_cover_89 rfl ?_
              refine go_ixor dX8_cover_90 ?_
              refine go_iand dX8_cover_91 ?_
              refine go_if_ne (pc' := 116) dX8_cover_92 rfl (fun c_92 => ?_) (fun c_92 => ?_)
              · -- ne at 92: yes
                show bw_go _ _ _ _ _ _ _ 116 [(5, .int _), (4, .int _), (3, .int _), (2, .int _), (0, .ref _), (1, .int _)] ([]) _ _
                refine go_iload_n dX8_cover_116 rfl ?_
                refine go_istore_n dX8_cover_117 (Nat.lt_of_lt_of_le (Nat.lt_succ_self _) (Nat.le_of_ble_eq_true rfl)) ?_
                show bw_go _ _ _ _ _ _ _ 118 [(2, .int _), (5, .int _), (4, .int _), (3, .int _), (0, .ref _), (1, .int _)] ([]) _ _
                refine go_iinc dX8_cover_118 rfl (nI_1 k) (Nat.lt_of_lt_of_le (Nat.lt_succ_self _) (Nat.le_of_ble_eq_true rfl)) ?_
                show bw_go _ _ _ _ _ _ _ 121 [(3, .int _), (2, .int _), (5, .int _), (4, .int _), (0, .ref _), (1, .int _)] ([]) _ _
                refine go_goto (pc' := 31) dX8_cover_121 rfl ?_
                refine go_ls [(3, .int _), (2, .int _), (0, .ref _), (1, .int _)] (by show List.Nodup ([3, 2, 0, 1] : List Nat); decide) (by show List.Nodup ([3, 2, 5, 4, 0, 1] : List Nat); decide) (le_cons rfl (le_cons rfl (le_cons rfl (le_cons rfl (le_nil _))))) ?_
                have e0 : bst (cvP S y) (k + 1) = if cvP S y k = true ∧ fw k (bst (cvP S y) k) = true then some k else bst (cvP S y) k := rfl
                have htl := tld_lt (s := k) hkC
                have hiff := cov_n (tld (taC (nowC S)) k) htl y (by omega)
                have hcv : cvP S y k = true ↔ tld (taC (nowC S)) k &&& y = y := ⟨of_decide_eq_true, decide_eq_true⟩
                first
                | (rw [if_neg (fun z => c_92 (hiff.mpr (hcv.mp z.1)))] at e0; rw [e0] at K; exact K)
                | (have hp := hcv.mpr (hiff.mp (Decidable.of_not_not c_92))
                   have hn := (fw_n (P := cvP S y) (k := k) (by omega)).mp c_98
                   rw [if_pos ⟨hp, by rw [hn]; rfl⟩] at e0; rw [e0] at K; exact K)
                | (have hp := hcv.mpr (hiff.mp (Decidable.of_not_not c_92))
                   have b1 := bc_lt k
                   have b2 := bc_lt x
                   have t_0 := nI_toInt (n := bc k) (by omega)
                   have t_1 := nI_toInt (n := bc x) (by omega)
                   simp only [i_le] at c_109
                   rw [hx1] at e0
                   first
                   | (rw [if_pos ⟨hp, decide_eq_true (by omega)⟩] at e0; rw [e0] at K; exact K)
                   | (rw [if_neg (fun z => by have z2 : bc k < bc x := of_decide_eq_true z.2; omega)] at e0; rw [e0] at K; exact K))
              · -- ne at 92: no
                show bw_go _ _ _ _ _ _ _ 95 [(5, .int _), (4, .int _), (3, .int _), (2, .int _), (0, .ref _), (1, .int _)] ([]) _ _
                refine go_iload_n dX8_cover_95 rfl ?_
                refine go_bipush (-9) dX8_cover_96 rfl ?_
                refine go_icmp_eq (pc' := 112) dX8_cover_98 rfl (fun c_98 => ?_) (fun c_98 => ?_)
                · -- eq at 98: yes
                  show bw_go _ _ _ _ _ _ _ 112 [(5, .int _), (4, .int _), (3, .int _), (2, .int _), (0, .ref _), (1, .int _)] ([]) _ _
                  refine go_iload_n dX8_cover_112 rfl ?_
                  refine go_goto (pc' := 117) dX8_cover_113 rfl ?_
                  show bw_go _ _ _ _ _ _ _ 117 [(5, .int _), (4, .int _), (3, .int _), (2, .int _), (0, .ref _), (1, .int _)] ((.int _) :: []) _ _
                  refine go_istore_n dX8_cover_117 (Nat.lt_of_lt_of_le (Nat.lt_succ_self _) (Nat.le_of_ble_eq_true rfl)) ?_
                  show bw_go _ _ _ _ _ _ _ 118 [(2, .int _), (5, .int _), (4, .int _), (3, .int _), (0, .ref _), (1, .int _)] ([]) _ _
                  refine go_iinc dX8_cover_118 rfl (nI_1 k) (Nat.lt_of_lt_of_le (Nat.lt_succ_self _) (Nat.le_of_ble_eq_true rfl)) ?_
                  show bw_go _ _ _ _ _ _ _ 121 [(3, .int _), (2, .int _), (5, .int _), (4, .int _), (0, .ref _), (1, .int _)] ([]) _ _
                  refine go_goto (pc' := 31) dX8_cover_121 rfl ?_
                  refine go_ls [(3, .int _), (2, .int _), (0, .ref _), (1, .int _)] (by show List.Nodup ([3, 2, 0, 1] : List Nat); decide) (by show List.Nodup ([3, 2, 5, 4, 0, 1] : List Nat); decide) (le_cons rfl (le_cons rfl (le_cons rfl (le_cons rfl (le_nil _))))) ?_
                  have e0 : bst (cvP S y) (k + 1) = if cvP S y k = true ∧ fw k (bst (cvP S y) k) = true then some k else bst (cvP S y) k := rfl
                  have htl := tld_lt (s := k) hkC
                  have hiff := cov_n (tld (taC (nowC S)) k) htl y (by omega)
                  have hcv : cvP S y k = true ↔ tld (taC (nowC S)) k &&& y = y := ⟨of_decide_eq_true, decide_eq_true⟩
                  first
                  | (rw [if_neg (fun z => c_92 (hiff.mpr (hcv.mp z.1)))] at e0; rw [e0] at K; exact K)
                  | (have hp := hcv.mpr (hiff.mp (Decidable.of_not_not c_92))
                     have hn := (fw_n (P := cvP S y) (k := k) (by omega)).mp c_98
                     rw [if_pos ⟨hp, by rw [hn]; rfl⟩] at e0; rw [e0] at K; exact K)
                  | (have hp := hcv.mpr (hiff.mp (Decidable.of_not_not c_92))
                     have b1 := bc_lt k
                     have b2 := bc_lt x
                     have t_0 := nI_toInt (n := bc k) (by omega)
                     have t_1 := nI_toInt (n := bc x) (by omega)
                     simp only [i_le] at c_109
                     rw [hx1] at e0
                     first
                     | (rw [if_pos ⟨hp, decide_eq_true (by omega)⟩] at e0; rw [e0] at K; exact K)
                     | (rw [if_neg (fun z => by have z2 : bc k < bc x := of_decide_eq_true z.2; omega)] at e0; rw [e0] at K; exact K))
                · -- eq at 98: no
                  show bw_go _ _ _ _ _ _ _ 101 [(5, .int _), (4, .int _), (3, .int _), (2, .int _), (0, .ref _), (1, .int _)] ([]) _ _
                  refine go_iload_n dX8_cover_101 rfl ?_
                  refine go_cs (as := [.int _]) 0 dX8_cover_102 rfl rfl mt_8_166 (Nat.le_of_ble_eq_true rfl) rfl rfl (Nat.le_of_ble_eq_true rfl) (Nat.le_of_ble_eq_true rfl) (Nat.le_of_ble_eq_true rfl) (Nat.le_of_ble_eq_true rfl) ?_
                  refine me_X8_bits (by omega) ?_
                  show bw_go _ _ _ _ _ _ _ 105 [(5, .int _), (4, .int _), (3, .int _), (2, .int _), (0, .ref _), (1, .int _)] ((.int _) :: []) _ _
                  refine go_iload_n dX8_cover_105 rfl ?_
                  refine go_cs (as := [.int _]) 0 dX8_cover_106 rfl rfl mt_8_166 (Nat.le_of_ble_eq_true rfl) rfl rfl (Nat.le_of_ble_eq_true rfl) (Nat.le_of_ble_eq_true rfl) (Nat.le_of_ble_eq_true rfl) (Nat.le_of_ble_eq_true rfl) ?_
                  obtain ⟨x, hx1⟩ : ∃ x, bst (cvP S y) k = some x := by
                    cases e : bst (cvP S y) k with
                    | none => rw [e] at c_98; exact absurd rfl c_98
                    | some x => exact ⟨x, rfl⟩
                  have hxl := bst_lt hx1
                  rw [hx1, show mtI (some x) = nI x from rfl]
                  refine me_X8_bits (by omega) ?_
                  show bw_go _ _ _ _ _ _ _ 109 [(5, .int _), (4, .int _), (3, .int _), (2, .int _), (0, .ref _), (1, .int _)] ((.int _) :: (.int _) :: []) _ _
                  
                  refine go_icmp_ge (pc' := 116) dX8_cover_109 rfl (fun c_109 => ?_) (fun c_109 => ?_)
                  · -- ge at 109: yes
                    show bw_go _ _ _ _ _ _ _ 116 [(5, .int _), (4, .int _), (3, .int _), (2, .int _), (0, .ref _), (1, .int _)] ([]) _ _
                    refine go_iload_n dX8_cover_116 rfl ?_
                    refine go_istore_n dX8_cover_117 (Nat.lt_of_lt_of_le (Nat.lt_succ_self _) (Nat.le_of_ble_eq_true rfl)) ?_
                    show bw_go _ _ _ _ _ _ _ 118 [(2, .int _), (5, .int _), (4, .int _), (3, .int _), (0, .ref _), (1, .int _)] ([]) _ _
                    refine go_iinc dX8_cover_118 rfl (nI_1 k) (Nat.lt_of_lt_of_le (Nat.lt_succ_self _) (Nat.le_of_ble_eq_true rfl)) ?_
                    show bw_go _ _ _ _ _ _ _ 121 [(3, .int _), (2, .int _), (5, .int _), (4, .int _), (0, .ref _), (1, .int _)] ([]) _ _
                    refine go_goto (pc' := 31) dX8_cover_121 rfl ?_
                    refine go_ls [(3, .int _), (2, .int _), (0, .ref _), (1, .int _)] (by show List.Nodup ([3, 2, 0, 1] : List Nat); decide) (by show List.Nodup ([3, 2, 5, 4, 0, 1] : List Nat); decide) (le_cons rfl (le_cons rfl (le_cons rfl (le_cons rfl (le_nil _))))) ?_
                    have e0 : bst (cvP S y) (k + 1) = if cvP S y k = true ∧ fw k (bst (cvP S y) k) = true then some k else bst (cvP S y) k := rfl
                    have htl := tld_lt (s := k) hkC
                    have hiff := cov_n (tld (taC (nowC S)) k) htl y (by omega)
                    have hcv : cvP S y k = true ↔ tld (taC (nowC S)) k &&& y = y := ⟨of_decide_eq_true, decide_eq_true⟩
                    first
                    | (rw [if_neg (fun z => c_92 (hiff.mpr (hcv.mp z.1)))] at e0; rw [e0] at K; exact K)
                    | (have hp := hcv.mpr (hiff.mp (Decidable.of_not_not c_92))
                       have hn := (fw_n (P := cvP S y) (k := k) (by omega)).mp c_98
                       rw [if_pos ⟨hp, by rw [hn]; rfl⟩] at e0; rw [e0] at K; exact K)
                    | (have hp := hcv.mpr (hiff.mp (Decidable.of_not_not c_92))
                       have b1 := bc_lt k
                       have b2 := bc_lt x
                       have t_0 := nI_toInt (n := bc k) (by omega)
                       have t_1 := nI_toInt (n := bc x) (by omega)
                       simp only [i_le] at c_109
                       rw [hx1] at e0
                       first
                       | (rw [if_pos ⟨hp, decide_eq_true (by omega)⟩] at e0; rw [e0] at K; exact K)
                       | (rw [if_neg (fun z => by have z2 : bc k < bc x := of_decide_eq_true z.2; omega)] at e0; rw [e0] at K; exact K))
                  · -- ge at 109: no
                    show bw_go _ _ _ _ _ _ _ 112 [(5, .int _), (4, .int _), (3, .int _), (2, .int _), (0, .ref _), (1, .int _)] ([]) _ _
                    refine go_iload_n dX8_cover_112 rfl ?_
                    refine go_goto (pc' := 117) dX8_cover_113 rfl ?_
                    show bw_go _ _ _ _ _ _ _ 117 [(5, .int _), (4, .int _), (3, .int _), (2, .int _), (0, .ref _), (1, .int _)] ((.int _) :: []) _ _
                    refine go_istore_n dX8_cover_117 (Nat.lt_of_lt_of_le (Nat.lt_succ_self _) (Nat.le_of_ble_eq_true rfl)) ?_
                    show bw_go _ _ _ _ _ _ _ 118 [(2, .int _), (5, .int _), (4, .int _), (3, .int _), (0, .ref _), (1, .int _)] ([]) _ _
                    refine go_iinc dX8_cover_118 rfl (nI_1 k) (Nat.lt_of_lt_of_le (Nat.lt_succ_self _) (Nat.le_of_ble_eq_true rfl)) ?_
                    show bw_go _ _ _ _ _ _ _ 121 [(3, .int _), (2, .int _), (5, .int _), (4, .int _), (0, .ref _), (1, .int _)] ([]) _ _
                    refine go_goto (pc' := 31) dX8_cover_121 rfl ?_
                    refine go_ls [(3, .int _), (2, .int _), (0, .ref _), (1, .int _)] (by show List.Nodup ([3, 2, 0, 1] : List Nat); decide) (by show List.Nodup ([3, 2, 5, 4, 0, 1] : List Nat); decide) (le_cons rfl (le_cons rfl (le_cons rfl (le_cons rfl (le_nil _))))) ?_
                    have e0 : bst (cvP S y) (k + 1) = if cvP S y k = true ∧ fw k (bst (cvP S y) k) = true then some k else bst (cvP S y) k := rfl
                    have htl := tld_lt (s := k) hkC
                    have hiff := cov_n (tld (taC (nowC S)) k) htl y (by omega)
                    have hcv : cvP S y k = true ↔ tld (taC (nowC S)) k &&& y = y := ⟨of_decide_eq_true, decide_eq_true⟩
                    first
                    | (rw [if_neg (fun z => c_92 (hiff.mpr (hcv.mp z.1)))] at e0; rw [e0] at K; exact K)
                    | (have hp := hcv.mpr (hiff.mp (Decidable.of_not_not c_92))
                       have hn := (fw_n (P := cvP S y) (k := k) (by omega)).mp c_98
                       rw [if_pos ⟨hp, by rw [hn]; rfl⟩] at e0; rw [e0] at K; exact K)
                    | (have hp := hcv.mpr (hiff.mp (Decidable.of_not_not c_92))
                       have b1 := bc_lt k
                       have b2 := bc_lt x
                       have t_0 := nI_toInt (n := bc k) (by omega)
                       have t_1 := nI_toInt (n := bc x) (by omega)
                       simp only [i_le] at c_109
                       rw [hx1] at e0
                       first
                       | (rw [if_pos ⟨hp, decide_eq_true (by omega)⟩] at e0; rw [e0] at K; exact K)
                       | (rw [if_neg (fun z => by have z2 : bc k < bc x := of_decide_eq_true z.2; omega)] at e0; rw [e0] at K; exact K))
            · -- ge at 53: no
              exfalso; have t_0 := nI_toInt (n := cN (nowC S)) (by omega); simp only [i_le, i_lt, i_eq, bi_eq] at c_53; omega
      · -- behind the last
        show bw_go _ _ _ _ _ _ _ 31 [(3, .int _), (2, .int _), (0, .ref _), (1, .int _)] ([]) _ _
        refine go_iload_n dX8_cover_31 rfl ?_
        refine go_aload_n dX8_cover_32 rfl ?_
        refine go_cv (as := []) 0 dX8_cover_33 mt_8_194 (Or.inl rfl) rfl rfl (ms_lt hm.1 (by decide)) hm.1.1.2 (Nat.le_of_ble_eq_true rfl) (Nat.le_of_ble_eq_true rfl) (Nat.le_of_ble_eq_true rfl) (Nat.le_of_ble_eq_true rfl) (Nat.le_of_ble_eq_true rfl) ?_
        refine me_X8_allBears hm ?_
        show bw_go _ _ _ _ _ _ _ 36 [(3, .int _), (2, .int _), (0, .ref _), (1, .int _)] ((.int _) :: (.int _) :: []) _ _
        refine go_icmp_gt (pc' := 124) dX8_cover_36 rfl (fun c_36 => ?_) (fun c_36 => ?_)
        · -- gt at 36: yes
          cases e9 : bst (cvP S y) (2 ^ cN (nowC S)) with
          | none =>
            rw [show mtI none = -9 from rfl]
            refine go_iload_n dX8_cover_124 rfl ?_
            refine go_bipush (-9) dX8_cover_125 rfl ?_
            refine go_icmp_ne (pc' := 134) dX8_cover_127 rfl (fun c_127 => ?_) (fun c_127 => ?_)
            · -- ne at 127: yes
              exact absurd rfl c_127
            · -- ne at 127: no
              show bw_go _ _ _ _ _ _ _ 130 [(3, .int _), (2, .int _), (0, .ref _), (1, .int _)] ([]) _ _
              refine go_iconst (0) dX8_cover_130 rfl ?_
              refine go_goto (pc' := 139) dX8_cover_131 rfl ?_
              show bw_go _ _ _ _ _ _ _ 139 [(3, .int _), (2, .int _), (0, .ref _), (1, .int _)] ((.int _) :: []) _ _
              refine go_istore_n dX8_cover_139 (Nat.lt_of_lt_of_le (Nat.lt_succ_self _) (Nat.le_of_ble_eq_true rfl)) ?_
              show bw_go _ _ _ _ _ _ _ 140 [(3, .int _), (2, .int _), (0, .ref _), (1, .int _)] ([]) _ _
              refine go_iload_n dX8_cover_140 rfl ?_
              refine go_bipush (-9) dX8_cover_141 rfl ?_
              refine go_icmp_ne (pc' := 151) dX8_cover_143 rfl (fun c_143 => ?_) (fun c_143 => ?_)
              · -- ne at 143: yes
                exact absurd rfl c_143
              · -- ne at 143: no
                show bw_go _ _ _ _ _ _ _ 146 [(3, .int _), (2, .int _), (0, .ref _), (1, .int _)] ([]) _ _
                refine go_bipush (-9) dX8_cover_146 rfl ?_
                refine go_goto (pc' := 155) dX8_cover_148 rfl ?_
                show bw_go _ _ _ _ _ _ _ 155 [(3, .int _), (2, .int _), (0, .ref _), (1, .int _)] ((.int _) :: []) _ _
                refine go_iret dX8_cover_155 rfl rfl ?_
                refine q_m hQ ?_ hm (frX_r h)
                unfold yCover
                rw [if_pos hxr, if_neg h0, rn_n (by omega), e9]
          | some b =>
            have hbl := bst_lt e9
            rw [show mtI (some b) = nI b from rfl]
            refine go_iload_n dX8_cover_124 rfl ?_
            refine go_bipush (-9) dX8_cover_125 rfl ?_
            refine go_icmp_ne (pc' := 134) dX8_cover_127 rfl (fun c_127 => ?_) (fun c_127 => ?_)
            · -- ne at 127: yes
              show bw_go _ _ _ _ _ _ _ 134 [(3, .int _), (2, .int _), (0, .ref _), (1, .int _)] ([]) _ _
              refine go_aload_n dX8_cover_134 rfl ?_
              refine go_iload_n dX8_cover_135 rfl ?_
              refine go_cv (as := [.int _]) 0 dX8_cover_136 mt_8_87 (Or.inl rfl) rfl rfl (ms_lt hm.1 (by decide)) hm.1.1.2 (Nat.le_of_ble_eq_true rfl) (Nat.le_of_ble_eq_true rfl) (Nat.le_of_ble_eq_true rfl) (Nat.le_of_ble_eq_true rfl) (Nat.le_of_ble_eq_true rfl) ?_
              refine me_X8_asks hm (fun g hg hf => ?_)
              show bw_go _ _ _ _ _ _ _ 139 [(3, .int _), (2, .int _), (0, .ref _), (1, .int _)] ((.int _) :: []) _ _
              refine go_istore_n dX8_cover_139 (Nat.lt_of_lt_of_le (Nat.lt_succ_self _) (Nat.le_of_ble_eq_true rfl)) ?_
              show bw_go _ _ _ _ _ _ _ 140 [(3, .int _), (2, .int _), (0, .ref _), (1, .int _)] ([]) _ _
              refine go_iload_n dX8_cover_140 rfl ?_
              refine go_bipush (-9) dX8_cover_141 rfl ?_
              refine go_icmp_ne (pc' := 151) dX8_cover_143 rfl (fun c_143 => ?_) (fun c_143 => ?_)
              · -- ne at 143: yes
                show bw_go _ _ _ _ _ _ _ 151 [(3, .int _), (2, .int _), (0, .ref _), (1, .int _)] ([]) _ _
                refine go_iload_n dX8_cover_151 rfl ?_
                refine go_cs (as := [.int _]) 0 dX8_cover_152 rfl rfl mt_8_166 (Nat.le_of_ble_eq_true rfl) rfl rfl (Nat.le_of_ble_eq_true rfl) (Nat.le_of_ble_eq_true rfl) (Nat.le_of_ble_eq_true rfl) (Nat.le_of_ble_eq_true rfl) ?_
                refine me_X8_bits (by omega) ?_
                show bw_go _ _ _ _ _ _ _ 155 [(3, .int _), (2, .int _), (0, .ref _), (1, .int _)] ((.int _) :: []) _ _
                refine go_iret dX8_cover_155 rfl rfl ?_
                refine q_m hQ ?_ hg hf
                unfold yCover
                rw [if_pos hxr, if_neg h0, rn_n (by omega), e9]
              · -- ne at 143: no
                exfalso; have z : nI b = -9 := Decidable.of_not_not c_143; have t_0 := nI_toInt (n := b) (by omega); rw [z, show (-9 : Int32).toInt = -9 from rfl] at t_0; omega
            · -- ne at 127: no
              exfalso; have z : nI b = -9 := Decidable.of_not_not c_127; have t_0 := nI_toInt (n := b) (by omega); rw [z, show (-9 : Int32).toInt = -9 from rfl] at t_0; omega
        · -- gt at 36: no
          exfalso; have t_0 := nI_toInt (n := 2 ^ cN (nowC S)) (by omega); have t_1 := nI_toInt (n := 2 ^ cN (nowC S) - 1) (by omega); simp only [i_le, i_lt, i_eq, bi_eq] at c_36; omega
    · -- ne at 20: no
      show bw_go _ _ _ _ _ _ _ 23 [(0, .ref _), (1, .int _)] ([]) _ _
      refine go_bipush (-4) dX8_cover_23 rfl ?_
      refine go_iret dX8_cover_25 rfl rfl ?_
      refine q_m hQ ?_ hm (frX_r h)
      unfold yCover
      rw [if_pos hxr, if_pos ((nI_eq (a := cN (nowC S)) (b := 0) (by omega) (by omega)).mp (Decidable.of_not_not c_20))]
  · -- ne at 9: no
    show bw_go _ _ _ _ _ _ _ 12 [(0, .ref _), (1, .int _)] ([]) _ _
    refine go_iconst (-1) dX8_cover_12 rfl ?_
    refine go_iret dX8_cover_13 rfl rfl ?_
    refine q_m hQ ?_ hm (frX_r h)
    unfold yCover
    rw [if_neg (of_decide_eq_false c_9)]
