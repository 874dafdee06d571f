/-! the reference: whom to call -/
theorem orf_tb (f : Nat → Nat) (k t : Nat) : (orf f (k + 1)).testBit t = ((orf f k).testBit t || (f k).testBit t) := Nat.testBit_or _ _ _
theorem orf_bit {P : Nat → Bool} (j : Nat) : ∀ n, (orf (fun t => if P t = true then 2 ^ t else 0) n).testBit j = (decide (j < n) && P j)
  | 0 => by show (0 : Nat).testBit j = _; rw [Nat.zero_testBit, decide_eq_false (Nat.not_lt_zero j)]; rfl
  | n + 1 => by
    rw [orf_tb, orf_bit j n]
    by_cases e : j = n
    · subst e
      rw [decide_eq_false (Nat.lt_irrefl j), decide_eq_true (Nat.lt_succ_self j)]
      cases h : P j with
      | true => rw [if_pos rfl, Nat.testBit_two_pow_self]; rfl
      | false => rw [if_neg (by decide), Nat.zero_testBit]; rfl
    · have h2 : (if P n = true then 2 ^ n else 0).testBit j = false := by
        split
        · rw [Nat.testBit_two_pow]; exact decide_eq_false (fun z => e z.symm)
        · exact Nat.zero_testBit j
      rw [h2, Bool.or_false]
      by_cases h3 : j < n
      · rw [decide_eq_true h3, decide_eq_true (Nat.lt_succ_of_lt h3)]
      · rw [decide_eq_false h3, decide_eq_false (by omega)]
theorem orf_cc {f g : Nat → Nat} : ∀ n, (∀ i, i < n → f i = g i) → orf f n = orf g n
  | 0, _ => rfl
  | n + 1, h => by
    show orf f n ||| f n = orf g n ||| g n
    rw [orf_cc n (fun i hi => h i (by omega)), h n (by omega)]
theorem sho_bit {A : TA} {s x : Nat} (hx : x < 6) : (sho A s).testBit x = decide (0 < bal A s x A.1) := by
  unfold sho
  have e := orf_bit (P := fun t => decide (0 < bal A s t A.1)) x 6
  rw [decide_eq_true hx, Bool.true_and] at e
  rw [← e]
  congr 1
  exact orf_cc 6 (fun i _ => by
    by_cases z : 0 < bal A s i A.1
    · rw [if_pos z, if_pos (decide_eq_true z)]
    · rw [if_neg z, if_neg (by rw [decide_eq_false z]; decide)])
theorem on_1 : ∀ x, x < 64 → ∀ o, o < 64 → o ||| ((o ||| x) &&& (63 ^^^ o)) = o ||| x := by decide +kernel
theorem one_sub (t k w dn : Nat) : t ||| one t k w dn = t := by
  unfold one
  split
  · exact Nat.or_self t
  · split <;> exact Nat.eq_of_testBit_eq (fun i => by rw [Nat.testBit_or, Nat.testBit_and]; cases t.testBit i <;> simp)
theorem ta_or {C : CT} {i : Nat} (hk : co_k C) (hi : i < cN C) : (taC C).2.1 i ||| (taC C).2.2 i = toC C i := by
  have h1 := toC_lt hk hi
  show one (toC C i) (cK C i) (cR C i) (cD C) ||| (toC C i &&& (63 ^^^ one (toC C i) (cK C i) (cR C i) (cD C))) = toC C i
  have h2 : one (toC C i) (cK C i) (cR C i) (cD C) < 64 := one_lt h1
  have h3 := on_1 (toC C i) h1 _ h2
  rw [Nat.or_comm (one (toC C i) (cK C i) (cR C i) (cD C)) (toC C i), one_sub] at h3
  exact h3
theorem tld_e {C : CT} {s : Nat} (hk : co_k C) : tld (taC C) s = orf (fun i => if s.testBit i = true then toC C i else 0) (cN C) := orf_cc (cN C) (fun i hi => by
  show (if s.testBit i = true then (taC C).2.1 i ||| (taC C).2.2 i else 0) = _
  rw [ta_or hk hi])
def smB (C : CT) (s t : Nat) : Nat → Bool
  | 0 => false
  | k + 1 => smB C s t k || (s.testBit k && (toC C k).testBit t)
theorem smB_e {C : CT} {s t : Nat} : ∀ n, (orf (fun i => if s.testBit i = true then toC C i else 0) n).testBit t = smB C s t n
  | 0 => Nat.zero_testBit t
  | n + 1 => by
    rw [orf_tb, smB_e n]
    show _ = (smB C s t n || (s.testBit n && (toC C n).testBit t))
    cases s.testBit n with
    | true => rw [if_pos rfl, Bool.true_and]
    | false => rw [if_neg (by decide), Nat.zero_testBit, Bool.false_and]
def evP (C : CT) (s t : Nat) : Bool := smB C s t (cN C) && decide (bal (taC C) s t (cN C) = 0)
theorem ev_e {C : CT} {s : Nat} (hk : co_k C) : orf (fun t => if evP C s t = true then 2 ^ t else 0) 6 = tie (taC C) s &&& tld (taC C) s := by
  apply Nat.eq_of_testBit_eq
  intro j
  rw [orf_bit, Nat.testBit_and, tld_e hk, smB_e]
  unfold tie
  have e := orf_bit (P := fun t => decide (bal (taC C) s t (taC C).1 = 0)) j 6
  have e2 : orf (fun t => if bal (taC C) s t (taC C).1 = 0 then 2 ^ t else 0) 6 = orf (fun t => if (fun t => decide (bal (taC C) s t (taC C).1 = 0)) t = true then 2 ^ t else 0) 6 := orf_cc 6 (fun i _ => by
    by_cases z : bal (taC C) s i (taC C).1 = 0
    · rw [if_pos z, if_pos (decide_eq_true z)]
    · rw [if_neg z, if_neg (by show ¬ decide _ = true; rw [decide_eq_false z]; decide)])
  rw [e2, e]
  show (decide (j < 6) && (smB C s j (cN C) && decide (bal (taC C) s j (cN C) = 0))) = ((decide (j < 6) && decide (bal (taC C) s j (cN C) = 0)) && smB C s j (cN C))
  cases decide (j < 6) <;> cases smB C s j (cN C) <;> cases decide (bal (taC C) s j (cN C) = 0) <;> rfl
/-- the reference's way to the best -/
def mcl (S : ST) (x : Nat) : Nat → Option Nat × Nat
  | 0 => (none, 1000000)
  | k + 1 => if (sho (taC (nowC S)) k).testBit x = true ∧ 10 * bc k + bc (sho (taC (nowC S)) k) < (mcl S x k).2 then (some k, 10 * bc k + bc (sho (taC (nowC S)) k)) else mcl S x k
theorem bal_0 (A : TA) (t : Nat) : ∀ n, bal A 0 t n = 0
  | 0 => rfl
  | n + 1 => by
    show bal A 0 t n + _ = 0
    rw [bal_0 A t n, if_neg (by rw [Nat.zero_testBit]; decide)]; rfl
theorem mcl_cal {S : ST} {x : Nat} (hx : x < 6) : ∀ k, ((mcl S x (k + 1)).1 = none ∧ (cal S x k).1 = 0 ∧ (mcl S x (k + 1)).2 = 1000000 ∧ (cal S x k).2 = 1000) ∨ ∃ b, (mcl S x (k + 1)).1 = some b ∧ 0 < b ∧ b ≤ k ∧ (cal S x k).1 = b ∧ (mcl S x (k + 1)).2 = 10 * bc b + bc (sho (taC (nowC S)) b) ∧ (cal S x k).2 = 8 * bc b + bc (sho (taC (nowC S)) b)
  | 0 => by
    have h0 : ¬ (sho (taC (nowC S)) 0).testBit x = true := by rw [sho_bit hx, bal_0]; decide
    have e : mcl S x 1 = (none, 1000000) := if_neg (fun z => h0 z.1)
    rw [e]
    exact Or.inl ⟨rfl, rfl, rfl, rfl⟩
  | k + 1 => by
    have e1 : mcl S x (k + 1 + 1) = if (sho (taC (nowC S)) (k + 1)).testBit x = true ∧ 10 * bc (k + 1) + bc (sho (taC (nowC S)) (k + 1)) < (mcl S x (k + 1)).2 then (some (k + 1), 10 * bc (k + 1) + bc (sho (taC (nowC S)) (k + 1))) else mcl S x (k + 1) := rfl
    have e2 : cal S x (k + 1) = if (sho (taC (nowC S)) (k + 1)).testBit x = true ∧ cst S (k + 1) < (cal S x k).2 then (k + 1, cst S (k + 1)) else cal S x k := rfl
    have ec : cst S (k + 1) = 8 * bc (k + 1) + bc (sho (taC (nowC S)) (k + 1)) := rfl
    have b1 := bc_lt (k + 1)
    have b2 := bc_lt (sho (taC (nowC S)) (k + 1))
    rw [e1, e2]
    rcases mcl_cal (S := S) hx k with ⟨h1, h2, h3, h4⟩ | ⟨b, h1, h2, h2b, h3, h4, h5⟩
    · by_cases z : (sho (taC (nowC S)) (k + 1)).testBit x = true
      · rw [if_pos ⟨z, by omega⟩, if_pos ⟨z, by omega⟩]
        exact Or.inr ⟨k + 1, rfl, by omega, by omega, rfl, rfl, rfl⟩
      · rw [if_neg (fun y => z y.1), if_neg (fun y => z y.1)]
        exact Or.inl ⟨h1, h2, h3, h4⟩
    · have b3 := bc_lt b
      have b4 := bc_lt (sho (taC (nowC S)) b)
      by_cases z : (sho (taC (nowC S)) (k + 1)).testBit x = true ∧ cst S (k + 1) < (cal S x k).2
      · have zz := z.2
        rw [if_pos ⟨z.1, by omega⟩, if_pos z]
        exact Or.inr ⟨k + 1, rfl, by omega, by omega, rfl, rfl, rfl⟩
      · rw [if_neg (fun y => z ⟨y.1, by have := y.2; omega⟩), if_neg z]
        exact Or.inr ⟨b, h1, h2, by omega, h3, h4, h5⟩
theorem mcl_b {S : ST} {x k : Nat} (hx : x < 6) (hk : k < 65) : (mcl S x k).2 ≤ 1000000 ∧ ∀ b, (mcl S x k).1 = some b → b < k := by
  cases k with
  | zero => exact ⟨Nat.le_refl _, fun b z => by cases z⟩
  | succ k =>
    rcases mcl_cal (S := S) hx k with ⟨h1, h2, h3, h4⟩ | ⟨b, h1, h2, h2b, h3, h4, h5⟩
    · exact ⟨by omega, fun b z => by rw [h1] at z; cases z⟩
    · have b3 := bc_lt b
      have b4 := bc_lt (sho (taC (nowC S)) b)
      exact ⟨by omega, fun c z => by rw [h1] at z; cases z; omega⟩
theorem cov_n : ∀ x, x < 64 → ∀ y, y < 64 → ((nI y &&& (nI x ^^^ -1)) = 0 ↔ x &&& y = y) := by decide +kernel
theorem tld_lt {C : CT} {s : Nat} (hk : co_k C) : tld (taC C) s < 64 := by
  rw [tld_e hk]
  exact orf_lt' _ (fun i hi => by
    show (if s.testBit i = true then toC C i else 0) < 64
    split
    · exact toC_lt hk hi
    · omega)
theorem in_all {n : Nat} {s : Int32} (hn : n ≤ 6) : inr s.toInt64 0 (nI (2 ^ n - 1)).toInt64 = isn s (2 ^ n) := by
  have h1 := pw6 hn
  rw [in_nI (by omega)]
  unfold isn
  exact decide_eq_decide.mpr (by omega)
set_option maxRecDepth 100000 in
set_option maxHeartbeats 4000000 in
theorem me_X8_shown {X : Nat × (Nat → Int32)} {Q : Option Value → bw_H → Prop} {h : bw_H} {S : ST} {s : Int32} (hm : MR h S) (hQ : PM h Q (yShown s S)) : bw_me X 7 bm_X8_shown false [.ref 60, .int s] h Q := by
  have hv := mr_v hm
  have hk := mr_k hm
  have k1 := hk.1
  have hkC := hk
  have h2N := p2N k1
  have hp0 : 0 < 2 ^ cN (nowC S) := Nat.two_pow_pos _
  show bw_go _ 7 8 6 false (some .int) cX8_shown 0 [(0, .ref _), (1, .int _)] [] _ _
  refine go_iload_n dX8_shown_0 rfl ?_
  refine go_i2l dX8_shown_1 ?_
  refine go_lconst (0) dX8_shown_2 rfl ?_
  refine go_aload_n dX8_shown_3 rfl ?_
  refine go_cv (as := []) 0 dX8_shown_4 mt_8_194 (Or.inl rfl) rfl rfl (ms_lt hm.1 (by decide)) hm.1.1.2 (Nat.le_of_ble_eq_true rfl) (Nat.le_of_ble_eq_true rfl) (Nat.le_of_ble_eq_true rfl) (Nat.le_of_ble_eq_true rfl) (Nat.le_of_ble_eq_true rfl) ?_
  refine me_X8_allBears hm ?_
  show bw_go _ _ _ _ _ _ _ 7 [(0, .ref _), (1, .int _)] ((.int _) :: (.long _) :: (.long _) :: []) _ _
  refine go_i2l dX8_shown_7 ?_
  refine go_cs (as := [.long _, .long _, .long _]) 0 dX8_shown_8 rfl rfl mt_8_69 (Nat.le_of_ble_eq_true rfl) rfl rfl (Nat.le_of_ble_eq_true rfl) (Nat.le_of_ble_eq_true rfl) (Nat.le_of_ble_eq_true rfl) (Nat.le_of_ble_eq_true rfl) ?_
  refine me_X8_in ?_
  rw [in_all k1]
  show bw_go _ _ _ _ _ _ _ 11 [(0, .ref _), (1, .int _)] ((.int _) :: []) _ _
  refine go_ifb_ne (pc' := 16) dX8_shown_11 rfl (fun c_11 => ?_) (fun c_11 => ?_)
  · -- ne at 11: yes
    show bw_go _ _ _ _ _ _ _ 16 [(0, .ref _), (1, .int _)] ([]) _ _
    obtain ⟨y, hy, rfl⟩ := isn_ex (r := s) (num := 2 ^ cN (nowC S)) c_11 (by omega)
    refine go_aload_n dX8_shown_16 rfl ?_
    refine go_gfr dX8_shown_17 fl_8_7 rfl (ms_lt hm.1 (by decide)) hm.1.1.2 hm.1.2.1.1 ?_
    refine go_iconst (0) dX8_shown_20 rfl ?_
    refine go_ia dX8_shown_21 hm.1.2.2.1 (ms_lt hm.1 (by decide)) (by decide) ?_
    rw [show (0 : Int32).toNatClampNeg = 0 from rfl, hv.1]
    refine go_if_ne (pc' := 28) dX8_shown_22 rfl (fun c_22 => ?_) (fun c_22 => ?_)
    · -- ne at 22: yes
      show bw_go _ _ _ _ _ _ _ 28 [(0, .ref _), (1, .int _)] ([]) _ _
      have h0 : ¬ cN (nowC S) = 0 := fun z => c_22 ((nI_eq (a := cN (nowC S)) (b := 0) (by omega) (by omega)).mpr z)
      refine go_iconst (0) dX8_shown_28 rfl ?_
      refine go_istore_n dX8_shown_29 (Nat.lt_of_lt_of_le (Nat.lt_succ_self _) (Nat.le_of_ble_eq_true rfl)) ?_
      show bw_go _ _ _ _ _ _ _ 30 [(2, .int _), (0, .ref _), (1, .int _)] ([]) _ _
      refine go_iconst (0) dX8_shown_30 rfl ?_
      refine go_istore_n dX8_shown_31 (Nat.lt_of_lt_of_le (Nat.lt_succ_self _) (Nat.le_of_ble_eq_true rfl)) ?_
      show bw_go _ _ _ _ _ _ _ 32 [(3, .int _), (2, .int _), (0, .ref _), (1, .int _)] ([]) _ _
      refine go_for (P := fun k => bw_go X 7 8 6 false (some .int) cX8_shown 32 [(3, .int (nI k)), (2, .int (nI (orf (fun t => if evP (nowC S) y t = true then 2 ^ t else 0) k))), (0, .ref (60)), (1, .int (nI y))] [] h Q) (N := 6) (fun k hk_ K => ?_) ?_ (0) (Nat.zero_le _)
      · -- a turn
        have hk6 : k < 6 := hk_
        show bw_go _ _ _ _ _ _ _ 32 [(3, .int _), (2, .int _), (0, .ref _), (1, .int _)] ([]) _ _
        refine go_iload_n dX8_shown_32 rfl ?_
        refine go_bipush (6) dX8_shown_33 rfl ?_
        refine go_icmp_ge (pc' := 128) dX8_shown_35 rfl (fun c_35 => ?_) (fun c_35 => ?_)
        · -- ge at 35: yes
          exfalso; have t_0 := nI_toInt (n := k) (by omega); have l_0 : (6 : Int32).toInt = 6 := rfl; simp only [i_le, i_lt, i_eq, bi_eq] at c_35; omega
        · -- ge at 35: no
          show bw_go _ _ _ _ _ _ _ 38 [(3, .int _), (2, .int _), (0, .ref _), (1, .int _)] ([]) _ _
          refine go_iconst (0) dX8_shown_38 rfl ?_
          refine go_istore dX8_shown_39 (Nat.lt_of_lt_of_le (Nat.lt_succ_self _) (Nat.le_of_ble_eq_true rfl)) ?_
          show bw_go _ _ _ _ _ _ _ 41 [(4, .int _), (3, .int _), (2, .int _), (0, .ref _), (1, .int _)] ([]) _ _
          refine go_iconst (0) dX8_shown_41 rfl ?_
          refine go_istore dX8_shown_42 (Nat.lt_of_lt_of_le (Nat.lt_succ_self _) (Nat.le_of_ble_eq_true rfl)) ?_
          show bw_go _ _ _ _ _ _ _ 44 [(5, .int _), (4, .int _), (3, .int _), (2, .int _), (0, .ref _), (1, .int _)] ([]) _ _
          refine go_for (P := fun i => bw_go X 7 8 6 false (some .int) cX8_shown 44 [(5, .int (nI i)), (4, .int (bi (smB (nowC S) y k i))), (3, .int (nI k)), (2, .int (nI (orf (fun t => if evP (nowC S) y t = true then 2 ^ t else 0) k))), (0, .ref (60)), (1, .int (nI y))] [] h Q) (N := cN (nowC S)) (fun i hi K => ?_) ?_ (0) (Nat.zero_le _)
          · skip
            show bw_go _ _ _ _ _ _ _ 44 [(5, .int _), (4, .int _), (3, .int _), (2, .int _), (0, .ref _), (1, .int _)] ([]) _ _
            refine go_iload dX8_shown_44 rfl ?_
            refine go_aload_n dX8_shown_46 rfl ?_
            refine go_gfr dX8_shown_47 fl_8_7 rfl (ms_lt hm.1 (by decide)) hm.1.1.2 hm.1.2.1.1 ?_
            refine go_iconst (0) dX8_shown_50 rfl ?_
            refine go_ia dX8_shown_51 hm.1.2.2.1 (ms_lt hm.1 (by decide)) (by decide) ?_
            rw [show (0 : Int32).toNatClampNeg = 0 from rfl, hv.1]
            refine go_icmp_ge (pc' := 94) dX8_shown_52 rfl (fun c_52 => ?_) (fun c_52 => ?_)
            · -- ge at 52: yes
              exfalso; have t_0 := nI_toInt (n := i) (by omega); have t_1 := nI_toInt (n := cN (nowC S)) (by omega); simp only [i_le, i_lt, i_eq, bi_eq] at c_52; omega
            · -- ge at 52: no
              show bw_go _ _ _ _ _ _ _ 55 [(5, .int _), (4, .int _), (3, .int _), (2, .int _), (0, .ref _), (1, .int _)] ([]) _ _
              refine go_iload dX8_shown_55 rfl ?_
              refine go_ifb_ne (pc' := 81) dX8_shown_57 rfl (fun c_57 => ?_) (fun c_57 => ?_)
              · -- ne at 57: yes
                show bw_go _ _ _ _ _ _ _ 81 [(5, .int _), (4, .int _), (3, .int _), (2, .int _), (0, .ref _), (1, .int _)] ([]) _ _
                refine go_iconst (1) dX8_shown_81 rfl ?_
                refine go_goto (pc' := 86) dX8_shown_82 rfl ?_
                show bw_go _ _ _ _ _ _ _ 86 [(5, .int _), (4, .int _), (3, .int _), (2, .int _), (0, .ref _), (1, .int _)] ((.int _) :: []) _ _
                refine go_istore dX8_shown_86 (Nat.lt_of_lt_of_le (Nat.lt_succ_self _) (Nat.le_of_ble_eq_true rfl)) ?_
                show bw_go _ _ _ _ _ _ _ 88 [(4, .int _), (5, .int _), (3, .int _), (2, .int _), (0, .ref _), (1, .int _)] ([]) _ _
                refine go_iinc dX8_shown_88 rfl (nI_1 i) (Nat.lt_of_lt_of_le (Nat.lt_succ_self _) (Nat.le_of_ble_eq_true rfl)) ?_
                show bw_go _ _ _ _ _ _ _ 91 [(5, .int _), (4, .int _), (3, .int _), (2, .int _), (0, .ref _), (1, .int _)] ([]) _ _
                refine go_goto (pc' := 44) dX8_shown_91 rfl ?_
                have e1 : smB (nowC S) y k (i + 1) = (smB (nowC S) y k i || (y.testBit i && (toC (nowC S) i).testBit k)) := rfl
                first
                | (have hb : smB (nowC S) y k (i + 1) = true := by rw [e1, c_57]; rfl
                   rw [hb] at K; exact K)
                | (have hb : smB (nowC S) y k (i + 1) = false := by rw [e1, c_57, c_66]; rfl
                   rw [hb] at K; exact K)
                | (have hb : smB (nowC S) y k (i + 1) = false := by rw [e1, c_57, c_66]; have z := ans_9.mp c_78; simp [z]
                   rw [hb] at K; exact K)
                | (have hb : smB (nowC S) y k (i + 1) = true := by rw [e1, c_57, c_66, Decidable.of_not_not (fun z => c_78 (ans_9.mpr z))]; rfl
                   rw [hb] at K; exact K)
              · -- ne at 57: no
                show bw_go _ _ _ _ _ _ _ 60 [(5, .int _), (4, .int _), (3, .int _), (2, .int _), (0, .ref _), (1, .int _)] ([]) _ _
                refine go_iload_n dX8_shown_60 rfl ?_
                refine go_iload dX8_shown_61 rfl ?_
                refine go_cs (as := [.int _, .int _]) 0 dX8_shown_63 rfl rfl mt_8_129 (Nat.le_of_ble_eq_true rfl) rfl rfl (Nat.le_of_ble_eq_true rfl) (Nat.le_of_ble_eq_true rfl) (Nat.le_of_ble_eq_true rfl) (Nat.le_of_ble_eq_true rfl) ?_
                refine me_X8_has (by omega) (by omega) ?_
                show bw_go _ _ _ _ _ _ _ 66 [(5, .int _), (4, .int _), (3, .int _), (2, .int _), (0, .ref _), (1, .int _)] ((.int _) :: []) _ _
                refine go_ifb_eq (pc' := 85) dX8_shown_66 rfl (fun c_66 => ?_) (fun c_66 => ?_)
                · -- eq at 66: yes
                  show bw_go _ _ _ _ _ _ _ 85 [(5, .int _), (4, .int _), (3, .int _), (2, .int _), (0, .ref _), (1, .int _)] ([]) _ _
                  refine go_iconst (0) dX8_shown_85 rfl ?_
                  refine go_istore dX8_shown_86 (Nat.lt_of_lt_of_le (Nat.lt_succ_self _) (Nat.le_of_ble_eq_true rfl)) ?_
                  show bw_go _ _ _ _ _ _ _ 88 [(4, .int _), (5, .int _), (3, .int _), (2, .int _), (0, .ref _), (1, .int _)] ([]) _ _
                  refine go_iinc dX8_shown_88 rfl (nI_1 i) (Nat.lt_of_lt_of_le (Nat.lt_succ_self _) (Nat.le_of_ble_eq_true rfl)) ?_
                  show bw_go _ _ _ _ _ _ _ 91 [(5, .int _), (4, .int _), (3, .int _), (2, .int _), (0, .ref _), (1, .int _)] ([]) _ _
                  refine go_goto (pc' := 44) dX8_shown_91 rfl ?_
                  have e1 : smB (nowC S) y k (i + 1) = (smB (nowC S) y k i || (y.testBit i && (toC (nowC S) i).testBit k)) := rfl
                  first
                  | (have hb : smB (nowC S) y k (i + 1) = true := by rw [e1, c_57]; rfl
                     rw [hb] at K; exact K)
                  | (have hb : smB (nowC S) y k (i + 1) = false := by rw [e1, c_57, c_66]; rfl
                     rw [hb] at K; exact K)
                  | (have hb : smB (nowC S) y k (i + 1) = false := by rw [e1, c_57, c_66]; have z := ans_9.mp c_78; simp [z]
                     rw [hb] at K; exact K)
                  | (have hb : smB (nowC S) y k (i + 1) = true := by rw [e1, c_57, c_66, Decidable.of_not_not (fun z => c_78 (ans_9.mpr z))]; rfl
                     rw [hb] at K; exact K)
                · -- eq at 66: no
                  show bw_go _ _ _ _ _ _ _ 69 [(5, .int _), (4, .int _), (3, .int _), (2, .int _), (0, .ref _), (1, .int _)] ([]) _ _
                  refine go_aload_n dX8_shown_69 rfl ?_
                  refine go_iload dX8_shown_70 rfl ?_
                  refine go_iload_n dX8_shown_72 rfl ?_
                  refine go_cv (as := [.int _, .int _]) 5 dX8_shown_73 mt_8_147 (Or.inl rfl) rfl rfl (ms_lt hm.1 (by decide)) hm.1.1.2 (Nat.le_of_ble_eq_true rfl) (Nat.le_of_ble_eq_true rfl) (Nat.le_of_ble_eq_true rfl) (Nat.le_of_ble_eq_true rfl) (Nat.le_of_ble_eq_true rfl) ?_
                  refine me_X8_tellNow hm hi hk6 ?_
                  show bw_go _ _ _ _ _ _ _ 76 [(5, .int _), (4, .int _), (3, .int _), (2, .int _), (0, .ref _), (1, .int _)] ((.int _) :: []) _ _
                  refine go_bipush (-9) dX8_shown_76 rfl ?_
                  refine go_icmp_eq (pc' := 85) dX8_shown_78 rfl (fun c_78 => ?_) (fun c_78 => ?_)
                  · -- eq at 78: yes
                    show bw_go _ _ _ _ _ _ _ 85 [(5, .int _), (4, .int _), (3, .int _), (2, .int _), (0, .ref _), (1, .int _)] ([]) _ _
                    refine go_iconst (0) dX8_shown_85 rfl ?_
                    refine go_istore dX8_shown_86 (Nat.lt_of_lt_of_le (Nat.lt_succ_self _) (Nat.le_of_ble_eq_true rfl)) ?_
                    show bw_go _ _ _ _ _ _ _ 88 [(4, .int _), (5, .int _), (3, .int _), (2, .int _), (0, .ref _), (1, .int _)] ([]) _ _
                    refine go_iinc dX8_shown_88 rfl (nI_1 i) (Nat.lt_of_lt_of_le (Nat.lt_succ_self _) (Nat.le_of_ble_eq_true rfl)) ?_
                    show bw_go _ _ _ _ _ _ _ 91 [(5, .int _), (4, .int _), (3, .int _), (2, .int _), (0, .ref _), (1, .int _)] ([]) _ _
                    refine go_goto (pc' := 44) dX8_shown_91 rfl ?_
                    have e1 : smB (nowC S) y k (i + 1) = (smB (nowC S) y k i || (y.testBit i && (toC (nowC S) i).testBit k)) := rfl
                    first
                    | (have hb : smB (nowC S) y k (i + 1) = true := by rw [e1, c_57]; rfl
                       rw [hb] at K; exact K)
                    | (have hb : smB (nowC S) y k (i + 1) = false := by rw [e1, c_57, c_66]; rfl
                       rw [hb] at K; exact K)
                    | (have hb : smB (nowC S) y k (i + 1) = false := by rw [e1, c_57, c_66]; have z := ans_9.mp c_78; simp [z]
                       rw [hb] at K; exact K)
                    | (have hb : smB (nowC S) y k (i + 1) = true := by rw [e1, c_57, c_66, Decidable.of_not_not (fun z => c_78 (ans_9.mpr z))]; rfl
                       rw [hb] at K; exact K)
                  · -- eq at 78: no
                    show bw_go _ _ _ _ _ _ _ 81 [(5, .int _), (4, .int _), (3, .int _), (2, .int _), (0, .ref _), (1, .int _)] ([]) _ _
                    refine go_iconst (1) dX8_shown_81 rfl ?_
                    refine go_goto (pc' := 86) dX8_shown_82 rfl ?_
                    show bw_go _ _ _ _ _ _ _ 86 [(5, .int _), (4, .int _), (3, .int _), (2, .int _), (0, .ref _), (1, .int _)] ((.int _) :: []) _ _
                    refine go_istore dX8_shown_86 (Nat.lt_of_lt_of_le (Nat.lt_succ_self _) (Nat.le_of_ble_eq_true rfl)) ?_
                    show bw_go _ _ _ _ _ _ _ 88 [(4, .int _), (5, .int _), (3, .int _), (2, .int _), (0, .ref _), (1, .int _)] ([]) _ _
                    refine go_iinc dX8_shown_88 rfl (nI_1 i) (Nat.lt_of_lt_of_le (Nat.lt_succ_self _) (Nat.le_of_ble_eq_true rfl)) ?_
                    show bw_go _ _ _ _ _ _ _ 91 [(5, .int _), (4, .int _), (3, .int _), (2, .int _), (0, .ref _), (1, .int _)] ([]) _ _
                    refine go_goto (pc' := 44) dX8_shown_91 rfl ?_
                    have e1 : smB (nowC S) y k (i + 1) = (smB (nowC S) y k i || (y.testBit i && (toC (nowC S) i).testBit k)) := rfl
                    first
                    | (have hb : smB (nowC S) y k (i + 1) = true := by rw [e1, c_57]; rfl
                       rw [hb] at K; exact K)
                    | (have hb : smB (nowC S) y k (i + 1) = false := by rw [e1, c_57, c_66]; rfl
                       rw [hb] at K; exact K)
                    | (have hb : smB (nowC S) y k (i + 1) = false := by rw [e1, c_57, c_66]; have z := ans_9.mp c_78; simp [z]
                       rw [hb] at K; exact K)
                    | (have hb : smB (nowC S) y k (i + 1) = true := by rw [e1, c_57, c_66, Decidable.of_not_not (fun z => c_78 (ans_9.mpr z))]; rfl
                       rw [hb] at K; exact K)
          · skip
            show bw_go _ _ _ _ _ _ _ 44 [(5, .int _), (4, .int _), (3, .int _), (2, .int _), (0, .ref _), (1, .int _)] ([]) _ _
            refine go_iload dX8_shown_44 rfl ?_
            refine go_aload_n dX8_shown_46 rfl ?_
            refine go_gfr dX8_shown_47 fl_8_7 rfl (ms_lt hm.1 (by decide)) hm.1.1.2 hm.1.2.1.1 ?_
            refine go_iconst (0) dX8_shown_50 rfl ?_
            refine go_ia dX8_shown_51 hm.1.2.2.1 (ms_lt hm.1 (by decide)) (by decide) ?_
            rw [show (0 : Int32).toNatClampNeg = 0 from rfl, hv.1]
            refine go_icmp_ge (pc' := 94) dX8_shown_52 rfl (fun c_52 => ?_) (fun c_52 => ?_)
            · -- ge at 52: yes
              show bw_go _ _ _ _ _ _ _ 94 [(5, .int _), (4, .int _), (3, .int _), (2, .int _), (0, .ref _), (1, .int _)] ([]) _ _
              refine go_iload_n dX8_shown_94 rfl ?_
              refine go_iload dX8_shown_95 rfl ?_
              refine go_ifb_eq (pc' := 119) dX8_shown_97 rfl (fun c_97 => ?_) (fun c_97 => ?_)
              · -- eq at 97: yes
                show bw_go _ _ _ _ _ _ _ 119 [(5, .int _), (4, .int _), (3, .int _), (2, .int _), (0, .ref _), (1, .int _)] ((.int _) :: []) _ _
                refine go_iconst (0) dX8_shown_119 rfl ?_
                refine go_ior dX8_shown_120 ?_
                first | rw [or_n] | rw [show (0 : Int32) = nI 0 from rfl, or_n, Nat.or_zero]
                refine go_istore_n dX8_shown_121 (Nat.lt_of_lt_of_le (Nat.lt_succ_self _) (Nat.le_of_ble_eq_true rfl)) ?_
                show bw_go _ _ _ _ _ _ _ 122 [(2, .int _), (5, .int _), (4, .int _), (3, .int _), (0, .ref _), (1, .int _)] ([]) _ _
                refine go_iinc dX8_shown_122 rfl (nI_1 k) (Nat.lt_of_lt_of_le (Nat.lt_succ_self _) (Nat.le_of_ble_eq_true rfl)) ?_
                show bw_go _ _ _ _ _ _ _ 125 [(3, .int _), (2, .int _), (5, .int _), (4, .int _), (0, .ref _), (1, .int _)] ([]) _ _
                refine go_goto (pc' := 32) dX8_shown_125 rfl ?_
                refine go_ls [(3, .int _), (2, .int _), (0, .ref _), (1, .int _)] (by show List.Nodup ([3, 2, 0, 1] : List Nat); decide) (by show List.Nodup ([3, 2, 5, 4, 0, 1] : List Nat); decide) (le_cons rfl (le_cons rfl (le_cons rfl (le_cons rfl (le_nil _))))) ?_
                have e1 : orf (fun t => if evP (nowC S) y t = true then 2 ^ t else 0) (k + 1) = orf (fun t => if evP (nowC S) y t = true then 2 ^ t else 0) k ||| (if evP (nowC S) y k = true then 2 ^ k else 0) := rfl
                have b1 := bal_b (taC (nowC S)) y k (cN (nowC S))
                have t_0 := ofI_t (z := bal (taC (nowC S)) y k (cN (nowC S))) (by omega) (by omega)
                have l_0 := i_0
                try simp only [i_eq] at c_110
                first
                | (have hb : evP (nowC S) y k = false := by unfold evP; rw [c_97]; rfl
                   rw [if_neg (by rw [hb]; decide), Nat.or_zero] at e1; rw [e1] at K; exact K)
                | (have hb : evP (nowC S) y k = false := by unfold evP; rw [c_97, decide_eq_false (by omega)]; rfl
                   rw [if_neg (by rw [hb]; decide), Nat.or_zero] at e1; rw [e1] at K; exact K)
                | (have hb : evP (nowC S) y k = true := by unfold evP; rw [c_97, decide_eq_true (by omega)]; rfl
                   rw [if_pos hb] at e1; rw [e1] at K; exact K)
              · -- eq at 97: no
                show bw_go _ _ _ _ _ _ _ 100 [(5, .int _), (4, .int _), (3, .int _), (2, .int _), (0, .ref _), (1, .int _)] ((.int _) :: []) _ _
                refine go_aload_n dX8_shown_100 rfl ?_
                refine go_aload_n dX8_shown_101 rfl ?_
                refine go_gfr dX8_shown_102 fl_8_7 rfl (ms_lt hm.1 (by decide)) hm.1.1.2 hm.1.2.1.1 ?_
                refine go_iload_n dX8_shown_105 rfl ?_
                refine go_iload_n dX8_shown_106 rfl ?_
                refine go_cv (as := [.ref _, .int _, .int _]) 5 dX8_shown_107 mt_8_150 (Or.inl rfl) rfl rfl (ms_lt hm.1 (by decide)) hm.1.1.2 (Nat.le_of_ble_eq_true rfl) (Nat.le_of_ble_eq_true rfl) (Nat.le_of_ble_eq_true rfl) (Nat.le_of_ble_eq_true rfl) (Nat.le_of_ble_eq_true rfl) ?_
                refine me_X8_balance hm.1 (ms_lt hm.1 (by decide)) hm.1.2.2.1 hv hkC (s := y) (t := k) (by omega) hk6 ?_
                show bw_go _ _ _ _ _ _ _ 110 [(5, .int _), (4, .int _), (3, .int _), (2, .int _), (0, .ref _), (1, .int _)] ((.int _) :: (.int _) :: []) _ _
                refine go_if_ne (pc' := 119) dX8_shown_110 rfl (fun c_110 => ?_) (fun c_110 => ?_)
                · -- ne at 110: yes
                  show bw_go _ _ _ _ _ _ _ 119 [(5, .int _), (4, .int _), (3, .int _), (2, .int _), (0, .ref _), (1, .int _)] ((.int _) :: []) _ _
                  refine go_iconst (0) dX8_shown_119 rfl ?_
                  refine go_ior dX8_shown_120 ?_
                  first | rw [or_n] | rw [show (0 : Int32) = nI 0 from rfl, or_n, Nat.or_zero]
                  refine go_istore_n dX8_shown_121 (Nat.lt_of_lt_of_le (Nat.lt_succ_self _) (Nat.le_of_ble_eq_true rfl)) ?_
                  show bw_go _ _ _ _ _ _ _ 122 [(2, .int _), (5, .int _), (4, .int _), (3, .int _), (0, .ref _), (1, .int _)] ([]) _ _
                  refine go_iinc dX8_shown_122 rfl (nI_1 k) (Nat.lt_of_lt_of_le (Nat.lt_succ_self _) (Nat.le_of_ble_eq_true rfl)) ?_
                  show bw_go _ _ _ _ _ _ _ 125 [(3, .int _), (2, .int _), (5, .int _), (4, .int _), (0, .ref _), (1, .int _)] ([]) _ _
                  refine go_goto (pc' := 32) dX8_shown_125 rfl ?_
                  refine go_ls [(3, .int _), (2, .int _), (0, .ref _), (1, .int _)] (by show List.Nodup ([3, 2, 0, 1] : List Nat); decide) (by show List.Nodup ([3, 2, 5, 4, 0, 1] : List Nat); decide) (le_cons rfl (le_cons rfl (le_cons rfl (le_cons rfl (le_nil _))))) ?_
                  have e1 : orf (fun t => if evP (nowC S) y t = true then 2 ^ t else 0) (k + 1) = orf (fun t => if evP (nowC S) y t = true then 2 ^ t else 0) k ||| (if evP (nowC S) y k = true then 2 ^ k else 0) := rfl
                  have b1 := bal_b (taC (nowC S)) y k (cN (nowC S))
                  have t_0 := ofI_t (z := bal (taC (nowC S)) y k (cN (nowC S))) (by omega) (by omega)
                  have l_0 := i_0
                  try simp only [i_eq] at c_110
                  first
                  | (have hb : evP (nowC S) y k = false := by unfold evP; rw [c_97]; rfl
                     rw [if_neg (by rw [hb]; decide), Nat.or_zero] at e1; rw [e1] at K; exact K)
                  | (have hb : evP (nowC S) y k = false := by unfold evP; rw [c_97, decide_eq_false (by omega)]; rfl
                     rw [if_neg (by rw [hb]; decide), Nat.or_zero] at e1; rw [e1] at K; exact K)
                  | (have hb : evP (nowC S) y k = true := by unfold evP; rw [c_97, decide_eq_true (by omega)]; rfl
                     rw [if_pos hb] at e1; rw [e1] at K; exact K)
                · -- ne at 110: no
                  show bw_go _ _ _ _ _ _ _ 113 [(5, .int _), (4, .int _), (3, .int _), (2, .int _), (0, .ref _), (1, .int _)] ((.int _) :: []) _ _
                  refine go_iconst (1) dX8_shown_113 rfl ?_
                  refine go_iload_n dX8_shown_114 rfl ?_
                  skip
                  refine go_ishl dX8_shown_115 ?_
                  rw [sh_t k (by omega)]
                  refine go_goto (pc' := 120) dX8_shown_116 rfl ?_
                  show bw_go _ _ _ _ _ _ _ 120 [(5, .int _), (4, .int _), (3, .int _), (2, .int _), (0, .ref _), (1, .int _)] ((.int _) :: (.int _) :: []) _ _
                  refine go_ior dX8_shown_120 ?_
                  first | rw [or_n] | rw [show (0 : Int32) = nI 0 from rfl, or_n, Nat.or_zero]
                  refine go_istore_n dX8_shown_121 (Nat.lt_of_lt_of_le (Nat.lt_succ_self _) (Nat.le_of_ble_eq_true rfl)) ?_
                  show bw_go _ _ _ _ _ _ _ 122 [(2, .int _), (5, .int _), (4, .int _), (3, .int _), (0, .ref _), (1, .int _)] ([]) _ _
                  refine go_iinc dX8_shown_122 rfl (nI_1 k) (Nat.lt_of_lt_of_le (Nat.lt_succ_self _) (Nat.le_of_ble_eq_true rfl)) ?_
                  show bw_go _ _ _ _ _ _ _ 125 [(3, .int _), (2, .int _), (5, .int _), (4, .int _), (0, .ref _), (1, .int _)] ([]) _ _
                  refine go_goto (pc' := 32) dX8_shown_125 rfl ?_
                  refine go_ls [(3, .int _), (2, .int _), (0, .ref _), (1, .int _)] (by show List.Nodup ([3, 2, 0, 1] : List Nat); decide) (by show List.Nodup ([3, 2, 5, 4, 0, 1] : List Nat); decide) (le_cons rfl (le_cons rfl (le_cons rfl (le_cons rfl (le_nil _))))) ?_
                  have e1 : orf (fun t => if evP (nowC S) y t = true then 2 ^ t else 0) (k + 1) = orf (fun t => if evP (nowC S) y t = true then 2 ^ t else 0) k ||| (if evP (nowC S) y k = true then 2 ^ k else 0) := rfl
                  have b1 := bal_b (taC (nowC S)) y k (cN (nowC S))
                  have t_0 := ofI_t (z := bal (taC (nowC S)) y k (cN (nowC S))) (by omega) (by omega)
                  have l_0 := i_0
                  try simp only [i_eq] at c_110
                  first
                  | (have hb : evP (nowC S) y k = false := by unfold evP; rw [c_97]; rfl
                     rw [if_neg (by rw [hb]; decide), Nat.or_zero] at e1; rw [e1] at K; exact K)
                  | (have hb : evP (nowC S) y k = false := by unfold evP; rw [c_97, decide_eq_false (by omega)]; rfl
                     rw [if_neg (by rw [hb]; decide), Nat.or_zero] at e1; rw [e1] at K; exact K)
                  | (have hb : evP (nowC S) y k = true := by unfold evP; rw [c_97, decide_eq_true (by omega)]; rfl
                     rw [if_pos hb] at e1; rw [e1] at K; exact K)
            · -- ge at 52: no
              exfalso; have t_0 := nI_toInt (n := cN (nowC S)) (by omega); simp only [i_le, i_lt, i_eq, bi_eq] at c_52; omega
      · -- behind the last
        show bw_go _ _ _ _ _ _ _ 32 [(3, .int _), (2, .int _), (0, .ref _), (1, .int _)] ([]) _ _
        refine go_iload_n dX8_shown_32 rfl ?_
        refine go_bipush (6) dX8_shown_33 rfl ?_
        refine go_icmp_ge (pc' := 128) dX8_shown_35 rfl (fun c_35 => ?_) (fun c_35 => ?_)
        · -- ge at 35: yes
          show bw_go _ _ _ _ _ _ _ 128 [(3, .int _), (2, .int _), (0, .ref _), (1, .int _)] ([]) _ _
          refine go_aload_n dX8_shown_128 rfl ?_
          refine go_iload_n dX8_shown_129 rfl ?_
          refine go_cv (as := [.int _]) 0 dX8_shown_130 mt_8_87 (Or.inl rfl) rfl rfl (ms_lt hm.1 (by decide)) hm.1.1.2 (Nat.le_of_ble_eq_true rfl) (Nat.le_of_ble_eq_true rfl) (Nat.le_of_ble_eq_true rfl) (Nat.le_of_ble_eq_true rfl) (Nat.le_of_ble_eq_true rfl) ?_
          rw [ev_e hk]
          refine me_X8_asks hm (fun g hg hf => ?_)
          have hm0 := hm
          have hm := hg
          show bw_go _ _ _ _ _ _ _ 133 [(3, .int _), (2, .int _), (0, .ref _), (1, .int _)] ((.int _) :: []) _ _
          refine go_istore_n dX8_shown_133 (Nat.lt_of_lt_of_le (Nat.lt_succ_self _) (Nat.le_of_ble_eq_true rfl)) ?_
          show bw_go _ _ _ _ _ _ _ 134 [(3, .int _), (2, .int _), (0, .ref _), (1, .int _)] ([]) _ _
          refine go_aload_n dX8_shown_134 rfl ?_
          refine go_iload_n dX8_shown_135 rfl ?_
          refine go_cv (as := [.int _]) 6 dX8_shown_136 mt_8_198 (Or.inl rfl) rfl rfl (ms_lt hm.1 (by decide)) hm.1.1.2 (Nat.le_of_ble_eq_true rfl) (Nat.le_of_ble_eq_true rfl) (Nat.le_of_ble_eq_true rfl) (Nat.le_of_ble_eq_true rfl) (Nat.le_of_ble_eq_true rfl) ?_
          refine me_X8_shownBy hm (by omega) ?_
          show bw_go _ _ _ _ _ _ _ 139 [(3, .int _), (2, .int _), (0, .ref _), (1, .int _)] ((.int _) :: []) _ _
          refine go_iret dX8_shown_139 rfl rfl ?_
          refine q_m hQ ?_ hg hf
          unfold yShown
          rw [if_pos (show isn (nI y) (2 ^ cN (nowC S)) = true from c_11), if_neg h0, rn_n (by omega)]
          rfl
        · -- ge at 35: no
          exfalso; have t_0 := nI_toInt (n := 6) (by omega); have l_0 : (6 : Int32).toInt = 6 := rfl; simp only [i_le, i_lt, i_eq, bi_eq] at c_35; omega
    · -- ne at 22: no
      show bw_go _ _ _ _ _ _ _ 25 [(0, .ref _), (1, .int _)] ([]) _ _
      refine go_bipush (-4) dX8_shown_25 rfl ?_
      refine go_iret dX8_shown_27 rfl rfl ?_
      refine q_m hQ ?_ hm (frX_r h)
      unfold yShown
      rw [if_pos (show isn (nI y) (2 ^ cN (nowC S)) = true from c_11), if_pos ((nI_eq (a := cN (nowC S)) (b := 0) (by omega) (by omega)).mp (Decidable.of_not_not c_22))]
  · -- ne at 11: no
    show bw_go _ _ _ _ _ _ _ 14 [(0, .ref _), (1, .int _)] ([]) _ _
    refine go_iconst (-1) dX8_shown_14 rfl ?_
    refine go_iret dX8_shown_15 rfl rfl ?_
    refine q_m hQ ?_ hm (frX_r h)
    unfold yShown
    rw [if_neg (fun z => Bool.noConfusion ((show isn s (2 ^ cN (nowC S)) = false from c_11).symm.trans z))]
set_option maxRecDepth 100000 in
set_option maxHeartbeats 4000000 in
theorem me_X8_call {X : Nat × (Nat → Int32)} {Q : Option Value → bw_H → Prop} {h : bw_H} {S : ST} {x : Int32} (hm : MR h S) (hQ : PM h Q (yCall x S)) : bw_me X 7 bm_X8_call false [.ref 60, .int x] h Q := by
  have hv := mr_v hm
  have hk := mr_k hm
  have k1 := hk.1
  have hkC := hk
  have h2N := p2N k1
  have hp0 : 0 < 2 ^ cN (nowC S) := Nat.two_pow_pos _
  show bw_go _ 7 8 6 false (some .int) cX8_call 0 [(0, .ref _), (1, .int _)] [] _ _
  refine go_iload_n dX8_call_0 rfl ?_
  refine go_cs (as := [.int _]) 1 dX8_call_1 rfl rfl mt_8_191 (Nat.le_of_ble_eq_true rfl) rfl rfl (Nat.le_of_ble_eq_true rfl) (Nat.le_of_ble_eq_true rfl) (Nat.le_of_ble_eq_true rfl) (Nat.le_of_ble_eq_true rfl) ?_
  refine me_X8_isThing ?_
  show bw_go _ _ _ _ _ _ _ 4 [(0, .ref _), (1, .int _)] ((.int _) :: []) _ _
  refine go_ifb_ne (pc' := 9) dX8_call_4 rfl (fun c_4 => ?_) (fun c_4 => ?_)
  · -- ne at 4: yes
    show bw_go _ _ _ _ _ _ _ 9 [(0, .ref _), (1, .int _)] ([]) _ _
    obtain ⟨y, hy, rfl⟩ := isn_ex (r := x) (num := 6) c_4 (by decide)
    refine go_aload_n dX8_call_9 rfl ?_
    refine go_gfr dX8_call_10 fl_8_7 rfl (ms_lt hm.1 (by decide)) hm.1.1.2 hm.1.2.1.1 ?_
    refine go_iconst (0) dX8_call_13 rfl ?_
    refine go_ia dX8_call_14 hm.1.2.2.1 (ms_lt hm.1 (by decide)) (by decide) ?_
    rw [show (0 : Int32).toNatClampNeg = 0 from rfl, hv.1]
    refine go_if_ne (pc' := 21) dX8_call_15 rfl (fun c_15 => ?_) (fun c_15 => ?_)
    · -- ne at 15: yes
      show bw_go _ _ _ _ _ _ _ 21 [(0, .ref _), (1, .int _)] ([]) _ _
      have h0 : ¬ cN (nowC S) = 0 := fun z => c_15 ((nI_eq (a := cN (nowC S)) (b := 0) (by omega) (by omega)).mpr z)
      refine go_bipush (-9) dX8_call_21 rfl ?_
      refine go_istore_n dX8_call_23 (Nat.lt_of_lt_of_le (Nat.lt_succ_self _) (Nat.le_of_ble_eq_true rfl)) ?_
      show bw_go _ _ _ _ _ _ _ 24 [(2, .int _), (0, .ref _), (1, .int _)] ([]) _ _
      refine go_ldc dX8_call_24 kc_8_201 ?_
      refine go_istore_n dX8_call_26 (Nat.lt_of_lt_of_le (Nat.lt_succ_self _) (Nat.le_of_ble_eq_true rfl)) ?_
      show bw_go _ _ _ _ _ _ _ 27 [(3, .int _), (2, .int _), (0, .ref _), (1, .int _)] ([]) _ _
      refine go_iconst (0) dX8_call_27 rfl ?_
      refine go_istore dX8_call_28 (Nat.lt_of_lt_of_le (Nat.lt_succ_self _) (Nat.le_of_ble_eq_true rfl)) ?_
      show bw_go _ _ _ _ _ _ _ 30 [(4, .int _), (3, .int _), (2, .int _), (0, .ref _), (1, .int _)] ([]) _ _
      refine go_for (P := fun k => bw_go X 7 8 6 false (some .int) cX8_call 30 [(4, .int (nI k)), (3, .int (nI (mcl S y k).2)), (2, .int (mtI (mcl S y k).1)), (0, .ref (60)), (1, .int (nI y))] [] h Q) (N := 2 ^ cN (nowC S)) (fun k hk K => ?_) ?_ (0) (Nat.zero_le _)
      · -- a turn
        show bw_go _ _ _ _ _ _ _ 30 [(4, .int _), (3, .int _), (2, .int _), (0, .ref _), (1, .int _)] ([]) _ _
        refine go_iload dX8_call_30 rfl ?_
        refine go_aload_n dX8_call_32 rfl ?_
        refine go_cv (as := []) 0 dX8_call_33 mt_8_194 (Or.inl rfl) rfl rfl (ms_lt hm.1 (by decide)) hm.1.1.2 (Nat.le_of_ble_eq_true rfl) (Nat.le_of_ble_eq_true rfl) (Nat.le_of_ble_eq_true rfl) (Nat.le_of_ble_eq_true rfl) (Nat.le_of_ble_eq_true rfl) ?_
        refine me_X8_allBears hm ?_
        show bw_go _ _ _ _ _ _ _ 36 [(4, .int _), (3, .int _), (2, .int _), (0, .ref _), (1, .int _)] ((.int _) :: (.int _) :: []) _ _
        refine go_icmp_gt (pc' := 105) dX8_call_36 rfl (fun c_36 => ?_) (fun c_36 => ?_)
        · -- gt at 36: yes
          exfalso; have t_0 := nI_toInt (n := k) (by omega); have t_1 := nI_toInt (n := 2 ^ cN (nowC S) - 1) (by omega); simp only [i_le, i_lt, i_eq, bi_eq] at c_36; omega
        · -- gt at 36: no
          show bw_go _ _ _ _ _ _ _ 39 [(4, .int _), (3, .int _), (2, .int _), (0, .ref _), (1, .int _)] ([]) _ _
          refine go_aload_n dX8_call_39 rfl ?_
          refine go_aload_n dX8_call_40 rfl ?_
          refine go_gfr dX8_call_41 fl_8_7 rfl (ms_lt hm.1 (by decide)) hm.1.1.2 hm.1.2.1.1 ?_
          refine go_iload dX8_call_44 rfl ?_
          refine go_iload_n dX8_call_46 rfl ?_
          refine go_cv (as := [.ref _, .int _, .int _]) 5 dX8_call_47 mt_8_150 (Or.inl rfl) rfl rfl (ms_lt hm.1 (by decide)) hm.1.1.2 (Nat.le_of_ble_eq_true rfl) (Nat.le_of_ble_eq_true rfl) (Nat.le_of_ble_eq_true rfl) (Nat.le_of_ble_eq_true rfl) (Nat.le_of_ble_eq_true rfl) ?_
          refine me_X8_balance hm.1 (ms_lt hm.1 (by decide)) hm.1.2.2.1 hv hkC (s := k) (t := y) (by omega) hy ?_
          show bw_go _ _ _ _ _ _ _ 50 [(4, .int _), (3, .int _), (2, .int _), (0, .ref _), (1, .int _)] ((.int _) :: []) _ _
          refine go_if_le (pc' := 99) dX8_call_50 rfl (fun c_50 => ?_) (fun c_50 => ?_)
          · -- le at 50: yes
            show bw_go _ _ _ _ _ _ _ 99 [(4, .int _), (3, .int _), (2, .int _), (0, .ref _), (1, .int _)] ([]) _ _
            refine go_iinc dX8_call_99 rfl (nI_1 k) (Nat.lt_of_lt_of_le (Nat.lt_succ_self _) (Nat.le_of_ble_eq_true rfl)) ?_
            show bw_go _ _ _ _ _ _ _ 102 [(4, .int _), (3, .int _), (2, .int _), (0, .ref _), (1, .int _)] ([]) _ _
            refine go_goto (pc' := 30) dX8_call_102 rfl ?_
            have e0 : mcl S y (k + 1) = if (sho (taC (nowC S)) k).testBit y = true ∧ 10 * bc k + bc (sho (taC (nowC S)) k) < (mcl S y k).2 then (some k, 10 * bc k + bc (sho (taC (nowC S)) k)) else mcl S y k := rfl
            have b1 := bal_b (taC (nowC S)) k y (cN (nowC S))
            have t_9 := ofI_t (z := bal (taC (nowC S)) k y (cN (nowC S))) (by omega) (by omega)
            have l_0 := i_0
            have hsb := sho_bit (A := taC (nowC S)) (s := k) hy
            have b2 := bc_lt k
            have b3 := bc_lt (sho (taC (nowC S)) k)
            have b4 := (mcl_b (S := S) hy (k := k) (by omega)).1
            have t_1 := nI_toInt (n := 10 * bc k + bc (sho (taC (nowC S)) k)) (by omega)
            have t_2 := nI_toInt (n := (mcl S y k).2) (by omega)
            try simp only [i_le] at c_50
            try simp only [i_le] at c_76
            try simp only [i_le] at c_89
            first
            | (exfalso; omega)
            | (rw [if_neg (fun z => by rw [hsb] at z; have z2 := of_decide_eq_true z.1; have z3 : 0 < bal (taC (nowC S)) k y (cN (nowC S)) := z2; omega)] at e0; rw [e0] at K; exact K)
            | (rw [if_neg (fun z => by have := z.2; omega)] at e0; rw [e0] at K; exact K)
            | (rw [if_pos ⟨by rw [hsb]; exact decide_eq_true (show 0 < bal (taC (nowC S)) k y (cN (nowC S)) by omega), by omega⟩] at e0; rw [e0] at K; exact K)
          · -- le at 50: no
            show bw_go _ _ _ _ _ _ _ 53 [(4, .int _), (3, .int _), (2, .int _), (0, .ref _), (1, .int _)] ([]) _ _
            refine go_bipush (10) dX8_call_53 rfl ?_
            refine go_iload dX8_call_55 rfl ?_
            refine go_cs (as := [.int _]) 0 dX8_call_57 rfl rfl mt_8_166 (Nat.le_of_ble_eq_true rfl) rfl rfl (Nat.le_of_ble_eq_true rfl) (Nat.le_of_ble_eq_true rfl) (Nat.le_of_ble_eq_true rfl) (Nat.le_of_ble_eq_true rfl) ?_
            refine me_X8_bits (by omega) ?_
            show bw_go _ _ _ _ _ _ _ 60 [(4, .int _), (3, .int _), (2, .int _), (0, .ref _), (1, .int _)] ((.int _) :: (.int _) :: []) _ _
            rw [show (10 : Int32) = nI 10 from rfl]
            refine go_imul dX8_call_60 ?_
            rw [nmul]
            refine go_aload_n dX8_call_61 rfl ?_
            refine go_iload dX8_call_62 rfl ?_
            refine go_cv (as := [.int _]) 6 dX8_call_64 mt_8_198 (Or.inl rfl) rfl rfl (ms_lt hm.1 (by decide)) hm.1.1.2 (Nat.le_of_ble_eq_true rfl) (Nat.le_of_ble_eq_true rfl) (Nat.le_of_ble_eq_true rfl) (Nat.le_of_ble_eq_true rfl) (Nat.le_of_ble_eq_true rfl) ?_
            refine me_X8_shownBy hm (by omega) ?_
            show bw_go _ _ _ _ _ _ _ 67 [(4, .int _), (3, .int _), (2, .int _), (0, .ref _), (1, .int _)] ((.int _) :: (.int _) :: []) _ _
            refine go_cs (as := [.int _]) 0 dX8_call_67 rfl rfl mt_8_166 (Nat.le_of_ble_eq_true rfl) rfl rfl (Nat.le_of_ble_eq_true rfl) (Nat.le_of_ble_eq_true rfl) (Nat.le_of_ble_eq_true rfl) (Nat.le_of_ble_eq_true rfl) ?_
            refine me_X8_bits (sho_lt _ _) ?_
            show bw_go _ _ _ _ _ _ _ 70 [(4, .int _), (3, .int _), (2, .int _), (0, .ref _), (1, .int _)] ((.int _) :: (.int _) :: []) _ _
            refine go_iadd dX8_call_70 ?_
            rw [nI_add]
            refine go_istore dX8_call_71 (Nat.lt_of_lt_of_le (Nat.lt_succ_self _) (Nat.le_of_ble_eq_true rfl)) ?_
            show bw_go _ _ _ _ _ _ _ 73 [(5, .int _), (4, .int _), (3, .int _), (2, .int _), (0, .ref _), (1, .int _)] ([]) _ _
            refine go_iload dX8_call_73 rfl ?_
            refine go_iload_n dX8_call_75 rfl ?_
            refine go_icmp_ge (pc' := 84) dX8_call_76 rfl (fun c_76 => ?_) (fun c_76 => ?_)
            · -- ge at 76: yes
              show bw_go _ _ _ _ _ _ _ 84 [(5, .int _), (4, .int _), (3, .int _), (2, .int _), (0, .ref _), (1, .int _)] ([]) _ _
              refine go_iload_n dX8_call_84 rfl ?_
              refine go_istore_n dX8_call_85 (Nat.lt_of_lt_of_le (Nat.lt_succ_self _) (Nat.le_of_ble_eq_true rfl)) ?_
              show bw_go _ _ _ _ _ _ _ 86 [(2, .int _), (5, .int _), (4, .int _), (3, .int _), (0, .ref _), (1, .int _)] ([]) _ _
              refine go_iload dX8_call_86 rfl ?_
              refine go_iload_n dX8_call_88 rfl ?_
              refine go_icmp_ge (pc' := 97) dX8_call_89 rfl (fun c_89 => ?_) (fun c_89 => ?_)
              · -- ge at 89: yes
                show bw_go _ _ _ _ _ _ _ 97 [(2, .int _), (5, .int _), (4, .int _), (3, .int _), (0, .ref _), (1, .int _)] ([]) _ _
                refine go_iload_n dX8_call_97 rfl ?_
                refine go_istore_n dX8_call_98 (Nat.lt_of_lt_of_le (Nat.lt_succ_self _) (Nat.le_of_ble_eq_true rfl)) ?_
                show bw_go _ _ _ _ _ _ _ 99 [(3, .int _), (2, .int _), (5, .int _), (4, .int _), (0, .ref _), (1, .int _)] ([]) _ _
                refine go_iinc dX8_call_99 rfl (nI_1 k) (Nat.lt_of_lt_of_le (Nat.lt_succ_self _) (Nat.le_of_ble_eq_true rfl)) ?_
                show bw_go _ _ _ _ _ _ _ 102 [(4, .int _), (3, .int _), (2, .int _), (5, .int _), (0, .ref _), (1, .int _)] ([]) _ _
                refine go_goto (pc' := 30) dX8_call_102 rfl ?_
                refine go_ls [(4, .int _), (3, .int _), (2, .int _), (0, .ref _), (1, .int _)] (by show List.Nodup ([4, 3, 2, 0, 1] : List Nat); decide) (by show List.Nodup ([4, 3, 2, 5, 0, 1] : List Nat); decide) (le_cons rfl (le_cons rfl (le_cons rfl (le_cons rfl (le_cons rfl (le_nil _)))))) ?_
                have e0 : mcl S y (k + 1) = if (sho (taC (nowC S)) k).testBit y = true ∧ 10 * bc k + bc (sho (taC (nowC S)) k) < (mcl S y k).2 then (some k, 10 * bc k + bc (sho (taC (nowC S)) k)) else mcl S y k := rfl
                have b1 := bal_b (taC (nowC S)) k y (cN (nowC S))
                have t_9 := ofI_t (z := bal (taC (nowC S)) k y (cN (nowC S))) (by omega) (by omega)
                have l_0 := i_0
                have hsb := sho_bit (A := taC (nowC S)) (s := k) hy
                have b2 := bc_lt k
                have b3 := bc_lt (sho (taC (nowC S)) k)
                have b4 := (mcl_b (S := S) hy (k := k) (by omega)).1
                have t_1 := nI_toInt (n := 10 * bc k + bc (sho (taC (nowC S)) k)) (by omega)
                have t_2 := nI_toInt (n := (mcl S y k).2) (by omega)
                try simp only [i_le] at c_50
                try simp only [i_le] at c_76
                try simp only [i_le] at c_89
                first
                | (exfalso; omega)
                | (rw [if_neg (fun z => by rw [hsb] at z; have z2 := of_decide_eq_true z.1; have z3 : 0 < bal (taC (nowC S)) k y (cN (nowC S)) := z2; omega)] at e0; rw [e0] at K; exact K)
                | (rw [if_neg (fun z => by have := z.2; omega)] at e0; rw [e0] at K; exact K)
                | (rw [if_pos ⟨by rw [hsb]; exact decide_eq_true (show 0 < bal (taC (nowC S)) k y (cN (nowC S)) by omega), by omega⟩] at e0; rw [e0] at K; exact K)
              · -- ge at 89: no
                show bw_go _ _ _ _ _ _ _ 92 [(2, .int _), (5, .int _), (4, .int _), (3, .int _), (0, .ref _), (1, .int _)] ([]) _ _
                refine go_iload dX8_call_92 rfl ?_
                refine go_goto (pc' := 98) dX8_call_94 rfl ?_
                show bw_go _ _ _ _ _ _ _ 98 [(2, .int _), (5, .int _), (4, .int _), (3, .int _), (0, .ref _), (1, .int _)] ((.int _) :: []) _ _
                refine go_istore_n dX8_call_98 (Nat.lt_of_lt_of_le (Nat.lt_succ_self _) (Nat.le_of_ble_eq_true rfl)) ?_
                show bw_go _ _ _ _ _ _ _ 99 [(3, .int _), (2, .int _), (5, .int _), (4, .int _), (0, .ref _), (1, .int _)] ([]) _ _
                refine go_iinc dX8_call_99 rfl (nI_1 k) (Nat.lt_of_lt_of_le (Nat.lt_succ_self _) (Nat.le_of_ble_eq_true rfl)) ?_
                show bw_go _ _ _ _ _ _ _ 102 [(4, .int _), (3, .int _), (2, .int _), (5, .int _), (0, .ref _), (1, .int _)] ([]) _ _
                refine go_goto (pc' := 30) dX8_call_102 rfl ?_
                refine go_ls [(4, .int _), (3, .int _), (2, .int _), (0, .ref _), (1, .int _)] (by show List.Nodup ([4, 3, 2, 0, 1] : List Nat); decide) (by show List.Nodup ([4, 3, 2, 5, 0, 1] : List Nat); decide) (le_cons rfl (le_cons rfl (le_cons rfl (le_cons rfl (le_cons rfl (le_nil _)))))) ?_
                have e0 : mcl S y (k + 1) = if (sho (taC (nowC S)) k).testBit y = true ∧ 10 * bc k + bc (sho (taC (nowC S)) k) < (mcl S y k).2 then (some k, 10 * bc k + bc (sho (taC (nowC S)) k)) else mcl S y k := rfl
                have b1 := bal_b (taC (nowC S)) k y (cN (nowC S))
                have t_9 := ofI_t (z := bal (taC (nowC S)) k y (cN (nowC S))) (by omega) (by omega)
                have l_0 := i_0
                have hsb := sho_bit (A := taC (nowC S)) (s := k) hy
                have b2 := bc_lt k
                have b3 := bc_lt (sho (taC (nowC S)) k)
                have b4 := (mcl_b (S := S) hy (k := k) (by omega)).1
                have t_1 := nI_toInt (n := 10 * bc k + bc (sho (taC (nowC S)) k)) (by omega)
                have t_2 := nI_toInt (n := (mcl S y k).2) (by omega)
                try simp only [i_le] at c_50
                try simp only [i_le] at c_76
                try simp only [i_le] at c_89
                first
                | (exfalso; omega)
                | (rw [if_neg (fun z => by rw [hsb] at z; have z2 := of_decide_eq_true z.1; have z3 : 0 < bal (taC (nowC S)) k y (cN (nowC S)) := z2; omega)] at e0; rw [e0] at K; exact K)
                | (rw [if_neg (fun z => by have := z.2; omega)] at e0; rw [e0] at K; exact K)
                | (rw [if_pos ⟨by rw [hsb]; exact decide_eq_true (show 0 < bal (taC (nowC S)) k y (cN (nowC S)) by omega), by omega⟩] at e0; rw [e0] at K; exact K)
            · -- ge at 76: no
              show bw_go _ _ _ _ _ _ _ 79 [(5, .int _), (4, .int _), (3, .int _), (2, .int _), (0, .ref _), (1, .int _)] ([]) _ _
              refine go_iload dX8_call_79 rfl ?_
              refine go_goto (pc' := 85) dX8_call_81 rfl ?_
              show bw_go _ _ _ _ _ _ _ 85 [(5, .int _), (4, .int _), (3, .int _), (2, .int _), (0, .ref _), (1, .int _)] ((.int _) :: []) _ _
              refine go_istore_n dX8_call_85 (Nat.lt_of_lt_of_le (Nat.lt_succ_self _) (Nat.le_of_ble_eq_true rfl)) ?_
              show bw_go _ _ _ _ _ _ _ 86 [(2, .int _), (5, .int _), (4, .int _), (3, .int _), (0, .ref _), (1, .int _)] ([]) _ _
              refine go_iload dX8_call_86 rfl ?_
              refine go_iload_n dX8_call_88 rfl ?_
              refine go_icmp_ge (pc' := 97) dX8_call_89 rfl (fun c_89 => ?_) (fun c_89 => ?_)
              · -- ge at 89: yes
                show bw_go _ _ _ _ _ _ _ 97 [(2, .int _), (5, .int _), (4, .int _), (3, .int _), (0, .ref _), (1, .int _)] ([]) _ _
                refine go_iload_n dX8_call_97 rfl ?_
                refine go_istore_n dX8_call_98 (Nat.lt_of_lt_of_le (Nat.lt_succ_self _) (Nat.le_of_ble_eq_true rfl)) ?_
                show bw_go _ _ _ _ _ _ _ 99 [(3, .int _), (2, .int _), (5, .int _), (4, .int _), (0, .ref _), (1, .int _)] ([]) _ _
                refine go_iinc dX8_call_99 rfl (nI_1 k) (Nat.lt_of_lt_of_le (Nat.lt_succ_self _) (Nat.le_of_ble_eq_true rfl)) ?_
                show bw_go _ _ _ _ _ _ _ 102 [(4, .int _), (3, .int _), (2, .int _), (5, .int _), (0, .ref _), (1, .int _)] ([]) _ _
                refine go_goto (pc' := 30) dX8_call_102 rfl ?_
                refine go_ls [(4, .int _), (3, .int _), (2, .int _), (0, .ref _), (1, .int _)] (by show List.Nodup ([4, 3, 2, 0, 1] : List Nat); decide) (by show List.Nodup ([4, 3, 2, 5, 0, 1] : List Nat); decide) (le_cons rfl (le_cons rfl (le_cons rfl (le_cons rfl (le_cons rfl (le_nil _)))))) ?_
                have e0 : mcl S y (k + 1) = if (sho (taC (nowC S)) k).testBit y = true ∧ 10 * bc k + bc (sho (taC (nowC S)) k) < (mcl S y k).2 then (some k, 10 * bc k + bc (sho (taC (nowC S)) k)) else mcl S y k := rfl
                have b1 := bal_b (taC (nowC S)) k y (cN (nowC S))
                have t_9 := ofI_t (z := bal (taC (nowC S)) k y (cN (nowC S))) (by omega) (by omega)
                have l_0 := i_0
                have hsb := sho_bit (A := taC (nowC S)) (s := k) hy
                have b2 := bc_lt k
                have b3 := bc_lt (sho (taC (nowC S)) k)
                have b4 := (mcl_b (S := S) hy (k := k) (by omega)).1
                have t_1 := nI_toInt (n := 10 * bc k + bc (sho (taC (nowC S)) k)) (by omega)
                have t_2 := nI_toInt (n := (mcl S y k).2) (by omega)
                try simp only [i_le] at c_50
                try simp only [i_le] at c_76
                try simp only [i_le] at c_89
                first
                | (exfalso; omega)
                | (rw [if_neg (fun z => by rw [hsb] at z; have z2 := of_decide_eq_true z.1; have z3 : 0 < bal (taC (nowC S)) k y (cN (nowC S)) := z2; omega)] at e0; rw [e0] at K; exact K)
                | (rw [if_neg (fun z => by have := z.2; omega)] at e0; rw [e0] at K; exact K)
                | (rw [if_pos ⟨by rw [hsb]; exact decide_eq_true (show 0 < bal (taC (nowC S)) k y (cN (nowC S)) by omega), by omega⟩] at e0; rw [e0] at K; exact K)
              · -- ge at 89: no
                show bw_go _ _ _ _ _ _ _ 92 [(2, .int _), (5, .int _), (4, .int _), (3, .int _), (0, .ref _), (1, .int _)] ([]) _ _
                refine go_iload dX8_call_92 rfl ?_
                refine go_goto (pc' := 98) dX8_call_94 rfl ?_
                show bw_go _ _ _ _ _ _ _ 98 [(2, .int _), (5, .int _), (4, .int _), (3, .int _), (0, .ref _), (1, .int _)] ((.int _) :: []) _ _
                refine go_istore_n dX8_call_98 (Nat.lt_of_lt_of_le (Nat.lt_succ_self _) (Nat.le_of_ble_eq_true rfl)) ?_
                show bw_go _ _ _ _ _ _ _ 99 [(3, .int _), (2, .int _), (5, .int _), (4, .int _), (0, .ref _), (1, .int _)] ([]) _ _
                refine go_iinc dX8_call_99 rfl (nI_1 k) (Nat.lt_of_lt_of_le (Nat.lt_succ_self _) (Nat.le_of_ble_eq_true rfl)) ?_
                show bw_go _ _ _ _ _ _ _ 102 [(4, .int _), (3, .int _), (2, .int _), (5, .int _), (0, .ref _), (1, .int _)] ([]) _ _
                refine go_goto (pc' := 30) dX8_call_102 rfl ?_
                refine go_ls [(4, .int _), (3, .int _), (2, .int _), (0, .ref _), (1, .int _)] (by show List.Nodup ([4, 3, 2, 0, 1] : List Nat); decide) (by show List.Nodup ([4, 3, 2, 5, 0, 1] : List Nat); decide) (le_cons rfl (le_cons rfl (le_cons rfl (le_cons rfl (le_cons rfl (le_nil _)))))) ?_
                have e0 : mcl S y (k + 1) = if (sho (taC (nowC S)) k).testBit y = true ∧ 10 * bc k + bc (sho (taC (nowC S)) k) < (mcl S y k).2 then (some k, 10 * bc k + bc (sho (taC (nowC S)) k)) else mcl S y k := rfl
                have b1 := bal_b (taC (nowC S)) k y (cN (nowC S))
                have t_9 := ofI_t (z := bal (taC (nowC S)) k y (cN (nowC S))) (by omega) (by omega)
                have l_0 := i_0
                have hsb := sho_bit (A := taC (nowC S)) (s := k) hy
                have b2 := bc_lt k
                have b3 := bc_lt (sho (taC (nowC S)) k)
                have b4 := (mcl_b (S := S) hy (k := k) (by omega)).1
                have t_1 := nI_toInt (n := 10 * bc k + bc (sho (taC (nowC S)) k)) (by omega)
                have t_2 := nI_toInt (n := (mcl S y k).2) (by omega)
                try simp only [i_le] at c_50
                try simp only [i_le] at c_76
                try simp only [i_le] at c_89
                first
                | (exfalso; omega)
                | (rw [if_neg (fun z => by rw [hsb] at z; have z2 := of_decide_eq_true z.1; have z3 : 0 < bal (taC (nowC S)) k y (cN (nowC S)) := z2; omega)] at e0; rw [e0] at K; exact K)
                | (rw [if_neg (fun z => by have := z.2; omega)] at e0; rw [e0] at K; exact K)
                | (rw [if_pos ⟨by rw [hsb]; exact decide_eq_true (show 0 < bal (taC (nowC S)) k y (cN (nowC S)) by omega), by omega⟩] at e0; rw [e0] at K; exact K)
      · -- behind the last
        show bw_go _ _ _ _ _ _ _ 30 [(4, .int _), (3, .int _), (2, .int _), (0, .ref _), (1, .int _)] ([]) _ _
        refine go_iload dX8_call_30 rfl ?_
        refine go_aload_n dX8_call_32 rfl ?_
        refine go_cv (as := []) 0 dX8_call_33 mt_8_194 (Or.inl rfl) rfl rfl (ms_lt hm.1 (by decide)) hm.1.1.2 (Nat.le_of_ble_eq_true rfl) (Nat.le_of_ble_eq_true rfl) (Nat.le_of_ble_eq_true rfl) (Nat.le_of_ble_eq_true rfl) (Nat.le_of_ble_eq_true rfl) ?_
        refine me_X8_allBears hm ?_
        show bw_go _ _ _ _ _ _ _ 36 [(4, .int _), (3, .int _), (2, .int _), (0, .ref _), (1, .int _)] ((.int _) :: (.int _) :: []) _ _
        refine go_icmp_gt (pc' := 105) dX8_call_36 rfl (fun c_36 => ?_) (fun c_36 => ?_)
        · -- gt at 36: yes
          have hcl := mcl_cal (S := S) (x := y) hy (2 ^ cN (nowC S) - 1)
          rw [show 2 ^ cN (nowC S) - 1 + 1 = 2 ^ cN (nowC S) by omega] at hcl
          rcases hcl with ⟨h1, h2, h3, h4⟩ | ⟨b, h1, h2, h2b, h3, h4, h5⟩
          · rw [h1, show mtI none = -9 from rfl]
            refine go_iload_n dX8_call_105 rfl ?_
            refine go_bipush (-9) dX8_call_106 rfl ?_
            refine go_icmp_ne (pc' := 115) dX8_call_108 rfl (fun c_108 => ?_) (fun c_108 => ?_)
            · -- ne at 108: yes
              exact absurd rfl c_108
            · -- ne at 108: no
              show bw_go _ _ _ _ _ _ _ 111 [(4, .int _), (3, .int _), (2, .int _), (0, .ref _), (1, .int _)] ([]) _ _
              refine go_iconst (0) dX8_call_111 rfl ?_
              refine go_goto (pc' := 120) dX8_call_112 rfl ?_
              show bw_go _ _ _ _ _ _ _ 120 [(4, .int _), (3, .int _), (2, .int _), (0, .ref _), (1, .int _)] ((.int _) :: []) _ _
              refine go_istore dX8_call_120 (Nat.lt_of_lt_of_le (Nat.lt_succ_self _) (Nat.le_of_ble_eq_true rfl)) ?_
              show bw_go _ _ _ _ _ _ _ 122 [(4, .int _), (3, .int _), (2, .int _), (0, .ref _), (1, .int _)] ([]) _ _
              refine go_iload_n dX8_call_122 rfl ?_
              refine go_bipush (-9) dX8_call_123 rfl ?_
              refine go_icmp_ne (pc' := 133) dX8_call_125 rfl (fun c_125 => ?_) (fun c_125 => ?_)
              · -- ne at 125: yes
                exact absurd rfl c_125
              · -- ne at 125: no
                show bw_go _ _ _ _ _ _ _ 128 [(4, .int _), (3, .int _), (2, .int _), (0, .ref _), (1, .int _)] ([]) _ _
                refine go_bipush (-9) dX8_call_128 rfl ?_
                refine go_goto (pc' := 137) dX8_call_130 rfl ?_
                show bw_go _ _ _ _ _ _ _ 137 [(4, .int _), (3, .int _), (2, .int _), (0, .ref _), (1, .int _)] ((.int _) :: []) _ _
                refine go_iret dX8_call_137 rfl rfl ?_
                refine q_m hQ ?_ hm (frX_r h)
                unfold yCall
                rw [if_pos (show isn (nI y) 6 = true from c_4), if_neg h0, rn_n (by omega), if_pos h2]
          · rw [h1, show mtI (some b) = nI b from rfl]
            refine go_iload_n dX8_call_105 rfl ?_
            refine go_bipush (-9) dX8_call_106 rfl ?_
            refine go_icmp_ne (pc' := 115) dX8_call_108 rfl (fun c_108 => ?_) (fun c_108 => ?_)
            · -- ne at 108: yes
              show bw_go _ _ _ _ _ _ _ 115 [(4, .int _), (3, .int _), (2, .int _), (0, .ref _), (1, .int _)] ([]) _ _
              refine go_aload_n dX8_call_115 rfl ?_
              refine go_iload_n dX8_call_116 rfl ?_
              refine go_cv (as := [.int _]) 0 dX8_call_117 mt_8_87 (Or.inl rfl) rfl rfl (ms_lt hm.1 (by decide)) hm.1.1.2 (Nat.le_of_ble_eq_true rfl) (Nat.le_of_ble_eq_true rfl) (Nat.le_of_ble_eq_true rfl) (Nat.le_of_ble_eq_true rfl) (Nat.le_of_ble_eq_true rfl) ?_
              refine me_X8_asks hm (fun g hg hf => ?_)
              show bw_go _ _ _ _ _ _ _ 120 [(4, .int _), (3, .int _), (2, .int _), (0, .ref _), (1, .int _)] ((.int _) :: []) _ _
              refine go_istore dX8_call_120 (Nat.lt_of_lt_of_le (Nat.lt_succ_self _) (Nat.le_of_ble_eq_true rfl)) ?_
              show bw_go _ _ _ _ _ _ _ 122 [(4, .int _), (3, .int _), (2, .int _), (0, .ref _), (1, .int _)] ([]) _ _
              refine go_iload_n dX8_call_122 rfl ?_
              refine go_bipush (-9) dX8_call_123 rfl ?_
              refine go_icmp_ne (pc' := 133) dX8_call_125 rfl (fun c_125 => ?_) (fun c_125 => ?_)
              · -- ne at 125: yes
                show bw_go _ _ _ _ _ _ _ 133 [(4, .int _), (3, .int _), (2, .int _), (0, .ref _), (1, .int _)] ([]) _ _
                refine go_iload_n dX8_call_133 rfl ?_
                refine go_cs (as := [.int _]) 0 dX8_call_134 rfl rfl mt_8_166 (Nat.le_of_ble_eq_true rfl) rfl rfl (Nat.le_of_ble_eq_true rfl) (Nat.le_of_ble_eq_true rfl) (Nat.le_of_ble_eq_true rfl) (Nat.le_of_ble_eq_true rfl) ?_
                refine me_X8_bits (by omega) ?_
                show bw_go _ _ _ _ _ _ _ 137 [(4, .int _), (3, .int _), (2, .int _), (0, .ref _), (1, .int _)] ((.int _) :: []) _ _
                refine go_iret dX8_call_137 rfl rfl ?_
                refine q_m hQ ?_ hg hf
                unfold yCall
                rw [if_pos (show isn (nI y) 6 = true from c_4), if_neg h0, rn_n (by omega), h3, if_neg (by omega)]
              · -- ne at 125: no
                exfalso; have z : nI b = -9 := Decidable.of_not_not c_125; have t_0 := nI_toInt (n := b) (by omega); rw [z, show (-9 : Int32).toInt = -9 from rfl] at t_0; omega
            · -- ne at 108: no
              exfalso; have z : nI b = -9 := Decidable.of_not_not c_108; have t_0 := nI_toInt (n := b) (by omega); rw [z, show (-9 : Int32).toInt = -9 from rfl] at t_0; omega
        · -- gt at 36: no
          exfalso; have t_0 := nI_toInt (n := 2 ^ cN (nowC S)) (by omega); have t_1 := nI_toInt (n := 2 ^ cN (nowC S) - 1) (by omega); simp only [i_le, i_lt, i_eq, bi_eq] at c_36; omega
    · -- ne at 15: no
      show bw_go _ _ _ _ _ _ _ 18 [(0, .ref _), (1, .int _)] ([]) _ _
      refine go_bipush (-4) dX8_call_18 rfl ?_
      refine go_iret dX8_call_20 rfl rfl ?_
      refine q_m hQ ?_ hm (frX_r h)
      unfold yCall
      rw [if_pos (show isn (nI y) 6 = true from c_4), if_pos ((nI_eq (a := cN (nowC S)) (b := 0) (by omega) (by omega)).mp (Decidable.of_not_not c_15))]
  · -- ne at 4: no
    show bw_go _ _ _ _ _ _ _ 7 [(0, .ref _), (1, .int _)] ([]) _ _
    refine go_iconst (-1) dX8_call_7 rfl ?_
    refine go_iret dX8_call_8 rfl rfl ?_
    refine q_m hQ ?_ hm (frX_r h)
    unfold yCall
    rw [if_neg (fun z => Bool.noConfusion ((show isn x 6 = false from c_4).symm.trans z))]
