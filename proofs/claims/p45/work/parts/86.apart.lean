/-! the law: who are left out -/
theorem cla_s (A : TA) (i j : Nat) : cla A i j = cla A j i := by
  unfold cla
  rw [Nat.or_comm, Nat.and_comm (A.2.2 i), Nat.and_comm (A.2.1 i)]
theorem zr_on {C : CT} {i t : Nat} (h : tlC C i < 64) (h1 : (onC C i).testBit t = true) (h2 : (zrC C i).testBit t = true) : False := by
  have h6 : t < 6 := Nat.lt_of_not_le (fun z => by
    have e := on_sub h1
    rw [Nat.testBit_lt_two_pow (Nat.lt_of_lt_of_le h (Nat.pow_le_pow_right (n := 2) (by decide) z))] at e
    cases e)
  rw [zr_tb h6, h1] at h2
  cases hh : (tlC C i).testBit t <;> rw [hh] at h2 <;> cases h2
theorem zr_tl {C : CT} {i t : Nat} (h2 : (zrC C i).testBit t = true) : (tlC C i).testBit t = true := by
  unfold zrC at h2
  rw [Nat.testBit_and, Bool.and_eq_true] at h2
  exact h2.1
theorem cla_tb {C : CT} {i j t : Nat} : (cla (taC C) i j).testBit t = true ↔ ((onC C i).testBit t = true ∧ (zrC C j).testBit t = true) ∨ ((zrC C i).testBit t = true ∧ (onC C j).testBit t = true) := by
  show ((onC C i &&& zrC C j) ||| (zrC C i &&& onC C j)).testBit t = true ↔ _
  rw [Nat.testBit_or, Nat.testBit_and, Nat.testBit_and, Bool.or_eq_true, Bool.and_eq_true, Bool.and_eq_true]
theorem cla_lt {C : CT} (hk : co_k C) {i j : Nat} (hi : i < cN C) (hj : j < cN C) : cla (taC C) i j < 64 := by
  have h1 := ta_lt hk i hi
  have h2 := ta_lt hk j hj
  unfold cla
  exact or_lt (and_lt h1.1) (and_lt h1.2)
theorem cla_sub {C : CT} {i j : Nat} : (tlC C i &&& tlC C j) &&& cla (taC C) i j = cla (taC C) i j := by
  refine sub_m (a := cla (taC C) i j) (fun t h => ?_) (Nat.and_self _)
  rw [Nat.testBit_and]
  rcases cla_tb.mp h with ⟨a, b⟩ | ⟨a, b⟩
  · rw [on_sub a, zr_tl b]; rfl
  · rw [zr_tl a, on_sub b]; rfl
theorem tb_0 {x : Nat} (h : ∀ t, ¬ x.testBit t = true) : x = 0 := by
  apply Nat.eq_of_testBit_eq
  intro t
  rw [Nat.zero_testBit]
  cases e : x.testBit t with
  | false => rfl
  | true => exact absurd e (h t)
theorem riv_tb {C : CT} {s : Nat} : riv (taC C) s = false ↔ ∀ t, ¬ ((∃ i, i < cN C ∧ s.testBit i = true ∧ (onC C i).testBit t = true) ∧ ∃ j, j < cN C ∧ s.testBit j = true ∧ (zrC C j).testBit t = true) := by
  have q : ∀ (f : Nat → Nat) (t : Nat), (orf (fun i => if s.testBit i = true then f i else 0) (cN C)).testBit t = true ↔ ∃ i, i < cN C ∧ s.testBit i = true ∧ (f i).testBit t = true := fun f t => by
    rw [orf_tb]
    constructor
    · rintro ⟨i, h1, h2⟩
      by_cases h3 : s.testBit i = true
      · rw [if_pos h3] at h2; exact ⟨i, h1, h3, h2⟩
      · rw [if_neg h3, Nat.zero_testBit] at h2; cases h2
    · rintro ⟨i, h1, h2, h3⟩
      exact ⟨i, h1, by rw [if_pos h2]; exact h3⟩
  unfold riv
  rw [decide_eq_false_iff_not]
  constructor
  · intro h t ht
    have h0 : orf (fun i => if s.testBit i = true then onC C i else 0) (cN C) &&& orf (fun i => if s.testBit i = true then zrC C i else 0) (cN C) = 0 := Decidable.of_not_not h
    have h1 := congrArg (fun x => x.testBit t) h0
    have h1 : (orf (fun i => if s.testBit i = true then onC C i else 0) (cN C) &&& orf (fun i => if s.testBit i = true then zrC C i else 0) (cN C)).testBit t = (0 : Nat).testBit t := h1
    rw [Nat.testBit_and, Nat.zero_testBit, (q (onC C) t).mpr ht.1, (q (zrC C) t).mpr ht.2] at h1
    cases h1
  · intro h h2
    refine h2 (tb_0 (fun t ht => ?_))
    have ht : (orf (fun i => if s.testBit i = true then onC C i else 0) (cN C) &&& orf (fun i => if s.testBit i = true then zrC C i else 0) (cN C)).testBit t = true := ht
    rw [Nat.testBit_and, Bool.and_eq_true] at ht
    exact h t ⟨(q _ t).mp ht.1, (q _ t).mp ht.2⟩
theorem riv_no {C : CT} {s i j : Nat} (h : riv (taC C) s = false) (hi : i < cN C) (hj : j < cN C) (si : s.testBit i = true) (sj : s.testBit j = true) : cla (taC C) i j = 0 := by
  rw [riv_tb] at h
  refine tb_0 (fun t ht => ?_)
  rcases cla_tb.mp ht with ⟨a, b⟩ | ⟨a, b⟩
  · exact h t ⟨⟨i, hi, si, a⟩, ⟨j, hj, sj, b⟩⟩
  · exact h t ⟨⟨j, hj, sj, b⟩, ⟨i, hi, si, a⟩⟩
theorem riv_yes {C : CT} (hk : co_k C) {s : Nat} (h : ∀ i j, i < cN C → j < i → s.testBit i = true → s.testBit j = true → cla (taC C) i j = 0) : riv (taC C) s = false := by
  rw [riv_tb]
  rintro t ⟨⟨i, hi, si, a⟩, ⟨j, hj, sj, b⟩⟩
  by_cases e : i = j
  · subst e
    exact zr_on (tlC_lt hk hi) a b
  · have h1 : (cla (taC C) i j).testBit t = true := cla_tb.mpr (Or.inl ⟨a, b⟩)
    rcases Nat.lt_or_gt_of_ne e with h2 | h2
    · rw [cla_s, h j i hj h2 sj si, Nat.zero_testBit] at h1; cases h1
    · rw [h i j hi h2 si sj, Nat.zero_testBit] at h1; cases h1
theorem rest_tb {n b i : Nat} (hn : n ≤ 6) (hi : i < n) : ((2 ^ n - 1) &&& (63 ^^^ b)).testBit i = !b.testBit i := by
  rw [Nat.testBit_and, all_tb hi, Nat.testBit_xor, b63 i (by omega)]
  cases b.testBit i <;> rfl
theorem one_left : ∀ n, n ≤ 6 → 1 ≤ n → (2 ^ n - 1) &&& (63 ^^^ ((2 ^ n - 1) &&& 62)) = 1 ∧ bc ((2 ^ n - 1) &&& 62) + 1 = n ∧ (2 ^ n - 1) &&& 62 < 2 ^ n := by decide
theorem all_left : ∀ n, n ≤ 6 → (2 ^ n - 1) &&& (63 ^^^ 0) = 2 ^ n - 1 := by decide
set_option maxRecDepth 100000 in
set_option maxHeartbeats 4000000 in
theorem law_H {X : Nat × (Nat → Int32)} {Q : Option Value → bw_H → Prop} {h : bw_H} {S : ST} {W T0 : RW} {B : AC} {K0 : Nat → Option AC} {F T : Nat → Int32} {x : Nat} (hx : LX 2 75 h S (A2 F T) W T0 B K0) (hf : LF F B) (hT : ∀ j, j < cN (cc B) → T j = nI (tlC (cc B) j)) (K9 : ∀ G S', LX 2 75 G S' (A2 F T) W T0 B K0 → bw_go X 12 9 48 false (some .boolean) cL_law 1302 [(0, .retAddr 1), (1, .ref (0)), (2, .ref (62)), (3, .int (nI (cN (cc B)))), (4, .int (nI (2 ^ cN (cc B) - 1))), (5, .int (nI (cT B.1))), (6, .int (nI (cD (cc B)))), (7, .int (nI (cW (cc B)))), (8, .int (nI (sho (taC (cc B)) (2 ^ cN (cc B) - 1)))), (9, .int (nI (smN (cR (cc B)) (cN (cc B))))), (11, .ref (76)), (12, .int (nI x))] [] G Q) : bw_go X 12 9 48 false (some .boolean) cL_law 1131 [(0, .retAddr 1), (1, .ref (0)), (2, .ref (62)), (3, .int (nI (cN (cc B)))), (4, .int (nI (2 ^ cN (cc B) - 1))), (5, .int (nI (cT B.1))), (6, .int (nI (cD (cc B)))), (7, .int (nI (cW (cc B)))), (8, .int (nI (sho (taC (cc B)) (2 ^ cN (cc B) - 1)))), (9, .int (nI (smN (cR (cc B)) (cN (cc B))))), (11, .ref (76)), (12, .int (nI x))] [] h Q := by
  have hk := lx_k hx
  have hN := hk.1
  have hp := p2N hN
  have hp1 : 1 ≤ 2 ^ cN (cc B) := Nat.one_le_two_pow
  have hn1 := hf.1.2.1
  show bw_go _ _ _ _ _ _ _ 1131 [(0, .retAddr _), (1, .ref _), (2, .ref _), (3, .int _), (4, .int _), (5, .int _), (6, .int _), (7, .int _), (8, .int _), (9, .int _), (11, .ref _), (12, .int _)] ([]) _ _
  refine go_aload_n dL_law_1131 rfl ?_
  refine go_cv (as := []) 4 dL_law_1132 mt_9_102 (Or.inl rfl) rfl rfl (lb_lt hx.1) (lb_k hx.1) (Nat.le_of_ble_eq_true rfl) (Nat.le_of_ble_eq_true rfl) (Nat.le_of_ble_eq_true rfl) (Nat.le_of_ble_eq_true rfl) (Nat.le_of_ble_eq_true rfl) ?_
  refine lx_apart hx (by omega) (fun G S' b hx hq hb hr hmin => ?_)
  have h64 : b < 64 := by omega
  have hb7 := bc_lt b
  have hbN : bc b < cN (cc B) := by
    obtain ⟨o1, o2, o3⟩ := one_left (cN (cc B)) hN hn1
    have h9 := hmin _ o3 (by
      rw [o1]
      refine riv_yes hk (fun i j q1 q2 q3 q4 => ?_)
      have q5 : i = 0 := by
        have q6 := p2_tb 0 i
        rw [show (2 : Nat) ^ 0 = 1 from rfl, q3] at q6
        exact (of_decide_eq_true q6.symm).symm
      omega)
    omega
  show bw_go _ _ _ _ _ _ _ 1135 [(0, .retAddr _), (1, .ref _), (2, .ref _), (3, .int _), (4, .int _), (5, .int _), (6, .int _), (7, .int _), (8, .int _), (9, .int _), (11, .ref _), (12, .int _)] ((.int _) :: []) _ _
  refine go_istore dL_law_1135 (Nat.lt_of_lt_of_le (Nat.lt_succ_self _) (Nat.le_of_ble_eq_true rfl)) ?_
  show bw_go _ _ _ _ _ _ _ 1137 [(22, .int _), (0, .retAddr _), (1, .ref _), (2, .ref _), (3, .int _), (4, .int _), (5, .int _), (6, .int _), (7, .int _), (8, .int _), (9, .int _), (11, .ref _), (12, .int _)] ([]) _ _
  refine go_aload_n dL_law_1137 rfl ?_
  refine go_cv (as := []) 0 dL_law_1138 mt_9_42 (Or.inl rfl) rfl rfl (lb_lt hx.1) (lb_k hx.1) (Nat.le_of_ble_eq_true rfl) (Nat.le_of_ble_eq_true rfl) (Nat.le_of_ble_eq_true rfl) (Nat.le_of_ble_eq_true rfl) (Nat.le_of_ble_eq_true rfl) ?_
  refine lx_asked hx (fun G hx => ?_)
  rw [hq]
  show bw_go _ _ _ _ _ _ _ 1141 [(22, .int _), (0, .retAddr _), (1, .ref _), (2, .ref _), (3, .int _), (4, .int _), (5, .int _), (6, .int _), (7, .int _), (8, .int _), (9, .int _), (11, .ref _), (12, .int _)] ((.int _) :: []) _ _
  refine go_istore dL_law_1141 (Nat.lt_of_lt_of_le (Nat.lt_succ_self _) (Nat.le_of_ble_eq_true rfl)) ?_
  show bw_go _ _ _ _ _ _ _ 1143 [(23, .int _), (22, .int _), (0, .retAddr _), (1, .ref _), (2, .ref _), (3, .int _), (4, .int _), (5, .int _), (6, .int _), (7, .int _), (8, .int _), (9, .int _), (11, .ref _), (12, .int _)] ([]) _ _
  refine go_iconst (0) dL_law_1143 rfl ?_
  refine go_istore dL_law_1144 (Nat.lt_of_lt_of_le (Nat.lt_succ_self _) (Nat.le_of_ble_eq_true rfl)) ?_
  show bw_go _ _ _ _ _ _ _ 1146 [(24, .int _), (23, .int _), (22, .int _), (0, .retAddr _), (1, .ref _), (2, .ref _), (3, .int _), (4, .int _), (5, .int _), (6, .int _), (7, .int _), (8, .int _), (9, .int _), (11, .ref _), (12, .int _)] ([]) _ _
  refine go_iconst (0) dL_law_1146 rfl ?_
  refine go_istore dL_law_1147 (Nat.lt_of_lt_of_le (Nat.lt_succ_self _) (Nat.le_of_ble_eq_true rfl)) ?_
  show bw_go _ _ _ _ _ _ _ 1149 [(25, .int _), (24, .int _), (23, .int _), (22, .int _), (0, .retAddr _), (1, .ref _), (2, .ref _), (3, .int _), (4, .int _), (5, .int _), (6, .int _), (7, .int _), (8, .int _), (9, .int _), (11, .ref _), (12, .int _)] ([]) _ _
  refine go_ls [(0, .retAddr _), (1, .ref _), (2, .ref _), (3, .int _), (4, .int _), (5, .int _), (6, .int _), (7, .int _), (8, .int _), (9, .int _), (11, .ref _), (12, .int _), (22, .int _), (23, .int _), (24, .int _), (25, .int _)] (by show List.Nodup ([0, 1, 2, 3, 4, 5, 6, 7, 8, 9, 11, 12, 22, 23, 24, 25] : List Nat); decide) (by show List.Nodup ([25, 24, 23, 22, 0, 1, 2, 3, 4, 5, 6, 7, 8, 9, 11, 12] : List Nat); decide) (le_cons rfl (le_cons rfl (le_cons rfl (le_cons rfl (le_cons rfl (le_cons rfl (le_cons rfl (le_cons rfl (le_cons rfl (le_cons rfl (le_cons rfl (le_cons rfl (le_cons rfl (le_cons rfl (le_cons rfl (le_cons rfl (le_nil _))))))))))))))))) ?_
  refine go_for (P := fun i => ∀ (g : bw_H) (S : ST) (p : Nat), (LX 2 75 g S (A2 F T) W T0 B K0 ∧ p ≤ 6 * i ∧ (p = 0 ↔ ∀ a c, a < i → c < a → cla (taC (cc B)) a c = 0)) → bw_go X 12 9 48 false (some .boolean) cL_law 1149 [(0, .retAddr 1), (1, .ref (0)), (2, .ref (62)), (3, .int (nI (cN (cc B)))), (4, .int (nI (2 ^ cN (cc B) - 1))), (5, .int (nI (cT B.1))), (6, .int (nI (cD (cc B)))), (7, .int (nI (cW (cc B)))), (8, .int (nI (sho (taC (cc B)) (2 ^ cN (cc B) - 1)))), (9, .int (nI (smN (cR (cc B)) (cN (cc B))))), (11, .ref (76)), (12, .int (nI x)), (22, .int (nI (bc b))), (23, .int (nI b)), (24, .int (nI p)), (25, .int (nI i))] [] g Q) (N := (cN (cc B))) (fun i hi KI => ?_) ?_ (0) (Nat.zero_le _) _ _ 0 ⟨hx, by omega, ⟨fun _ a c q1 _ => absurd q1 (Nat.not_lt_zero a), fun _ => rfl⟩⟩
  · -- a turn
    intro g S p hv
    obtain ⟨hx, h2, h3⟩ := hv
    show bw_go _ _ _ _ _ _ _ 1149 [(0, .retAddr _), (1, .ref _), (2, .ref _), (3, .int _), (4, .int _), (5, .int _), (6, .int _), (7, .int _), (8, .int _), (9, .int _), (11, .ref _), (12, .int _), (22, .int _), (23, .int _), (24, .int _), (25, .int _)] ([]) _ _
    refine go_iload dL_law_1149 rfl ?_
    refine go_iload_n dL_law_1151 rfl ?_
    refine go_icmp_ge (pc' := 1261) dL_law_1152 rfl (fun c_1152 => ?_) (fun c_1152 => ?_)
    · -- ge at 1152: yes
      exfalso; have t_0 := nI_toInt (n := i) (by omega); have t_1 := nI_toInt (n := cN (cc B)) (by omega); simp only [i_le, i_lt, i_eq, bi_eq] at c_1152; omega
    · -- ge at 1152: no
      show bw_go _ _ _ _ _ _ _ 1155 [(0, .retAddr _), (1, .ref _), (2, .ref _), (3, .int _), (4, .int _), (5, .int _), (6, .int _), (7, .int _), (8, .int _), (9, .int _), (11, .ref _), (12, .int _), (22, .int _), (23, .int _), (24, .int _), (25, .int _)] ([]) _ _
      refine go_iconst (0) dL_law_1155 rfl ?_
      refine go_istore dL_law_1156 (Nat.lt_of_lt_of_le (Nat.lt_succ_self _) (Nat.le_of_ble_eq_true rfl)) ?_
      show bw_go _ _ _ _ _ _ _ 1158 [(26, .int _), (0, .retAddr _), (1, .ref _), (2, .ref _), (3, .int _), (4, .int _), (5, .int _), (6, .int _), (7, .int _), (8, .int _), (9, .int _), (11, .ref _), (12, .int _), (22, .int _), (23, .int _), (24, .int _), (25, .int _)] ([]) _ _
      refine go_ls [(0, .retAddr _), (1, .ref _), (2, .ref _), (3, .int _), (4, .int _), (5, .int _), (6, .int _), (7, .int _), (8, .int _), (9, .int _), (11, .ref _), (12, .int _), (22, .int _), (23, .int _), (24, .int _), (25, .int _), (26, .int _)] (by show List.Nodup ([0, 1, 2, 3, 4, 5, 6, 7, 8, 9, 11, 12, 22, 23, 24, 25, 26] : List Nat); decide) (by show List.Nodup ([26, 0, 1, 2, 3, 4, 5, 6, 7, 8, 9, 11, 12, 22, 23, 24, 25] : List Nat); decide) (le_cons rfl (le_cons rfl (le_cons rfl (le_cons rfl (le_cons rfl (le_cons rfl (le_cons rfl (le_cons rfl (le_cons rfl (le_cons rfl (le_cons rfl (le_cons rfl (le_cons rfl (le_cons rfl (le_cons rfl (le_cons rfl (le_cons rfl (le_nil _)))))))))))))))))) ?_
      refine go_for (P := fun j => ∀ (g : bw_H) (S : ST) (p : Nat), (LX 2 75 g S (A2 F T) W T0 B K0 ∧ p ≤ 6 * i + j ∧ (p = 0 ↔ ∀ a c, (a < i ∧ c < a) ∨ (a = i ∧ c < j) → cla (taC (cc B)) a c = 0)) → bw_go X 12 9 48 false (some .boolean) cL_law 1158 [(0, .retAddr 1), (1, .ref (0)), (2, .ref (62)), (3, .int (nI (cN (cc B)))), (4, .int (nI (2 ^ cN (cc B) - 1))), (5, .int (nI (cT B.1))), (6, .int (nI (cD (cc B)))), (7, .int (nI (cW (cc B)))), (8, .int (nI (sho (taC (cc B)) (2 ^ cN (cc B) - 1)))), (9, .int (nI (smN (cR (cc B)) (cN (cc B))))), (11, .ref (76)), (12, .int (nI x)), (22, .int (nI (bc b))), (23, .int (nI b)), (24, .int (nI p)), (25, .int (nI i)), (26, .int (nI j))] [] g Q) (N := i) (fun j hj K => ?_) ?_ (0) (Nat.zero_le _) _ _ _ ⟨hx, by omega, by rw [h3]; exact ⟨fun z a c hac => by rcases hac with ⟨q1, q2⟩ | ⟨_, q2⟩; exact z a c q1 q2; exact absurd q2 (Nat.not_lt_zero c), fun z a c q1 q2 => z a c (Or.inl ⟨q1, q2⟩)⟩⟩
      · -- a turn
        intro g S p hv
        obtain ⟨hx, h2, h3⟩ := hv
        show bw_go _ _ _ _ _ _ _ 1158 [(0, .retAddr _), (1, .ref _), (2, .ref _), (3, .int _), (4, .int _), (5, .int _), (6, .int _), (7, .int _), (8, .int _), (9, .int _), (11, .ref _), (12, .int _), (22, .int _), (23, .int _), (24, .int _), (25, .int _), (26, .int _)] ([]) _ _
        refine go_iload dL_law_1158 rfl ?_
        refine go_iload dL_law_1160 rfl ?_
        refine go_icmp_ge (pc' := 1255) dL_law_1162 rfl (fun c_1162 => ?_) (fun c_1162 => ?_)
        · -- ge at 1162: yes
          exfalso; have t_0 := nI_toInt (n := j) (by omega); have t_1 := nI_toInt (n := i) (by omega); simp only [i_le, i_lt, i_eq, bi_eq] at c_1162; omega
        · -- ge at 1162: no
          show bw_go _ _ _ _ _ _ _ 1165 [(0, .retAddr _), (1, .ref _), (2, .ref _), (3, .int _), (4, .int _), (5, .int _), (6, .int _), (7, .int _), (8, .int _), (9, .int _), (11, .ref _), (12, .int _), (22, .int _), (23, .int _), (24, .int _), (25, .int _), (26, .int _)] ([]) _ _
          refine go_aload_n dL_law_1165 rfl ?_
          refine go_iload dL_law_1166 rfl ?_
          refine go_iload dL_law_1168 rfl ?_
          refine go_cv (as := [.int _, .int _]) 4 dL_law_1170 mt_9_105 (Or.inl rfl) rfl rfl (lb_lt hx.1) (lb_k hx.1) (Nat.le_of_ble_eq_true rfl) (Nat.le_of_ble_eq_true rfl) (Nat.le_of_ble_eq_true rfl) (Nat.le_of_ble_eq_true rfl) (Nat.le_of_ble_eq_true rfl) ?_
          refine lx_rivals hx hi (by omega) (by omega) (fun G S' hx => ?_)
          show bw_go _ _ _ _ _ _ _ 1173 [(0, .retAddr _), (1, .ref _), (2, .ref _), (3, .int _), (4, .int _), (5, .int _), (6, .int _), (7, .int _), (8, .int _), (9, .int _), (11, .ref _), (12, .int _), (22, .int _), (23, .int _), (24, .int _), (25, .int _), (26, .int _)] ((.int _) :: []) _ _
          have hr64 := cla_lt hk hi (show j < cN (cc B) by omega)
          have htl := tlC_lt hk hi
          refine go_istore dL_law_1173 (Nat.lt_of_lt_of_le (Nat.lt_succ_self _) (Nat.le_of_ble_eq_true rfl)) ?_
          show bw_go _ _ _ _ _ _ _ 1175 [(27, .int _), (0, .retAddr _), (1, .ref _), (2, .ref _), (3, .int _), (4, .int _), (5, .int _), (6, .int _), (7, .int _), (8, .int _), (9, .int _), (11, .ref _), (12, .int _), (22, .int _), (23, .int _), (24, .int _), (25, .int _), (26, .int _)] ([]) _ _
          refine go_iload dL_law_1175 rfl ?_
          refine go_iload dL_law_1177 rfl ?_
          refine go_if_ne (pc' := 1186) dL_law_1179 rfl (fun c_1179 => ?_) (fun c_1179 => ?_)
          · -- ne at 1179: yes
            show bw_go _ _ _ _ _ _ _ 1186 [(27, .int _), (0, .retAddr _), (1, .ref _), (2, .ref _), (3, .int _), (4, .int _), (5, .int _), (6, .int _), (7, .int _), (8, .int _), (9, .int _), (11, .ref _), (12, .int _), (22, .int _), (23, .int _), (24, .int _), (25, .int _), (26, .int _)] ((.int _) :: []) _ _
            refine go_iconst (1) dL_law_1186 rfl ?_
            refine go_iadd dL_law_1187 ?_
            rw [show (1 : Int32) = nI 1 from rfl, nI_add]
            refine go_istore dL_law_1188 (Nat.lt_of_lt_of_le (Nat.lt_succ_self _) (Nat.le_of_ble_eq_true rfl)) ?_
            show bw_go _ _ _ _ _ _ _ 1190 [(24, .int _), (27, .int _), (0, .retAddr _), (1, .ref _), (2, .ref _), (3, .int _), (4, .int _), (5, .int _), (6, .int _), (7, .int _), (8, .int _), (9, .int _), (11, .ref _), (12, .int _), (22, .int _), (23, .int _), (25, .int _), (26, .int _)] ([]) _ _
            refine go_iload dL_law_1190 rfl ?_
            refine go_aload_n dL_law_1192 rfl ?_
            refine go_iload dL_law_1193 rfl ?_
            refine go_iload dL_law_1195 rfl ?_
            refine go_cv (as := [.int _, .int _]) 4 dL_law_1197 mt_9_105 (Or.inl rfl) rfl rfl (lb_lt hx.1) (lb_k hx.1) (Nat.le_of_ble_eq_true rfl) (Nat.le_of_ble_eq_true rfl) (Nat.le_of_ble_eq_true rfl) (Nat.le_of_ble_eq_true rfl) (Nat.le_of_ble_eq_true rfl) ?_
            refine lx_rivals hx (by omega) hi (by omega) (fun G S' hx => ?_)
            rw [cla_s (taC (cc B)) j i]
            show bw_go _ _ _ _ _ _ _ 1200 [(24, .int _), (27, .int _), (0, .retAddr _), (1, .ref _), (2, .ref _), (3, .int _), (4, .int _), (5, .int _), (6, .int _), (7, .int _), (8, .int _), (9, .int _), (11, .ref _), (12, .int _), (22, .int _), (23, .int _), (25, .int _), (26, .int _)] ((.int _) :: (.int _) :: []) _ _
            refine go_icmp_ne (pc' := 1247) dL_law_1200 rfl (fun c_1200 => ?_) (fun c_1200 => ?_)
            · -- ne at 1200: yes
              exact absurd rfl c_1200
            · -- ne at 1200: no
              show bw_go _ _ _ _ _ _ _ 1203 [(24, .int _), (27, .int _), (0, .retAddr _), (1, .ref _), (2, .ref _), (3, .int _), (4, .int _), (5, .int _), (6, .int _), (7, .int _), (8, .int _), (9, .int _), (11, .ref _), (12, .int _), (22, .int _), (23, .int _), (25, .int _), (26, .int _)] ([]) _ _
              refine go_iload dL_law_1203 rfl ?_
              refine go_aload dL_law_1205 rfl ?_
              refine go_iload dL_law_1207 rfl ?_
              refine go_ia dL_law_1209 (lb_a hx.1 (q := 76) rfl).2.1 (lb_a hx.1 (q := 76) rfl).1 (n_in (N := 6) (by omega) (by decide)) ?_
              rw [nI_clamp (by omega), (lb_a hx.1 (q := 76) rfl).2.2, hT i hi]
              refine go_aload dL_law_1210 rfl ?_
              refine go_iload dL_law_1212 rfl ?_
              refine go_ia dL_law_1214 (lb_a hx.1 (q := 76) rfl).2.1 (lb_a hx.1 (q := 76) rfl).1 (n_in (N := 6) (by omega) (by decide)) ?_
              rw [nI_clamp (by omega), (lb_a hx.1 (q := 76) rfl).2.2, hT j (by omega)]
              refine go_iand dL_law_1215 ?_
              rw [and_n]
              refine go_iconst (-1) dL_law_1216 rfl ?_
              refine go_ixor dL_law_1217 ?_
              refine go_iand dL_law_1218 ?_
              rw [not_n _ (and_lt htl) _ hr64]
              refine go_if_ne (pc' := 1247) dL_law_1219 rfl (fun c_1219 => ?_) (fun c_1219 => ?_)
              · -- ne at 1219: yes
                exfalso
                refine c_1219 ?_
                rw [(sub_t _ hr64 _ (and_lt htl)).mpr cla_sub]
                rfl
              · -- ne at 1219: no
                show bw_go _ _ _ _ _ _ _ 1222 [(24, .int _), (27, .int _), (0, .retAddr _), (1, .ref _), (2, .ref _), (3, .int _), (4, .int _), (5, .int _), (6, .int _), (7, .int _), (8, .int _), (9, .int _), (11, .ref _), (12, .int _), (22, .int _), (23, .int _), (25, .int _), (26, .int _)] ([]) _ _
                refine go_iload dL_law_1222 rfl ?_
                refine go_if_eq (pc' := 1249) dL_law_1224 rfl (fun c_1224 => ?_) (fun c_1224 => ?_)
                · -- eq at 1224: yes
                  show bw_go _ _ _ _ _ _ _ 1249 [(24, .int _), (27, .int _), (0, .retAddr _), (1, .ref _), (2, .ref _), (3, .int _), (4, .int _), (5, .int _), (6, .int _), (7, .int _), (8, .int _), (9, .int _), (11, .ref _), (12, .int _), (22, .int _), (23, .int _), (25, .int _), (26, .int _)] ([]) _ _
                  refine go_iinc dL_law_1249 rfl (nI_1 j) (Nat.lt_of_lt_of_le (Nat.lt_succ_self _) (Nat.le_of_ble_eq_true rfl)) ?_
                  show bw_go _ _ _ _ _ _ _ 1252 [(26, .int _), (24, .int _), (27, .int _), (0, .retAddr _), (1, .ref _), (2, .ref _), (3, .int _), (4, .int _), (5, .int _), (6, .int _), (7, .int _), (8, .int _), (9, .int _), (11, .ref _), (12, .int _), (22, .int _), (23, .int _), (25, .int _)] ([]) _ _
                  refine go_goto (pc' := 1158) dL_law_1252 rfl ?_
                  refine go_ls [(0, .retAddr _), (1, .ref _), (2, .ref _), (3, .int _), (4, .int _), (5, .int _), (6, .int _), (7, .int _), (8, .int _), (9, .int _), (11, .ref _), (12, .int _), (22, .int _), (23, .int _), (24, .int _), (25, .int _), (26, .int _)] (by show List.Nodup ([0, 1, 2, 3, 4, 5, 6, 7, 8, 9, 11, 12, 22, 23, 24, 25, 26] : List Nat); decide) (by show List.Nodup ([26, 24, 27, 0, 1, 2, 3, 4, 5, 6, 7, 8, 9, 11, 12, 22, 23, 25] : List Nat); decide) (le_cons rfl (le_cons rfl (le_cons rfl (le_cons rfl (le_cons rfl (le_cons rfl (le_cons rfl (le_cons rfl (le_cons rfl (le_cons rfl (le_cons rfl (le_cons rfl (le_cons rfl (le_cons rfl (le_cons rfl (le_cons rfl (le_cons rfl (le_nil _)))))))))))))))))) ?_
                  refine K _ _ (p + 1) ⟨hx, by omega, ?_⟩
                  constructor
                  · intro z a c hac
                    rcases hac with hac | ⟨rfl, hc⟩
                    · exact (h3.mp (by omega)) a c (Or.inl hac)
                    · by_cases e : c = j
                      · subst e; omega
                      · exact (h3.mp (by omega)) a c (Or.inr ⟨rfl, by omega⟩)
                  · intro z
                    exfalso
                    refine c_1179 ?_
                    rw [z i j (Or.inr ⟨rfl, by omega⟩)]; rfl
                · -- eq at 1224: no
                  show bw_go _ _ _ _ _ _ _ 1227 [(24, .int _), (27, .int _), (0, .retAddr _), (1, .ref _), (2, .ref _), (3, .int _), (4, .int _), (5, .int _), (6, .int _), (7, .int _), (8, .int _), (9, .int _), (11, .ref _), (12, .int _), (22, .int _), (23, .int _), (25, .int _), (26, .int _)] ([]) _ _
                  refine go_iload dL_law_1227 rfl ?_
                  refine go_iload dL_law_1229 rfl ?_
                  refine go_ishr dL_law_1231 ?_
                  refine go_iconst (1) dL_law_1232 rfl ?_
                  refine go_iand dL_law_1233 ?_
                  rw [bit_t _ h64 i (by omega)]
                  refine go_if_ne (pc' := 1249) dL_law_1234 rfl (fun c_1234 => ?_) (fun c_1234 => ?_)
                  · -- ne at 1234: yes
                    show bw_go _ _ _ _ _ _ _ 1249 [(24, .int _), (27, .int _), (0, .retAddr _), (1, .ref _), (2, .ref _), (3, .int _), (4, .int _), (5, .int _), (6, .int _), (7, .int _), (8, .int _), (9, .int _), (11, .ref _), (12, .int _), (22, .int _), (23, .int _), (25, .int _), (26, .int _)] ([]) _ _
                    refine go_iinc dL_law_1249 rfl (nI_1 j) (Nat.lt_of_lt_of_le (Nat.lt_succ_self _) (Nat.le_of_ble_eq_true rfl)) ?_
                    show bw_go _ _ _ _ _ _ _ 1252 [(26, .int _), (24, .int _), (27, .int _), (0, .retAddr _), (1, .ref _), (2, .ref _), (3, .int _), (4, .int _), (5, .int _), (6, .int _), (7, .int _), (8, .int _), (9, .int _), (11, .ref _), (12, .int _), (22, .int _), (23, .int _), (25, .int _)] ([]) _ _
                    refine go_goto (pc' := 1158) dL_law_1252 rfl ?_
                    refine go_ls [(0, .retAddr _), (1, .ref _), (2, .ref _), (3, .int _), (4, .int _), (5, .int _), (6, .int _), (7, .int _), (8, .int _), (9, .int _), (11, .ref _), (12, .int _), (22, .int _), (23, .int _), (24, .int _), (25, .int _), (26, .int _)] (by show List.Nodup ([0, 1, 2, 3, 4, 5, 6, 7, 8, 9, 11, 12, 22, 23, 24, 25, 26] : List Nat); decide) (by show List.Nodup ([26, 24, 27, 0, 1, 2, 3, 4, 5, 6, 7, 8, 9, 11, 12, 22, 23, 25] : List Nat); decide) (le_cons rfl (le_cons rfl (le_cons rfl (le_cons rfl (le_cons rfl (le_cons rfl (le_cons rfl (le_cons rfl (le_cons rfl (le_cons rfl (le_cons rfl (le_cons rfl (le_cons rfl (le_cons rfl (le_cons rfl (le_cons rfl (le_cons rfl (le_nil _)))))))))))))))))) ?_
                    refine K _ _ (p + 1) ⟨hx, by omega, ?_⟩
                    constructor
                    · intro z a c hac
                      rcases hac with hac | ⟨rfl, hc⟩
                      · exact (h3.mp (by omega)) a c (Or.inl hac)
                      · by_cases e : c = j
                        · subst e; omega
                        · exact (h3.mp (by omega)) a c (Or.inr ⟨rfl, by omega⟩)
                    · intro z
                      exfalso
                      refine c_1179 ?_
                      rw [z i j (Or.inr ⟨rfl, by omega⟩)]; rfl
                  · -- ne at 1234: no
                    show bw_go _ _ _ _ _ _ _ 1237 [(24, .int _), (27, .int _), (0, .retAddr _), (1, .ref _), (2, .ref _), (3, .int _), (4, .int _), (5, .int _), (6, .int _), (7, .int _), (8, .int _), (9, .int _), (11, .ref _), (12, .int _), (22, .int _), (23, .int _), (25, .int _), (26, .int _)] ([]) _ _
                    refine go_iload dL_law_1237 rfl ?_
                    refine go_iload dL_law_1239 rfl ?_
                    refine go_ishr dL_law_1241 ?_
                    refine go_iconst (1) dL_law_1242 rfl ?_
                    refine go_iand dL_law_1243 ?_
                    rw [bit_t _ h64 j (by omega)]
                    refine go_if_ne (pc' := 1249) dL_law_1244 rfl (fun c_1244 => ?_) (fun c_1244 => ?_)
                    · -- ne at 1244: yes
                      show bw_go _ _ _ _ _ _ _ 1249 [(24, .int _), (27, .int _), (0, .retAddr _), (1, .ref _), (2, .ref _), (3, .int _), (4, .int _), (5, .int _), (6, .int _), (7, .int _), (8, .int _), (9, .int _), (11, .ref _), (12, .int _), (22, .int _), (23, .int _), (25, .int _), (26, .int _)] ([]) _ _
                      refine go_iinc dL_law_1249 rfl (nI_1 j) (Nat.lt_of_lt_of_le (Nat.lt_succ_self _) (Nat.le_of_ble_eq_true rfl)) ?_
                      show bw_go _ _ _ _ _ _ _ 1252 [(26, .int _), (24, .int _), (27, .int _), (0, .retAddr _), (1, .ref _), (2, .ref _), (3, .int _), (4, .int _), (5, .int _), (6, .int _), (7, .int _), (8, .int _), (9, .int _), (11, .ref _), (12, .int _), (22, .int _), (23, .int _), (25, .int _)] ([]) _ _
                      refine go_goto (pc' := 1158) dL_law_1252 rfl ?_
                      refine go_ls [(0, .retAddr _), (1, .ref _), (2, .ref _), (3, .int _), (4, .int _), (5, .int _), (6, .int _), (7, .int _), (8, .int _), (9, .int _), (11, .ref _), (12, .int _), (22, .int _), (23, .int _), (24, .int _), (25, .int _), (26, .int _)] (by show List.Nodup ([0, 1, 2, 3, 4, 5, 6, 7, 8, 9, 11, 12, 22, 23, 24, 25, 26] : List Nat); decide) (by show List.Nodup ([26, 24, 27, 0, 1, 2, 3, 4, 5, 6, 7, 8, 9, 11, 12, 22, 23, 25] : List Nat); decide) (le_cons rfl (le_cons rfl (le_cons rfl (le_cons rfl (le_cons rfl (le_cons rfl (le_cons rfl (le_cons rfl (le_cons rfl (le_cons rfl (le_cons rfl (le_cons rfl (le_cons rfl (le_cons rfl (le_cons rfl (le_cons rfl (le_cons rfl (le_nil _)))))))))))))))))) ?_
                      refine K _ _ (p + 1) ⟨hx, by omega, ?_⟩
                      constructor
                      · intro z a c hac
                        rcases hac with hac | ⟨rfl, hc⟩
                        · exact (h3.mp (by omega)) a c (Or.inl hac)
                        · by_cases e : c = j
                          · subst e; omega
                          · exact (h3.mp (by omega)) a c (Or.inr ⟨rfl, by omega⟩)
                      · intro z
                        exfalso
                        refine c_1179 ?_
                        rw [z i j (Or.inr ⟨rfl, by omega⟩)]; rfl
                    · -- ne at 1244: no
                      exfalso
                      refine c_1224 ?_
                      have e1 : b.testBit i = false := by
                        cases hh : b.testBit i with
                        | false => rfl
                        | true => rw [hh] at c_1234; exact absurd (Decidable.of_not_not c_1234) (by decide)
                      have e2 : b.testBit j = false := by
                        cases hh : b.testBit j with
                        | false => rfl
                        | true => rw [hh] at c_1244; exact absurd (Decidable.of_not_not c_1244) (by decide)
                      rw [riv_no hr hi (by omega) (by rw [rest_tb hN hi, e1]; rfl) (by rw [rest_tb hN (by omega), e2]; rfl)]
                      rfl
          · -- ne at 1179: no
            show bw_go _ _ _ _ _ _ _ 1182 [(27, .int _), (0, .retAddr _), (1, .ref _), (2, .ref _), (3, .int _), (4, .int _), (5, .int _), (6, .int _), (7, .int _), (8, .int _), (9, .int _), (11, .ref _), (12, .int _), (22, .int _), (23, .int _), (24, .int _), (25, .int _), (26, .int _)] ((.int _) :: []) _ _
            refine go_iconst (0) dL_law_1182 rfl ?_
            refine go_goto (pc' := 1187) dL_law_1183 rfl ?_
            show bw_go _ _ _ _ _ _ _ 1187 [(27, .int _), (0, .retAddr _), (1, .ref _), (2, .ref _), (3, .int _), (4, .int _), (5, .int _), (6, .int _), (7, .int _), (8, .int _), (9, .int _), (11, .ref _), (12, .int _), (22, .int _), (23, .int _), (24, .int _), (25, .int _), (26, .int _)] ((.int _) :: (.int _) :: []) _ _
            refine go_iadd dL_law_1187 ?_
            rw [show (0 : Int32) = nI 0 from rfl, nI_add, Nat.add_zero]
            refine go_istore dL_law_1188 (Nat.lt_of_lt_of_le (Nat.lt_succ_self _) (Nat.le_of_ble_eq_true rfl)) ?_
            show bw_go _ _ _ _ _ _ _ 1190 [(24, .int _), (27, .int _), (0, .retAddr _), (1, .ref _), (2, .ref _), (3, .int _), (4, .int _), (5, .int _), (6, .int _), (7, .int _), (8, .int _), (9, .int _), (11, .ref _), (12, .int _), (22, .int _), (23, .int _), (25, .int _), (26, .int _)] ([]) _ _
            refine go_iload dL_law_1190 rfl ?_
            refine go_aload_n dL_law_1192 rfl ?_
            refine go_iload dL_law_1193 rfl ?_
            refine go_iload dL_law_1195 rfl ?_
            refine go_cv (as := [.int _, .int _]) 4 dL_law_1197 mt_9_105 (Or.inl rfl) rfl rfl (lb_lt hx.1) (lb_k hx.1) (Nat.le_of_ble_eq_true rfl) (Nat.le_of_ble_eq_true rfl) (Nat.le_of_ble_eq_true rfl) (Nat.le_of_ble_eq_true rfl) (Nat.le_of_ble_eq_true rfl) ?_
            refine lx_rivals hx (by omega) hi (by omega) (fun G S' hx => ?_)
            rw [cla_s (taC (cc B)) j i]
            show bw_go _ _ _ _ _ _ _ 1200 [(24, .int _), (27, .int _), (0, .retAddr _), (1, .ref _), (2, .ref _), (3, .int _), (4, .int _), (5, .int _), (6, .int _), (7, .int _), (8, .int _), (9, .int _), (11, .ref _), (12, .int _), (22, .int _), (23, .int _), (25, .int _), (26, .int _)] ((.int _) :: (.int _) :: []) _ _
            refine go_icmp_ne (pc' := 1247) dL_law_1200 rfl (fun c_1200 => ?_) (fun c_1200 => ?_)
            · -- ne at 1200: yes
              exact absurd rfl c_1200
            · -- ne at 1200: no
              show bw_go _ _ _ _ _ _ _ 1203 [(24, .int _), (27, .int _), (0, .retAddr _), (1, .ref _), (2, .ref _), (3, .int _), (4, .int _), (5, .int _), (6, .int _), (7, .int _), (8, .int _), (9, .int _), (11, .ref _), (12, .int _), (22, .int _), (23, .int _), (25, .int _), (26, .int _)] ([]) _ _
              refine go_iload dL_law_1203 rfl ?_
              refine go_aload dL_law_1205 rfl ?_
              refine go_iload dL_law_1207 rfl ?_
              refine go_ia dL_law_1209 (lb_a hx.1 (q := 76) rfl).2.1 (lb_a hx.1 (q := 76) rfl).1 (n_in (N := 6) (by omega) (by decide)) ?_
              rw [nI_clamp (by omega), (lb_a hx.1 (q := 76) rfl).2.2, hT i hi]
              refine go_aload dL_law_1210 rfl ?_
              refine go_iload dL_law_1212 rfl ?_
              refine go_ia dL_law_1214 (lb_a hx.1 (q := 76) rfl).2.1 (lb_a hx.1 (q := 76) rfl).1 (n_in (N := 6) (by omega) (by decide)) ?_
              rw [nI_clamp (by omega), (lb_a hx.1 (q := 76) rfl).2.2, hT j (by omega)]
              refine go_iand dL_law_1215 ?_
              rw [and_n]
              refine go_iconst (-1) dL_law_1216 rfl ?_
              refine go_ixor dL_law_1217 ?_
              refine go_iand dL_law_1218 ?_
              rw [not_n _ (and_lt htl) _ hr64]
              refine go_if_ne (pc' := 1247) dL_law_1219 rfl (fun c_1219 => ?_) (fun c_1219 => ?_)
              · -- ne at 1219: yes
                exfalso
                refine c_1219 ?_
                rw [(sub_t _ hr64 _ (and_lt htl)).mpr cla_sub]
                rfl
              · -- ne at 1219: no
                show bw_go _ _ _ _ _ _ _ 1222 [(24, .int _), (27, .int _), (0, .retAddr _), (1, .ref _), (2, .ref _), (3, .int _), (4, .int _), (5, .int _), (6, .int _), (7, .int _), (8, .int _), (9, .int _), (11, .ref _), (12, .int _), (22, .int _), (23, .int _), (25, .int _), (26, .int _)] ([]) _ _
                refine go_iload dL_law_1222 rfl ?_
                refine go_if_eq (pc' := 1249) dL_law_1224 rfl (fun c_1224 => ?_) (fun c_1224 => ?_)
                · -- eq at 1224: yes
                  show bw_go _ _ _ _ _ _ _ 1249 [(24, .int _), (27, .int _), (0, .retAddr _), (1, .ref _), (2, .ref _), (3, .int _), (4, .int _), (5, .int _), (6, .int _), (7, .int _), (8, .int _), (9, .int _), (11, .ref _), (12, .int _), (22, .int _), (23, .int _), (25, .int _), (26, .int _)] ([]) _ _
                  refine go_iinc dL_law_1249 rfl (nI_1 j) (Nat.lt_of_lt_of_le (Nat.lt_succ_self _) (Nat.le_of_ble_eq_true rfl)) ?_
                  show bw_go _ _ _ _ _ _ _ 1252 [(26, .int _), (24, .int _), (27, .int _), (0, .retAddr _), (1, .ref _), (2, .ref _), (3, .int _), (4, .int _), (5, .int _), (6, .int _), (7, .int _), (8, .int _), (9, .int _), (11, .ref _), (12, .int _), (22, .int _), (23, .int _), (25, .int _)] ([]) _ _
                  refine go_goto (pc' := 1158) dL_law_1252 rfl ?_
                  refine go_ls [(0, .retAddr _), (1, .ref _), (2, .ref _), (3, .int _), (4, .int _), (5, .int _), (6, .int _), (7, .int _), (8, .int _), (9, .int _), (11, .ref _), (12, .int _), (22, .int _), (23, .int _), (24, .int _), (25, .int _), (26, .int _)] (by show List.Nodup ([0, 1, 2, 3, 4, 5, 6, 7, 8, 9, 11, 12, 22, 23, 24, 25, 26] : List Nat); decide) (by show List.Nodup ([26, 24, 27, 0, 1, 2, 3, 4, 5, 6, 7, 8, 9, 11, 12, 22, 23, 25] : List Nat); decide) (le_cons rfl (le_cons rfl (le_cons rfl (le_cons rfl (le_cons rfl (le_cons rfl (le_cons rfl (le_cons rfl (le_cons rfl (le_cons rfl (le_cons rfl (le_cons rfl (le_cons rfl (le_cons rfl (le_cons rfl (le_cons rfl (le_cons rfl (le_nil _)))))))))))))))))) ?_
                  refine K _ _ p ⟨hx, by omega, ?_⟩
                  constructor
                  · intro z a c hac
                    rcases hac with hac | ⟨rfl, hc⟩
                    · exact (h3.mp (by omega)) a c (Or.inl hac)
                    · by_cases e : c = j
                      · subst e; exact (nI_eq (b := 0) (by omega) (by decide)).mp (Decidable.of_not_not c_1179)
                      · exact (h3.mp (by omega)) a c (Or.inr ⟨rfl, by omega⟩)
                  · intro z
                    exact h3.mpr (fun a c hac => z a c (by omega))
                · -- eq at 1224: no
                  show bw_go _ _ _ _ _ _ _ 1227 [(24, .int _), (27, .int _), (0, .retAddr _), (1, .ref _), (2, .ref _), (3, .int _), (4, .int _), (5, .int _), (6, .int _), (7, .int _), (8, .int _), (9, .int _), (11, .ref _), (12, .int _), (22, .int _), (23, .int _), (25, .int _), (26, .int _)] ([]) _ _
                  refine go_iload dL_law_1227 rfl ?_
                  refine go_iload dL_law_1229 rfl ?_
                  refine go_ishr dL_law_1231 ?_
                  refine go_iconst (1) dL_law_1232 rfl ?_
                  refine go_iand dL_law_1233 ?_
                  rw [bit_t _ h64 i (by omega)]
                  refine go_if_ne (pc' := 1249) dL_law_1234 rfl (fun c_1234 => ?_) (fun c_1234 => ?_)
                  · -- ne at 1234: yes
                    show bw_go _ _ _ _ _ _ _ 1249 [(24, .int _), (27, .int _), (0, .retAddr _), (1, .ref _), (2, .ref _), (3, .int _), (4, .int _), (5, .int _), (6, .int _), (7, .int _), (8, .int _), (9, .int _), (11, .ref _), (12, .int _), (22, .int _), (23, .int _), (25, .int _), (26, .int _)] ([]) _ _
                    refine go_iinc dL_law_1249 rfl (nI_1 j) (Nat.lt_of_lt_of_le (Nat.lt_succ_self _) (Nat.le_of_ble_eq_true rfl)) ?_
                    show bw_go _ _ _ _ _ _ _ 1252 [(26, .int _), (24, .int _), (27, .int _), (0, .retAddr _), (1, .ref _), (2, .ref _), (3, .int _), (4, .int _), (5, .int _), (6, .int _), (7, .int _), (8, .int _), (9, .int _), (11, .ref _), (12, .int _), (22, .int _), (23, .int _), (25, .int _)] ([]) _ _
                    refine go_goto (pc' := 1158) dL_law_1252 rfl ?_
                    refine go_ls [(0, .retAddr _), (1, .ref _), (2, .ref _), (3, .int _), (4, .int _), (5, .int _), (6, .int _), (7, .int _), (8, .int _), (9, .int _), (11, .ref _), (12, .int _), (22, .int _), (23, .int _), (24, .int _), (25, .int _), (26, .int _)] (by show List.Nodup ([0, 1, 2, 3, 4, 5, 6, 7, 8, 9, 11, 12, 22, 23, 24, 25, 26] : List Nat); decide) (by show List.Nodup ([26, 24, 27, 0, 1, 2, 3, 4, 5, 6, 7, 8, 9, 11, 12, 22, 23, 25] : List Nat); decide) (le_cons rfl (le_cons rfl (le_cons rfl (le_cons rfl (le_cons rfl (le_cons rfl (le_cons rfl (le_cons rfl (le_cons rfl (le_cons rfl (le_cons rfl (le_cons rfl (le_cons rfl (le_cons rfl (le_cons rfl (le_cons rfl (le_cons rfl (le_nil _)))))))))))))))))) ?_
                    refine K _ _ p ⟨hx, by omega, ?_⟩
                    constructor
                    · intro z a c hac
                      rcases hac with hac | ⟨rfl, hc⟩
                      · exact (h3.mp (by omega)) a c (Or.inl hac)
                      · by_cases e : c = j
                        · subst e; exact (nI_eq (b := 0) (by omega) (by decide)).mp (Decidable.of_not_not c_1179)
                        · exact (h3.mp (by omega)) a c (Or.inr ⟨rfl, by omega⟩)
                    · intro z
                      exact h3.mpr (fun a c hac => z a c (by omega))
                  · -- ne at 1234: no
                    show bw_go _ _ _ _ _ _ _ 1237 [(24, .int _), (27, .int _), (0, .retAddr _), (1, .ref _), (2, .ref _), (3, .int _), (4, .int _), (5, .int _), (6, .int _), (7, .int _), (8, .int _), (9, .int _), (11, .ref _), (12, .int _), (22, .int _), (23, .int _), (25, .int _), (26, .int _)] ([]) _ _
                    refine go_iload dL_law_1237 rfl ?_
                    refine go_iload dL_law_1239 rfl ?_
                    refine go_ishr dL_law_1241 ?_
                    refine go_iconst (1) dL_law_1242 rfl ?_
                    refine go_iand dL_law_1243 ?_
                    rw [bit_t _ h64 j (by omega)]
                    refine go_if_ne (pc' := 1249) dL_law_1244 rfl (fun c_1244 => ?_) (fun c_1244 => ?_)
                    · -- ne at 1244: yes
                      show bw_go _ _ _ _ _ _ _ 1249 [(24, .int _), (27, .int _), (0, .retAddr _), (1, .ref _), (2, .ref _), (3, .int _), (4, .int _), (5, .int _), (6, .int _), (7, .int _), (8, .int _), (9, .int _), (11, .ref _), (12, .int _), (22, .int _), (23, .int _), (25, .int _), (26, .int _)] ([]) _ _
                      refine go_iinc dL_law_1249 rfl (nI_1 j) (Nat.lt_of_lt_of_le (Nat.lt_succ_self _) (Nat.le_of_ble_eq_true rfl)) ?_
                      show bw_go _ _ _ _ _ _ _ 1252 [(26, .int _), (24, .int _), (27, .int _), (0, .retAddr _), (1, .ref _), (2, .ref _), (3, .int _), (4, .int _), (5, .int _), (6, .int _), (7, .int _), (8, .int _), (9, .int _), (11, .ref _), (12, .int _), (22, .int _), (23, .int _), (25, .int _)] ([]) _ _
                      refine go_goto (pc' := 1158) dL_law_1252 rfl ?_
                      refine go_ls [(0, .retAddr _), (1, .ref _), (2, .ref _), (3, .int _), (4, .int _), (5, .int _), (6, .int _), (7, .int _), (8, .int _), (9, .int _), (11, .ref _), (12, .int _), (22, .int _), (23, .int _), (24, .int _), (25, .int _), (26, .int _)] (by show List.Nodup ([0, 1, 2, 3, 4, 5, 6, 7, 8, 9, 11, 12, 22, 23, 24, 25, 26] : List Nat); decide) (by show List.Nodup ([26, 24, 27, 0, 1, 2, 3, 4, 5, 6, 7, 8, 9, 11, 12, 22, 23, 25] : List Nat); decide) (le_cons rfl (le_cons rfl (le_cons rfl (le_cons rfl (le_cons rfl (le_cons rfl (le_cons rfl (le_cons rfl (le_cons rfl (le_cons rfl (le_cons rfl (le_cons rfl (le_cons rfl (le_cons rfl (le_cons rfl (le_cons rfl (le_cons rfl (le_nil _)))))))))))))))))) ?_
                      refine K _ _ p ⟨hx, by omega, ?_⟩
                      constructor
                      · intro z a c hac
                        rcases hac with hac | ⟨rfl, hc⟩
                        · exact (h3.mp (by omega)) a c (Or.inl hac)
                        · by_cases e : c = j
                          · subst e; exact (nI_eq (b := 0) (by omega) (by decide)).mp (Decidable.of_not_not c_1179)
                          · exact (h3.mp (by omega)) a c (Or.inr ⟨rfl, by omega⟩)
                      · intro z
                        exact h3.mpr (fun a c hac => z a c (by omega))
                    · -- ne at 1244: no
                      exfalso
                      refine c_1224 ?_
                      have e1 : b.testBit i = false := by
                        cases hh : b.testBit i with
                        | false => rfl
                        | true => rw [hh] at c_1234; exact absurd (Decidable.of_not_not c_1234) (by decide)
                      have e2 : b.testBit j = false := by
                        cases hh : b.testBit j with
                        | false => rfl
                        | true => rw [hh] at c_1244; exact absurd (Decidable.of_not_not c_1244) (by decide)
                      rw [riv_no hr hi (by omega) (by rw [rest_tb hN hi, e1]; rfl) (by rw [rest_tb hN (by omega), e2]; rfl)]
                      rfl
      · -- behind the last
        intro g S p hv
        obtain ⟨hx, h2, h3⟩ := hv
        show bw_go _ _ _ _ _ _ _ 1158 [(0, .retAddr _), (1, .ref _), (2, .ref _), (3, .int _), (4, .int _), (5, .int _), (6, .int _), (7, .int _), (8, .int _), (9, .int _), (11, .ref _), (12, .int _), (22, .int _), (23, .int _), (24, .int _), (25, .int _), (26, .int _)] ([]) _ _
        refine go_iload dL_law_1158 rfl ?_
        refine go_iload dL_law_1160 rfl ?_
        refine go_icmp_ge (pc' := 1255) dL_law_1162 rfl (fun c_1162 => ?_) (fun c_1162 => ?_)
        · -- ge at 1162: yes
          refine go_ls [(0, .retAddr _), (1, .ref _), (2, .ref _), (3, .int _), (4, .int _), (5, .int _), (6, .int _), (7, .int _), (8, .int _), (9, .int _), (11, .ref _), (12, .int _), (22, .int _), (23, .int _), (24, .int _), (25, .int _)] (by show List.Nodup ([0, 1, 2, 3, 4, 5, 6, 7, 8, 9, 11, 12, 22, 23, 24, 25] : List Nat); decide) (by show List.Nodup ([0, 1, 2, 3, 4, 5, 6, 7, 8, 9, 11, 12, 22, 23, 24, 25, 26] : List Nat); decide) (le_cons rfl (le_cons rfl (le_cons rfl (le_cons rfl (le_cons rfl (le_cons rfl (le_cons rfl (le_cons rfl (le_cons rfl (le_cons rfl (le_cons rfl (le_cons rfl (le_cons rfl (le_cons rfl (le_cons rfl (le_cons rfl (le_nil _))))))))))))))))) ?_
          show bw_go _ _ _ _ _ _ _ 1255 [(0, .retAddr _), (1, .ref _), (2, .ref _), (3, .int _), (4, .int _), (5, .int _), (6, .int _), (7, .int _), (8, .int _), (9, .int _), (11, .ref _), (12, .int _), (22, .int _), (23, .int _), (24, .int _), (25, .int _)] ([]) _ _
          refine go_iinc dL_law_1255 rfl (nI_1 i) (Nat.lt_of_lt_of_le (Nat.lt_succ_self _) (Nat.le_of_ble_eq_true rfl)) ?_
          show bw_go _ _ _ _ _ _ _ 1258 [(25, .int _), (0, .retAddr _), (1, .ref _), (2, .ref _), (3, .int _), (4, .int _), (5, .int _), (6, .int _), (7, .int _), (8, .int _), (9, .int _), (11, .ref _), (12, .int _), (22, .int _), (23, .int _), (24, .int _)] ([]) _ _
          refine go_goto (pc' := 1149) dL_law_1258 rfl ?_
          refine go_ls [(0, .retAddr _), (1, .ref _), (2, .ref _), (3, .int _), (4, .int _), (5, .int _), (6, .int _), (7, .int _), (8, .int _), (9, .int _), (11, .ref _), (12, .int _), (22, .int _), (23, .int _), (24, .int _), (25, .int _)] (by show List.Nodup ([0, 1, 2, 3, 4, 5, 6, 7, 8, 9, 11, 12, 22, 23, 24, 25] : List Nat); decide) (by show List.Nodup ([25, 0, 1, 2, 3, 4, 5, 6, 7, 8, 9, 11, 12, 22, 23, 24] : List Nat); decide) (le_cons rfl (le_cons rfl (le_cons rfl (le_cons rfl (le_cons rfl (le_cons rfl (le_cons rfl (le_cons rfl (le_cons rfl (le_cons rfl (le_cons rfl (le_cons rfl (le_cons rfl (le_cons rfl (le_cons rfl (le_cons rfl (le_nil _))))))))))))))))) ?_
          refine KI _ _ p ⟨hx, by omega, ?_⟩
          rw [h3]
          constructor
          · intro z a c q1 q2
            by_cases e : a = i
            · subst e; exact z a c (Or.inr ⟨rfl, q2⟩)
            · exact z a c (Or.inl ⟨by omega, q2⟩)
          · intro z a c hac
            rcases hac with ⟨q1, q2⟩ | ⟨rfl, q2⟩
            · exact z a c (by omega) q2
            · exact z a c (by omega) q2
        · -- ge at 1162: no
          exfalso; have t_0 := nI_toInt (n := i) (by omega); simp only [i_le, i_lt, i_eq, bi_eq] at c_1162; omega
  · -- behind the last
    intro g S p hv
    obtain ⟨hx, h2, h3⟩ := hv
    have hj1 : bc b = 0 ↔ p = 0 := by
      rw [bc_0 b h64, h3]
      constructor
      · intro e a c q1 q2
        rw [e, all_left _ hN] at hr
        exact riv_no hr q1 (by omega) (all_tb q1) (all_tb (by omega))
      · intro z
        have h9 := hmin 0 (by omega) (by rw [all_left _ hN]; exact riv_yes hk (fun a c q1 q2 _ _ => z a c q1 q2))
        rw [show bc 0 = 0 from rfl] at h9
        exact (bc_0 b h64).mp (by omega)
    show bw_go _ _ _ _ _ _ _ 1149 [(0, .retAddr _), (1, .ref _), (2, .ref _), (3, .int _), (4, .int _), (5, .int _), (6, .int _), (7, .int _), (8, .int _), (9, .int _), (11, .ref _), (12, .int _), (22, .int _), (23, .int _), (24, .int _), (25, .int _)] ([]) _ _
    refine go_iload dL_law_1149 rfl ?_
    refine go_iload_n dL_law_1151 rfl ?_
    refine go_icmp_ge (pc' := 1261) dL_law_1152 rfl (fun c_1152 => ?_) (fun c_1152 => ?_)
    · -- ge at 1152: yes
      show bw_go _ _ _ _ _ _ _ 1261 [(0, .retAddr _), (1, .ref _), (2, .ref _), (3, .int _), (4, .int _), (5, .int _), (6, .int _), (7, .int _), (8, .int _), (9, .int _), (11, .ref _), (12, .int _), (22, .int _), (23, .int _), (24, .int _), (25, .int _)] ([]) _ _
      refine go_iload dL_law_1261 rfl ?_
      refine go_iload dL_law_1263 rfl ?_
      refine go_cs (as := [.int _]) 0 dL_law_1265 rfl rfl mt_9_62 (Nat.le_of_ble_eq_true rfl) rfl rfl (Nat.le_of_ble_eq_true rfl) (Nat.le_of_ble_eq_true rfl) (Nat.le_of_ble_eq_true rfl) (Nat.le_of_ble_eq_true rfl) ?_
      refine me_L_bits h64 ?_
      show bw_go _ _ _ _ _ _ _ 1268 [(0, .retAddr _), (1, .ref _), (2, .ref _), (3, .int _), (4, .int _), (5, .int _), (6, .int _), (7, .int _), (8, .int _), (9, .int _), (11, .ref _), (12, .int _), (22, .int _), (23, .int _), (24, .int _), (25, .int _)] ((.int _) :: (.int _) :: []) _ _
      refine go_icmp_ne (pc' := 1300) dL_law_1268 rfl (fun c_1268 => ?_) (fun c_1268 => ?_)
      · -- ne at 1268: yes
        exact absurd rfl c_1268
      · -- ne at 1268: no
        show bw_go _ _ _ _ _ _ _ 1271 [(0, .retAddr _), (1, .ref _), (2, .ref _), (3, .int _), (4, .int _), (5, .int _), (6, .int _), (7, .int _), (8, .int _), (9, .int _), (11, .ref _), (12, .int _), (22, .int _), (23, .int _), (24, .int _), (25, .int _)] ([]) _ _
        refine go_iload dL_law_1271 rfl ?_
        refine go_iload_n dL_law_1273 rfl ?_
        refine go_icmp_ge (pc' := 1300) dL_law_1274 rfl (fun c_1274 => ?_) (fun c_1274 => ?_)
        · -- ge at 1274: yes
          exfalso; have t_0 := nI_toInt (n := bc b) (by omega); have t_1 := nI_toInt (n := cN (cc B)) (by omega); simp only [i_le] at c_1274; omega
        · -- ge at 1274: no
          show bw_go _ _ _ _ _ _ _ 1277 [(0, .retAddr _), (1, .ref _), (2, .ref _), (3, .int _), (4, .int _), (5, .int _), (6, .int _), (7, .int _), (8, .int _), (9, .int _), (11, .ref _), (12, .int _), (22, .int _), (23, .int _), (24, .int _), (25, .int _)] ([]) _ _
          refine go_iload dL_law_1277 rfl ?_
          refine go_if_ne (pc' := 1286) dL_law_1279 rfl (fun c_1279 => ?_) (fun c_1279 => ?_)
          · -- ne at 1279: yes
            show bw_go _ _ _ _ _ _ _ 1286 [(0, .retAddr _), (1, .ref _), (2, .ref _), (3, .int _), (4, .int _), (5, .int _), (6, .int _), (7, .int _), (8, .int _), (9, .int _), (11, .ref _), (12, .int _), (22, .int _), (23, .int _), (24, .int _), (25, .int _)] ([]) _ _
            refine go_iconst (0) dL_law_1286 rfl ?_
            refine go_iload dL_law_1287 rfl ?_
            refine go_if_ne (pc' := 1296) dL_law_1289 rfl (fun c_1289 => ?_) (fun c_1289 => ?_)
            · -- ne at 1289: yes
              show bw_go _ _ _ _ _ _ _ 1296 [(0, .retAddr _), (1, .ref _), (2, .ref _), (3, .int _), (4, .int _), (5, .int _), (6, .int _), (7, .int _), (8, .int _), (9, .int _), (11, .ref _), (12, .int _), (22, .int _), (23, .int _), (24, .int _), (25, .int _)] ((.int _) :: []) _ _
              refine go_iconst (0) dL_law_1296 rfl ?_
              refine go_icmp_eq (pc' := 1302) dL_law_1297 rfl (fun _ => ?_) (fun c => absurd (by decide) c)
              refine go_ls [(0, .retAddr _), (1, .ref _), (2, .ref _), (3, .int _), (4, .int _), (5, .int _), (6, .int _), (7, .int _), (8, .int _), (9, .int _), (11, .ref _), (12, .int _)] (by show List.Nodup ([0, 1, 2, 3, 4, 5, 6, 7, 8, 9, 11, 12] : List Nat); decide) (by show List.Nodup ([0, 1, 2, 3, 4, 5, 6, 7, 8, 9, 11, 12, 22, 23, 24, 25] : List Nat); decide) (le_cons rfl (le_cons rfl (le_cons rfl (le_cons rfl (le_cons rfl (le_cons rfl (le_cons rfl (le_cons rfl (le_cons rfl (le_cons rfl (le_cons rfl (le_cons rfl (le_nil _))))))))))))) ?_
              exact K9 _ _ hx
            · -- ne at 1289: no
              show bw_go _ _ _ _ _ _ _ 1292 [(0, .retAddr _), (1, .ref _), (2, .ref _), (3, .int _), (4, .int _), (5, .int _), (6, .int _), (7, .int _), (8, .int _), (9, .int _), (11, .ref _), (12, .int _), (22, .int _), (23, .int _), (24, .int _), (25, .int _)] ((.int _) :: []) _ _
              refine go_iconst (1) dL_law_1292 rfl ?_
              refine go_goto (pc' := 1297) dL_law_1293 rfl ?_
              show bw_go _ _ _ _ _ _ _ 1297 [(0, .retAddr _), (1, .ref _), (2, .ref _), (3, .int _), (4, .int _), (5, .int _), (6, .int _), (7, .int _), (8, .int _), (9, .int _), (11, .ref _), (12, .int _), (22, .int _), (23, .int _), (24, .int _), (25, .int _)] ((.int _) :: (.int _) :: []) _ _
              refine go_icmp_eq (pc' := 1302) dL_law_1297 rfl (fun c => absurd c (by decide)) (fun _ => ?_)
              exfalso
              have t_0 := nI_toInt (n := bc b) (by omega)
              have t_1 := nI_toInt (n := p) (by omega)
              have l_0 := i_0
              simp only [i_eq] at c_1279 c_1289
              omega
          · -- ne at 1279: no
            show bw_go _ _ _ _ _ _ _ 1282 [(0, .retAddr _), (1, .ref _), (2, .ref _), (3, .int _), (4, .int _), (5, .int _), (6, .int _), (7, .int _), (8, .int _), (9, .int _), (11, .ref _), (12, .int _), (22, .int _), (23, .int _), (24, .int _), (25, .int _)] ([]) _ _
            refine go_iconst (1) dL_law_1282 rfl ?_
            refine go_goto (pc' := 1287) dL_law_1283 rfl ?_
            show bw_go _ _ _ _ _ _ _ 1287 [(0, .retAddr _), (1, .ref _), (2, .ref _), (3, .int _), (4, .int _), (5, .int _), (6, .int _), (7, .int _), (8, .int _), (9, .int _), (11, .ref _), (12, .int _), (22, .int _), (23, .int _), (24, .int _), (25, .int _)] ((.int _) :: []) _ _
            refine go_iload dL_law_1287 rfl ?_
            refine go_if_ne (pc' := 1296) dL_law_1289 rfl (fun c_1289 => ?_) (fun c_1289 => ?_)
            · -- ne at 1289: yes
              show bw_go _ _ _ _ _ _ _ 1296 [(0, .retAddr _), (1, .ref _), (2, .ref _), (3, .int _), (4, .int _), (5, .int _), (6, .int _), (7, .int _), (8, .int _), (9, .int _), (11, .ref _), (12, .int _), (22, .int _), (23, .int _), (24, .int _), (25, .int _)] ((.int _) :: []) _ _
              refine go_iconst (0) dL_law_1296 rfl ?_
              refine go_icmp_eq (pc' := 1302) dL_law_1297 rfl (fun c => absurd c (by decide)) (fun _ => ?_)
              exfalso
              have t_0 := nI_toInt (n := bc b) (by omega)
              have t_1 := nI_toInt (n := p) (by omega)
              have l_0 := i_0
              simp only [i_eq] at c_1279 c_1289
              omega
            · -- ne at 1289: no
              show bw_go _ _ _ _ _ _ _ 1292 [(0, .retAddr _), (1, .ref _), (2, .ref _), (3, .int _), (4, .int _), (5, .int _), (6, .int _), (7, .int _), (8, .int _), (9, .int _), (11, .ref _), (12, .int _), (22, .int _), (23, .int _), (24, .int _), (25, .int _)] ((.int _) :: []) _ _
              refine go_iconst (1) dL_law_1292 rfl ?_
              refine go_goto (pc' := 1297) dL_law_1293 rfl ?_
              show bw_go _ _ _ _ _ _ _ 1297 [(0, .retAddr _), (1, .ref _), (2, .ref _), (3, .int _), (4, .int _), (5, .int _), (6, .int _), (7, .int _), (8, .int _), (9, .int _), (11, .ref _), (12, .int _), (22, .int _), (23, .int _), (24, .int _), (25, .int _)] ((.int _) :: (.int _) :: []) _ _
              refine go_icmp_eq (pc' := 1302) dL_law_1297 rfl (fun _ => ?_) (fun c => absurd (by decide) c)
              refine go_ls [(0, .retAddr _), (1, .ref _), (2, .ref _), (3, .int _), (4, .int _), (5, .int _), (6, .int _), (7, .int _), (8, .int _), (9, .int _), (11, .ref _), (12, .int _)] (by show List.Nodup ([0, 1, 2, 3, 4, 5, 6, 7, 8, 9, 11, 12] : List Nat); decide) (by show List.Nodup ([0, 1, 2, 3, 4, 5, 6, 7, 8, 9, 11, 12, 22, 23, 24, 25] : List Nat); decide) (le_cons rfl (le_cons rfl (le_cons rfl (le_cons rfl (le_cons rfl (le_cons rfl (le_cons rfl (le_cons rfl (le_cons rfl (le_cons rfl (le_cons rfl (le_cons rfl (le_nil _))))))))))))) ?_
              exact K9 _ _ hx
    · -- ge at 1152: no
      exfalso; have t_0 := nI_toInt (n := cN (cc B)) (by omega); simp only [i_le, i_lt, i_eq, bi_eq] at c_1152; omega
