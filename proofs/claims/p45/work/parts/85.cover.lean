/-! the law: who tell of all -/
theorem onzr {C : CT} {i : Nat} (h : tlC C i < 64) : onC C i ||| zrC C i = tlC C i := by
  apply Nat.eq_of_testBit_eq
  intro j
  unfold zrC
  rw [Nat.testBit_or, Nat.testBit_and, Nat.testBit_xor]
  cases e : (tlC C i).testBit j with
  | false =>
    have h2 : (onC C i).testBit j = false := by
      cases h3 : (onC C i).testBit j with
      | false => rfl
      | true => rw [on_sub h3] at e; cases e
    rw [h2]; rfl
  | true =>
    have h6 : j < 6 := Nat.lt_of_not_le (fun z => by
      rw [Nat.testBit_lt_two_pow (Nat.lt_of_lt_of_le h (Nat.pow_le_pow_right (n := 2) (by decide) z))] at e
      cases e)
    rw [b63 j h6]
    cases (onC C i).testBit j <;> rfl
theorem orf_c {f g : Nat → Nat} : ∀ k, (∀ i, i < k → f i = g i) → orf f k = orf g k := by
  intro k
  induction k with
  | zero => intro _; rfl
  | succ k ih =>
    intro h
    show orf f k ||| f k = orf g k ||| g k
    rw [ih (fun i hi => h i (by omega)), h k (by omega)]
theorem tld_e {C : CT} (hk : co_k C) (s : Nat) : tld (taC C) s = orf (fun i => if s.testBit i = true then tlC C i else 0) (cN C) := by
  unfold tld
  refine orf_c _ (fun i hi => ?_)
  show (if s.testBit i = true then onC C i ||| zrC C i else 0) = _
  rw [onzr (tlC_lt hk hi)]
theorem sub_t : ∀ y, y < 64 → ∀ e, e < 64 → (y &&& (63 ^^^ e) = 0 ↔ e &&& y = y) := by decide +kernel
theorem sub_m {a b y : Nat} (h : ∀ t, a.testBit t = true → b.testBit t = true) (ha : a &&& y = y) : b &&& y = y := by
  apply Nat.eq_of_testBit_eq
  intro j
  rw [Nat.testBit_and]
  cases e : y.testBit j with
  | false => cases b.testBit j <;> rfl
  | true =>
    have h1 : (a &&& y).testBit j = true := by rw [ha]; exact e
    rw [Nat.testBit_and, e, Bool.and_true] at h1
    rw [h j h1]; rfl
theorem bc_0 : ∀ b, b < 64 → (bc b = 0 ↔ b = 0) := by decide +kernel
def evC (C : CT) (k : Nat) : Nat := orf (tlC C) k
def ofC (C : CT) (b k : Nat) : Nat := orf (fun i => if b.testBit i = true then tlC C i else 0) k
theorem of_ev {C : CT} {b k t : Nat} (h : (ofC C b k).testBit t = true) : (evC C k).testBit t = true := by
  unfold ofC at h
  rw [orf_tb] at h
  obtain ⟨i, h1, h2⟩ := h
  refine (orf_tb _).mpr ⟨i, h1, ?_⟩
  split at h2
  · exact h2
  · rw [Nat.zero_testBit] at h2; cases h2
theorem ev_all {C : CT} {k : Nat} : ofC C (2 ^ k - 1) k = evC C k := orf_c _ (fun i hi => by rw [all_tb hi, if_pos rfl])
theorem ev_lt {C : CT} (hk : co_k C) {k : Nat} (h : k ≤ cN C) : evC C k < 64 := orf_lt' k (fun i hi => tlC_lt hk (by omega))
theorem of_lt {C : CT} (hk : co_k C) {b k : Nat} (h : k ≤ cN C) : ofC C b k < 64 := orf_lt' k (fun i hi => by
  split
  · exact tlC_lt hk (by omega)
  · decide)
theorem lx_cover {X : Nat × (Nat → Int32)} {Q : Option Value → bw_H → Prop} {h : bw_H} {z c : Nat} {S : ST} {A : LY} {W T0 : RW} {B : AC} {K0 : Nat → Option AC} (hl : LX z c h S A W T0 B K0) {y : Nat} (hy : y < 64) (h0 : 0 < cN (cc B)) (hQ1 : ∀ G S', LX z c G S' A W T0 B K0 → (∀ s, s < 2 ^ cN (cc B) → ¬ (tld (taC (cc B)) s &&& y = y)) → Q (some (.int (-9))) G) (hQ2 : ∀ G S' b, LX z c G S' A W T0 B K0 → sQ S' = nI b → b < 2 ^ cN (cc B) → (tld (taC (cc B)) b &&& y = y) → (∀ s, s < 2 ^ cN (cc B) → (tld (taC (cc B)) s &&& y = y) → bc b ≤ bc s) → Q (some (.int (nI (bc b)))) G) : bw_me X 4 bm_X7_cover false [.ref 0, .int (nI y)] h Q := by
  obtain ⟨hb, rfl, rfl, rfl, rfl⟩ := hl
  have hk := lb_6 hb
  have hN := hk.1
  refine lb_me hb (fun h Q hx hq => me_X7_cover hx hq) (fun _ => rfl) (fun _ => rfl) (fun G hG => ?_)
  have h1 : ¬ cN (nowC S) = 0 := by have : 0 < cN (nowC S) := h0; omega
  have t_0 := nI_toInt (n := y) (by omega)
  cases e0 : bst (cvP S y) (2 ^ cN (nowC S)) with
  | none =>
    have e : yCover (nI y) S = (-9, S) := by
      unfold yCover
      rw [if_pos ⟨by omega, by omega⟩, if_neg h1, rn_n (by omega), e0]
    rw [e] at hG ⊢
    exact hQ1 G _ ⟨hG, rfl, rfl, rfl, rfl⟩ (fun s hs => of_decide_eq_false (bst_none e0 hs))
  | some b =>
    have e : yCover (nI y) S = (nI (bc b), wQ S (nI b)) := by
      unfold yCover
      rw [if_pos ⟨by omega, by omega⟩, if_neg h1, rn_n (by omega), e0]
    rw [e] at hG ⊢
    obtain ⟨b1, b2, b3⟩ := bst_some e0
    exact hQ2 G _ b ⟨hG, rfl, rfl, rfl, rfl⟩ rfl b1 (of_decide_eq_true b2) (fun s hs hp => b3 s hs (decide_eq_true hp))
  skip
theorem lx_apart {X : Nat × (Nat → Int32)} {Q : Option Value → bw_H → Prop} {h : bw_H} {z c : Nat} {S : ST} {A : LY} {W T0 : RW} {B : AC} {K0 : Nat → Option AC} (hl : LX z c h S A W T0 B K0) (h0 : 0 < cN (cc B)) (hQ : ∀ G S' b, LX z c G S' A W T0 B K0 → sQ S' = nI b → b < 2 ^ cN (cc B) → riv (taC (cc B)) ((2 ^ cN (cc B) - 1) &&& (63 ^^^ b)) = false → (∀ s, s < 2 ^ cN (cc B) → riv (taC (cc B)) ((2 ^ cN (cc B) - 1) &&& (63 ^^^ s)) = false → bc b ≤ bc s) → Q (some (.int (nI (bc b)))) G) : bw_me X 4 bm_X7_apart false [.ref 0] h Q := by
  obtain ⟨hb, rfl, rfl, rfl, rfl⟩ := hl
  have hk := lb_6 hb
  have hN := hk.1
  refine lb_me hb (fun h Q hx hq => me_X7_apart hx hq) (fun _ => rfl) (fun _ => rfl) (fun G hG => ?_)
  have h1 : ¬ cN (nowC S) = 0 := by have : 0 < cN (nowC S) := h0; omega
  have hp1 : 1 ≤ 2 ^ cN (nowC S) := Nat.one_le_two_pow
  have hl : apP S (2 ^ cN (nowC S) - 1) = true := by
    unfold apP
    rw [ap_last _ hN, riv_0]; rfl
  cases e0 : bst (apP S) (2 ^ cN (nowC S)) with
  | none => exact absurd e0 (bst_s hl (by omega))
  | some b =>
    have e : yApart S = (nI (bc b), wQ S (nI b)) := by
      unfold yApart
      rw [if_neg h1, e0]
    rw [e] at hG ⊢
    obtain ⟨b1, b2, b3⟩ := bst_some e0
    have hn : ∀ s, apP S s = true ↔ riv (taC (nowC S)) ((2 ^ cN (nowC S) - 1) &&& (63 ^^^ s)) = false := fun s => by
      unfold apP
      cases riv (taC (nowC S)) ((2 ^ cN (nowC S) - 1) &&& (63 ^^^ s)) <;> decide
    exact hQ G _ b ⟨hG, rfl, rfl, rfl, rfl⟩ rfl b1 ((hn b).mp b2) (fun s hs hp => b3 s hs ((hn s).mpr hp))
  skip
theorem lx_rivals {X : Nat × (Nat → Int32)} {Q : Option Value → bw_H → Prop} {h : bw_H} {z c : Nat} {S : ST} {A : LY} {W T0 : RW} {B : AC} {K0 : Nat → Option AC} (hl : LX z c h S A W T0 B K0) {i j : Nat} (hi : i < cN (cc B)) (hj : j < cN (cc B)) (hij : i ≠ j) (hQ : ∀ G S', LX z c G S' A W T0 B K0 → Q (some (.int (nI (cla (taC (cc B)) i j)))) G) : bw_me X 4 bm_X7_rivals false [.ref 0, .int (nI i), .int (nI j)] h Q := by
  obtain ⟨hb, rfl, rfl, rfl, rfl⟩ := hl
  have hk := lb_6 hb
  have hN := hk.1
  refine lb_me hb (fun h Q hx hq => me_X7_rivals hx hq) (fun _ => rfl) (fun _ => rfl) (fun G hG => ?_)
  have e : yRivals (nI i) (nI j) S = (nI (cla (taC (nowC S)) i j), S) := by
    have hi2 : i < cN (nowC S) := hi
    have hj2 : j < cN (nowC S) := hj
    unfold yRivals
    rw [if_pos ⟨isn_t hi2 (by omega), isn_t hj2 (by omega), fun z => hij ((nI_eq (by omega) (by omega)).mp z)⟩, rn_n (by omega), rn_n (by omega)]
  rw [e] at hG ⊢
  exact hQ G _ ⟨hG, rfl, rfl, rfl, rfl⟩
set_option maxRecDepth 100000 in
set_option maxHeartbeats 4000000 in
theorem g980_n {X : Nat × (Nat → Int32)} {Q : Option Value → bw_H → Prop} {h : bw_H} {S : ST} {W T0 : RW} {B : AC} {K0 : Nat → Option AC} {F T : Nat → Int32} {x y : Nat} (hx : LX 2 75 h S (A2 F T) W T0 B K0) (hf : LF F B) (hT : ∀ j, j < cN (cc B) → T j = nI (tlC (cc B) j)) (hy : y < 64) (hno : ∀ s, s < 2 ^ cN (cc B) → ¬ (tld (taC (cc B)) s &&& y = y)) (K9 : ∀ G S', LX 2 75 G S' (A2 F T) W T0 B K0 → bw_go X 12 9 48 false (some .boolean) cL_law 1131 [(0, .retAddr 1), (1, .ref (0)), (2, .ref (62)), (3, .int (nI (cN (cc B)))), (4, .int (nI (2 ^ cN (cc B) - 1))), (5, .int (nI (cT B.1))), (6, .int (nI (cD (cc B)))), (7, .int (nI (cW (cc B)))), (8, .int (nI (sho (taC (cc B)) (2 ^ cN (cc B) - 1)))), (9, .int (nI (smN (cR (cc B)) (cN (cc B))))), (11, .ref (76)), (12, .int (nI x))] [] G Q) : bw_go X 12 9 48 false (some .boolean) cL_law 980 [(0, .retAddr 1), (1, .ref (0)), (2, .ref (62)), (3, .int (nI (cN (cc B)))), (4, .int (nI (2 ^ cN (cc B) - 1))), (5, .int (nI (cT B.1))), (6, .int (nI (cD (cc B)))), (7, .int (nI (cW (cc B)))), (8, .int (nI (sho (taC (cc B)) (2 ^ cN (cc B) - 1)))), (9, .int (nI (smN (cR (cc B)) (cN (cc B))))), (11, .ref (76)), (12, .int (nI x)), (17, .int (nI y))] [.int (-9)] h Q := by
  have hk := lx_k hx
  have hN := hk.1
  have hp := p2N hN
  have hp1 : 1 ≤ 2 ^ cN (cc B) := Nat.one_le_two_pow
  show bw_go _ _ _ _ _ _ _ 980 [(0, .retAddr _), (1, .ref _), (2, .ref _), (3, .int _), (4, .int _), (5, .int _), (6, .int _), (7, .int _), (8, .int _), (9, .int _), (11, .ref _), (12, .int _), (17, .int _)] ((.int _) :: []) _ _
  refine go_istore dL_law_980 (Nat.lt_of_lt_of_le (Nat.lt_succ_self _) (Nat.le_of_ble_eq_true rfl)) ?_
  show bw_go _ _ _ _ _ _ _ 982 [(18, .int _), (0, .retAddr _), (1, .ref _), (2, .ref _), (3, .int _), (4, .int _), (5, .int _), (6, .int _), (7, .int _), (8, .int _), (9, .int _), (11, .ref _), (12, .int _), (17, .int _)] ([]) _ _
  refine go_aload_n dL_law_982 rfl ?_
  refine go_iload dL_law_983 rfl ?_
  refine go_cs (as := [.ref _, .int _]) 1 dL_law_985 rfl rfl mt_9_84 (Nat.le_of_ble_eq_true rfl) rfl rfl (Nat.le_of_ble_eq_true rfl) (Nat.le_of_ble_eq_true rfl) (Nat.le_of_ble_eq_true rfl) (Nat.le_of_ble_eq_true rfl) ?_
  refine lx_askd hx (fun G hx => ?_)
  rw [if_pos (by decide)]
  show bw_go _ _ _ _ _ _ _ 988 [(18, .int _), (0, .retAddr _), (1, .ref _), (2, .ref _), (3, .int _), (4, .int _), (5, .int _), (6, .int _), (7, .int _), (8, .int _), (9, .int _), (11, .ref _), (12, .int _), (17, .int _)] ((.int _) :: []) _ _
  refine go_istore dL_law_988 (Nat.lt_of_lt_of_le (Nat.lt_succ_self _) (Nat.le_of_ble_eq_true rfl)) ?_
  show bw_go _ _ _ _ _ _ _ 990 [(19, .int _), (18, .int _), (0, .retAddr _), (1, .ref _), (2, .ref _), (3, .int _), (4, .int _), (5, .int _), (6, .int _), (7, .int _), (8, .int _), (9, .int _), (11, .ref _), (12, .int _), (17, .int _)] ([]) _ _
  refine go_iconst (0) dL_law_990 rfl ?_
  refine go_istore dL_law_991 (Nat.lt_of_lt_of_le (Nat.lt_succ_self _) (Nat.le_of_ble_eq_true rfl)) ?_
  show bw_go _ _ _ _ _ _ _ 993 [(20, .int _), (19, .int _), (18, .int _), (0, .retAddr _), (1, .ref _), (2, .ref _), (3, .int _), (4, .int _), (5, .int _), (6, .int _), (7, .int _), (8, .int _), (9, .int _), (11, .ref _), (12, .int _), (17, .int _)] ([]) _ _
  refine go_iconst (0) dL_law_993 rfl ?_
  refine go_istore dL_law_994 (Nat.lt_of_lt_of_le (Nat.lt_succ_self _) (Nat.le_of_ble_eq_true rfl)) ?_
  show bw_go _ _ _ _ _ _ _ 996 [(21, .int _), (20, .int _), (19, .int _), (18, .int _), (0, .retAddr _), (1, .ref _), (2, .ref _), (3, .int _), (4, .int _), (5, .int _), (6, .int _), (7, .int _), (8, .int _), (9, .int _), (11, .ref _), (12, .int _), (17, .int _)] ([]) _ _
  refine go_iconst (0) dL_law_996 rfl ?_
  refine go_istore dL_law_997 (Nat.lt_of_lt_of_le (Nat.lt_succ_self _) (Nat.le_of_ble_eq_true rfl)) ?_
  show bw_go _ _ _ _ _ _ _ 999 [(22, .int _), (21, .int _), (20, .int _), (19, .int _), (18, .int _), (0, .retAddr _), (1, .ref _), (2, .ref _), (3, .int _), (4, .int _), (5, .int _), (6, .int _), (7, .int _), (8, .int _), (9, .int _), (11, .ref _), (12, .int _), (17, .int _)] ([]) _ _
  refine go_ls [(0, .retAddr _), (1, .ref _), (2, .ref _), (3, .int _), (4, .int _), (5, .int _), (6, .int _), (7, .int _), (8, .int _), (9, .int _), (11, .ref _), (12, .int _), (17, .int _), (18, .int _), (19, .int _), (20, .int _), (21, .int _), (22, .int _)] (by show List.Nodup ([0, 1, 2, 3, 4, 5, 6, 7, 8, 9, 11, 12, 17, 18, 19, 20, 21, 22] : List Nat); decide) (by show List.Nodup ([22, 21, 20, 19, 18, 0, 1, 2, 3, 4, 5, 6, 7, 8, 9, 11, 12, 17] : List Nat); decide) (le_cons rfl (le_cons rfl (le_cons rfl (le_cons rfl (le_cons rfl (le_cons rfl (le_cons rfl (le_cons rfl (le_cons rfl (le_cons rfl (le_cons rfl (le_cons rfl (le_cons rfl (le_cons rfl (le_cons rfl (le_cons rfl (le_cons rfl (le_cons rfl (le_nil _))))))))))))))))))) ?_
  refine go_for (P := fun i => ∀ (g : bw_H) (S : ST), (LX 2 75 g S (A2 F T) W T0 B K0) → bw_go X 12 9 48 false (some .boolean) cL_law 999 [(0, .retAddr 1), (1, .ref (0)), (2, .ref (62)), (3, .int (nI (cN (cc B)))), (4, .int (nI (2 ^ cN (cc B) - 1))), (5, .int (nI (cT B.1))), (6, .int (nI (cD (cc B)))), (7, .int (nI (cW (cc B)))), (8, .int (nI (sho (taC (cc B)) (2 ^ cN (cc B) - 1)))), (9, .int (nI (smN (cR (cc B)) (cN (cc B))))), (11, .ref (76)), (12, .int (nI x)), (17, .int (nI y)), (18, .int (-9)), (19, .int (-100)), (20, .int (0)), (21, .int (nI (evC (cc B) i))), (22, .int (nI i))] [] g Q) (N := (cN (cc B))) (fun i hi K => ?_) ?_ (0) (Nat.zero_le _) _ _ hx
  · -- a turn
    intro g S hv
    have hx := hv
    show bw_go _ _ _ _ _ _ _ 999 [(0, .retAddr _), (1, .ref _), (2, .ref _), (3, .int _), (4, .int _), (5, .int _), (6, .int _), (7, .int _), (8, .int _), (9, .int _), (11, .ref _), (12, .int _), (17, .int _), (18, .int _), (19, .int _), (20, .int _), (21, .int _), (22, .int _)] ([]) _ _
    refine go_iload dL_law_999 rfl ?_
    refine go_iload_n dL_law_1001 rfl ?_
    refine go_icmp_ge (pc' := 1051) dL_law_1002 rfl (fun c_1002 => ?_) (fun c_1002 => ?_)
    · -- ge at 1002: yes
      exfalso; have t_0 := nI_toInt (n := i) (by omega); have t_1 := nI_toInt (n := cN (cc B)) (by omega); simp only [i_le, i_lt, i_eq, bi_eq] at c_1002; omega
    · -- ge at 1002: no
      show bw_go _ _ _ _ _ _ _ 1005 [(0, .retAddr _), (1, .ref _), (2, .ref _), (3, .int _), (4, .int _), (5, .int _), (6, .int _), (7, .int _), (8, .int _), (9, .int _), (11, .ref _), (12, .int _), (17, .int _), (18, .int _), (19, .int _), (20, .int _), (21, .int _), (22, .int _)] ([]) _ _
      refine go_iload dL_law_1005 rfl ?_
      refine go_iload dL_law_1007 rfl ?_
      refine go_if_lt (pc' := 1031) dL_law_1009 rfl (fun _ => ?_) (fun c => absurd (by decide) c)
      show bw_go _ _ _ _ _ _ _ 1031 [(0, .retAddr _), (1, .ref _), (2, .ref _), (3, .int _), (4, .int _), (5, .int _), (6, .int _), (7, .int _), (8, .int _), (9, .int _), (11, .ref _), (12, .int _), (17, .int _), (18, .int _), (19, .int _), (20, .int _), (21, .int _), (22, .int _)] ((.int _) :: []) _ _
      refine go_iconst (0) dL_law_1031 rfl ?_
      refine go_ior dL_law_1032 ?_
      rw [show (0 : Int32) ||| 0 = 0 from rfl]
      refine go_istore dL_law_1033 (Nat.lt_of_lt_of_le (Nat.lt_succ_self _) (Nat.le_of_ble_eq_true rfl)) ?_
      show bw_go _ _ _ _ _ _ _ 1035 [(20, .int _), (0, .retAddr _), (1, .ref _), (2, .ref _), (3, .int _), (4, .int _), (5, .int _), (6, .int _), (7, .int _), (8, .int _), (9, .int _), (11, .ref _), (12, .int _), (17, .int _), (18, .int _), (19, .int _), (21, .int _), (22, .int _)] ([]) _ _
      refine go_iload dL_law_1035 rfl ?_
      refine go_aload dL_law_1037 rfl ?_
      refine go_iload dL_law_1039 rfl ?_
      refine go_ia dL_law_1041 (lb_a hx.1 (q := 76) rfl).2.1 (lb_a hx.1 (q := 76) rfl).1 (n_in (N := 6) (by omega) (by decide)) ?_
      rw [nI_clamp (by omega), (lb_a hx.1 (q := 76) rfl).2.2, hT i hi]
      refine go_ior dL_law_1042 ?_
      rw [or_n, show evC (cc B) i ||| tlC (cc B) i = evC (cc B) (i + 1) from rfl]
      refine go_istore dL_law_1043 (Nat.lt_of_lt_of_le (Nat.lt_succ_self _) (Nat.le_of_ble_eq_true rfl)) ?_
      show bw_go _ _ _ _ _ _ _ 1045 [(21, .int _), (20, .int _), (0, .retAddr _), (1, .ref _), (2, .ref _), (3, .int _), (4, .int _), (5, .int _), (6, .int _), (7, .int _), (8, .int _), (9, .int _), (11, .ref _), (12, .int _), (17, .int _), (18, .int _), (19, .int _), (22, .int _)] ([]) _ _
      refine go_iinc dL_law_1045 rfl (nI_1 i) (Nat.lt_of_lt_of_le (Nat.lt_succ_self _) (Nat.le_of_ble_eq_true rfl)) ?_
      show bw_go _ _ _ _ _ _ _ 1048 [(22, .int _), (21, .int _), (20, .int _), (0, .retAddr _), (1, .ref _), (2, .ref _), (3, .int _), (4, .int _), (5, .int _), (6, .int _), (7, .int _), (8, .int _), (9, .int _), (11, .ref _), (12, .int _), (17, .int _), (18, .int _), (19, .int _)] ([]) _ _
      refine go_goto (pc' := 999) dL_law_1048 rfl ?_
      refine go_ls [(0, .retAddr _), (1, .ref _), (2, .ref _), (3, .int _), (4, .int _), (5, .int _), (6, .int _), (7, .int _), (8, .int _), (9, .int _), (11, .ref _), (12, .int _), (17, .int _), (18, .int _), (19, .int _), (20, .int _), (21, .int _), (22, .int _)] (by show List.Nodup ([0, 1, 2, 3, 4, 5, 6, 7, 8, 9, 11, 12, 17, 18, 19, 20, 21, 22] : List Nat); decide) (by show List.Nodup ([22, 21, 20, 0, 1, 2, 3, 4, 5, 6, 7, 8, 9, 11, 12, 17, 18, 19] : List Nat); decide) (le_cons rfl (le_cons rfl (le_cons rfl (le_cons rfl (le_cons rfl (le_cons rfl (le_cons rfl (le_cons rfl (le_cons rfl (le_cons rfl (le_cons rfl (le_cons rfl (le_cons rfl (le_cons rfl (le_cons rfl (le_cons rfl (le_cons rfl (le_cons rfl (le_nil _))))))))))))))))))) ?_
      exact K _ _ hx
  · -- behind the last
    intro g S hv
    have hx := hv
    show bw_go _ _ _ _ _ _ _ 999 [(0, .retAddr _), (1, .ref _), (2, .ref _), (3, .int _), (4, .int _), (5, .int _), (6, .int _), (7, .int _), (8, .int _), (9, .int _), (11, .ref _), (12, .int _), (17, .int _), (18, .int _), (19, .int _), (20, .int _), (21, .int _), (22, .int _)] ([]) _ _
    refine go_iload dL_law_999 rfl ?_
    refine go_iload_n dL_law_1001 rfl ?_
    refine go_icmp_ge (pc' := 1051) dL_law_1002 rfl (fun c_1002 => ?_) (fun c_1002 => ?_)
    · -- ge at 1002: yes
      show bw_go _ _ _ _ _ _ _ 1051 [(0, .retAddr _), (1, .ref _), (2, .ref _), (3, .int _), (4, .int _), (5, .int _), (6, .int _), (7, .int _), (8, .int _), (9, .int _), (11, .ref _), (12, .int _), (17, .int _), (18, .int _), (19, .int _), (20, .int _), (21, .int _), (22, .int _)] ([]) _ _
      refine go_iload dL_law_1051 rfl ?_
      refine go_bipush (-9) dL_law_1053 rfl ?_
      refine go_icmp_ne (pc' := 1062) dL_law_1055 rfl (fun c => absurd c (by decide)) (fun _ => ?_)
      show bw_go _ _ _ _ _ _ _ 1058 [(0, .retAddr _), (1, .ref _), (2, .ref _), (3, .int _), (4, .int _), (5, .int _), (6, .int _), (7, .int _), (8, .int _), (9, .int _), (11, .ref _), (12, .int _), (17, .int _), (18, .int _), (19, .int _), (20, .int _), (21, .int _), (22, .int _)] ([]) _ _
      refine go_iconst (1) dL_law_1058 rfl ?_
      refine go_goto (pc' := 1063) dL_law_1059 rfl ?_
      show bw_go _ _ _ _ _ _ _ 1063 [(0, .retAddr _), (1, .ref _), (2, .ref _), (3, .int _), (4, .int _), (5, .int _), (6, .int _), (7, .int _), (8, .int _), (9, .int _), (11, .ref _), (12, .int _), (17, .int _), (18, .int _), (19, .int _), (20, .int _), (21, .int _), (22, .int _)] ((.int _) :: []) _ _
      refine go_iload dL_law_1063 rfl ?_
      refine go_iload dL_law_1065 rfl ?_
      refine go_iconst (-1) dL_law_1067 rfl ?_
      refine go_ixor dL_law_1068 ?_
      refine go_iand dL_law_1069 ?_
      rw [not_n _ (ev_lt hk (Nat.le_refl _)) _ hy]
      refine go_if_eq (pc' := 1077) dL_law_1070 rfl (fun c_1070 => ?_) (fun c_1070 => ?_)
      · -- eq at 1070: yes
        show bw_go _ _ _ _ _ _ _ 1077 [(0, .retAddr _), (1, .ref _), (2, .ref _), (3, .int _), (4, .int _), (5, .int _), (6, .int _), (7, .int _), (8, .int _), (9, .int _), (11, .ref _), (12, .int _), (17, .int _), (18, .int _), (19, .int _), (20, .int _), (21, .int _), (22, .int _)] ((.int _) :: []) _ _
        refine go_iconst (0) dL_law_1077 rfl ?_
        refine go_icmp_ne (pc' := 1129) dL_law_1078 rfl (fun _ => ?_) (fun c => absurd (by decide) c)
        exfalso
        refine hno (2 ^ cN (cc B) - 1) (by omega) ?_
        have e1 : y &&& (63 ^^^ evC (cc B) (cN (cc B))) = 0 := by
          have z : nI (y &&& (63 ^^^ evC (cc B) (cN (cc B)))) = 0 := c_1070
          exact (nI_eq (b := 0) (Nat.lt_of_lt_of_le (and_lt hy) (by decide)) (by decide)).mp z
        rw [tld_e hk]
        show ofC (cc B) (2 ^ cN (cc B) - 1) (cN (cc B)) &&& y = y
        rw [ev_all]
        exact (sub_t y hy _ (ev_lt hk (Nat.le_refl _))).mp e1
      · -- eq at 1070: no
        show bw_go _ _ _ _ _ _ _ 1073 [(0, .retAddr _), (1, .ref _), (2, .ref _), (3, .int _), (4, .int _), (5, .int _), (6, .int _), (7, .int _), (8, .int _), (9, .int _), (11, .ref _), (12, .int _), (17, .int _), (18, .int _), (19, .int _), (20, .int _), (21, .int _), (22, .int _)] ((.int _) :: []) _ _
        refine go_iconst (1) dL_law_1073 rfl ?_
        refine go_goto (pc' := 1078) dL_law_1074 rfl ?_
        show bw_go _ _ _ _ _ _ _ 1078 [(0, .retAddr _), (1, .ref _), (2, .ref _), (3, .int _), (4, .int _), (5, .int _), (6, .int _), (7, .int _), (8, .int _), (9, .int _), (11, .ref _), (12, .int _), (17, .int _), (18, .int _), (19, .int _), (20, .int _), (21, .int _), (22, .int _)] ((.int _) :: (.int _) :: []) _ _
        refine go_icmp_ne (pc' := 1129) dL_law_1078 rfl (fun c => absurd c (by decide)) (fun _ => ?_)
        show bw_go _ _ _ _ _ _ _ 1081 [(0, .retAddr _), (1, .ref _), (2, .ref _), (3, .int _), (4, .int _), (5, .int _), (6, .int _), (7, .int _), (8, .int _), (9, .int _), (11, .ref _), (12, .int _), (17, .int _), (18, .int _), (19, .int _), (20, .int _), (21, .int _), (22, .int _)] ([]) _ _
        refine go_iload dL_law_1081 rfl ?_
        refine go_if_lt (pc' := 1131) dL_law_1083 rfl (fun _ => ?_) (fun c => absurd (by decide) c)
        refine go_ls [(0, .retAddr _), (1, .ref _), (2, .ref _), (3, .int _), (4, .int _), (5, .int _), (6, .int _), (7, .int _), (8, .int _), (9, .int _), (11, .ref _), (12, .int _)] (by show List.Nodup ([0, 1, 2, 3, 4, 5, 6, 7, 8, 9, 11, 12] : List Nat); decide) (by show List.Nodup ([0, 1, 2, 3, 4, 5, 6, 7, 8, 9, 11, 12, 17, 18, 19, 20, 21, 22] : List Nat); decide) (le_cons rfl (le_cons rfl (le_cons rfl (le_cons rfl (le_cons rfl (le_cons rfl (le_cons rfl (le_cons rfl (le_cons rfl (le_cons rfl (le_cons rfl (le_cons rfl (le_nil _))))))))))))) ?_
        exact K9 _ _ hx
    · -- ge at 1002: no
      exfalso; have t_0 := nI_toInt (n := cN (cc B)) (by omega); simp only [i_le, i_lt, i_eq, bi_eq] at c_1002; omega
set_option maxRecDepth 100000 in
set_option maxHeartbeats 4000000 in
theorem g980_s {X : Nat × (Nat → Int32)} {Q : Option Value → bw_H → Prop} {h : bw_H} {S : ST} {W T0 : RW} {B : AC} {K0 : Nat → Option AC} {F T : Nat → Int32} {x y b : Nat} (hx : LX 2 75 h S (A2 F T) W T0 B K0) (hf : LF F B) (hT : ∀ j, j < cN (cc B) → T j = nI (tlC (cc B) j)) (hy : y < 64) (hq : sQ S = nI b) (hb : b < 2 ^ cN (cc B)) (hby0 : tld (taC (cc B)) b &&& y = y) (hmin : ∀ s, s < 2 ^ cN (cc B) → tld (taC (cc B)) s &&& y = y → bc b ≤ bc s) (K9 : ∀ G S', LX 2 75 G S' (A2 F T) W T0 B K0 → bw_go X 12 9 48 false (some .boolean) cL_law 1131 [(0, .retAddr 1), (1, .ref (0)), (2, .ref (62)), (3, .int (nI (cN (cc B)))), (4, .int (nI (2 ^ cN (cc B) - 1))), (5, .int (nI (cT B.1))), (6, .int (nI (cD (cc B)))), (7, .int (nI (cW (cc B)))), (8, .int (nI (sho (taC (cc B)) (2 ^ cN (cc B) - 1)))), (9, .int (nI (smN (cR (cc B)) (cN (cc B))))), (11, .ref (76)), (12, .int (nI x))] [] G Q) : bw_go X 12 9 48 false (some .boolean) cL_law 980 [(0, .retAddr 1), (1, .ref (0)), (2, .ref (62)), (3, .int (nI (cN (cc B)))), (4, .int (nI (2 ^ cN (cc B) - 1))), (5, .int (nI (cT B.1))), (6, .int (nI (cD (cc B)))), (7, .int (nI (cW (cc B)))), (8, .int (nI (sho (taC (cc B)) (2 ^ cN (cc B) - 1)))), (9, .int (nI (smN (cR (cc B)) (cN (cc B))))), (11, .ref (76)), (12, .int (nI x)), (17, .int (nI y))] [.int (nI (bc b))] h Q := by
  have hk := lx_k hx
  have hN := hk.1
  have hp := p2N hN
  have hp1 : 1 ≤ 2 ^ cN (cc B) := Nat.one_le_two_pow
  have h64 : b < 64 := by omega
  have hb7 := bc_lt b
  have hby : ofC (cc B) b (cN (cc B)) &&& y = y := by
    rw [tld_e hk] at hby0; exact hby0
  show bw_go _ _ _ _ _ _ _ 980 [(0, .retAddr _), (1, .ref _), (2, .ref _), (3, .int _), (4, .int _), (5, .int _), (6, .int _), (7, .int _), (8, .int _), (9, .int _), (11, .ref _), (12, .int _), (17, .int _)] ((.int _) :: []) _ _
  refine go_istore dL_law_980 (Nat.lt_of_lt_of_le (Nat.lt_succ_self _) (Nat.le_of_ble_eq_true rfl)) ?_
  show bw_go _ _ _ _ _ _ _ 982 [(18, .int _), (0, .retAddr _), (1, .ref _), (2, .ref _), (3, .int _), (4, .int _), (5, .int _), (6, .int _), (7, .int _), (8, .int _), (9, .int _), (11, .ref _), (12, .int _), (17, .int _)] ([]) _ _
  refine go_aload_n dL_law_982 rfl ?_
  refine go_iload dL_law_983 rfl ?_
  refine go_cs (as := [.ref _, .int _]) 1 dL_law_985 rfl rfl mt_9_84 (Nat.le_of_ble_eq_true rfl) rfl rfl (Nat.le_of_ble_eq_true rfl) (Nat.le_of_ble_eq_true rfl) (Nat.le_of_ble_eq_true rfl) (Nat.le_of_ble_eq_true rfl) ?_
  refine lx_askd hx (fun G hx => ?_)
  rw [if_neg (by rw [i_lt, nI_toInt (by omega)]; have l_0 := i_0; omega), hq]
  show bw_go _ _ _ _ _ _ _ 988 [(18, .int _), (0, .retAddr _), (1, .ref _), (2, .ref _), (3, .int _), (4, .int _), (5, .int _), (6, .int _), (7, .int _), (8, .int _), (9, .int _), (11, .ref _), (12, .int _), (17, .int _)] ((.int _) :: []) _ _
  refine go_istore dL_law_988 (Nat.lt_of_lt_of_le (Nat.lt_succ_self _) (Nat.le_of_ble_eq_true rfl)) ?_
  show bw_go _ _ _ _ _ _ _ 990 [(19, .int _), (18, .int _), (0, .retAddr _), (1, .ref _), (2, .ref _), (3, .int _), (4, .int _), (5, .int _), (6, .int _), (7, .int _), (8, .int _), (9, .int _), (11, .ref _), (12, .int _), (17, .int _)] ([]) _ _
  refine go_iconst (0) dL_law_990 rfl ?_
  refine go_istore dL_law_991 (Nat.lt_of_lt_of_le (Nat.lt_succ_self _) (Nat.le_of_ble_eq_true rfl)) ?_
  show bw_go _ _ _ _ _ _ _ 993 [(20, .int _), (19, .int _), (18, .int _), (0, .retAddr _), (1, .ref _), (2, .ref _), (3, .int _), (4, .int _), (5, .int _), (6, .int _), (7, .int _), (8, .int _), (9, .int _), (11, .ref _), (12, .int _), (17, .int _)] ([]) _ _
  refine go_iconst (0) dL_law_993 rfl ?_
  refine go_istore dL_law_994 (Nat.lt_of_lt_of_le (Nat.lt_succ_self _) (Nat.le_of_ble_eq_true rfl)) ?_
  show bw_go _ _ _ _ _ _ _ 996 [(21, .int _), (20, .int _), (19, .int _), (18, .int _), (0, .retAddr _), (1, .ref _), (2, .ref _), (3, .int _), (4, .int _), (5, .int _), (6, .int _), (7, .int _), (8, .int _), (9, .int _), (11, .ref _), (12, .int _), (17, .int _)] ([]) _ _
  refine go_iconst (0) dL_law_996 rfl ?_
  refine go_istore dL_law_997 (Nat.lt_of_lt_of_le (Nat.lt_succ_self _) (Nat.le_of_ble_eq_true rfl)) ?_
  show bw_go _ _ _ _ _ _ _ 999 [(22, .int _), (21, .int _), (20, .int _), (19, .int _), (18, .int _), (0, .retAddr _), (1, .ref _), (2, .ref _), (3, .int _), (4, .int _), (5, .int _), (6, .int _), (7, .int _), (8, .int _), (9, .int _), (11, .ref _), (12, .int _), (17, .int _)] ([]) _ _
  refine go_ls [(0, .retAddr _), (1, .ref _), (2, .ref _), (3, .int _), (4, .int _), (5, .int _), (6, .int _), (7, .int _), (8, .int _), (9, .int _), (11, .ref _), (12, .int _), (17, .int _), (18, .int _), (19, .int _), (20, .int _), (21, .int _), (22, .int _)] (by show List.Nodup ([0, 1, 2, 3, 4, 5, 6, 7, 8, 9, 11, 12, 17, 18, 19, 20, 21, 22] : List Nat); decide) (by show List.Nodup ([22, 21, 20, 19, 18, 0, 1, 2, 3, 4, 5, 6, 7, 8, 9, 11, 12, 17] : List Nat); decide) (le_cons rfl (le_cons rfl (le_cons rfl (le_cons rfl (le_cons rfl (le_cons rfl (le_cons rfl (le_cons rfl (le_cons rfl (le_cons rfl (le_cons rfl (le_cons rfl (le_cons rfl (le_cons rfl (le_cons rfl (le_cons rfl (le_cons rfl (le_cons rfl (le_nil _))))))))))))))))))) ?_
  refine go_for (P := fun i => ∀ (g : bw_H) (S : ST), (LX 2 75 g S (A2 F T) W T0 B K0) → bw_go X 12 9 48 false (some .boolean) cL_law 999 [(0, .retAddr 1), (1, .ref (0)), (2, .ref (62)), (3, .int (nI (cN (cc B)))), (4, .int (nI (2 ^ cN (cc B) - 1))), (5, .int (nI (cT B.1))), (6, .int (nI (cD (cc B)))), (7, .int (nI (cW (cc B)))), (8, .int (nI (sho (taC (cc B)) (2 ^ cN (cc B) - 1)))), (9, .int (nI (smN (cR (cc B)) (cN (cc B))))), (11, .ref (76)), (12, .int (nI x)), (17, .int (nI y)), (18, .int (nI (bc b))), (19, .int (nI b)), (20, .int (nI (ofC (cc B) b i))), (21, .int (nI (evC (cc B) i))), (22, .int (nI i))] [] g Q) (N := (cN (cc B))) (fun i hi K => ?_) ?_ (0) (Nat.zero_le _) _ _ hx
  · -- a turn
    intro g S hv
    have hx := hv
    show bw_go _ _ _ _ _ _ _ 999 [(0, .retAddr _), (1, .ref _), (2, .ref _), (3, .int _), (4, .int _), (5, .int _), (6, .int _), (7, .int _), (8, .int _), (9, .int _), (11, .ref _), (12, .int _), (17, .int _), (18, .int _), (19, .int _), (20, .int _), (21, .int _), (22, .int _)] ([]) _ _
    refine go_iload dL_law_999 rfl ?_
    refine go_iload_n dL_law_1001 rfl ?_
    refine go_icmp_ge (pc' := 1051) dL_law_1002 rfl (fun c_1002 => ?_) (fun c_1002 => ?_)
    · -- ge at 1002: yes
      exfalso; have t_0 := nI_toInt (n := i) (by omega); have t_1 := nI_toInt (n := cN (cc B)) (by omega); simp only [i_le, i_lt, i_eq, bi_eq] at c_1002; omega
    · -- ge at 1002: no
      show bw_go _ _ _ _ _ _ _ 1005 [(0, .retAddr _), (1, .ref _), (2, .ref _), (3, .int _), (4, .int _), (5, .int _), (6, .int _), (7, .int _), (8, .int _), (9, .int _), (11, .ref _), (12, .int _), (17, .int _), (18, .int _), (19, .int _), (20, .int _), (21, .int _), (22, .int _)] ([]) _ _
      refine go_iload dL_law_1005 rfl ?_
      refine go_iload dL_law_1007 rfl ?_
      refine go_if_lt (pc' := 1031) dL_law_1009 rfl (fun c_1009 => ?_) (fun c_1009 => ?_)
      · -- lt at 1009: yes
        show bw_go _ _ _ _ _ _ _ 1031 [(0, .retAddr _), (1, .ref _), (2, .ref _), (3, .int _), (4, .int _), (5, .int _), (6, .int _), (7, .int _), (8, .int _), (9, .int _), (11, .ref _), (12, .int _), (17, .int _), (18, .int _), (19, .int _), (20, .int _), (21, .int _), (22, .int _)] ((.int _) :: []) _ _
        refine go_iconst (0) dL_law_1031 rfl ?_
        refine go_ior dL_law_1032 ?_
        exfalso; have t_0 := nI_toInt (n := bc b) (by omega); have l_0 := i_0; have l_9 : (-9 : Int32).toInt = -9 := rfl; simp only [i_lt] at c_1009; omega
      · -- lt at 1009: no
        show bw_go _ _ _ _ _ _ _ 1012 [(0, .retAddr _), (1, .ref _), (2, .ref _), (3, .int _), (4, .int _), (5, .int _), (6, .int _), (7, .int _), (8, .int _), (9, .int _), (11, .ref _), (12, .int _), (17, .int _), (18, .int _), (19, .int _), (20, .int _), (21, .int _), (22, .int _)] ((.int _) :: []) _ _
        refine go_iload dL_law_1012 rfl ?_
        refine go_iload dL_law_1014 rfl ?_
        refine go_ishr dL_law_1016 ?_
        refine go_iconst (1) dL_law_1017 rfl ?_
        refine go_iand dL_law_1018 ?_
        refine go_iconst (1) dL_law_1019 rfl ?_
        rw [bit_t _ h64 i (by omega)]
        refine go_icmp_ne (pc' := 1031) dL_law_1020 rfl (fun c_1020 => ?_) (fun c_1020 => ?_)
        · -- ne at 1020: yes
          show bw_go _ _ _ _ _ _ _ 1031 [(0, .retAddr _), (1, .ref _), (2, .ref _), (3, .int _), (4, .int _), (5, .int _), (6, .int _), (7, .int _), (8, .int _), (9, .int _), (11, .ref _), (12, .int _), (17, .int _), (18, .int _), (19, .int _), (20, .int _), (21, .int _), (22, .int _)] ((.int _) :: []) _ _
          refine go_iconst (0) dL_law_1031 rfl ?_
          refine go_ior dL_law_1032 ?_
          have hbi : b.testBit i = false := by
            cases hh : b.testBit i with
            | false => rfl
            | true => rw [hh] at c_1020; exact absurd rfl c_1020
          rw [show (0 : Int32) = nI 0 from rfl, or_n, show ofC (cc B) b i ||| 0 = ofC (cc B) b (i + 1) from by show _ = ofC (cc B) b i ||| (if b.testBit i = true then tlC (cc B) i else 0); rw [hbi]; rfl]
          refine go_istore dL_law_1033 (Nat.lt_of_lt_of_le (Nat.lt_succ_self _) (Nat.le_of_ble_eq_true rfl)) ?_
          show bw_go _ _ _ _ _ _ _ 1035 [(20, .int _), (0, .retAddr _), (1, .ref _), (2, .ref _), (3, .int _), (4, .int _), (5, .int _), (6, .int _), (7, .int _), (8, .int _), (9, .int _), (11, .ref _), (12, .int _), (17, .int _), (18, .int _), (19, .int _), (21, .int _), (22, .int _)] ([]) _ _
          refine go_iload dL_law_1035 rfl ?_
          refine go_aload dL_law_1037 rfl ?_
          refine go_iload dL_law_1039 rfl ?_
          refine go_ia dL_law_1041 (lb_a hx.1 (q := 76) rfl).2.1 (lb_a hx.1 (q := 76) rfl).1 (n_in (N := 6) (by omega) (by decide)) ?_
          rw [nI_clamp (by omega), (lb_a hx.1 (q := 76) rfl).2.2, hT i hi]
          refine go_ior dL_law_1042 ?_
          rw [or_n, show evC (cc B) i ||| tlC (cc B) i = evC (cc B) (i + 1) from rfl]
          refine go_istore dL_law_1043 (Nat.lt_of_lt_of_le (Nat.lt_succ_self _) (Nat.le_of_ble_eq_true rfl)) ?_
          show bw_go _ _ _ _ _ _ _ 1045 [(21, .int _), (20, .int _), (0, .retAddr _), (1, .ref _), (2, .ref _), (3, .int _), (4, .int _), (5, .int _), (6, .int _), (7, .int _), (8, .int _), (9, .int _), (11, .ref _), (12, .int _), (17, .int _), (18, .int _), (19, .int _), (22, .int _)] ([]) _ _
          refine go_iinc dL_law_1045 rfl (nI_1 i) (Nat.lt_of_lt_of_le (Nat.lt_succ_self _) (Nat.le_of_ble_eq_true rfl)) ?_
          show bw_go _ _ _ _ _ _ _ 1048 [(22, .int _), (21, .int _), (20, .int _), (0, .retAddr _), (1, .ref _), (2, .ref _), (3, .int _), (4, .int _), (5, .int _), (6, .int _), (7, .int _), (8, .int _), (9, .int _), (11, .ref _), (12, .int _), (17, .int _), (18, .int _), (19, .int _)] ([]) _ _
          refine go_goto (pc' := 999) dL_law_1048 rfl ?_
          refine go_ls [(0, .retAddr _), (1, .ref _), (2, .ref _), (3, .int _), (4, .int _), (5, .int _), (6, .int _), (7, .int _), (8, .int _), (9, .int _), (11, .ref _), (12, .int _), (17, .int _), (18, .int _), (19, .int _), (20, .int _), (21, .int _), (22, .int _)] (by show List.Nodup ([0, 1, 2, 3, 4, 5, 6, 7, 8, 9, 11, 12, 17, 18, 19, 20, 21, 22] : List Nat); decide) (by show List.Nodup ([22, 21, 20, 0, 1, 2, 3, 4, 5, 6, 7, 8, 9, 11, 12, 17, 18, 19] : List Nat); decide) (le_cons rfl (le_cons rfl (le_cons rfl (le_cons rfl (le_cons rfl (le_cons rfl (le_cons rfl (le_cons rfl (le_cons rfl (le_cons rfl (le_cons rfl (le_cons rfl (le_cons rfl (le_cons rfl (le_cons rfl (le_cons rfl (le_cons rfl (le_cons rfl (le_nil _))))))))))))))))))) ?_
          exact K _ _ hx
        · -- ne at 1020: no
          show bw_go _ _ _ _ _ _ _ 1023 [(0, .retAddr _), (1, .ref _), (2, .ref _), (3, .int _), (4, .int _), (5, .int _), (6, .int _), (7, .int _), (8, .int _), (9, .int _), (11, .ref _), (12, .int _), (17, .int _), (18, .int _), (19, .int _), (20, .int _), (21, .int _), (22, .int _)] ((.int _) :: []) _ _
          refine go_aload dL_law_1023 rfl ?_
          refine go_iload dL_law_1025 rfl ?_
          refine go_ia dL_law_1027 (lb_a hx.1 (q := 76) rfl).2.1 (lb_a hx.1 (q := 76) rfl).1 (n_in (N := 6) (by omega) (by decide)) ?_
          rw [nI_clamp (by omega), (lb_a hx.1 (q := 76) rfl).2.2, hT i hi]
          refine go_goto (pc' := 1032) dL_law_1028 rfl ?_
          show bw_go _ _ _ _ _ _ _ 1032 [(0, .retAddr _), (1, .ref _), (2, .ref _), (3, .int _), (4, .int _), (5, .int _), (6, .int _), (7, .int _), (8, .int _), (9, .int _), (11, .ref _), (12, .int _), (17, .int _), (18, .int _), (19, .int _), (20, .int _), (21, .int _), (22, .int _)] ((.int _) :: (.int _) :: []) _ _
          refine go_ior dL_law_1032 ?_
          have hbi : b.testBit i = true := by
            cases hh : b.testBit i with
            | true => rfl
            | false => rw [hh] at c_1020; exact absurd (Decidable.of_not_not c_1020) (by decide)
          rw [or_n, show ofC (cc B) b i ||| tlC (cc B) i = ofC (cc B) b (i + 1) from by show _ = ofC (cc B) b i ||| (if b.testBit i = true then tlC (cc B) i else 0); rw [hbi]; rfl]
          refine go_istore dL_law_1033 (Nat.lt_of_lt_of_le (Nat.lt_succ_self _) (Nat.le_of_ble_eq_true rfl)) ?_
          show bw_go _ _ _ _ _ _ _ 1035 [(20, .int _), (0, .retAddr _), (1, .ref _), (2, .ref _), (3, .int _), (4, .int _), (5, .int _), (6, .int _), (7, .int _), (8, .int _), (9, .int _), (11, .ref _), (12, .int _), (17, .int _), (18, .int _), (19, .int _), (21, .int _), (22, .int _)] ([]) _ _
          refine go_iload dL_law_1035 rfl ?_
          refine go_aload dL_law_1037 rfl ?_
          refine go_iload dL_law_1039 rfl ?_
          refine go_ia dL_law_1041 (lb_a hx.1 (q := 76) rfl).2.1 (lb_a hx.1 (q := 76) rfl).1 (n_in (N := 6) (by omega) (by decide)) ?_
          rw [nI_clamp (by omega), (lb_a hx.1 (q := 76) rfl).2.2, hT i hi]
          refine go_ior dL_law_1042 ?_
          rw [or_n, show evC (cc B) i ||| tlC (cc B) i = evC (cc B) (i + 1) from rfl]
          refine go_istore dL_law_1043 (Nat.lt_of_lt_of_le (Nat.lt_succ_self _) (Nat.le_of_ble_eq_true rfl)) ?_
          show bw_go _ _ _ _ _ _ _ 1045 [(21, .int _), (20, .int _), (0, .retAddr _), (1, .ref _), (2, .ref _), (3, .int _), (4, .int _), (5, .int _), (6, .int _), (7, .int _), (8, .int _), (9, .int _), (11, .ref _), (12, .int _), (17, .int _), (18, .int _), (19, .int _), (22, .int _)] ([]) _ _
          refine go_iinc dL_law_1045 rfl (nI_1 i) (Nat.lt_of_lt_of_le (Nat.lt_succ_self _) (Nat.le_of_ble_eq_true rfl)) ?_
          show bw_go _ _ _ _ _ _ _ 1048 [(22, .int _), (21, .int _), (20, .int _), (0, .retAddr _), (1, .ref _), (2, .ref _), (3, .int _), (4, .int _), (5, .int _), (6, .int _), (7, .int _), (8, .int _), (9, .int _), (11, .ref _), (12, .int _), (17, .int _), (18, .int _), (19, .int _)] ([]) _ _
          refine go_goto (pc' := 999) dL_law_1048 rfl ?_
          refine go_ls [(0, .retAddr _), (1, .ref _), (2, .ref _), (3, .int _), (4, .int _), (5, .int _), (6, .int _), (7, .int _), (8, .int _), (9, .int _), (11, .ref _), (12, .int _), (17, .int _), (18, .int _), (19, .int _), (20, .int _), (21, .int _), (22, .int _)] (by show List.Nodup ([0, 1, 2, 3, 4, 5, 6, 7, 8, 9, 11, 12, 17, 18, 19, 20, 21, 22] : List Nat); decide) (by show List.Nodup ([22, 21, 20, 0, 1, 2, 3, 4, 5, 6, 7, 8, 9, 11, 12, 17, 18, 19] : List Nat); decide) (le_cons rfl (le_cons rfl (le_cons rfl (le_cons rfl (le_cons rfl (le_cons rfl (le_cons rfl (le_cons rfl (le_cons rfl (le_cons rfl (le_cons rfl (le_cons rfl (le_cons rfl (le_cons rfl (le_cons rfl (le_cons rfl (le_cons rfl (le_cons rfl (le_nil _))))))))))))))))))) ?_
          exact K _ _ hx
  · -- behind the last
    intro g S hv
    have hx := hv
    show bw_go _ _ _ _ _ _ _ 999 [(0, .retAddr _), (1, .ref _), (2, .ref _), (3, .int _), (4, .int _), (5, .int _), (6, .int _), (7, .int _), (8, .int _), (9, .int _), (11, .ref _), (12, .int _), (17, .int _), (18, .int _), (19, .int _), (20, .int _), (21, .int _), (22, .int _)] ([]) _ _
    refine go_iload dL_law_999 rfl ?_
    refine go_iload_n dL_law_1001 rfl ?_
    refine go_icmp_ge (pc' := 1051) dL_law_1002 rfl (fun c_1002 => ?_) (fun c_1002 => ?_)
    · -- ge at 1002: yes
      show bw_go _ _ _ _ _ _ _ 1051 [(0, .retAddr _), (1, .ref _), (2, .ref _), (3, .int _), (4, .int _), (5, .int _), (6, .int _), (7, .int _), (8, .int _), (9, .int _), (11, .ref _), (12, .int _), (17, .int _), (18, .int _), (19, .int _), (20, .int _), (21, .int _), (22, .int _)] ([]) _ _
      refine go_iload dL_law_1051 rfl ?_
      refine go_bipush (-9) dL_law_1053 rfl ?_
      refine go_icmp_ne (pc' := 1062) dL_law_1055 rfl (fun c_1055 => ?_) (fun c_1055 => ?_)
      · -- ne at 1055: yes
        show bw_go _ _ _ _ _ _ _ 1062 [(0, .retAddr _), (1, .ref _), (2, .ref _), (3, .int _), (4, .int _), (5, .int _), (6, .int _), (7, .int _), (8, .int _), (9, .int _), (11, .ref _), (12, .int _), (17, .int _), (18, .int _), (19, .int _), (20, .int _), (21, .int _), (22, .int _)] ([]) _ _
        refine go_iconst (0) dL_law_1062 rfl ?_
        refine go_iload dL_law_1063 rfl ?_
        refine go_iload dL_law_1065 rfl ?_
        refine go_iconst (-1) dL_law_1067 rfl ?_
        refine go_ixor dL_law_1068 ?_
        refine go_iand dL_law_1069 ?_
        rw [not_n _ (ev_lt hk (Nat.le_refl _)) _ hy]
        refine go_if_eq (pc' := 1077) dL_law_1070 rfl (fun c_1070 => ?_) (fun c_1070 => ?_)
        · -- eq at 1070: yes
          show bw_go _ _ _ _ _ _ _ 1077 [(0, .retAddr _), (1, .ref _), (2, .ref _), (3, .int _), (4, .int _), (5, .int _), (6, .int _), (7, .int _), (8, .int _), (9, .int _), (11, .ref _), (12, .int _), (17, .int _), (18, .int _), (19, .int _), (20, .int _), (21, .int _), (22, .int _)] ((.int _) :: []) _ _
          refine go_iconst (0) dL_law_1077 rfl ?_
          refine go_icmp_ne (pc' := 1129) dL_law_1078 rfl (fun c => absurd c (by decide)) (fun _ => ?_)
          show bw_go _ _ _ _ _ _ _ 1081 [(0, .retAddr _), (1, .ref _), (2, .ref _), (3, .int _), (4, .int _), (5, .int _), (6, .int _), (7, .int _), (8, .int _), (9, .int _), (11, .ref _), (12, .int _), (17, .int _), (18, .int _), (19, .int _), (20, .int _), (21, .int _), (22, .int _)] ([]) _ _
          refine go_iload dL_law_1081 rfl ?_
          refine go_if_lt (pc' := 1131) dL_law_1083 rfl (fun c_1083 => ?_) (fun c_1083 => ?_)
          · -- lt at 1083: yes
            exfalso; have t_0 := nI_toInt (n := bc b) (by omega); have l_0 := i_0; have l_9 : (-9 : Int32).toInt = -9 := rfl; simp only [i_lt] at c_1083; omega
          · -- lt at 1083: no
            show bw_go _ _ _ _ _ _ _ 1086 [(0, .retAddr _), (1, .ref _), (2, .ref _), (3, .int _), (4, .int _), (5, .int _), (6, .int _), (7, .int _), (8, .int _), (9, .int _), (11, .ref _), (12, .int _), (17, .int _), (18, .int _), (19, .int _), (20, .int _), (21, .int _), (22, .int _)] ([]) _ _
            refine go_iload dL_law_1086 rfl ?_
            refine go_iload dL_law_1088 rfl ?_
            refine go_cs (as := [.int _]) 0 dL_law_1090 rfl rfl mt_9_62 (Nat.le_of_ble_eq_true rfl) rfl rfl (Nat.le_of_ble_eq_true rfl) (Nat.le_of_ble_eq_true rfl) (Nat.le_of_ble_eq_true rfl) (Nat.le_of_ble_eq_true rfl) ?_
            refine me_L_bits h64 ?_
            show bw_go _ _ _ _ _ _ _ 1093 [(0, .retAddr _), (1, .ref _), (2, .ref _), (3, .int _), (4, .int _), (5, .int _), (6, .int _), (7, .int _), (8, .int _), (9, .int _), (11, .ref _), (12, .int _), (17, .int _), (18, .int _), (19, .int _), (20, .int _), (21, .int _), (22, .int _)] ((.int _) :: (.int _) :: []) _ _
            refine go_icmp_ne (pc' := 1129) dL_law_1093 rfl (fun c_1093 => ?_) (fun c_1093 => ?_)
            · -- ne at 1093: yes
              exfalso
              exact c_1093 rfl
            · -- ne at 1093: no
              show bw_go _ _ _ _ _ _ _ 1096 [(0, .retAddr _), (1, .ref _), (2, .ref _), (3, .int _), (4, .int _), (5, .int _), (6, .int _), (7, .int _), (8, .int _), (9, .int _), (11, .ref _), (12, .int _), (17, .int _), (18, .int _), (19, .int _), (20, .int _), (21, .int _), (22, .int _)] ([]) _ _
              refine go_iload dL_law_1096 rfl ?_
              refine go_iload dL_law_1098 rfl ?_
              refine go_iconst (-1) dL_law_1100 rfl ?_
              refine go_ixor dL_law_1101 ?_
              refine go_iand dL_law_1102 ?_
              rw [not_n _ (of_lt hk (Nat.le_refl _)) _ hy]
              refine go_if_ne (pc' := 1129) dL_law_1103 rfl (fun c_1103 => ?_) (fun c_1103 => ?_)
              · -- ne at 1103: yes
                exfalso
                refine c_1103 ?_
                rw [(sub_t y hy _ (of_lt hk (Nat.le_refl _))).mpr hby]; rfl
              · -- ne at 1103: no
                show bw_go _ _ _ _ _ _ _ 1106 [(0, .retAddr _), (1, .ref _), (2, .ref _), (3, .int _), (4, .int _), (5, .int _), (6, .int _), (7, .int _), (8, .int _), (9, .int _), (11, .ref _), (12, .int _), (17, .int _), (18, .int _), (19, .int _), (20, .int _), (21, .int _), (22, .int _)] ([]) _ _
                refine go_iload dL_law_1106 rfl ?_
                refine go_if_ne (pc' := 1115) dL_law_1108 rfl (fun c_1108 => ?_) (fun c_1108 => ?_)
                · -- ne at 1108: yes
                  show bw_go _ _ _ _ _ _ _ 1115 [(0, .retAddr _), (1, .ref _), (2, .ref _), (3, .int _), (4, .int _), (5, .int _), (6, .int _), (7, .int _), (8, .int _), (9, .int _), (11, .ref _), (12, .int _), (17, .int _), (18, .int _), (19, .int _), (20, .int _), (21, .int _), (22, .int _)] ([]) _ _
                  refine go_iconst (0) dL_law_1115 rfl ?_
                  refine go_iload dL_law_1116 rfl ?_
                  refine go_if_ne (pc' := 1125) dL_law_1118 rfl (fun c_1118 => ?_) (fun c_1118 => ?_)
                  · -- ne at 1118: yes
                    show bw_go _ _ _ _ _ _ _ 1125 [(0, .retAddr _), (1, .ref _), (2, .ref _), (3, .int _), (4, .int _), (5, .int _), (6, .int _), (7, .int _), (8, .int _), (9, .int _), (11, .ref _), (12, .int _), (17, .int _), (18, .int _), (19, .int _), (20, .int _), (21, .int _), (22, .int _)] ((.int _) :: []) _ _
                    refine go_iconst (0) dL_law_1125 rfl ?_
                    refine go_icmp_eq (pc' := 1131) dL_law_1126 rfl (fun _ => ?_) (fun c => absurd (by decide) c)
                    refine go_ls [(0, .retAddr _), (1, .ref _), (2, .ref _), (3, .int _), (4, .int _), (5, .int _), (6, .int _), (7, .int _), (8, .int _), (9, .int _), (11, .ref _), (12, .int _)] (by show List.Nodup ([0, 1, 2, 3, 4, 5, 6, 7, 8, 9, 11, 12] : List Nat); decide) (by show List.Nodup ([0, 1, 2, 3, 4, 5, 6, 7, 8, 9, 11, 12, 17, 18, 19, 20, 21, 22] : List Nat); decide) (le_cons rfl (le_cons rfl (le_cons rfl (le_cons rfl (le_cons rfl (le_cons rfl (le_cons rfl (le_cons rfl (le_cons rfl (le_cons rfl (le_cons rfl (le_cons rfl (le_nil _))))))))))))) ?_
                    exact K9 _ _ hx
                  · -- ne at 1118: no
                    show bw_go _ _ _ _ _ _ _ 1121 [(0, .retAddr _), (1, .ref _), (2, .ref _), (3, .int _), (4, .int _), (5, .int _), (6, .int _), (7, .int _), (8, .int _), (9, .int _), (11, .ref _), (12, .int _), (17, .int _), (18, .int _), (19, .int _), (20, .int _), (21, .int _), (22, .int _)] ((.int _) :: []) _ _
                    refine go_iconst (1) dL_law_1121 rfl ?_
                    refine go_goto (pc' := 1126) dL_law_1122 rfl ?_
                    show bw_go _ _ _ _ _ _ _ 1126 [(0, .retAddr _), (1, .ref _), (2, .ref _), (3, .int _), (4, .int _), (5, .int _), (6, .int _), (7, .int _), (8, .int _), (9, .int _), (11, .ref _), (12, .int _), (17, .int _), (18, .int _), (19, .int _), (20, .int _), (21, .int _), (22, .int _)] ((.int _) :: (.int _) :: []) _ _
                    refine go_icmp_eq (pc' := 1131) dL_law_1126 rfl (fun c => absurd c (by decide)) (fun _ => ?_)
                    exfalso
                    have j1 : bc b = 0 ↔ y = 0 := by
                      rw [bc_0 b h64]
                      constructor
                      · intro e
                        rw [e] at hby
                        have h9 : ofC (cc B) 0 (cN (cc B)) = 0 := orf_0 (fun i => by rw [Nat.zero_testBit, if_neg (by decide)]) _
                        rw [h9, Nat.zero_and] at hby
                        exact hby.symm
                      · intro e
                        have h9 := hmin 0 (by omega) (by rw [e, Nat.and_zero])
                        rw [show bc 0 = 0 from rfl] at h9
                        exact (bc_0 b h64).mp (by omega)
                    have t_0 := nI_toInt (n := bc b) (by omega)
                    have t_1 := nI_toInt (n := y) (by omega)
                    have l_0 := i_0
                    simp only [i_eq] at c_1108 c_1118
                    omega
                · -- ne at 1108: no
                  show bw_go _ _ _ _ _ _ _ 1111 [(0, .retAddr _), (1, .ref _), (2, .ref _), (3, .int _), (4, .int _), (5, .int _), (6, .int _), (7, .int _), (8, .int _), (9, .int _), (11, .ref _), (12, .int _), (17, .int _), (18, .int _), (19, .int _), (20, .int _), (21, .int _), (22, .int _)] ([]) _ _
                  refine go_iconst (1) dL_law_1111 rfl ?_
                  refine go_goto (pc' := 1116) dL_law_1112 rfl ?_
                  show bw_go _ _ _ _ _ _ _ 1116 [(0, .retAddr _), (1, .ref _), (2, .ref _), (3, .int _), (4, .int _), (5, .int _), (6, .int _), (7, .int _), (8, .int _), (9, .int _), (11, .ref _), (12, .int _), (17, .int _), (18, .int _), (19, .int _), (20, .int _), (21, .int _), (22, .int _)] ((.int _) :: []) _ _
                  refine go_iload dL_law_1116 rfl ?_
                  refine go_if_ne (pc' := 1125) dL_law_1118 rfl (fun c_1118 => ?_) (fun c_1118 => ?_)
                  · -- ne at 1118: yes
                    show bw_go _ _ _ _ _ _ _ 1125 [(0, .retAddr _), (1, .ref _), (2, .ref _), (3, .int _), (4, .int _), (5, .int _), (6, .int _), (7, .int _), (8, .int _), (9, .int _), (11, .ref _), (12, .int _), (17, .int _), (18, .int _), (19, .int _), (20, .int _), (21, .int _), (22, .int _)] ((.int _) :: []) _ _
                    refine go_iconst (0) dL_law_1125 rfl ?_
                    refine go_icmp_eq (pc' := 1131) dL_law_1126 rfl (fun c => absurd c (by decide)) (fun _ => ?_)
                    exfalso
                    have j1 : bc b = 0 ↔ y = 0 := by
                      rw [bc_0 b h64]
                      constructor
                      · intro e
                        rw [e] at hby
                        have h9 : ofC (cc B) 0 (cN (cc B)) = 0 := orf_0 (fun i => by rw [Nat.zero_testBit, if_neg (by decide)]) _
                        rw [h9, Nat.zero_and] at hby
                        exact hby.symm
                      · intro e
                        have h9 := hmin 0 (by omega) (by rw [e, Nat.and_zero])
                        rw [show bc 0 = 0 from rfl] at h9
                        exact (bc_0 b h64).mp (by omega)
                    have t_0 := nI_toInt (n := bc b) (by omega)
                    have t_1 := nI_toInt (n := y) (by omega)
                    have l_0 := i_0
                    simp only [i_eq] at c_1108 c_1118
                    omega
                  · -- ne at 1118: no
                    show bw_go _ _ _ _ _ _ _ 1121 [(0, .retAddr _), (1, .ref _), (2, .ref _), (3, .int _), (4, .int _), (5, .int _), (6, .int _), (7, .int _), (8, .int _), (9, .int _), (11, .ref _), (12, .int _), (17, .int _), (18, .int _), (19, .int _), (20, .int _), (21, .int _), (22, .int _)] ((.int _) :: []) _ _
                    refine go_iconst (1) dL_law_1121 rfl ?_
                    refine go_goto (pc' := 1126) dL_law_1122 rfl ?_
                    show bw_go _ _ _ _ _ _ _ 1126 [(0, .retAddr _), (1, .ref _), (2, .ref _), (3, .int _), (4, .int _), (5, .int _), (6, .int _), (7, .int _), (8, .int _), (9, .int _), (11, .ref _), (12, .int _), (17, .int _), (18, .int _), (19, .int _), (20, .int _), (21, .int _), (22, .int _)] ((.int _) :: (.int _) :: []) _ _
                    refine go_icmp_eq (pc' := 1131) dL_law_1126 rfl (fun _ => ?_) (fun c => absurd (by decide) c)
                    refine go_ls [(0, .retAddr _), (1, .ref _), (2, .ref _), (3, .int _), (4, .int _), (5, .int _), (6, .int _), (7, .int _), (8, .int _), (9, .int _), (11, .ref _), (12, .int _)] (by show List.Nodup ([0, 1, 2, 3, 4, 5, 6, 7, 8, 9, 11, 12] : List Nat); decide) (by show List.Nodup ([0, 1, 2, 3, 4, 5, 6, 7, 8, 9, 11, 12, 17, 18, 19, 20, 21, 22] : List Nat); decide) (le_cons rfl (le_cons rfl (le_cons rfl (le_cons rfl (le_cons rfl (le_cons rfl (le_cons rfl (le_cons rfl (le_cons rfl (le_cons rfl (le_cons rfl (le_cons rfl (le_nil _))))))))))))) ?_
                    exact K9 _ _ hx
        · -- eq at 1070: no
          show bw_go _ _ _ _ _ _ _ 1073 [(0, .retAddr _), (1, .ref _), (2, .ref _), (3, .int _), (4, .int _), (5, .int _), (6, .int _), (7, .int _), (8, .int _), (9, .int _), (11, .ref _), (12, .int _), (17, .int _), (18, .int _), (19, .int _), (20, .int _), (21, .int _), (22, .int _)] ((.int _) :: []) _ _
          refine go_iconst (1) dL_law_1073 rfl ?_
          refine go_goto (pc' := 1078) dL_law_1074 rfl ?_
          show bw_go _ _ _ _ _ _ _ 1078 [(0, .retAddr _), (1, .ref _), (2, .ref _), (3, .int _), (4, .int _), (5, .int _), (6, .int _), (7, .int _), (8, .int _), (9, .int _), (11, .ref _), (12, .int _), (17, .int _), (18, .int _), (19, .int _), (20, .int _), (21, .int _), (22, .int _)] ((.int _) :: (.int _) :: []) _ _
          refine go_icmp_ne (pc' := 1129) dL_law_1078 rfl (fun _ => ?_) (fun c => absurd (by decide) c)
          exfalso
          have e0 : nI (y &&& (63 ^^^ evC (cc B) (cN (cc B)))) = 0 := by
            rw [(sub_t y hy _ (ev_lt hk (Nat.le_refl _))).mpr (sub_m (fun t => of_ev) hby)]
            rfl
          first | exact c_1070 e0 | (have t_0 := nI_toInt (n := bc b) (by omega); have l_9 : (-9 : Int32).toInt = -9 := rfl; have z := congrArg Int32.toInt (Decidable.of_not_not c_1055); omega)
      · -- ne at 1055: no
        show bw_go _ _ _ _ _ _ _ 1058 [(0, .retAddr _), (1, .ref _), (2, .ref _), (3, .int _), (4, .int _), (5, .int _), (6, .int _), (7, .int _), (8, .int _), (9, .int _), (11, .ref _), (12, .int _), (17, .int _), (18, .int _), (19, .int _), (20, .int _), (21, .int _), (22, .int _)] ([]) _ _
        refine go_iconst (1) dL_law_1058 rfl ?_
        refine go_goto (pc' := 1063) dL_law_1059 rfl ?_
        show bw_go _ _ _ _ _ _ _ 1063 [(0, .retAddr _), (1, .ref _), (2, .ref _), (3, .int _), (4, .int _), (5, .int _), (6, .int _), (7, .int _), (8, .int _), (9, .int _), (11, .ref _), (12, .int _), (17, .int _), (18, .int _), (19, .int _), (20, .int _), (21, .int _), (22, .int _)] ((.int _) :: []) _ _
        refine go_iload dL_law_1063 rfl ?_
        refine go_iload dL_law_1065 rfl ?_
        refine go_iconst (-1) dL_law_1067 rfl ?_
        refine go_ixor dL_law_1068 ?_
        refine go_iand dL_law_1069 ?_
        rw [not_n _ (ev_lt hk (Nat.le_refl _)) _ hy]
        refine go_if_eq (pc' := 1077) dL_law_1070 rfl (fun c_1070 => ?_) (fun c_1070 => ?_)
        · -- eq at 1070: yes
          show bw_go _ _ _ _ _ _ _ 1077 [(0, .retAddr _), (1, .ref _), (2, .ref _), (3, .int _), (4, .int _), (5, .int _), (6, .int _), (7, .int _), (8, .int _), (9, .int _), (11, .ref _), (12, .int _), (17, .int _), (18, .int _), (19, .int _), (20, .int _), (21, .int _), (22, .int _)] ((.int _) :: []) _ _
          refine go_iconst (0) dL_law_1077 rfl ?_
          refine go_icmp_ne (pc' := 1129) dL_law_1078 rfl (fun _ => ?_) (fun c => absurd (by decide) c)
          exfalso
          have e0 : nI (y &&& (63 ^^^ evC (cc B) (cN (cc B)))) = 0 := by
            rw [(sub_t y hy _ (ev_lt hk (Nat.le_refl _))).mpr (sub_m (fun t => of_ev) hby)]
            rfl
          first | exact c_1070 e0 | (have t_0 := nI_toInt (n := bc b) (by omega); have l_9 : (-9 : Int32).toInt = -9 := rfl; have z := congrArg Int32.toInt (Decidable.of_not_not c_1055); omega)
        · -- eq at 1070: no
          show bw_go _ _ _ _ _ _ _ 1073 [(0, .retAddr _), (1, .ref _), (2, .ref _), (3, .int _), (4, .int _), (5, .int _), (6, .int _), (7, .int _), (8, .int _), (9, .int _), (11, .ref _), (12, .int _), (17, .int _), (18, .int _), (19, .int _), (20, .int _), (21, .int _), (22, .int _)] ((.int _) :: []) _ _
          refine go_iconst (1) dL_law_1073 rfl ?_
          refine go_goto (pc' := 1078) dL_law_1074 rfl ?_
          show bw_go _ _ _ _ _ _ _ 1078 [(0, .retAddr _), (1, .ref _), (2, .ref _), (3, .int _), (4, .int _), (5, .int _), (6, .int _), (7, .int _), (8, .int _), (9, .int _), (11, .ref _), (12, .int _), (17, .int _), (18, .int _), (19, .int _), (20, .int _), (21, .int _), (22, .int _)] ((.int _) :: (.int _) :: []) _ _
          refine go_icmp_ne (pc' := 1129) dL_law_1078 rfl (fun c => absurd c (by decide)) (fun _ => ?_)
          show bw_go _ _ _ _ _ _ _ 1081 [(0, .retAddr _), (1, .ref _), (2, .ref _), (3, .int _), (4, .int _), (5, .int _), (6, .int _), (7, .int _), (8, .int _), (9, .int _), (11, .ref _), (12, .int _), (17, .int _), (18, .int _), (19, .int _), (20, .int _), (21, .int _), (22, .int _)] ([]) _ _
          refine go_iload dL_law_1081 rfl ?_
          refine go_if_lt (pc' := 1131) dL_law_1083 rfl (fun c_1083 => ?_) (fun c_1083 => ?_)
          · -- lt at 1083: yes
            exfalso; have t_0 := nI_toInt (n := bc b) (by omega); have l_0 := i_0; have l_9 : (-9 : Int32).toInt = -9 := rfl; simp only [i_lt] at c_1083; omega
          · -- lt at 1083: no
            show bw_go _ _ _ _ _ _ _ 1086 [(0, .retAddr _), (1, .ref _), (2, .ref _), (3, .int _), (4, .int _), (5, .int _), (6, .int _), (7, .int _), (8, .int _), (9, .int _), (11, .ref _), (12, .int _), (17, .int _), (18, .int _), (19, .int _), (20, .int _), (21, .int _), (22, .int _)] ([]) _ _
            refine go_iload dL_law_1086 rfl ?_
            refine go_iload dL_law_1088 rfl ?_
            refine go_cs (as := [.int _]) 0 dL_law_1090 rfl rfl mt_9_62 (Nat.le_of_ble_eq_true rfl) rfl rfl (Nat.le_of_ble_eq_true rfl) (Nat.le_of_ble_eq_true rfl) (Nat.le_of_ble_eq_true rfl) (Nat.le_of_ble_eq_true rfl) ?_
            refine me_L_bits h64 ?_
            show bw_go _ _ _ _ _ _ _ 1093 [(0, .retAddr _), (1, .ref _), (2, .ref _), (3, .int _), (4, .int _), (5, .int _), (6, .int _), (7, .int _), (8, .int _), (9, .int _), (11, .ref _), (12, .int _), (17, .int _), (18, .int _), (19, .int _), (20, .int _), (21, .int _), (22, .int _)] ((.int _) :: (.int _) :: []) _ _
            refine go_icmp_ne (pc' := 1129) dL_law_1093 rfl (fun c_1093 => ?_) (fun c_1093 => ?_)
            · -- ne at 1093: yes
              exfalso
              exact c_1093 rfl
            · -- ne at 1093: no
              show bw_go _ _ _ _ _ _ _ 1096 [(0, .retAddr _), (1, .ref _), (2, .ref _), (3, .int _), (4, .int _), (5, .int _), (6, .int _), (7, .int _), (8, .int _), (9, .int _), (11, .ref _), (12, .int _), (17, .int _), (18, .int _), (19, .int _), (20, .int _), (21, .int _), (22, .int _)] ([]) _ _
              refine go_iload dL_law_1096 rfl ?_
              refine go_iload dL_law_1098 rfl ?_
              refine go_iconst (-1) dL_law_1100 rfl ?_
              refine go_ixor dL_law_1101 ?_
              refine go_iand dL_law_1102 ?_
              rw [not_n _ (of_lt hk (Nat.le_refl _)) _ hy]
              refine go_if_ne (pc' := 1129) dL_law_1103 rfl (fun c_1103 => ?_) (fun c_1103 => ?_)
              · -- ne at 1103: yes
                exfalso
                refine c_1103 ?_
                rw [(sub_t y hy _ (of_lt hk (Nat.le_refl _))).mpr hby]; rfl
              · -- ne at 1103: no
                show bw_go _ _ _ _ _ _ _ 1106 [(0, .retAddr _), (1, .ref _), (2, .ref _), (3, .int _), (4, .int _), (5, .int _), (6, .int _), (7, .int _), (8, .int _), (9, .int _), (11, .ref _), (12, .int _), (17, .int _), (18, .int _), (19, .int _), (20, .int _), (21, .int _), (22, .int _)] ([]) _ _
                refine go_iload dL_law_1106 rfl ?_
                refine go_if_ne (pc' := 1115) dL_law_1108 rfl (fun c_1108 => ?_) (fun c_1108 => ?_)
                · -- ne at 1108: yes
                  show bw_go _ _ _ _ _ _ _ 1115 [(0, .retAddr _), (1, .ref _), (2, .ref _), (3, .int _), (4, .int _), (5, .int _), (6, .int _), (7, .int _), (8, .int _), (9, .int _), (11, .ref _), (12, .int _), (17, .int _), (18, .int _), (19, .int _), (20, .int _), (21, .int _), (22, .int _)] ([]) _ _
                  refine go_iconst (0) dL_law_1115 rfl ?_
                  refine go_iload dL_law_1116 rfl ?_
                  refine go_if_ne (pc' := 1125) dL_law_1118 rfl (fun c_1118 => ?_) (fun c_1118 => ?_)
                  · -- ne at 1118: yes
                    show bw_go _ _ _ _ _ _ _ 1125 [(0, .retAddr _), (1, .ref _), (2, .ref _), (3, .int _), (4, .int _), (5, .int _), (6, .int _), (7, .int _), (8, .int _), (9, .int _), (11, .ref _), (12, .int _), (17, .int _), (18, .int _), (19, .int _), (20, .int _), (21, .int _), (22, .int _)] ((.int _) :: []) _ _
                    refine go_iconst (0) dL_law_1125 rfl ?_
                    refine go_icmp_eq (pc' := 1131) dL_law_1126 rfl (fun _ => ?_) (fun c => absurd (by decide) c)
                    refine go_ls [(0, .retAddr _), (1, .ref _), (2, .ref _), (3, .int _), (4, .int _), (5, .int _), (6, .int _), (7, .int _), (8, .int _), (9, .int _), (11, .ref _), (12, .int _)] (by show List.Nodup ([0, 1, 2, 3, 4, 5, 6, 7, 8, 9, 11, 12] : List Nat); decide) (by show List.Nodup ([0, 1, 2, 3, 4, 5, 6, 7, 8, 9, 11, 12, 17, 18, 19, 20, 21, 22] : List Nat); decide) (le_cons rfl (le_cons rfl (le_cons rfl (le_cons rfl (le_cons rfl (le_cons rfl (le_cons rfl (le_cons rfl (le_cons rfl (le_cons rfl (le_cons rfl (le_cons rfl (le_nil _))))))))))))) ?_
                    exact K9 _ _ hx
                  · -- ne at 1118: no
                    show bw_go _ _ _ _ _ _ _ 1121 [(0, .retAddr _), (1, .ref _), (2, .ref _), (3, .int _), (4, .int _), (5, .int _), (6, .int _), (7, .int _), (8, .int _), (9, .int _), (11, .ref _), (12, .int _), (17, .int _), (18, .int _), (19, .int _), (20, .int _), (21, .int _), (22, .int _)] ((.int _) :: []) _ _
                    refine go_iconst (1) dL_law_1121 rfl ?_
                    refine go_goto (pc' := 1126) dL_law_1122 rfl ?_
                    show bw_go _ _ _ _ _ _ _ 1126 [(0, .retAddr _), (1, .ref _), (2, .ref _), (3, .int _), (4, .int _), (5, .int _), (6, .int _), (7, .int _), (8, .int _), (9, .int _), (11, .ref _), (12, .int _), (17, .int _), (18, .int _), (19, .int _), (20, .int _), (21, .int _), (22, .int _)] ((.int _) :: (.int _) :: []) _ _
                    refine go_icmp_eq (pc' := 1131) dL_law_1126 rfl (fun c => absurd c (by decide)) (fun _ => ?_)
                    exfalso
                    have j1 : bc b = 0 ↔ y = 0 := by
                      rw [bc_0 b h64]
                      constructor
                      · intro e
                        rw [e] at hby
                        have h9 : ofC (cc B) 0 (cN (cc B)) = 0 := orf_0 (fun i => by rw [Nat.zero_testBit, if_neg (by decide)]) _
                        rw [h9, Nat.zero_and] at hby
                        exact hby.symm
                      · intro e
                        have h9 := hmin 0 (by omega) (by rw [e, Nat.and_zero])
                        rw [show bc 0 = 0 from rfl] at h9
                        exact (bc_0 b h64).mp (by omega)
                    have t_0 := nI_toInt (n := bc b) (by omega)
                    have t_1 := nI_toInt (n := y) (by omega)
                    have l_0 := i_0
                    simp only [i_eq] at c_1108 c_1118
                    omega
                · -- ne at 1108: no
                  show bw_go _ _ _ _ _ _ _ 1111 [(0, .retAddr _), (1, .ref _), (2, .ref _), (3, .int _), (4, .int _), (5, .int _), (6, .int _), (7, .int _), (8, .int _), (9, .int _), (11, .ref _), (12, .int _), (17, .int _), (18, .int _), (19, .int _), (20, .int _), (21, .int _), (22, .int _)] ([]) _ _
                  refine go_iconst (1) dL_law_1111 rfl ?_
                  refine go_goto (pc' := 1116) dL_law_1112 rfl ?_
                  show bw_go _ _ _ _ _ _ _ 1116 [(0, .retAddr _), (1, .ref _), (2, .ref _), (3, .int _), (4, .int _), (5, .int _), (6, .int _), (7, .int _), (8, .int _), (9, .int _), (11, .ref _), (12, .int _), (17, .int _), (18, .int _), (19, .int _), (20, .int _), (21, .int _), (22, .int _)] ((.int _) :: []) _ _
                  refine go_iload dL_law_1116 rfl ?_
                  refine go_if_ne (pc' := 1125) dL_law_1118 rfl (fun c_1118 => ?_) (fun c_1118 => ?_)
                  · -- ne at 1118: yes
                    show bw_go _ _ _ _ _ _ _ 1125 [(0, .retAddr _), (1, .ref _), (2, .ref _), (3, .int _), (4, .int _), (5, .int _), (6, .int _), (7, .int _), (8, .int _), (9, .int _), (11, .ref _), (12, .int _), (17, .int _), (18, .int _), (19, .int _), (20, .int _), (21, .int _), (22, .int _)] ((.int _) :: []) _ _
                    refine go_iconst (0) dL_law_1125 rfl ?_
                    refine go_icmp_eq (pc' := 1131) dL_law_1126 rfl (fun c => absurd c (by decide)) (fun _ => ?_)
                    exfalso
                    have j1 : bc b = 0 ↔ y = 0 := by
                      rw [bc_0 b h64]
                      constructor
                      · intro e
                        rw [e] at hby
                        have h9 : ofC (cc B) 0 (cN (cc B)) = 0 := orf_0 (fun i => by rw [Nat.zero_testBit, if_neg (by decide)]) _
                        rw [h9, Nat.zero_and] at hby
                        exact hby.symm
                      · intro e
                        have h9 := hmin 0 (by omega) (by rw [e, Nat.and_zero])
                        rw [show bc 0 = 0 from rfl] at h9
                        exact (bc_0 b h64).mp (by omega)
                    have t_0 := nI_toInt (n := bc b) (by omega)
                    have t_1 := nI_toInt (n := y) (by omega)
                    have l_0 := i_0
                    simp only [i_eq] at c_1108 c_1118
                    omega
                  · -- ne at 1118: no
                    show bw_go _ _ _ _ _ _ _ 1121 [(0, .retAddr _), (1, .ref _), (2, .ref _), (3, .int _), (4, .int _), (5, .int _), (6, .int _), (7, .int _), (8, .int _), (9, .int _), (11, .ref _), (12, .int _), (17, .int _), (18, .int _), (19, .int _), (20, .int _), (21, .int _), (22, .int _)] ((.int _) :: []) _ _
                    refine go_iconst (1) dL_law_1121 rfl ?_
                    refine go_goto (pc' := 1126) dL_law_1122 rfl ?_
                    show bw_go _ _ _ _ _ _ _ 1126 [(0, .retAddr _), (1, .ref _), (2, .ref _), (3, .int _), (4, .int _), (5, .int _), (6, .int _), (7, .int _), (8, .int _), (9, .int _), (11, .ref _), (12, .int _), (17, .int _), (18, .int _), (19, .int _), (20, .int _), (21, .int _), (22, .int _)] ((.int _) :: (.int _) :: []) _ _
                    refine go_icmp_eq (pc' := 1131) dL_law_1126 rfl (fun _ => ?_) (fun c => absurd (by decide) c)
                    refine go_ls [(0, .retAddr _), (1, .ref _), (2, .ref _), (3, .int _), (4, .int _), (5, .int _), (6, .int _), (7, .int _), (8, .int _), (9, .int _), (11, .ref _), (12, .int _)] (by show List.Nodup ([0, 1, 2, 3, 4, 5, 6, 7, 8, 9, 11, 12] : List Nat); decide) (by show List.Nodup ([0, 1, 2, 3, 4, 5, 6, 7, 8, 9, 11, 12, 17, 18, 19, 20, 21, 22] : List Nat); decide) (le_cons rfl (le_cons rfl (le_cons rfl (le_cons rfl (le_cons rfl (le_cons rfl (le_cons rfl (le_cons rfl (le_cons rfl (le_cons rfl (le_cons rfl (le_cons rfl (le_nil _))))))))))))) ?_
                    exact K9 _ _ hx
    · -- ge at 1002: no
      exfalso; have t_0 := nI_toInt (n := cN (cc B)) (by omega); simp only [i_le, i_lt, i_eq, bi_eq] at c_1002; omega
set_option maxRecDepth 100000 in
set_option maxHeartbeats 4000000 in
theorem law_G {X : Nat × (Nat → Int32)} {Q : Option Value → bw_H → Prop} {h : bw_H} {S : ST} {W T0 : RW} {B : AC} {K0 : Nat → Option AC} {F T : Nat → Int32} {x : Nat} (hx : LX 2 75 h S (A2 F T) W T0 B K0) (hf : LF F B) (hT : ∀ j, j < cN (cc B) → T j = nI (tlC (cc B) j)) (hL : X.1 ≤ 260) (K : ∀ G S', LX 2 75 G S' (A2 F T) W T0 B K0 → bw_go X 12 9 48 false (some .boolean) cL_law 1131 [(0, .retAddr 1), (1, .ref (0)), (2, .ref (62)), (3, .int (nI (cN (cc B)))), (4, .int (nI (2 ^ cN (cc B) - 1))), (5, .int (nI (cT B.1))), (6, .int (nI (cD (cc B)))), (7, .int (nI (cW (cc B)))), (8, .int (nI (sho (taC (cc B)) (2 ^ cN (cc B) - 1)))), (9, .int (nI (smN (cR (cc B)) (cN (cc B))))), (11, .ref (76)), (12, .int (nI x))] [] G Q) : bw_go X 12 9 48 false (some .boolean) cL_law 961 [(0, .retAddr 1), (1, .ref (0)), (2, .ref (62)), (3, .int (nI (cN (cc B)))), (4, .int (nI (2 ^ cN (cc B) - 1))), (5, .int (nI (cT B.1))), (6, .int (nI (cD (cc B)))), (7, .int (nI (cW (cc B)))), (8, .int (nI (sho (taC (cc B)) (2 ^ cN (cc B) - 1)))), (9, .int (nI (smN (cR (cc B)) (cN (cc B))))), (11, .ref (76)), (12, .int (nI x))] [] h Q := by
  have hk := lx_k hx
  have hN := hk.1
  have hp := p2N hN
  have hp1 : 1 ≤ 2 ^ cN (cc B) := Nat.one_le_two_pow
  have hn1 := hf.1.2.1
  show bw_go _ _ _ _ _ _ _ 961 [(0, .retAddr _), (1, .ref _), (2, .ref _), (3, .int _), (4, .int _), (5, .int _), (6, .int _), (7, .int _), (8, .int _), (9, .int _), (11, .ref _), (12, .int _)] ([]) _ _
  refine go_aloadA_n dL_law_961 rfl ?_
  refine go_bipush (11) dL_law_962 rfl ?_
  refine go_cs (as := [.retAddr _, .int _]) 0 dL_law_964 rfl rfl mt_9_9 (Nat.le_of_ble_eq_true rfl) rfl rfl (Nat.le_of_ble_eq_true rfl) (Nat.le_of_ble_eq_true rfl) (Nat.le_of_ble_eq_true rfl) (Nat.le_of_ble_eq_true rfl) ?_
  refine me_L_cell (k := 11) hL (by decide) ?_
  show bw_go _ _ _ _ _ _ _ 967 [(0, .retAddr _), (1, .ref _), (2, .ref _), (3, .int _), (4, .int _), (5, .int _), (6, .int _), (7, .int _), (8, .int _), (9, .int _), (11, .ref _), (12, .int _)] ((.int _) :: []) _ _
  refine go_bipush (64) dL_law_967 rfl ?_
  refine go_cs (as := [.int _, .int _]) 0 dL_law_969 rfl rfl mt_9_15 (Nat.le_of_ble_eq_true rfl) rfl rfl (Nat.le_of_ble_eq_true rfl) (Nat.le_of_ble_eq_true rfl) (Nat.le_of_ble_eq_true rfl) (Nat.le_of_ble_eq_true rfl) ?_
  refine me_L_up (n := 64) (by decide) (by decide) ?_
  show bw_go _ _ _ _ _ _ _ 972 [(0, .retAddr _), (1, .ref _), (2, .ref _), (3, .int _), (4, .int _), (5, .int _), (6, .int _), (7, .int _), (8, .int _), (9, .int _), (11, .ref _), (12, .int _)] ((.int _) :: []) _ _
  refine go_istore dL_law_972 (Nat.lt_of_lt_of_le (Nat.lt_succ_self _) (Nat.le_of_ble_eq_true rfl)) ?_
  show bw_go _ _ _ _ _ _ _ 974 [(17, .int _), (0, .retAddr _), (1, .ref _), (2, .ref _), (3, .int _), (4, .int _), (5, .int _), (6, .int _), (7, .int _), (8, .int _), (9, .int _), (11, .ref _), (12, .int _)] ([]) _ _
  refine go_ls [(0, .retAddr _), (1, .ref _), (2, .ref _), (3, .int _), (4, .int _), (5, .int _), (6, .int _), (7, .int _), (8, .int _), (9, .int _), (11, .ref _), (12, .int _), (17, .int _)] (by show List.Nodup ([0, 1, 2, 3, 4, 5, 6, 7, 8, 9, 11, 12, 17] : List Nat); decide) (by show List.Nodup ([17, 0, 1, 2, 3, 4, 5, 6, 7, 8, 9, 11, 12] : List Nat); decide) (le_cons rfl (le_cons rfl (le_cons rfl (le_cons rfl (le_cons rfl (le_cons rfl (le_cons rfl (le_cons rfl (le_cons rfl (le_cons rfl (le_cons rfl (le_cons rfl (le_cons rfl (le_nil _)))))))))))))) ?_
  generalize hye : upn (clx X 11) 64 = y
  have hy : y < 64 := by rw [← hye]; exact upn_lt (by decide)
  refine go_aload_n dL_law_974 rfl ?_
  refine go_iload dL_law_975 rfl ?_
  refine go_cv (as := [.int _]) 4 dL_law_977 mt_9_99 (Or.inl rfl) rfl rfl (lb_lt hx.1) (lb_k hx.1) (Nat.le_of_ble_eq_true rfl) (Nat.le_of_ble_eq_true rfl) (Nat.le_of_ble_eq_true rfl) (Nat.le_of_ble_eq_true rfl) (Nat.le_of_ble_eq_true rfl) ?_
  refine lx_cover hx hy (by omega) (fun G S' hx hno => ?_) (fun G S' b hx hq hb hby hmin => ?_)
  · exact g980_n hx hf hT hy hno K
  · exact g980_s hx hf hT hy hq hb hby hmin K
