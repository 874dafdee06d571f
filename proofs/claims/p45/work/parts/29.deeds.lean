/-! Court: deeds, done and undone -/
def stp (a b : Nat) (s : (Nat → Nat) × (Nat → Nat) × Nat) : (Nat → Nat) × (Nat → Nat) × Nat :=
  if a = 0 then (s.1, bw_up s.2.1 b (s.2.1 b + 1), s.2.2) else if a = 1 then (s.1, bw_up s.2.1 b (s.2.1 b - 1), s.2.2) else
  if a = 2 then (bw_up s.1 b (s.1 b - 1), s.2.1, s.2.2) else if a = 3 then (s.1, s.2.1, s.2.2 ^^^ 2 ^ b) else s
def stC (a b : Nat) (C : CT) : CT := (cN C, cD C, (stp a b (cE C, cR C, cW C)).2.2, cT C, cK C, (stp a b (cE C, cR C, cW C)).1, (stp a b (cE C, cR C, cW C)).2.1, cV C)
def chg (h : bw_H) (p a i : Nat) (by' : Int32) : bw_H :=
  if a = 0 then bw_sa h (p + 6) (bw_up (bw_i h (p + 6)) i (bw_i h (p + 6) i + by')) else if a = 1 then bw_sa h (p + 6) (bw_up (bw_i h (p + 6)) i (bw_i h (p + 6) i - by')) else
  if a = 2 then bw_sa h (p + 4) (bw_up (bw_i h (p + 4)) i (bw_i h (p + 4) i - by')) else if a = 3 then bw_si h p 2 (bw_i h p 2 ^^^ (1 <<< (nI i &&& 31))) else h
theorem cg_b {F : Nat → Int32} {i : Nat} (h : i < 6) : cg F 6 (nI i) = F i := cg_n h (by decide)
theorem cs_b {F : Nat → Int32} {i : Nat} {v : Int32} (h : i < 6) : cs F 6 (nI i) v = bw_up F i v := cs_n h (by decide)
set_option maxRecDepth 100000 in
set_option maxHeartbeats 4000000 in
theorem me_X1_change {X : Nat × (Nat → Int32)} {Q : Option Value → bw_H → Prop} {h : bw_H} {p a i : Nat} {v : Int32} (hs : co_s h p) (ha : a < 5) (hi : i < 6) (hQ : Q none (chg h p a i v)) : bw_me X 1 bm_X1_change false [.ref p, .int (nI a), .int (nI i), .int v] h Q := by
  show bw_go _ 1 1 4 false none cX1_change 0 [(0, .ref _), (1, .int _), (2, .int _), (3, .int _)] [] _ _
  refine go_iload_n dX1_change_0 rfl ?_
  rcases (show a = 0 ∨ a = 1 ∨ a = 2 ∨ a = 3 ∨ a = 4 by omega) with rfl | rfl | rfl | rfl | hsw
  · -- a = 0
    refine go_tsIn (pc' := 32) dX1_change_1 (by decide) (by decide) rfl rfl ?_
    show bw_go _ _ _ _ _ _ _ 32 [(0, .ref _), (1, .int _), (2, .int _), (3, .int _)] ([]) _ _
    refine go_aload_n dX1_change_32 rfl ?_
    refine go_gfr dX1_change_33 fl_1_36 rfl hs.1.1 hs.1.2.1 hs.1.2.2.2.2.1 ?_
    refine go_iload_n dX1_change_36 rfl ?_
    refine go_aload_n dX1_change_37 rfl ?_
    refine go_gfr dX1_change_38 fl_1_36 rfl hs.1.1 hs.1.2.1 hs.1.2.2.2.2.1 ?_
    refine go_iload_n dX1_change_41 rfl ?_
    refine go_cv (as := [.int _]) 0 dX1_change_42 mt_1_60 (Or.inr rfl) rfl rfl hs.2.2.2.1.1 hs.2.2.2.1.2.1 (Nat.le_of_ble_eq_true rfl) (Nat.le_of_ble_eq_true rfl) (Nat.le_of_ble_eq_true rfl) (Nat.le_of_ble_eq_true rfl) (Nat.le_of_ble_eq_true rfl) ?_
    refine me_X0_get hs.2.2.2.1 ?_
    rw [cg_b hi]
    show bw_go _ _ _ _ _ _ _ 45 [(0, .ref _), (1, .int _), (2, .int _), (3, .int _)] ((.int _) :: (.int _) :: (.ref _) :: []) _ _
    refine go_iload_n dX1_change_45 rfl ?_
    refine go_iadd dX1_change_46 ?_
    refine go_cv (as := [.int _, .int _]) 0 dX1_change_47 mt_1_52 (Or.inr rfl) rfl rfl hs.2.2.2.1.1 hs.2.2.2.1.2.1 (Nat.le_of_ble_eq_true rfl) (Nat.le_of_ble_eq_true rfl) (Nat.le_of_ble_eq_true rfl) (Nat.le_of_ble_eq_true rfl) (Nat.le_of_ble_eq_true rfl) ?_
    refine me_X0_set hs.2.2.2.1 ?_
    rw [cs_b hi]
    show bw_go _ _ _ _ _ _ _ 50 [(0, .ref _), (1, .int _), (2, .int _), (3, .int _)] ([]) _ _
    refine go_goto (pc' := 110) dX1_change_50 rfl ?_
    show bw_go _ _ _ _ _ _ _ 110 [(0, .ref _), (1, .int _), (2, .int _), (3, .int _)] ([]) _ _
    refine go_vret dX1_change_110 rfl ?_
    first | exact hQ | (subst hsw; exact hQ)
  · -- a = 1
    refine go_tsIn (pc' := 53) dX1_change_1 (by decide) (by decide) rfl rfl ?_
    show bw_go _ _ _ _ _ _ _ 53 [(0, .ref _), (1, .int _), (2, .int _), (3, .int _)] ([]) _ _
    refine go_aload_n dX1_change_53 rfl ?_
    refine go_gfr dX1_change_54 fl_1_36 rfl hs.1.1 hs.1.2.1 hs.1.2.2.2.2.1 ?_
    refine go_iload_n dX1_change_57 rfl ?_
    refine go_aload_n dX1_change_58 rfl ?_
    refine go_gfr dX1_change_59 fl_1_36 rfl hs.1.1 hs.1.2.1 hs.1.2.2.2.2.1 ?_
    refine go_iload_n dX1_change_62 rfl ?_
    refine go_cv (as := [.int _]) 0 dX1_change_63 mt_1_60 (Or.inr rfl) rfl rfl hs.2.2.2.1.1 hs.2.2.2.1.2.1 (Nat.le_of_ble_eq_true rfl) (Nat.le_of_ble_eq_true rfl) (Nat.le_of_ble_eq_true rfl) (Nat.le_of_ble_eq_true rfl) (Nat.le_of_ble_eq_true rfl) ?_
    refine me_X0_get hs.2.2.2.1 ?_
    rw [cg_b hi]
    show bw_go _ _ _ _ _ _ _ 66 [(0, .ref _), (1, .int _), (2, .int _), (3, .int _)] ((.int _) :: (.int _) :: (.ref _) :: []) _ _
    refine go_iload_n dX1_change_66 rfl ?_
    refine go_isub dX1_change_67 ?_
    refine go_cv (as := [.int _, .int _]) 0 dX1_change_68 mt_1_52 (Or.inr rfl) rfl rfl hs.2.2.2.1.1 hs.2.2.2.1.2.1 (Nat.le_of_ble_eq_true rfl) (Nat.le_of_ble_eq_true rfl) (Nat.le_of_ble_eq_true rfl) (Nat.le_of_ble_eq_true rfl) (Nat.le_of_ble_eq_true rfl) ?_
    refine me_X0_set hs.2.2.2.1 ?_
    rw [cs_b hi]
    show bw_go _ _ _ _ _ _ _ 71 [(0, .ref _), (1, .int _), (2, .int _), (3, .int _)] ([]) _ _
    refine go_goto (pc' := 110) dX1_change_71 rfl ?_
    show bw_go _ _ _ _ _ _ _ 110 [(0, .ref _), (1, .int _), (2, .int _), (3, .int _)] ([]) _ _
    refine go_vret dX1_change_110 rfl ?_
    first | exact hQ | (subst hsw; exact hQ)
  · -- a = 2
    refine go_tsIn (pc' := 74) dX1_change_1 (by decide) (by decide) rfl rfl ?_
    show bw_go _ _ _ _ _ _ _ 74 [(0, .ref _), (1, .int _), (2, .int _), (3, .int _)] ([]) _ _
    refine go_aload_n dX1_change_74 rfl ?_
    refine go_gfr dX1_change_75 fl_1_33 rfl hs.1.1 hs.1.2.1 hs.1.2.2.2.1 ?_
    refine go_iload_n dX1_change_78 rfl ?_
    refine go_aload_n dX1_change_79 rfl ?_
    refine go_gfr dX1_change_80 fl_1_33 rfl hs.1.1 hs.1.2.1 hs.1.2.2.2.1 ?_
    refine go_iload_n dX1_change_83 rfl ?_
    refine go_cv (as := [.int _]) 0 dX1_change_84 mt_1_60 (Or.inr rfl) rfl rfl hs.2.2.1.1 hs.2.2.1.2.1 (Nat.le_of_ble_eq_true rfl) (Nat.le_of_ble_eq_true rfl) (Nat.le_of_ble_eq_true rfl) (Nat.le_of_ble_eq_true rfl) (Nat.le_of_ble_eq_true rfl) ?_
    refine me_X0_get hs.2.2.1 ?_
    rw [cg_b hi]
    show bw_go _ _ _ _ _ _ _ 87 [(0, .ref _), (1, .int _), (2, .int _), (3, .int _)] ((.int _) :: (.int _) :: (.ref _) :: []) _ _
    refine go_iload_n dX1_change_87 rfl ?_
    refine go_isub dX1_change_88 ?_
    refine go_cv (as := [.int _, .int _]) 0 dX1_change_89 mt_1_52 (Or.inr rfl) rfl rfl hs.2.2.1.1 hs.2.2.1.2.1 (Nat.le_of_ble_eq_true rfl) (Nat.le_of_ble_eq_true rfl) (Nat.le_of_ble_eq_true rfl) (Nat.le_of_ble_eq_true rfl) (Nat.le_of_ble_eq_true rfl) ?_
    refine me_X0_set hs.2.2.1 ?_
    rw [cs_b hi]
    show bw_go _ _ _ _ _ _ _ 92 [(0, .ref _), (1, .int _), (2, .int _), (3, .int _)] ([]) _ _
    refine go_goto (pc' := 110) dX1_change_92 rfl ?_
    show bw_go _ _ _ _ _ _ _ 110 [(0, .ref _), (1, .int _), (2, .int _), (3, .int _)] ([]) _ _
    refine go_vret dX1_change_110 rfl ?_
    first | exact hQ | (subst hsw; exact hQ)
  · -- a = 3
    refine go_tsIn (pc' := 95) dX1_change_1 (by decide) (by decide) rfl rfl ?_
    show bw_go _ _ _ _ _ _ _ 95 [(0, .ref _), (1, .int _), (2, .int _), (3, .int _)] ([]) _ _
    refine go_aload_n dX1_change_95 rfl ?_
    refine go_dupA dX1_change_96 ?_
    refine go_gfi dX1_change_97 fl_1_18 rfl hs.1.1 hs.1.2.1 ?_
    refine go_iconst (1) dX1_change_100 rfl ?_
    refine go_iload_n dX1_change_101 rfl ?_
    refine go_ishl dX1_change_102 ?_
    refine go_ixor dX1_change_103 ?_
    refine go_pfi dX1_change_104 fl_1_18 rfl hs.1.1 hs.1.2.1 (Nat.le_of_ble_eq_true rfl) (Or.inl rfl) ?_
    show bw_go _ _ _ _ _ _ _ 107 [(0, .ref _), (1, .int _), (2, .int _), (3, .int _)] ([]) _ _
    refine go_goto (pc' := 110) dX1_change_107 rfl ?_
    show bw_go _ _ _ _ _ _ _ 110 [(0, .ref _), (1, .int _), (2, .int _), (3, .int _)] ([]) _ _
    refine go_vret dX1_change_110 rfl ?_
    first | exact hQ | (subst hsw; exact hQ)
  · -- a = 4
    refine go_tsOut (pc' := 110) dX1_change_1 (Or.inr (by rw [nI_toInt (by omega)]; omega)) rfl ?_
    show bw_go _ _ _ _ _ _ _ 110 [(0, .ref _), (1, .int _), (2, .int _), (3, .int _)] ([]) _ _
    refine go_vret dX1_change_110 rfl ?_
    first | exact hQ | (subst hsw; exact hQ)
theorem xor_n : ∀ w, w < 64 → ∀ i, i < 6 → (nI w ^^^ ((1 : Int32) <<< (nI i &&& 31))) = nI (w ^^^ 2 ^ i) := by decide +kernel
theorem xor_lt : ∀ w, w < 64 → ∀ i, i < 6 → (w ^^^ 2 ^ i) < 64 := by decide +kernel
theorem xor_xor : ∀ w, w < 64 → ∀ i, i < 6 → ((w ^^^ 2 ^ i) ^^^ 2 ^ i) = w := by decide +kernel
theorem nsub1 {a : Nat} (h : 0 < a) : nI a - 1 = nI (a - 1) := by
  obtain ⟨b, rfl⟩ : ∃ b, a = b + 1 := ⟨a - 1, by omega⟩
  exact nI_pred b
theorem nadd_m1 {a : Nat} (h : 0 < a) : nI a + (-1) = nI (a - 1) := by
  obtain ⟨b, rfl⟩ : ∃ b, a = b + 1 := ⟨a - 1, by omega⟩
  exact pk_m1 b
theorem nsub_m1 (a : Nat) : nI a - (-1) = nI (a + 1) := by
  rw [← nI_1]
  apply Int32.toBitVec_inj.mp
  show (nI a).toBitVec - (-1 : Int32).toBitVec = (nI a).toBitVec + (1 : Int32).toBitVec
  rw [BitVec.sub_eq_add_neg]
  rfl
/-- a deed that can be: what the court is then -/
theorem co_k_st {C : CT} {a i : Nat} (hk : co_k C) (ha : a < 5) (hi : i < cN C) (hb : cbe C a i = true) : co_k (stC a i C) := by
  obtain ⟨k1, k2, k3, k4, k5⟩ := hk
  unfold cbe at hb
  have hi6 : i < 6 := by omega
  refine ⟨k1, k2, ?_, k4, fun j hj => ?_⟩
  · show (stp a i (cE C, cR C, cW C)).2.2 < 64
    unfold stp
    repeat' split
    all_goals first | exact k3 | exact xor_lt _ k3 _ hi6
  · obtain ⟨q1, q2, q3, q4⟩ := k5 j hj
    refine ⟨q1, ?_, ?_, q4⟩
    · show (stp a i (cE C, cR C, cW C)).1 j ≤ 2
      unfold stp
      repeat' split
      all_goals first | exact q2 | skip
      simp only [bw_up]
      split
      · rename_i e; subst e; omega
      · exact q2
    · show (stp a i (cE C, cR C, cW C)).2.1 j ≤ 9
      unfold stp
      by_cases h0 : a = 0
      · rw [if_pos h0]
        rw [if_pos h0] at hb
        have hb := of_decide_eq_true hb
        simp only [bw_up]
        split
        · rename_i e; subst e; omega
        · exact q3
      · rw [if_neg h0]
        repeat' split
        all_goals first | exact q3 | skip
        simp only [bw_up]
        split
        · rename_i e; subst e; omega
        · exact q3
def acN (A : CT × (Nat → Nat) × (Nat → Nat)) : Nat := cN A.1
/-- an abstract court with its deeds: the first component as it was at first (its count of deeds: how many there are) -/
abbrev AC : Type := CT × (Nat → Nat) × (Nat → Nat)
/-- the court behind k deeds -/
def hst (A : AC) : Nat → CT
  | 0 => (cN A.1, cD A.1, 0, cT A.1, cK A.1, cE A.1, cR A.1, cV A.1)
  | k + 1 => stC (A.2.1 k) (A.2.2 k) (hst A k)
def hsT (A : AC) (k : Nat) : CT := (cN A.1, cD A.1, cW (hst A k), k, cK A.1, cE (hst A k), cR (hst A k), cV A.1)
def ac_k (A : AC) : Prop := co_k (hst A 0) ∧ cT A.1 ≤ 40 ∧ ∀ k, k < cT A.1 → A.2.1 k < 5 ∧ A.2.2 k < cN A.1 ∧ cbe (hst A k) (A.2.1 k) (A.2.2 k) = true
theorem hst_f (A : AC) : ∀ k, cN (hst A k) = cN A.1 ∧ cD (hst A k) = cD A.1 ∧ cT (hst A k) = cT A.1 ∧ cK (hst A k) = cK A.1 ∧ cV (hst A k) = cV A.1
  | 0 => ⟨rfl, rfl, rfl, rfl, rfl⟩
  | k + 1 => hst_f A k
theorem hst_k {A : AC} (h : ac_k A) : ∀ k, k ≤ cT A.1 → co_k (hst A k)
  | 0, _ => h.1
  | k + 1, hk => by
    obtain ⟨q1, q2, q3⟩ := h.2.2 k hk
    exact co_k_st (hst_k h k (Nat.le_of_lt hk)) q1 (by rw [(hst_f A k).1]; exact q2) q3
theorem hsT_k {A : AC} (h : ac_k A) {k : Nat} (hk : k ≤ cT A.1) : co_k (hsT A k) := by
  obtain ⟨f1, f2, f3, f4, f5⟩ := hst_f A k
  obtain ⟨k1, k2, k3, k4, k5⟩ := hst_k h k hk
  refine ⟨by rw [f1] at k1; exact k1, by rw [f2] at k2; exact k2, k3, Nat.le_trans hk h.2.1, fun i hi => ?_⟩
  have := k5 i (by rw [f1]; exact hi)
  rw [f4, f5] at this
  exact this
/-- the deeds' rows -/
def bw_dd (h : bw_H) (p : Nat) (A : AC) (k : Nat) : Prop := ∀ j, j < k → bw_i h (p + 10) j = nI (A.2.1 j) ∧ bw_i h (p + 12) j = nI (A.2.2 j)
/-- the class's court at p is the abstract one behind k of its deeds -/
def xco (h : bw_H) (p : Nat) (A : AC) (k : Nat) : Prop := bw_ct h p (hsT A k) ∧ bw_dd h p A k
def sameX (h h' : bw_H) (p : Nat) : Prop := h' = bw_wi h (bw_i h') ∧ ∀ q, ¬ (p ≤ q ∧ q ≤ p + 12) → bw_i h' q = bw_i h q
theorem chg_1 {h : bw_H} {p a i : Nat} {C : CT} (hc : bw_ct h p C) (ha : a < 5) (hi : i < cN C) (hb : cbe C a i = true) : bw_ct (chg h p a i 1) p (stC a i C) := by
  have hk := co_k_st hc.2.2 ha hi hb
  obtain ⟨hs, ⟨v0, v1, v2, v3, v4⟩, hk0⟩ := hc
  have hi6 : i < 6 := Nat.lt_of_lt_of_le hi hk0.1
  obtain ⟨w0, w1, w2, w3⟩ := v4 i hi
  unfold cbe at hb
  unfold chg
  by_cases h0 : a = 0
  · subst h0
    rw [if_pos rfl]
    refine ⟨hs, ⟨by rw [i_sa_o (by omega)]; exact v0, by rw [i_sa_o (by omega)]; exact v1, by rw [i_sa_o (by omega)]; exact v2, by rw [i_sa_o (by omega)]; exact v3, fun j hj => ?_⟩, hk⟩
    obtain ⟨y0, y1, y2, y3⟩ := v4 j hj
    refine ⟨by rw [i_sa_o (by omega)]; exact y0, by rw [i_sa_o (by omega)]; exact y1, ?_, by rw [i_sa_o (by omega)]; exact y3⟩
    rw [i_sa_s]
    show bw_up (bw_i h (p + 6)) i (bw_i h (p + 6) i + 1) j = nI (bw_up (cR C) i (cR C i + 1) j)
    unfold bw_up
    split
    · rw [w2, nI_1]
    · exact y2
  rw [if_neg h0]
  rw [if_neg h0] at hb
  by_cases h1 : a = 1
  · subst h1
    rw [if_pos rfl]
    rw [if_pos rfl] at hb
    have hb := of_decide_eq_true hb
    refine ⟨hs, ⟨by rw [i_sa_o (by omega)]; exact v0, by rw [i_sa_o (by omega)]; exact v1, by rw [i_sa_o (by omega)]; exact v2, by rw [i_sa_o (by omega)]; exact v3, fun j hj => ?_⟩, hk⟩
    obtain ⟨y0, y1, y2, y3⟩ := v4 j hj
    refine ⟨by rw [i_sa_o (by omega)]; exact y0, by rw [i_sa_o (by omega)]; exact y1, ?_, by rw [i_sa_o (by omega)]; exact y3⟩
    rw [i_sa_s]
    show bw_up (bw_i h (p + 6)) i (bw_i h (p + 6) i - 1) j = nI (bw_up (cR C) i (cR C i - 1) j)
    unfold bw_up
    split
    · rw [w2, nsub1 hb]
    · exact y2
  rw [if_neg h1]
  rw [if_neg h1] at hb
  by_cases h2 : a = 2
  · subst h2
    rw [if_pos rfl]
    rw [if_pos rfl] at hb
    have hb := of_decide_eq_true hb
    refine ⟨hs, ⟨by rw [i_sa_o (by omega)]; exact v0, by rw [i_sa_o (by omega)]; exact v1, by rw [i_sa_o (by omega)]; exact v2, by rw [i_sa_o (by omega)]; exact v3, fun j hj => ?_⟩, hk⟩
    obtain ⟨y0, y1, y2, y3⟩ := v4 j hj
    refine ⟨by rw [i_sa_o (by omega)]; exact y0, ?_, by rw [i_sa_o (by omega)]; exact y2, by rw [i_sa_o (by omega)]; exact y3⟩
    rw [i_sa_s]
    show bw_up (bw_i h (p + 4)) i (bw_i h (p + 4) i - 1) j = nI (bw_up (cE C) i (cE C i - 1) j)
    unfold bw_up
    split
    · rw [w1, nsub1 hb]
    · exact y1
  rw [if_neg h2]
  by_cases h3 : a = 3
  · subst h3
    rw [if_pos rfl]
    refine ⟨hs, ⟨by rw [i_si_s, bw_up_o (by decide)]; exact v0, by rw [i_si_s, bw_up_o (by decide)]; exact v1, ?_, by rw [i_si_s, bw_up_o (by decide)]; exact v3, fun j hj => ?_⟩, hk⟩
    · rw [i_si_s, bw_up_s, v2, xor_n _ hk0.2.2.1 _ hi6]
      rfl
    · obtain ⟨y0, y1, y2, y3⟩ := v4 j hj
      exact ⟨by rw [i_si_o (by omega)]; exact y0, by rw [i_si_o (by omega)]; exact y1, by rw [i_si_o (by omega)]; exact y2, by rw [i_si_o (by omega)]; exact y3⟩
  rw [if_neg h3]
  have h4 : a = 4 := by omega
  subst h4
  exact ⟨hs, ⟨v0, v1, v2, v3, v4⟩, hk⟩
theorem chg_m1 {h : bw_H} {p a i : Nat} {C : CT} (hc : bw_ct h p (stC a i C)) (hk0 : co_k C) (ha : a < 5) (hi : i < cN C) (hb : cbe C a i = true) : bw_ct (chg h p a i (-1)) p C := by
  obtain ⟨hs, ⟨v0, v1, v2, v3, v4⟩, hk⟩ := hc
  have hi6 : i < 6 := Nat.lt_of_lt_of_le hi hk0.1
  obtain ⟨w0, w1, w2, w3⟩ := v4 i hi
  unfold cbe at hb
  unfold chg
  by_cases h0 : a = 0
  · subst h0
    rw [if_pos rfl]
    refine ⟨hs, ⟨by rw [i_sa_o (by omega)]; exact v0, by rw [i_sa_o (by omega)]; exact v1, by rw [i_sa_o (by omega)]; exact v2, by rw [i_sa_o (by omega)]; exact v3, fun j hj => ?_⟩, hk0⟩
    obtain ⟨y0, y1, y2, y3⟩ := v4 j hj
    refine ⟨by rw [i_sa_o (by omega)]; exact y0, by rw [i_sa_o (by omega)]; exact y1, ?_, by rw [i_sa_o (by omega)]; exact y3⟩
    rw [i_sa_s]
    have e : ∀ j, cR (stC 0 i C) j = bw_up (cR C) i (cR C i + 1) j := fun _ => rfl
    rw [e] at w2 y2
    unfold bw_up at w2 y2 ⊢
    split
    · rename_i ej; subst ej
      rw [if_pos rfl] at w2
      rw [w2, nadd_m1 (by omega)]; rfl
    · rename_i ej; rw [if_neg ej] at y2; exact y2
  rw [if_neg h0]
  rw [if_neg h0] at hb
  by_cases h1 : a = 1
  · subst h1
    rw [if_pos rfl]
    rw [if_pos rfl] at hb
    have hb := of_decide_eq_true hb
    refine ⟨hs, ⟨by rw [i_sa_o (by omega)]; exact v0, by rw [i_sa_o (by omega)]; exact v1, by rw [i_sa_o (by omega)]; exact v2, by rw [i_sa_o (by omega)]; exact v3, fun j hj => ?_⟩, hk0⟩
    obtain ⟨y0, y1, y2, y3⟩ := v4 j hj
    refine ⟨by rw [i_sa_o (by omega)]; exact y0, by rw [i_sa_o (by omega)]; exact y1, ?_, by rw [i_sa_o (by omega)]; exact y3⟩
    rw [i_sa_s]
    have e : ∀ j, cR (stC 1 i C) j = bw_up (cR C) i (cR C i - 1) j := fun _ => rfl
    rw [e] at w2 y2
    unfold bw_up at w2 y2 ⊢
    split
    · rename_i ej; subst ej
      rw [if_pos rfl] at w2
      rw [w2, nsub_m1]; congr 1; omega
    · rename_i ej; rw [if_neg ej] at y2; exact y2
  rw [if_neg h1]
  rw [if_neg h1] at hb
  by_cases h2 : a = 2
  · subst h2
    rw [if_pos rfl]
    rw [if_pos rfl] at hb
    have hb := of_decide_eq_true hb
    refine ⟨hs, ⟨by rw [i_sa_o (by omega)]; exact v0, by rw [i_sa_o (by omega)]; exact v1, by rw [i_sa_o (by omega)]; exact v2, by rw [i_sa_o (by omega)]; exact v3, fun j hj => ?_⟩, hk0⟩
    obtain ⟨y0, y1, y2, y3⟩ := v4 j hj
    refine ⟨by rw [i_sa_o (by omega)]; exact y0, ?_, by rw [i_sa_o (by omega)]; exact y2, by rw [i_sa_o (by omega)]; exact y3⟩
    rw [i_sa_s]
    have e : ∀ j, cE (stC 2 i C) j = bw_up (cE C) i (cE C i - 1) j := fun _ => rfl
    rw [e] at w1 y1
    unfold bw_up at w1 y1 ⊢
    split
    · rename_i ej; subst ej
      rw [if_pos rfl] at w1
      rw [w1, nsub_m1]; congr 1; omega
    · rename_i ej; rw [if_neg ej] at y1; exact y1
  rw [if_neg h2]
  by_cases h3 : a = 3
  · subst h3
    rw [if_pos rfl]
    refine ⟨hs, ⟨by rw [i_si_s, bw_up_o (by decide)]; exact v0, by rw [i_si_s, bw_up_o (by decide)]; exact v1, ?_, by rw [i_si_s, bw_up_o (by decide)]; exact v3, fun j hj => ?_⟩, hk0⟩
    · have e : cW (stC 3 i C) = cW C ^^^ 2 ^ i := rfl
      rw [i_si_s, bw_up_s, v2, e, xor_n _ (xor_lt _ hk0.2.2.1 _ hi6) _ hi6, xor_xor _ hk0.2.2.1 _ hi6]
    · obtain ⟨y0, y1, y2, y3⟩ := v4 j hj
      exact ⟨by rw [i_si_o (by omega)]; exact y0, by rw [i_si_o (by omega)]; exact y1, by rw [i_si_o (by omega)]; exact y2, by rw [i_si_o (by omega)]; exact y3⟩
  rw [if_neg h3]
  have h4 : a = 4 := by omega
  subst h4
  exact ⟨hs, ⟨v0, v1, v2, v3, v4⟩, hk0⟩
theorem chg_fr (h : bw_H) (p a i : Nat) (v : Int32) : chg h p a i v = bw_wi h (bw_i (chg h p a i v)) ∧ ∀ q, q ≠ p → q ≠ p + 4 → q ≠ p + 6 → bw_i (chg h p a i v) q = bw_i h q := by
  unfold chg
  repeat' split
  · exact ⟨rfl, fun q h1 h2 h3 => i_sa_o h3⟩
  · exact ⟨rfl, fun q h1 h2 h3 => i_sa_o h3⟩
  · exact ⟨rfl, fun q h1 h2 h3 => i_sa_o h2⟩
  · exact ⟨rfl, fun q h1 h2 h3 => i_si_o h1⟩
  · exact ⟨rfl, fun q h1 h2 h3 => rfl⟩
