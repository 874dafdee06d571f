/-! BearWitness: counts, the digest -/
def smN (f : Nat → Nat) : Nat → Nat
  | 0 => 0
  | k + 1 => smN f k + f k
theorem sm_n {F : Nat → Int32} {f : Nat → Nat} : ∀ n, (∀ i, i < n → F i = nI (f i)) → sm F n = nI (smN f n)
  | 0, _ => rfl
  | k + 1, h => by
    show sm F k + F k = nI (smN f k + f k)
    rw [sm_n k (fun i hi => h i (by omega)), h k (by omega), nI_add]
def cnf (S : ST) (w : Nat) : Nat := if w = 0 then cN (nowC S) else if w = 1 then cD (nowC S) else if w = 2 then cT (sA S).1 else if w = 3 then cW (nowC S) else if w = 4 then sho (taC (nowC S)) (2 ^ cN (nowC S) - 1) else
  if w = 5 then smN (cR (nowC S)) (cN (nowC S)) else if w = 6 then smN (cE (nowC S)) (cN (nowC S)) else if w = 7 then cnt (fun i => ofk (cK (nowC S) i) 1) (cN (nowC S)) else if w = 8 then cnt (fun i => ofk (cK (nowC S) i) 3) (cN (nowC S)) else
  if w = 9 then cnt (fun r => (sR S r).isSome) 6 else if w = 10 then cnt (fun r => (sT S r).isSome) 4 else cnt (fun k => (sK S k).isSome) 3
def yCount (w : Int32) (S : ST) : Int32 × ST := if isn w 12 = true then (nI (cnf S (rn w)), S) else (-1, S)
def dgC (S : ST) : Nat → Int64
  | 0 => 17
  | k + 1 => 31 * dgC S k + (nI (cnf S k)).toInt64
def dg1 (C : CT) (i : Nat) (g : Int64) : Nat → Int64
  | 0 => g
  | w + 1 => 31 * dg1 C i g w + (nI (obf C i w)).toInt64
def dg2 (C : CT) (i : Nat) (g : Int64) : Nat → Int64
  | 0 => g
  | x + 1 => 31 * dg2 C i g x + (ans (cW C) i (cK C i) (cR C i) (cV C i) (cE C i) x (cD C)).toInt64
def dgB (C : CT) (g : Int64) : Nat → Int64
  | 0 => g
  | i + 1 => dg2 C i (dg1 C i (dgB C g i) 6) 6
def kpv (s : Option AC) : Int32 := match s with
  | none => -1
  | some A => nI (cT A.1)
def dgK (S : ST) (g : Int64) : Nat → Int64
  | 0 => g
  | k + 1 => 31 * dgK S g k + (kpv (sK S k)).toInt64
def dgR (s : Nat → Option Nat) (c : Nat → Nat → Int32) (g : Int64) : Nat → Int64
  | 0 => g
  | r + 1 => dg (c r) 0 (31 * dgR s c g r + (oz (s r)).toInt64) (osz (s r))
def digS (S : ST) : Int64 := dgR (sT S) (sTc S) (dgR (sR S) (sRc S) (dgK S (dgB (nowC S) (dgC S 12) (cN (nowC S))) 3) 6) 4
theorem dg_c {F G : Nat → Int32} {b : Nat} {g : Int64} : ∀ m, (∀ i, i < m → F (b + i) = G i) → dg F b g m = dg G 0 g m
  | 0, _ => rfl
  | m + 1, h => by
    show 31 * dg F b g m + (F (b + m)).toInt64 = 31 * dg G 0 g m + (G (0 + m)).toInt64
    rw [dg_c m (fun i hi => h i (by omega)), h m (by omega), Nat.zero_add]
theorem dgs_c {s : Nat → Option Nat} {F : Nat → Int32} {c : Nat → Nat → Int32} {wid : Nat} {g : Int64} : ∀ n, (∀ r, r < n → ∀ m, s r = some m → ∀ i, i < m → F (r * wid + i) = c r i) → dgs s F wid g n = dgR s c g n
  | 0, _ => rfl
  | n + 1, h => by
    show dg F (n * wid) (31 * dgs s F wid g n + (oz (s n)).toInt64) (osz (s n)) = dg (c n) 0 (31 * dgR s c g n + (oz (s n)).toInt64) (osz (s n))
    rw [dgs_c n (fun r hr => h r (by omega))]
    refine dg_c _ (fun i hi => ?_)
    cases e : s n with
    | none => rw [e] at hi; exact absurd hi (Nat.not_lt_zero i)
    | some m => rw [e] at hi; exact h n (by omega) m e i hi
set_option maxRecDepth 100000 in
set_option maxHeartbeats 4000000 in
theorem me_countW {X : Nat × (Nat → Int32)} {Q : Option Value → bw_H → Prop} {h : bw_H} {S : ST} {w : Nat} (hx : XR h S) (hw : w < 12) (hQ : ∀ g, XR g S → frM h g → Q (some (.int (nI (cnf S w)))) g) : bw_me X 5 bm_X7_count false [.ref 0, .int (nI w)] h Q := by
  have hc : bw_ct h 11 (nowC S) := hx.2.2.2.1.1.1
  have hN := hc.2.2.1
  show bw_go _ 5 7 2 false (some .int) cX7_count 0 [(0, .ref _), (1, .int _)] [] _ _
  refine go_iload_n dX7_count_0 rfl ?_
  rcases (show w = 0 ∨ w = 1 ∨ w = 2 ∨ w = 3 ∨ w = 4 ∨ w = 5 ∨ w = 6 ∨ w = 7 ∨ w = 8 ∨ w = 9 ∨ w = 10 ∨ w = 11 by omega) with rfl | rfl | rfl | rfl | rfl | rfl | rfl | rfl | rfl | rfl | rfl | rfl
  · -- w = 0
    refine go_tsIn (pc' := 64) dX7_count_1 (by decide) (by decide) rfl rfl ?_
    show bw_go _ _ _ _ _ _ _ 64 [(0, .ref _), (1, .int _)] ([]) _ _
    refine go_aload_n dX7_count_64 rfl ?_
    refine go_gfr dX7_count_65 fl_7_24 rfl hx.1.1.1 hx.1.1.2.1 hx.1.1.2.2.2.2.1 ?_
    refine go_gfi dX7_count_68 fl_7_141 rfl hc.1.1.1 hc.1.1.2.1 ?_
    rw [hc.2.1.1]
    refine go_iret dX7_count_71 rfl rfl ?_
    exact hQ h hx (frM_r h)
  · -- w = 1
    refine go_tsIn (pc' := 72) dX7_count_1 (by decide) (by decide) rfl rfl ?_
    show bw_go _ _ _ _ _ _ _ 72 [(0, .ref _), (1, .int _)] ([]) _ _
    refine go_aload_n dX7_count_72 rfl ?_
    refine go_gfr dX7_count_73 fl_7_24 rfl hx.1.1.1 hx.1.1.2.1 hx.1.1.2.2.2.2.1 ?_
    refine go_gfi dX7_count_76 fl_7_299 rfl hc.1.1.1 hc.1.1.2.1 ?_
    rw [hc.2.1.2.1]
    refine go_iret dX7_count_79 rfl rfl ?_
    exact hQ h hx (frM_r h)
  · -- w = 2
    refine go_tsIn (pc' := 80) dX7_count_1 (by decide) (by decide) rfl rfl ?_
    show bw_go _ _ _ _ _ _ _ 80 [(0, .ref _), (1, .int _)] ([]) _ _
    refine go_aload_n dX7_count_80 rfl ?_
    refine go_gfr dX7_count_81 fl_7_24 rfl hx.1.1.1 hx.1.1.2.1 hx.1.1.2.2.2.2.1 ?_
    refine go_gfi dX7_count_84 fl_7_165 rfl hc.1.1.1 hc.1.1.2.1 ?_
    rw [hc.2.1.2.2.2.1]
    refine go_iret dX7_count_87 rfl rfl ?_
    exact hQ h hx (frM_r h)
  · -- w = 3
    refine go_tsIn (pc' := 88) dX7_count_1 (by decide) (by decide) rfl rfl ?_
    show bw_go _ _ _ _ _ _ _ 88 [(0, .ref _), (1, .int _)] ([]) _ _
    refine go_aload_n dX7_count_88 rfl ?_
    refine go_gfr dX7_count_89 fl_7_24 rfl hx.1.1.1 hx.1.1.2.1 hx.1.1.2.2.2.2.1 ?_
    refine go_gfi dX7_count_92 fl_7_302 rfl hc.1.1.1 hc.1.1.2.1 ?_
    rw [hc.2.1.2.2.1]
    refine go_iret dX7_count_95 rfl rfl ?_
    exact hQ h hx (frM_r h)
  · -- w = 4
    refine go_tsIn (pc' := 96) dX7_count_1 (by decide) (by decide) rfl rfl ?_
    show bw_go _ _ _ _ _ _ _ 96 [(0, .ref _), (1, .int _)] ([]) _ _
    refine go_aload_n dX7_count_96 rfl ?_
    refine go_cv (as := []) 4 dX7_count_97 mt_7_296 (Or.inl rfl) rfl rfl hx.1.1.1 hx.1.1.2.1 (Nat.le_of_ble_eq_true rfl) (Nat.le_of_ble_eq_true rfl) (Nat.le_of_ble_eq_true rfl) (Nat.le_of_ble_eq_true rfl) (Nat.le_of_ble_eq_true rfl) ?_
    refine me_X7_shownByAll hx (fun g hg hf => ?_)
    show bw_go _ _ _ _ _ _ _ 100 [(0, .ref _), (1, .int _)] ((.int _) :: []) _ _
    refine go_iret dX7_count_100 rfl rfl ?_
    exact hQ g hg hf
  · -- w = 5
    refine go_tsIn (pc' := 101) dX7_count_1 (by decide) (by decide) rfl rfl ?_
    show bw_go _ _ _ _ _ _ _ 101 [(0, .ref _), (1, .int _)] ([]) _ _
    refine go_aload_n dX7_count_101 rfl ?_
    refine go_gfr dX7_count_102 fl_7_24 rfl hx.1.1.1 hx.1.1.2.1 hx.1.1.2.2.2.2.1 ?_
    refine go_gfr dX7_count_105 fl_7_305 rfl hc.1.1.1 hc.1.1.2.1 hc.1.1.2.2.2.2.1 ?_
    refine go_aload_n dX7_count_108 rfl ?_
    refine go_gfr dX7_count_109 fl_7_24 rfl hx.1.1.1 hx.1.1.2.1 hx.1.1.2.2.2.2.1 ?_
    refine go_gfi dX7_count_112 fl_7_141 rfl hc.1.1.1 hc.1.1.2.1 ?_
    rw [hc.2.1.1]
    refine go_cv (as := [.int _]) 0 dX7_count_115 mt_7_308 (Or.inr rfl) rfl rfl hc.1.2.2.2.1.1 hc.1.2.2.2.1.2.1 (Nat.le_of_ble_eq_true rfl) (Nat.le_of_ble_eq_true rfl) (Nat.le_of_ble_eq_true rfl) (Nat.le_of_ble_eq_true rfl) (Nat.le_of_ble_eq_true rfl) ?_
    refine me_X0_sum hc.1.2.2.2.1 (n := cN (nowC S)) hN ?_
    rw [sm_n (f := cR (nowC S)) _ (fun i hi => (hc.2.1.2.2.2.2 i hi).2.2.1)]
    show bw_go _ _ _ _ _ _ _ 118 [(0, .ref _), (1, .int _)] ((.int _) :: []) _ _
    refine go_iret dX7_count_118 rfl rfl ?_
    exact hQ h hx (frM_r h)
  · -- w = 6
    refine go_tsIn (pc' := 119) dX7_count_1 (by decide) (by decide) rfl rfl ?_
    show bw_go _ _ _ _ _ _ _ 119 [(0, .ref _), (1, .int _)] ([]) _ _
    refine go_aload_n dX7_count_119 rfl ?_
    refine go_gfr dX7_count_120 fl_7_24 rfl hx.1.1.1 hx.1.1.2.1 hx.1.1.2.2.2.2.1 ?_
    refine go_gfr dX7_count_123 fl_7_311 rfl hc.1.1.1 hc.1.1.2.1 hc.1.1.2.2.2.1 ?_
    refine go_aload_n dX7_count_126 rfl ?_
    refine go_gfr dX7_count_127 fl_7_24 rfl hx.1.1.1 hx.1.1.2.1 hx.1.1.2.2.2.2.1 ?_
    refine go_gfi dX7_count_130 fl_7_141 rfl hc.1.1.1 hc.1.1.2.1 ?_
    rw [hc.2.1.1]
    refine go_cv (as := [.int _]) 0 dX7_count_133 mt_7_308 (Or.inr rfl) rfl rfl hc.1.2.2.1.1 hc.1.2.2.1.2.1 (Nat.le_of_ble_eq_true rfl) (Nat.le_of_ble_eq_true rfl) (Nat.le_of_ble_eq_true rfl) (Nat.le_of_ble_eq_true rfl) (Nat.le_of_ble_eq_true rfl) ?_
    refine me_X0_sum hc.1.2.2.1 (n := cN (nowC S)) hN ?_
    rw [sm_n (f := cE (nowC S)) _ (fun i hi => (hc.2.1.2.2.2.2 i hi).2.1)]
    show bw_go _ _ _ _ _ _ _ 136 [(0, .ref _), (1, .int _)] ((.int _) :: []) _ _
    refine go_iret dX7_count_136 rfl rfl ?_
    exact hQ h hx (frM_r h)
  · -- w = 7
    refine go_tsIn (pc' := 137) dX7_count_1 (by decide) (by decide) rfl rfl ?_
    show bw_go _ _ _ _ _ _ _ 137 [(0, .ref _), (1, .int _)] ([]) _ _
    refine go_aload_n dX7_count_137 rfl ?_
    refine go_gfr dX7_count_138 fl_7_24 rfl hx.1.1.1 hx.1.1.2.1 hx.1.1.2.2.2.2.1 ?_
    refine go_iconst (1) dX7_count_141 rfl ?_
    refine go_cv (as := [.int _]) 1 dX7_count_142 mt_7_314 (Or.inr rfl) rfl rfl hc.1.1.1 hc.1.1.2.1 (Nat.le_of_ble_eq_true rfl) (Nat.le_of_ble_eq_true rfl) (Nat.le_of_ble_eq_true rfl) (Nat.le_of_ble_eq_true rfl) (Nat.le_of_ble_eq_true rfl) ?_
    refine me_X1_thoseOfKind hc (w := 1) (by decide) ?_
    show bw_go _ _ _ _ _ _ _ 145 [(0, .ref _), (1, .int _)] ((.int _) :: []) _ _
    refine go_iret dX7_count_145 rfl rfl ?_
    exact hQ h hx (frM_r h)
  · -- w = 8
    refine go_tsIn (pc' := 146) dX7_count_1 (by decide) (by decide) rfl rfl ?_
    show bw_go _ _ _ _ _ _ _ 146 [(0, .ref _), (1, .int _)] ([]) _ _
    refine go_aload_n dX7_count_146 rfl ?_
    refine go_gfr dX7_count_147 fl_7_24 rfl hx.1.1.1 hx.1.1.2.1 hx.1.1.2.2.2.2.1 ?_
    refine go_iconst (3) dX7_count_150 rfl ?_
    refine go_cv (as := [.int _]) 1 dX7_count_151 mt_7_314 (Or.inr rfl) rfl rfl hc.1.1.1 hc.1.1.2.1 (Nat.le_of_ble_eq_true rfl) (Nat.le_of_ble_eq_true rfl) (Nat.le_of_ble_eq_true rfl) (Nat.le_of_ble_eq_true rfl) (Nat.le_of_ble_eq_true rfl) ?_
    refine me_X1_thoseOfKind hc (w := 3) (by decide) ?_
    show bw_go _ _ _ _ _ _ _ 154 [(0, .ref _), (1, .int _)] ((.int _) :: []) _ _
    refine go_iret dX7_count_154 rfl rfl ?_
    exact hQ h hx (frM_r h)
  · -- w = 9
    refine go_tsIn (pc' := 155) dX7_count_1 (by decide) (by decide) rfl rfl ?_
    show bw_go _ _ _ _ _ _ _ 155 [(0, .ref _), (1, .int _)] ([]) _ _
    refine go_aload_n dX7_count_155 rfl ?_
    refine go_gfr dX7_count_156 fl_7_14 rfl hx.1.1.1 hx.1.1.2.1 hx.1.1.2.2.1 ?_
    refine go_cv (as := []) 3 dX7_count_159 mt_7_317 (Or.inr rfl) rfl rfl hx.2.1.1.1.1 hx.2.1.1.1.2.1 (Nat.le_of_ble_eq_true rfl) (Nat.le_of_ble_eq_true rfl) (Nat.le_of_ble_eq_true rfl) (Nat.le_of_ble_eq_true rfl) (Nat.le_of_ble_eq_true rfl) ?_
    refine me_X4_thoseThere hx.2.1.1 (fun r hr => (hx.2.1.2 r hr).1) (fun r hr => (hx.2.1.2 r hr).2.1) ?_
    show bw_go _ _ _ _ _ _ _ 162 [(0, .ref _), (1, .int _)] ((.int _) :: []) _ _
    refine go_iret dX7_count_162 rfl rfl ?_
    exact hQ h hx (frM_r h)
  · -- w = 10
    refine go_tsIn (pc' := 163) dX7_count_1 (by decide) (by decide) rfl rfl ?_
    show bw_go _ _ _ _ _ _ _ 163 [(0, .ref _), (1, .int _)] ([]) _ _
    refine go_aload_n dX7_count_163 rfl ?_
    refine go_gfr dX7_count_164 fl_7_18 rfl hx.1.1.1 hx.1.1.2.1 hx.1.1.2.2.2.1 ?_
    refine go_cv (as := []) 3 dX7_count_167 mt_7_317 (Or.inr rfl) rfl rfl hx.2.2.1.1.1.1 hx.2.2.1.1.1.2.1 (Nat.le_of_ble_eq_true rfl) (Nat.le_of_ble_eq_true rfl) (Nat.le_of_ble_eq_true rfl) (Nat.le_of_ble_eq_true rfl) (Nat.le_of_ble_eq_true rfl) ?_
    refine me_X4_thoseThere hx.2.2.1.1 (fun r hr => (hx.2.2.1.2 r hr).1) (fun r hr => (hx.2.2.1.2 r hr).2.1) ?_
    show bw_go _ _ _ _ _ _ _ 170 [(0, .ref _), (1, .int _)] ((.int _) :: []) _ _
    refine go_iret dX7_count_170 rfl rfl ?_
    exact hQ h hx (frM_r h)
  · -- w = 11
    refine go_tsIn (pc' := 171) dX7_count_1 (by decide) (by decide) rfl rfl ?_
    show bw_go _ _ _ _ _ _ _ 171 [(0, .ref _), (1, .int _)] ([]) _ _
    refine go_aload_n dX7_count_171 rfl ?_
    refine go_cv (as := []) 1 dX7_count_172 mt_7_320 (Or.inl rfl) rfl rfl hx.1.1.1 hx.1.1.2.1 (Nat.le_of_ble_eq_true rfl) (Nat.le_of_ble_eq_true rfl) (Nat.le_of_ble_eq_true rfl) (Nat.le_of_ble_eq_true rfl) (Nat.le_of_ble_eq_true rfl) ?_
    refine me_X7_keptCourts hx ?_
    show bw_go _ _ _ _ _ _ _ 175 [(0, .ref _), (1, .int _)] ((.int _) :: []) _ _
    refine go_iret dX7_count_175 rfl rfl ?_
    exact hQ h hx (frM_r h)
set_option maxRecDepth 100000 in
set_option maxHeartbeats 4000000 in
theorem me_countO {X : Nat × (Nat → Int32)} {Q : Option Value → bw_H → Prop} {h : bw_H} {S : ST} {w : Int32} (hx : XR h S) (hw : w.toInt < 0 ∨ 11 < w.toInt) (hQ : Q (some (.int (-1))) h) : bw_me X 5 bm_X7_count false [.ref 0, .int w] h Q := by
  have hc : bw_ct h 11 (nowC S) := hx.2.2.2.1.1.1
  have hN := hc.2.2.1
  show bw_go _ 5 7 2 false (some .int) cX7_count 0 [(0, .ref _), (1, .int _)] [] _ _
  refine go_iload_n dX7_count_0 rfl ?_
  refine go_tsOut (pc' := 176) dX7_count_1 hw rfl ?_
  show bw_go _ _ _ _ _ _ _ 176 [(0, .ref _), (1, .int _)] ([]) _ _
  refine go_iconst (-1) dX7_count_176 rfl ?_
  refine go_iret dX7_count_177 rfl rfl ?_
  exact hQ
theorem me_X7_count {X : Nat × (Nat → Int32)} {Q : Option Value → bw_H → Prop} {h : bw_H} {S : ST} {w : Int32} (hx : XR h S) (hQ : PX h Q (yCount w S)) : bw_me X 5 bm_X7_count false [.ref 0, .int w] h Q := by
  by_cases hw : isn w 12 = true
  · obtain ⟨j, hj, rfl⟩ := isn_ex hw (by decide)
    refine me_countW hx hj (fun g hg hf => q_x hQ ?_ hg hf)
    unfold yCount
    rw [if_pos hw, rn_n (by omega)]
  · refine me_countO hx ?_ (q_x hQ ?_ hx (frM_r h))
    · have h2 : ¬ (0 ≤ w.toInt ∧ w.toInt < (12 : Nat)) := fun z => hw (decide_eq_true z)
      omega
    · unfold yCount
      rw [if_neg hw]
set_option maxRecDepth 100000 in
set_option maxHeartbeats 4000000 in
theorem me_X7_digest {X : Nat × (Nat → Int32)} {Q : Option Value → bw_H → Prop} {h : bw_H} {S : ST} (hx : XR h S) (hQ : ∀ g, XR g S → frM h g → Q (some (.long (digS S))) g) : bw_me X 6 bm_X7_digest false [.ref 0] h Q := by
  have hc : bw_ct h 11 (nowC S) := hx.2.2.2.1.1.1
  have hN := hc.2.2.1
  show bw_go _ 6 7 5 false (some .long) cX7_digest 0 [(0, .ref _)] [] _ _
  refine go_ldc2_w dX7_digest_0 kc_7_323 ?_
  refine go_lstore_n dX7_digest_3 (Nat.lt_of_lt_of_le (Nat.lt_succ_self _) (Nat.le_of_ble_eq_true rfl)) ?_
  show bw_go _ _ _ _ _ _ _ 4 [(1, .long _), (0, .ref _)] ([]) _ _
  refine go_iconst (0) dX7_digest_4 rfl ?_
  refine go_istore_n dX7_digest_5 (Nat.lt_of_lt_of_le (Nat.lt_succ_self _) (Nat.le_of_ble_eq_true rfl)) ?_
  show bw_go _ _ _ _ _ _ _ 6 [(3, .int _), (1, .long _), (0, .ref _)] ([]) _ _
  refine go_for (P := fun k => ∀ (g : bw_H), (XR g S ∧ frM h g) → bw_go X 6 7 5 false (some .long) cX7_digest 6 [(3, .int (nI k)), (1, .long (dgC S k)), (0, .ref (0))] [] g Q) (N := 12) (fun k hk K => ?_) ?_ (0) (Nat.zero_le _) _ ⟨hx, frM_r h⟩
  · -- a turn
    intro g hv
    obtain ⟨hx, hf⟩ := hv
    show bw_go _ _ _ _ _ _ _ 6 [(3, .int _), (1, .long _), (0, .ref _)] ([]) _ _
    refine go_iload_n dX7_digest_6 rfl ?_
    refine go_bipush (12) dX7_digest_7 rfl ?_
    refine go_icmp_ge (pc' := 31) dX7_digest_9 rfl (fun c_9 => ?_) (fun c_9 => ?_)
    · -- ge at 9: yes
      exfalso; have t_0 := nI_toInt (n := k) (by omega); have l_0 : (12 : Int32).toInt = 12 := rfl; simp only [i_le, i_lt, i_eq, bi_eq] at c_9; omega
    · -- ge at 9: no
      show bw_go _ _ _ _ _ _ _ 12 [(3, .int _), (1, .long _), (0, .ref _)] ([]) _ _
      refine go_ldc2_w dX7_digest_12 kc_7_325 ?_
      refine go_lload_n dX7_digest_15 rfl ?_
      refine go_lmul dX7_digest_16 ?_
      refine go_aload_n dX7_digest_17 rfl ?_
      refine go_iload_n dX7_digest_18 rfl ?_
      refine go_cv (as := [.int _]) 5 dX7_digest_19 mt_7_327 (Or.inl rfl) rfl rfl hx.1.1.1 hx.1.1.2.1 (Nat.le_of_ble_eq_true rfl) (Nat.le_of_ble_eq_true rfl) (Nat.le_of_ble_eq_true rfl) (Nat.le_of_ble_eq_true rfl) (Nat.le_of_ble_eq_true rfl) ?_
      refine me_countW hx hk (fun g2 hg2 hf2 => ?_)
      show bw_go _ _ _ _ _ _ _ 22 [(3, .int _), (1, .long _), (0, .ref _)] ((.int _) :: (.long _) :: []) _ _
      refine go_i2l dX7_digest_22 ?_
      refine go_ladd dX7_digest_23 ?_
      refine go_lstore_n dX7_digest_24 (Nat.lt_of_lt_of_le (Nat.lt_succ_self _) (Nat.le_of_ble_eq_true rfl)) ?_
      show bw_go _ _ _ _ _ _ _ 25 [(1, .long _), (3, .int _), (0, .ref _)] ([]) _ _
      refine go_iinc dX7_digest_25 rfl (nI_1 k) (Nat.lt_of_lt_of_le (Nat.lt_succ_self _) (Nat.le_of_ble_eq_true rfl)) ?_
      show bw_go _ _ _ _ _ _ _ 28 [(3, .int _), (1, .long _), (0, .ref _)] ([]) _ _
      refine go_goto (pc' := 6) dX7_digest_28 rfl ?_
      exact K g2 ⟨hg2, frM_t hf hf2⟩
  · -- behind the last
    intro g hv
    obtain ⟨hx, hf⟩ := hv
    have hc : bw_ct g 11 (nowC S) := hx.2.2.2.1.1.1
    show bw_go _ _ _ _ _ _ _ 6 [(3, .int _), (1, .long _), (0, .ref _)] ([]) _ _
    refine go_iload_n dX7_digest_6 rfl ?_
    refine go_bipush (12) dX7_digest_7 rfl ?_
    refine go_icmp_ge (pc' := 31) dX7_digest_9 rfl (fun c_9 => ?_) (fun c_9 => ?_)
    · -- ge at 9: yes
      show bw_go _ _ _ _ _ _ _ 31 [(3, .int _), (1, .long _), (0, .ref _)] ([]) _ _
      refine go_iconst (0) dX7_digest_31 rfl ?_
      refine go_istore_n dX7_digest_32 (Nat.lt_of_lt_of_le (Nat.lt_succ_self _) (Nat.le_of_ble_eq_true rfl)) ?_
      show bw_go _ _ _ _ _ _ _ 33 [(3, .int _), (1, .long _), (0, .ref _)] ([]) _ _
      refine go_for (P := fun i => bw_go X 6 7 5 false (some .long) cX7_digest 33 [(3, .int (nI i)), (1, .long (dgB (nowC S) (dgC S 12) i)), (0, .ref (0))] [] g Q) (N := cN (nowC S)) (fun i hi K => ?_) ?_ (0) (Nat.zero_le _)
      · -- a turn
        show bw_go _ _ _ _ _ _ _ 33 [(3, .int _), (1, .long _), (0, .ref _)] ([]) _ _
        refine go_iload_n dX7_digest_33 rfl ?_
        refine go_aload_n dX7_digest_34 rfl ?_
        refine go_gfr dX7_digest_35 fl_7_24 rfl hx.1.1.1 hx.1.1.2.1 hx.1.1.2.2.2.2.1 ?_
        refine go_gfi dX7_digest_38 fl_7_141 rfl hc.1.1.1 hc.1.1.2.1 ?_
        rw [hc.2.1.1]
        refine go_icmp_ge (pc' := 115) dX7_digest_41 rfl (fun c_41 => ?_) (fun c_41 => ?_)
        · -- ge at 41: yes
          exfalso; have t_0 := nI_toInt (n := i) (by omega); have t_1 := nI_toInt (n := cN (nowC S)) (by omega); simp only [i_le, i_lt, i_eq, bi_eq] at c_41; omega
        · -- ge at 41: no
          show bw_go _ _ _ _ _ _ _ 44 [(3, .int _), (1, .long _), (0, .ref _)] ([]) _ _
          refine go_iconst (0) dX7_digest_44 rfl ?_
          refine go_istore dX7_digest_45 (Nat.lt_of_lt_of_le (Nat.lt_succ_self _) (Nat.le_of_ble_eq_true rfl)) ?_
          show bw_go _ _ _ _ _ _ _ 47 [(4, .int _), (3, .int _), (1, .long _), (0, .ref _)] ([]) _ _
          refine go_for (P := fun w => bw_go X 6 7 5 false (some .long) cX7_digest 47 [(4, .int (nI w)), (3, .int (nI i)), (1, .long (dg1 (nowC S) i (dgB (nowC S) (dgC S 12) i) w)), (0, .ref (0))] [] g Q) (N := 6) (fun w hw K => ?_) ?_ (0) (Nat.zero_le _)
          · -- a turn
            show bw_go _ _ _ _ _ _ _ 47 [(4, .int _), (3, .int _), (1, .long _), (0, .ref _)] ([]) _ _
            refine go_iload dX7_digest_47 rfl ?_
            refine go_bipush (6) dX7_digest_49 rfl ?_
            refine go_icmp_ge (pc' := 75) dX7_digest_51 rfl (fun c_51 => ?_) (fun c_51 => ?_)
            · -- ge at 51: yes
              exfalso; have t_0 := nI_toInt (n := w) (by omega); have l_0 : (6 : Int32).toInt = 6 := rfl; simp only [i_le, i_lt, i_eq, bi_eq] at c_51; omega
            · -- ge at 51: no
              show bw_go _ _ _ _ _ _ _ 54 [(4, .int _), (3, .int _), (1, .long _), (0, .ref _)] ([]) _ _
              refine go_ldc2_w dX7_digest_54 kc_7_325 ?_
              refine go_lload_n dX7_digest_57 rfl ?_
              refine go_lmul dX7_digest_58 ?_
              refine go_aload_n dX7_digest_59 rfl ?_
              refine go_iload_n dX7_digest_60 rfl ?_
              refine go_iload dX7_digest_61 rfl ?_
              refine go_cv (as := [.int _, .int _]) 3 dX7_digest_63 mt_7_147 (Or.inl rfl) rfl rfl hx.1.1.1 hx.1.1.2.1 (Nat.le_of_ble_eq_true rfl) (Nat.le_of_ble_eq_true rfl) (Nat.le_of_ble_eq_true rfl) (Nat.le_of_ble_eq_true rfl) (Nat.le_of_ble_eq_true rfl) ?_
              refine me_X7_ofBear hx hi hw ?_
              show bw_go _ _ _ _ _ _ _ 66 [(4, .int _), (3, .int _), (1, .long _), (0, .ref _)] ((.int _) :: (.long _) :: []) _ _
              refine go_i2l dX7_digest_66 ?_
              refine go_ladd dX7_digest_67 ?_
              refine go_lstore_n dX7_digest_68 (Nat.lt_of_lt_of_le (Nat.lt_succ_self _) (Nat.le_of_ble_eq_true rfl)) ?_
              show bw_go _ _ _ _ _ _ _ 69 [(1, .long _), (4, .int _), (3, .int _), (0, .ref _)] ([]) _ _
              refine go_iinc dX7_digest_69 rfl (nI_1 w) (Nat.lt_of_lt_of_le (Nat.lt_succ_self _) (Nat.le_of_ble_eq_true rfl)) ?_
              show bw_go _ _ _ _ _ _ _ 72 [(4, .int _), (1, .long _), (3, .int _), (0, .ref _)] ([]) _ _
              refine go_goto (pc' := 47) dX7_digest_72 rfl ?_
              refine go_ls [(4, .int _), (3, .int _), (1, .long _), (0, .ref _)] (by show List.Nodup ([4, 3, 1, 0] : List Nat); decide) (by show List.Nodup ([4, 1, 3, 0] : List Nat); decide) (le_cons rfl (le_cons rfl (le_cons rfl (le_cons rfl (le_nil _))))) ?_
              exact K
          · -- behind the last
            show bw_go _ _ _ _ _ _ _ 47 [(4, .int _), (3, .int _), (1, .long _), (0, .ref _)] ([]) _ _
            refine go_iload dX7_digest_47 rfl ?_
            refine go_bipush (6) dX7_digest_49 rfl ?_
            refine go_icmp_ge (pc' := 75) dX7_digest_51 rfl (fun c_51 => ?_) (fun c_51 => ?_)
            · -- ge at 51: yes
              show bw_go _ _ _ _ _ _ _ 75 [(4, .int _), (3, .int _), (1, .long _), (0, .ref _)] ([]) _ _
              refine go_iconst (0) dX7_digest_75 rfl ?_
              refine go_istore dX7_digest_76 (Nat.lt_of_lt_of_le (Nat.lt_succ_self _) (Nat.le_of_ble_eq_true rfl)) ?_
              show bw_go _ _ _ _ _ _ _ 78 [(4, .int _), (3, .int _), (1, .long _), (0, .ref _)] ([]) _ _
              refine go_for (P := fun y => bw_go X 6 7 5 false (some .long) cX7_digest 78 [(4, .int (nI y)), (3, .int (nI i)), (1, .long (dg2 (nowC S) i (dg1 (nowC S) i (dgB (nowC S) (dgC S 12) i) 6) y)), (0, .ref (0))] [] g Q) (N := 6) (fun y hy K => ?_) ?_ (0) (Nat.zero_le _)
              · -- a turn
                show bw_go _ _ _ _ _ _ _ 78 [(4, .int _), (3, .int _), (1, .long _), (0, .ref _)] ([]) _ _
                refine go_iload dX7_digest_78 rfl ?_
                refine go_bipush (6) dX7_digest_80 rfl ?_
                refine go_icmp_ge (pc' := 109) dX7_digest_82 rfl (fun c_82 => ?_) (fun c_82 => ?_)
                · -- ge at 82: yes
                  exfalso; have t_0 := nI_toInt (n := y) (by omega); have l_0 : (6 : Int32).toInt = 6 := rfl; simp only [i_le, i_lt, i_eq, bi_eq] at c_82; omega
                · -- ge at 82: no
                  show bw_go _ _ _ _ _ _ _ 85 [(4, .int _), (3, .int _), (1, .long _), (0, .ref _)] ([]) _ _
                  refine go_ldc2_w dX7_digest_85 kc_7_325 ?_
                  refine go_lload_n dX7_digest_88 rfl ?_
                  refine go_lmul dX7_digest_89 ?_
                  refine go_aload_n dX7_digest_90 rfl ?_
                  refine go_gfr dX7_digest_91 fl_7_24 rfl hx.1.1.1 hx.1.1.2.1 hx.1.1.2.2.2.2.1 ?_
                  refine go_iload_n dX7_digest_94 rfl ?_
                  refine go_iload dX7_digest_95 rfl ?_
                  refine go_cv (as := [.int _, .int _]) 4 dX7_digest_97 mt_7_178 (Or.inr rfl) rfl rfl hc.1.1.1 hc.1.1.2.1 (Nat.le_of_ble_eq_true rfl) (Nat.le_of_ble_eq_true rfl) (Nat.le_of_ble_eq_true rfl) (Nat.le_of_ble_eq_true rfl) (Nat.le_of_ble_eq_true rfl) ?_
                  refine me_X1_answerOf hc hi hy ?_
                  show bw_go _ _ _ _ _ _ _ 100 [(4, .int _), (3, .int _), (1, .long _), (0, .ref _)] ((.int _) :: (.long _) :: []) _ _
                  refine go_i2l dX7_digest_100 ?_
                  refine go_ladd dX7_digest_101 ?_
                  refine go_lstore_n dX7_digest_102 (Nat.lt_of_lt_of_le (Nat.lt_succ_self _) (Nat.le_of_ble_eq_true rfl)) ?_
                  show bw_go _ _ _ _ _ _ _ 103 [(1, .long _), (4, .int _), (3, .int _), (0, .ref _)] ([]) _ _
                  refine go_iinc dX7_digest_103 rfl (nI_1 y) (Nat.lt_of_lt_of_le (Nat.lt_succ_self _) (Nat.le_of_ble_eq_true rfl)) ?_
                  show bw_go _ _ _ _ _ _ _ 106 [(4, .int _), (1, .long _), (3, .int _), (0, .ref _)] ([]) _ _
                  refine go_goto (pc' := 78) dX7_digest_106 rfl ?_
                  refine go_ls [(4, .int _), (3, .int _), (1, .long _), (0, .ref _)] (by show List.Nodup ([4, 3, 1, 0] : List Nat); decide) (by show List.Nodup ([4, 1, 3, 0] : List Nat); decide) (le_cons rfl (le_cons rfl (le_cons rfl (le_cons rfl (le_nil _))))) ?_
                  exact K
              · -- behind the last
                show bw_go _ _ _ _ _ _ _ 78 [(4, .int _), (3, .int _), (1, .long _), (0, .ref _)] ([]) _ _
                refine go_iload dX7_digest_78 rfl ?_
                refine go_bipush (6) dX7_digest_80 rfl ?_
                refine go_icmp_ge (pc' := 109) dX7_digest_82 rfl (fun c_82 => ?_) (fun c_82 => ?_)
                · -- ge at 82: yes
                  show bw_go _ _ _ _ _ _ _ 109 [(4, .int _), (3, .int _), (1, .long _), (0, .ref _)] ([]) _ _
                  refine go_iinc dX7_digest_109 rfl (nI_1 i) (Nat.lt_of_lt_of_le (Nat.lt_succ_self _) (Nat.le_of_ble_eq_true rfl)) ?_
                  show bw_go _ _ _ _ _ _ _ 112 [(3, .int _), (4, .int _), (1, .long _), (0, .ref _)] ([]) _ _
                  refine go_goto (pc' := 33) dX7_digest_112 rfl ?_
                  refine go_ls [(3, .int _), (1, .long _), (0, .ref _)] (by show List.Nodup ([3, 1, 0] : List Nat); decide) (by show List.Nodup ([3, 4, 1, 0] : List Nat); decide) (le_cons rfl (le_cons rfl (le_cons rfl (le_nil _)))) ?_
                  exact K
                · -- ge at 82: no
                  exfalso; have t_0 := nI_toInt (n := 6) (by omega); have l_0 : (6 : Int32).toInt = 6 := rfl; simp only [i_le, i_lt, i_eq, bi_eq] at c_82; omega
            · -- ge at 51: no
              exfalso; have t_0 := nI_toInt (n := 6) (by omega); have l_0 : (6 : Int32).toInt = 6 := rfl; simp only [i_le, i_lt, i_eq, bi_eq] at c_51; omega
      · -- behind the last
        show bw_go _ _ _ _ _ _ _ 33 [(3, .int _), (1, .long _), (0, .ref _)] ([]) _ _
        refine go_iload_n dX7_digest_33 rfl ?_
        refine go_aload_n dX7_digest_34 rfl ?_
        refine go_gfr dX7_digest_35 fl_7_24 rfl hx.1.1.1 hx.1.1.2.1 hx.1.1.2.2.2.2.1 ?_
        refine go_gfi dX7_digest_38 fl_7_141 rfl hc.1.1.1 hc.1.1.2.1 ?_
        rw [hc.2.1.1]
        refine go_icmp_ge (pc' := 115) dX7_digest_41 rfl (fun c_41 => ?_) (fun c_41 => ?_)
        · -- ge at 41: yes
          show bw_go _ _ _ _ _ _ _ 115 [(3, .int _), (1, .long _), (0, .ref _)] ([]) _ _
          refine go_iconst (0) dX7_digest_115 rfl ?_
          refine go_istore_n dX7_digest_116 (Nat.lt_of_lt_of_le (Nat.lt_succ_self _) (Nat.le_of_ble_eq_true rfl)) ?_
          show bw_go _ _ _ _ _ _ _ 117 [(3, .int _), (1, .long _), (0, .ref _)] ([]) _ _
          refine go_for (P := fun k => bw_go X 6 7 5 false (some .long) cX7_digest 117 [(3, .int (nI k)), (1, .long (dgK S (dgB (nowC S) (dgC S 12) (cN (nowC S))) k)), (0, .ref (0))] [] g Q) (N := 3) (fun k hk K => ?_) ?_ (0) (Nat.zero_le _)
          · -- a turn
            show bw_go _ _ _ _ _ _ _ 117 [(3, .int _), (1, .long _), (0, .ref _)] ([]) _ _
            refine go_iload_n dX7_digest_117 rfl ?_
            refine go_iconst (3) dX7_digest_118 rfl ?_
            refine go_icmp_ge (pc' := 157) dX7_digest_119 rfl (fun c_119 => ?_) (fun c_119 => ?_)
            · -- ge at 119: yes
              exfalso; have t_0 := nI_toInt (n := k) (by omega); have l_0 : (3 : Int32).toInt = 3 := rfl; simp only [i_le, i_lt, i_eq, bi_eq] at c_119; omega
            · -- ge at 119: no
              cases e9 : sK S k with
              | none =>
                refine go_aload_n dX7_digest_122 rfl ?_
                refine go_iload_n dX7_digest_123 rfl ?_
                refine go_cv (as := [.int _]) 0 dX7_digest_124 mt_7_171 (Or.inl rfl) rfl rfl hx.1.1.1 hx.1.1.2.1 (Nat.le_of_ble_eq_true rfl) (Nat.le_of_ble_eq_true rfl) (Nat.le_of_ble_eq_true rfl) (Nat.le_of_ble_eq_true rfl) (Nat.le_of_ble_eq_true rfl) ?_
                refine me_keptIn_N hx hk e9 ?_
                show bw_go _ _ _ _ _ _ _ 127 [(3, .int _), (1, .long _), (0, .ref _)] (.null :: []) _ _
                refine go_astoreN dX7_digest_127 (Nat.lt_of_lt_of_le (Nat.lt_succ_self _) (Nat.le_of_ble_eq_true rfl)) ?_
                show bw_go _ _ _ _ _ _ _ 129 [(4, .null), (3, .int _), (1, .long _), (0, .ref _)] ([]) _ _
                refine go_ldc2_w dX7_digest_129 kc_7_325 ?_
                refine go_lload_n dX7_digest_132 rfl ?_
                refine go_lmul dX7_digest_133 ?_
                refine go_aloadN dX7_digest_134 rfl ?_
                refine go_nnN dX7_digest_136 ?_
                show bw_go _ _ _ _ _ _ _ 139 [(4, .null), (3, .int _), (1, .long _), (0, .ref _)] ((.long _) :: []) _ _
                refine go_iconst (-1) dX7_digest_139 rfl ?_
                refine go_goto (pc' := 148) dX7_digest_140 rfl ?_
                show bw_go _ _ _ _ _ _ _ 148 [(4, .null), (3, .int _), (1, .long _), (0, .ref _)] ((.int _) :: (.long _) :: []) _ _
                refine go_i2l dX7_digest_148 ?_
                refine go_ladd dX7_digest_149 ?_
                refine go_lstore_n dX7_digest_150 (Nat.lt_of_lt_of_le (Nat.lt_succ_self _) (Nat.le_of_ble_eq_true rfl)) ?_
                show bw_go _ _ _ _ _ _ _ 151 [(1, .long _), (4, .null), (3, .int _), (0, .ref _)] ([]) _ _
                refine go_iinc dX7_digest_151 rfl (nI_1 k) (Nat.lt_of_lt_of_le (Nat.lt_succ_self _) (Nat.le_of_ble_eq_true rfl)) ?_
                show bw_go _ _ _ _ _ _ _ 154 [(3, .int _), (1, .long _), (4, .null), (0, .ref _)] ([]) _ _
                refine go_goto (pc' := 117) dX7_digest_154 rfl ?_
                refine go_ls [(3, .int _), (1, .long _), (0, .ref _)] (by show List.Nodup ([3, 1, 0] : List Nat); decide) (by show List.Nodup ([3, 1, 4, 0] : List Nat); decide) (le_cons rfl (le_cons rfl (le_cons rfl (le_nil _)))) ?_
                have e1 : dgK S (dgB (nowC S) (dgC S 12) (cN (nowC S))) (k + 1) = 31 * dgK S (dgB (nowC S) (dgC S 12) (cN (nowC S))) k + (kpv (sK S k)).toInt64 := rfl
                rw [e9] at e1
                rw [e1] at K
                exact K
              | some A =>
                refine go_aload_n dX7_digest_122 rfl ?_
                refine go_iload_n dX7_digest_123 rfl ?_
                refine go_cv (as := [.int _]) 0 dX7_digest_124 mt_7_171 (Or.inl rfl) rfl rfl hx.1.1.1 hx.1.1.2.1 (Nat.le_of_ble_eq_true rfl) (Nat.le_of_ble_eq_true rfl) (Nat.le_of_ble_eq_true rfl) (Nat.le_of_ble_eq_true rfl) (Nat.le_of_ble_eq_true rfl) ?_
                refine me_keptIn_R hx hk e9 (fun q r1 r2 r3 hq r5 r6 r7 => ?_)
                show bw_go _ _ _ _ _ _ _ 127 [(3, .int _), (1, .long _), (0, .ref _)] ((.ref _) :: []) _ _
                refine go_astore dX7_digest_127 (Nat.lt_of_lt_of_le (Nat.lt_succ_self _) (Nat.le_of_ble_eq_true rfl)) ?_
                show bw_go _ _ _ _ _ _ _ 129 [(4, .ref _), (3, .int _), (1, .long _), (0, .ref _)] ([]) _ _
                refine go_ldc2_w dX7_digest_129 kc_7_325 ?_
                refine go_lload_n dX7_digest_132 rfl ?_
                refine go_lmul dX7_digest_133 ?_
                refine go_aload dX7_digest_134 rfl ?_
                refine go_nnR (pc' := 143) dX7_digest_136 rfl ?_
                show bw_go _ _ _ _ _ _ _ 143 [(4, .ref _), (3, .int _), (1, .long _), (0, .ref _)] ((.long _) :: []) _ _
                refine go_aload dX7_digest_143 rfl ?_
                refine go_gfi dX7_digest_145 fl_7_165 rfl hq.1.1 hq.1.2.1 ?_
                rw [show bw_i g q 3 = nI (cT A.1) from r5.1.2.1.2.2.2.1]
                refine go_i2l dX7_digest_148 ?_
                refine go_ladd dX7_digest_149 ?_
                refine go_lstore_n dX7_digest_150 (Nat.lt_of_lt_of_le (Nat.lt_succ_self _) (Nat.le_of_ble_eq_true rfl)) ?_
                show bw_go _ _ _ _ _ _ _ 151 [(1, .long _), (4, .ref _), (3, .int _), (0, .ref _)] ([]) _ _
                refine go_iinc dX7_digest_151 rfl (nI_1 k) (Nat.lt_of_lt_of_le (Nat.lt_succ_self _) (Nat.le_of_ble_eq_true rfl)) ?_
                show bw_go _ _ _ _ _ _ _ 154 [(3, .int _), (1, .long _), (4, .ref _), (0, .ref _)] ([]) _ _
                refine go_goto (pc' := 117) dX7_digest_154 rfl ?_
                refine go_ls [(3, .int _), (1, .long _), (0, .ref _)] (by show List.Nodup ([3, 1, 0] : List Nat); decide) (by show List.Nodup ([3, 1, 4, 0] : List Nat); decide) (le_cons rfl (le_cons rfl (le_cons rfl (le_nil _)))) ?_
                have e1 : dgK S (dgB (nowC S) (dgC S 12) (cN (nowC S))) (k + 1) = 31 * dgK S (dgB (nowC S) (dgC S 12) (cN (nowC S))) k + (kpv (sK S k)).toInt64 := rfl
                rw [e9] at e1
                rw [e1] at K
                exact K
          · -- behind the last
            show bw_go _ _ _ _ _ _ _ 117 [(3, .int _), (1, .long _), (0, .ref _)] ([]) _ _
            refine go_iload_n dX7_digest_117 rfl ?_
            refine go_iconst (3) dX7_digest_118 rfl ?_
            refine go_icmp_ge (pc' := 157) dX7_digest_119 rfl (fun c_119 => ?_) (fun c_119 => ?_)
            · -- ge at 119: yes
              show bw_go _ _ _ _ _ _ _ 157 [(3, .int _), (1, .long _), (0, .ref _)] ([]) _ _
              refine go_aload_n dX7_digest_157 rfl ?_
              refine go_gfr dX7_digest_158 fl_7_18 rfl hx.1.1.1 hx.1.1.2.1 hx.1.1.2.2.2.1 ?_
              refine go_aload_n dX7_digest_161 rfl ?_
              refine go_gfr dX7_digest_162 fl_7_14 rfl hx.1.1.1 hx.1.1.2.1 hx.1.1.2.2.1 ?_
              refine go_lload_n dX7_digest_165 rfl ?_
              refine go_cv (as := [.long _]) 4 dX7_digest_166 mt_7_330 (Or.inr rfl) rfl rfl hx.2.1.1.1.1 hx.2.1.1.1.2.1 (Nat.le_of_ble_eq_true rfl) (Nat.le_of_ble_eq_true rfl) (Nat.le_of_ble_eq_true rfl) (Nat.le_of_ble_eq_true rfl) (Nat.le_of_ble_eq_true rfl) ?_
              refine me_X4_digestFrom hx.2.1.1 (fun r hr => (hx.2.1.2 r hr).1) (fun r hr => (hx.2.1.2 r hr).2.1) ?_
              rw [dgs_c (c := sRc S) 6 (fun r hr m e i hi => (hx.2.1.2 r hr).2.2 m e i hi)]
              show bw_go _ _ _ _ _ _ _ 169 [(3, .int _), (1, .long _), (0, .ref _)] ((.long _) :: (.ref _) :: []) _ _
              refine go_cv (as := [.long _]) 4 dX7_digest_169 mt_7_330 (Or.inr rfl) rfl rfl hx.2.2.1.1.1.1 hx.2.2.1.1.1.2.1 (Nat.le_of_ble_eq_true rfl) (Nat.le_of_ble_eq_true rfl) (Nat.le_of_ble_eq_true rfl) (Nat.le_of_ble_eq_true rfl) (Nat.le_of_ble_eq_true rfl) ?_
              refine me_X4_digestFrom hx.2.2.1.1 (fun r hr => (hx.2.2.1.2 r hr).1) (fun r hr => (hx.2.2.1.2 r hr).2.1) ?_
              rw [dgs_c (c := sTc S) 4 (fun r hr m e i hi => (hx.2.2.1.2 r hr).2.2 m e i hi)]
              show bw_go _ _ _ _ _ _ _ 172 [(3, .int _), (1, .long _), (0, .ref _)] ((.long _) :: []) _ _
              refine go_lret dX7_digest_172 rfl ?_
              exact hQ g hx hf
            · -- ge at 119: no
              exfalso; have t_0 := nI_toInt (n := 3) (by omega); have l_0 : (3 : Int32).toInt = 3 := rfl; simp only [i_le, i_lt, i_eq, bi_eq] at c_119; omega
        · -- ge at 41: no
          exfalso; have t_0 := nI_toInt (n := cN (nowC S)) (by omega); simp only [i_le, i_lt, i_eq, bi_eq] at c_41; omega
    · -- ge at 9: no
      exfalso; have t_0 := nI_toInt (n := 12) (by omega); have l_0 : (12 : Int32).toInt = 12 := rfl; simp only [i_le, i_lt, i_eq, bi_eq] at c_9; omega
