/-! the reference: its state and where it lies -/
def MS (h : bw_H) : Prop := (76 ≤ bw_n h ∧ bw_k h 60 = .inl 8) ∧ (bw_r h 60 0 = some 61 ∧ bw_r h 60 1 = some 62 ∧ bw_r h 60 2 = some 63 ∧ bw_r h 60 3 = some 64 ∧ bw_r h 60 4 = some 65 ∧ bw_r h 60 5 = some 66 ∧ bw_r h 60 6 = some 67 ∧ bw_r h 60 7 = some 68 ∧ bw_r h 60 12 = some 69 ∧ bw_r h 60 13 = some 70 ∧ bw_r h 60 15 = some 71 ∧ bw_r h 60 16 = some 72 ∧ bw_r h 60 17 = some 73 ∧ bw_r h 60 18 = some 74 ∧ bw_r h 60 19 = some 75) ∧ bw_k h 61 = .inr (.int, 80) ∧ bw_k h 62 = .inr (.int, 240) ∧ bw_k h 63 = .inr (.boolean, 3) ∧ bw_k h 64 = .inr (.int, 240) ∧ bw_k h 65 = .inr (.int, 6) ∧ bw_k h 66 = .inr (.int, 240) ∧ bw_k h 67 = .inr (.int, 4) ∧ bw_k h 68 = .inr (.int, 6) ∧ bw_k h 69 = .inr (.int, 40) ∧ bw_k h 70 = .inr (.int, 80) ∧ bw_k h 71 = .inr (.int, 80) ∧ bw_k h 72 = .inr (.int, 4) ∧ bw_k h 73 = .inr (.int, 3) ∧ bw_k h 74 = .inr (.int, 4) ∧ bw_k h 75 = .inr (.int, 4)
theorem ms_lt {h : bw_H} (hm : MS h) {q : Nat} (hq : q < 76) : q < bw_n h := Nat.lt_of_lt_of_le hq hm.1.1
def mcv (F : Nat → Int32) (C : CT) : Prop := F 0 = nI (cN C) ∧ F 1 = nI (cD C) ∧ F 79 = nI (cW C) ∧ ∀ i, i < cN C → F (2 + i) = nI (cK C i) ∧ F (67 + i) = nI (cE C i) ∧ F (73 + i) = nI (cR C i) ∧ F (20 + i) = nI (cV C i)
def dcd (a b : Nat) : Nat := if a = 4 then 0 else 10 * (a + 1) + b
def mcd (F : Nat → Int32) (A : AC) : Prop := F 26 = nI (cT A.1) ∧ (∀ i, i < cN A.1 → F (8 + i) = nI (cE A.1 i) ∧ F (14 + i) = nI (cR A.1 i)) ∧ ∀ k, k < cT A.1 → F (27 + k) = nI (dcd (A.2.1 k) (A.2.2 k))
def mcr (F : Nat → Int32) (A : AC) : Prop := mcv F (hsT A (cT A.1)) ∧ mcd F A
def mKep (h : bw_H) (kp : Nat → Option AC) : Prop := ∀ k, k < 3 → (kp k = none → bw_i h 63 k = 0) ∧ ∀ A, kp k = some A → bw_i h 63 k = 1 ∧ mcr (fun j => bw_i h 62 (80 * k + j)) A ∧ ac_k A ∧ 0 < cN A.1
def mRow (h : bw_H) (p q num wid : Nat) (s : Nat → Option Nat) (c : Nat → Nat → Int32) : Prop := ∀ r, r < num → bw_i h q r = oz (s r) ∧ sok (s r) wid ∧ ∀ m, s r = some m → ∀ i, i < m → bw_i h p (wid * r + i) = c r i
def mFnd (h : bw_H) (F : Nat → Int32) : Prop := ∀ f, f < 6 → bw_i h 68 f = F f
def mFlg (h : bw_H) (S : ST) : Prop := bw_i h 60 8 = sL S ∧ bw_i h 60 9 = sQ S ∧ bw_l h 60 10 = sU S ∧ bw_l h 60 11 = sO S
def mWf (A : AC) : Prop := ac_k A ∧ (cN A.1 = 0 → cD A.1 = 0)
def MR (h : bw_H) (S : ST) : Prop := MS h ∧ mcr (bw_i h 61) (sA S) ∧ mKep h (sK S) ∧ mRow h 64 65 6 40 (sR S) (sRc S) ∧ mRow h 66 67 4 60 (sT S) (sTc S) ∧ mFnd h (sF S) ∧ mFlg h S ∧ mWf (sA S)
def frX (h g : bw_H) : Prop := (bw_n g = bw_n h ∧ bw_k g = bw_k h ∧ bw_r g = bw_r h) ∧ ∀ q, ¬ (60 ≤ q ∧ q < 76) → bw_i g q = bw_i h q ∧ bw_l g q = bw_l h q
theorem frX_r (h : bw_H) : frX h h := ⟨⟨rfl, rfl, rfl⟩, fun _ _ => ⟨rfl, rfl⟩⟩
theorem frX_t {h g f : bw_H} (a : frX h g) (b : frX g f) : frX h f := ⟨⟨b.1.1.trans a.1.1, b.1.2.1.trans a.1.2.1, b.1.2.2.trans a.1.2.2⟩, fun q hq => ⟨(b.2 q hq).1.trans (a.2 q hq).1, (b.2 q hq).2.trans (a.2 q hq).2⟩⟩
theorem frX_si {h : bw_H} {p k : Nat} {v : Int32} (hp : 60 ≤ p ∧ p < 76) : frX h (bw_si h p k v) := ⟨⟨rfl, rfl, rfl⟩, fun q hq => ⟨i_si_o (fun z => hq (by rw [z]; exact hp)), rfl⟩⟩
theorem frX_sa {h : bw_H} {p : Nat} {F : Nat → Int32} (hp : 60 ≤ p ∧ p < 76) : frX h (bw_sa h p F) := ⟨⟨rfl, rfl, rfl⟩, fun q hq => ⟨i_sa_o (fun z => hq (by rw [z]; exact hp)), rfl⟩⟩
theorem frX_sl {h : bw_H} {p k : Nat} {v : Int64} (hp : 60 ≤ p ∧ p < 76) : frX h (bw_sl h p k v) := ⟨⟨rfl, rfl, rfl⟩, fun q hq => ⟨rfl, l_sl_o (fun z => hq (by rw [z]; exact hp))⟩⟩
theorem ms_f {h g : bw_H} (hm : MS h) (hf : frX h g) : MS g := by
  unfold MS
  rw [hf.1.1, hf.1.2.1, hf.1.2.2]
  exact hm
theorem sm_frX {h g : bw_H} (hf : frX h g) {q : Nat} (hq : ¬ (60 ≤ q ∧ q < 76)) : sm4 h g q := ⟨congrFun hf.1.2.1 q, (hf.2 q hq).1, (hf.2 q hq).2, congrFun hf.1.2.2 q⟩
theorem xr_frX {h g : bw_H} {S : ST} (hx : XR h S) (hf : frX h g) : XR g S := xr_tr hx (by rw [hf.1.1]; exact Nat.le_refl _) (fun q h1 h2 h3 => sm_frX hf (by omega)) (congrFun hf.1.2.1 37) (xkp_tr hx.2.2.2.2.1 (by rw [hf.1.1]; exact Nat.le_refl _) (fun q h1 h2 => sm_frX hf (by omega)) (congrFun hf.1.2.2 37))
theorem mr_frM {h g : bw_H} {S : ST} (hm : MR h S) (hf : frM h g) : MR g S := by
  have e : ∀ q, 60 ≤ q → q < 76 → sm4 h g q := fun q h1 h2 => hf.2 q h1 h2
  obtain ⟨m1, m2, m3, m4, m5, m6, m7, m8⟩ := hm
  refine ⟨?_, ?_, ?_, ?_, ?_, ?_, ?_, m8⟩
  · unfold MS
    rw [(e 60 (by decide) (by decide)).1, (e 60 (by decide) (by decide)).2.2.2, (e 61 (by decide) (by decide)).1, (e 62 (by decide) (by decide)).1, (e 63 (by decide) (by decide)).1, (e 64 (by decide) (by decide)).1, (e 65 (by decide) (by decide)).1, (e 66 (by decide) (by decide)).1, (e 67 (by decide) (by decide)).1, (e 68 (by decide) (by decide)).1, (e 69 (by decide) (by decide)).1, (e 70 (by decide) (by decide)).1, (e 71 (by decide) (by decide)).1, (e 72 (by decide) (by decide)).1, (e 73 (by decide) (by decide)).1, (e 74 (by decide) (by decide)).1, (e 75 (by decide) (by decide)).1]
    exact ⟨⟨Nat.le_trans m1.1.1 hf.1.1, m1.1.2⟩, m1.2⟩
  · rw [(e 61 (by decide) (by decide)).2.1]; exact m2
  · unfold mKep; rw [(e 62 (by decide) (by decide)).2.1, (e 63 (by decide) (by decide)).2.1]; exact m3
  · unfold mRow; rw [(e 64 (by decide) (by decide)).2.1, (e 65 (by decide) (by decide)).2.1]; exact m4
  · unfold mRow; rw [(e 66 (by decide) (by decide)).2.1, (e 67 (by decide) (by decide)).2.1]; exact m5
  · unfold mFnd; rw [(e 68 (by decide) (by decide)).2.1]; exact m6
  · unfold mFlg; rw [(e 60 (by decide) (by decide)).2.1, (e 60 (by decide) (by decide)).2.2.1]; exact m7
/-- scratch changes nothing -/
theorem mr_sc {h g : bw_H} {S : ST} (hm : MR h S) (hf : frX h g) (e : ∀ q, 61 ≤ q → q < 69 → bw_i g q = bw_i h q) (e0 : mFlg g S) : MR g S := by
  obtain ⟨m1, m2, m3, m4, m5, m6, m7, m8⟩ := hm
  refine ⟨ms_f m1 hf, ?_, ?_, ?_, ?_, ?_, e0, m8⟩
  · rw [e 61 (by decide) (by decide)]; exact m2
  · unfold mKep; rw [e 62 (by decide) (by decide), e 63 (by decide) (by decide)]; exact m3
  · unfold mRow; rw [e 64 (by decide) (by decide), e 65 (by decide) (by decide)]; exact m4
  · unfold mRow; rw [e 66 (by decide) (by decide), e 67 (by decide) (by decide)]; exact m5
  · unfold mFnd; rw [e 68 (by decide) (by decide)]; exact m6
theorem mr_rows {h g : bw_H} {S : ST} {s : Nat → Option Nat} {c : Nat → Nat → Int32} (hm : MR h S) (hf : frX h g) (e : ∀ q, 61 ≤ q → q < 69 → q ≠ 64 → q ≠ 65 → bw_i g q = bw_i h q) (e0 : mFlg g S) (hn : mRow g 64 65 6 40 s c) : MR g (wR S s c) := by
  obtain ⟨m1, m2, m3, m4, m5, m6, m7, m8⟩ := hm
  refine ⟨ms_f m1 hf, ?_, ?_, hn, ?_, ?_, e0, m8⟩
  · rw [e 61 (by decide) (by decide) (by decide) (by decide)]; exact m2
  · unfold mKep; rw [e 62 (by decide) (by decide) (by decide) (by decide), e 63 (by decide) (by decide) (by decide) (by decide)]; exact m3
  · unfold mRow; rw [e 66 (by decide) (by decide) (by decide) (by decide), e 67 (by decide) (by decide) (by decide) (by decide)]; exact m5
  · unfold mFnd; rw [e 68 (by decide) (by decide) (by decide) (by decide)]; exact m6
theorem mr_txts {h g : bw_H} {S : ST} {s : Nat → Option Nat} {c : Nat → Nat → Int32} (hm : MR h S) (hf : frX h g) (e : ∀ q, 61 ≤ q → q < 69 → q ≠ 66 → q ≠ 67 → bw_i g q = bw_i h q) (e0 : mFlg g S) (hn : mRow g 66 67 4 60 s c) : MR g (wT S s c) := by
  obtain ⟨m1, m2, m3, m4, m5, m6, m7, m8⟩ := hm
  refine ⟨ms_f m1 hf, ?_, ?_, ?_, hn, ?_, e0, m8⟩
  · rw [e 61 (by decide) (by decide) (by decide) (by decide)]; exact m2
  · unfold mKep; rw [e 62 (by decide) (by decide) (by decide) (by decide), e 63 (by decide) (by decide) (by decide) (by decide)]; exact m3
  · unfold mRow; rw [e 64 (by decide) (by decide) (by decide) (by decide), e 65 (by decide) (by decide) (by decide) (by decide)]; exact m4
  · unfold mFnd; rw [e 68 (by decide) (by decide) (by decide) (by decide)]; exact m6
theorem mr_now {h g : bw_H} {S : ST} {A : AC} (hm : MR h S) (hf : frX h g) (e : ∀ q, 62 ≤ q → q < 69 → bw_i g q = bw_i h q) (e0 : mFlg g S) (hn : mcr (bw_i g 61) A) (hw : mWf A) : MR g (wA S A) := by
  obtain ⟨m1, m2, m3, m4, m5, m6, m7, m8⟩ := hm
  refine ⟨ms_f m1 hf, hn, ?_, ?_, ?_, ?_, e0, hw⟩
  · unfold mKep; rw [e 62 (by decide) (by decide), e 63 (by decide) (by decide)]; exact m3
  · unfold mRow; rw [e 64 (by decide) (by decide), e 65 (by decide) (by decide)]; exact m4
  · unfold mRow; rw [e 66 (by decide) (by decide), e 67 (by decide) (by decide)]; exact m5
  · unfold mFnd; rw [e 68 (by decide) (by decide)]; exact m6
theorem mr_kep {h g : bw_H} {S : ST} {kp : Nat → Option AC} (hm : MR h S) (hf : frX h g) (e : ∀ q, 61 ≤ q → q < 69 → q ≠ 62 → q ≠ 63 → bw_i g q = bw_i h q) (e0 : mFlg g S) (hn : mKep g kp) : MR g (wK S kp) := by
  obtain ⟨m1, m2, m3, m4, m5, m6, m7, m8⟩ := hm
  refine ⟨ms_f m1 hf, ?_, hn, ?_, ?_, ?_, e0, m8⟩
  · rw [e 61 (by decide) (by decide) (by decide) (by decide)]; exact m2
  · unfold mRow; rw [e 64 (by decide) (by decide) (by decide) (by decide), e 65 (by decide) (by decide) (by decide) (by decide)]; exact m4
  · unfold mRow; rw [e 66 (by decide) (by decide) (by decide) (by decide), e 67 (by decide) (by decide) (by decide) (by decide)]; exact m5
  · unfold mFnd; rw [e 68 (by decide) (by decide) (by decide) (by decide)]; exact m6
theorem mr_q {h : bw_H} {S : ST} (hm : MR h S) (v : Int32) : MR (bw_si h 60 9 v) (wQ S v) := by
  obtain ⟨m1, m2, m3, m4, m5, m6, m7, m8⟩ := hm
  refine ⟨m1, ?_, ?_, ?_, ?_, ?_, ⟨?_, ?_, m7.2.2.1, m7.2.2.2⟩, m8⟩
  · rw [i_si_o (by decide)]; exact m2
  · unfold mKep; rw [i_si_o (by decide), i_si_o (by decide)]; exact m3
  · unfold mRow; rw [i_si_o (by decide), i_si_o (by decide)]; exact m4
  · unfold mRow; rw [i_si_o (by decide), i_si_o (by decide)]; exact m5
  · unfold mFnd; rw [i_si_o (by decide)]; exact m6
  · rw [i_si_s, bw_up_o (by decide)]; exact m7.1
  · rw [i_si_s, bw_up_s]; rfl
theorem mr_u {h : bw_H} {S : ST} (hm : MR h S) (u o : Int64) : MR (bw_sl (bw_sl h 60 10 u) 60 11 o) (wU S u o) := by
  obtain ⟨m1, m2, m3, m4, m5, m6, m7, m8⟩ := hm
  refine ⟨m1, m2, m3, m4, m5, m6, ⟨m7.1, m7.2.1, ?_, ?_⟩, m8⟩
  · rw [l_sl_s, bw_up_o (by decide), l_sl_s, bw_up_s]; rfl
  · rw [l_sl_s, bw_up_s]; rfl
theorem mr_fnd {h : bw_H} {S : ST} (hm : MR h S) {f : Nat} : MR (bw_si (bw_si h 60 8 (nI f)) 68 f (bw_i h 68 f + 1)) (fnd S f) := by
  obtain ⟨m1, m2, m3, m4, m5, m6, m7, m8⟩ := hm
  refine ⟨m1, ?_, ?_, ?_, ?_, ?_, ⟨?_, ?_, m7.2.2.1, m7.2.2.2⟩, m8⟩
  · rw [i_si_o (by decide), i_si_o (by decide)]; exact m2
  · unfold mKep; rw [i_si_o (by decide), i_si_o (by decide), i_si_o (by decide), i_si_o (by decide)]; exact m3
  · unfold mRow; rw [i_si_o (by decide), i_si_o (by decide), i_si_o (by decide), i_si_o (by decide)]; exact m4
  · unfold mRow; rw [i_si_o (by decide), i_si_o (by decide), i_si_o (by decide), i_si_o (by decide)]; exact m5
  · intro x hx
    rw [i_si_s, i_si_o (by decide)]
    show _ = bw_up (sF S) f (sF S f + 1) x
    by_cases e : x = f
    · subst e; rw [bw_up_s, bw_up_s, m6 x hx]
    · rw [bw_up_o e, bw_up_o e]; exact m6 x hx
  · rw [i_si_o (by decide), i_si_s, bw_up_s]; rfl
  · rw [i_si_o (by decide), i_si_s, bw_up_o (by decide)]; exact m7.2.1
abbrev PM (h : bw_H) (Q : Option Value → bw_H → Prop) (y : Int32 × ST) : Prop := ∀ g, MR g y.2 → frX h g → Q (some (.int y.1)) g
theorem q_m {y : Int32 × ST} {Q : Option Value → bw_H → Prop} {h : bw_H} {res : Int32} {S' : ST} (hQ : PM h Q y) (e : y = (res, S')) {g : bw_H} (hg : MR g S') (hf : frX h g) : Q (some (.int res)) g := by
  subst e; exact hQ g hg hf
theorem l_le {a b : Int64} : a ≤ b ↔ a.toInt ≤ b.toInt := Int64.le_iff_toInt_le
theorem l_lt {a b : Int64} : a < b ↔ a.toInt < b.toInt := Int64.lt_iff_toInt_lt
theorem l_i {a : Int32} : a.toInt64.toInt = a.toInt := Int32.toInt_toInt64 a
def inr (a b c : Int64) : Bool := decide (b.toInt ≤ a.toInt ∧ a.toInt ≤ c.toInt)
set_option maxRecDepth 100000 in
set_option maxHeartbeats 4000000 in
theorem me_X8_in {X : Nat × (Nat → Int32)} {Q : Option Value → bw_H → Prop} {h : bw_H} {a b c : Int64} (hQ : Q (some (.int (bi (inr a b c)))) h) : bw_me X 0 bm_X8_in false [.long a, .long b, .long c] h Q := by
  show bw_go _ 0 8 6 false (some .boolean) cX8_in 0 [(0, .long _), (2, .long _), (4, .long _)] [] _ _
  refine go_lload_n dX8_in_0 rfl ?_
  refine go_lload_n dX8_in_1 rfl ?_
  refine go_lcmp dX8_in_2 ?_
  refine go_if_lt (pc' := 17) dX8_in_3 rfl (fun c_3 => ?_) (fun c_3 => ?_)
  · -- lt at 3: yes
    show bw_go _ _ _ _ _ _ _ 17 [(0, .long _), (2, .long _), (4, .long _)] ([]) _ _
    refine go_iconst (0) dX8_in_17 rfl ?_
    refine go_iret dX8_in_18 rfl rfl ?_
    rw [lg_cmp_lt, l_lt] at c_3
    exact bi_0 (decide_eq_false (fun z => by omega)) hQ
  · -- lt at 3: no
    show bw_go _ _ _ _ _ _ _ 6 [(0, .long _), (2, .long _), (4, .long _)] ([]) _ _
    refine go_lload_n dX8_in_6 rfl ?_
    refine go_lload dX8_in_7 rfl ?_
    refine go_lcmp dX8_in_9 ?_
    refine go_if_gt (pc' := 17) dX8_in_10 rfl (fun c_10 => ?_) (fun c_10 => ?_)
    · -- gt at 10: yes
      show bw_go _ _ _ _ _ _ _ 17 [(0, .long _), (2, .long _), (4, .long _)] ([]) _ _
      refine go_iconst (0) dX8_in_17 rfl ?_
      refine go_iret dX8_in_18 rfl rfl ?_
      rw [lg_cmp_gt, l_lt] at c_10
      exact bi_0 (decide_eq_false (fun z => by omega)) hQ
    · -- gt at 10: no
      show bw_go _ _ _ _ _ _ _ 13 [(0, .long _), (2, .long _), (4, .long _)] ([]) _ _
      refine go_iconst (1) dX8_in_13 rfl ?_
      refine go_goto (pc' := 18) dX8_in_14 rfl ?_
      show bw_go _ _ _ _ _ _ _ 18 [(0, .long _), (2, .long _), (4, .long _)] ((.int _) :: []) _ _
      refine go_iret dX8_in_18 rfl rfl ?_
      rw [lg_cmp_lt, l_lt] at c_3
      rw [lg_cmp_gt, l_lt] at c_10
      exact bi_1 (decide_eq_true ⟨by omega, by omega⟩) hQ
set_option maxRecDepth 100000 in
set_option maxHeartbeats 4000000 in
theorem me_X8_finds {X : Nat × (Nat → Int32)} {Q : Option Value → bw_H → Prop} {h : bw_H} {S : ST} {f : Nat} (hm : MR h S) (hf : f < 6) (hQ : ∀ g, MR g (fnd S f) → frX h g → Q (some (.int (-3))) g) : bw_me X 0 bm_X8_finds false [.ref 60, .int (nI f)] h Q := by
  show bw_go _ 0 8 2 false (some .int) cX8_finds 0 [(0, .ref _), (1, .int _)] [] _ _
  refine go_aload_n dX8_finds_0 rfl ?_
  refine go_iload_n dX8_finds_1 rfl ?_
  refine go_pfi dX8_finds_2 fl_8_60 rfl (ms_lt hm.1 (by decide)) hm.1.1.2 (Nat.le_of_ble_eq_true rfl) (Or.inl rfl) ?_
  show bw_go _ _ _ _ _ _ _ 5 [(0, .ref _), (1, .int _)] ([]) _ _
  refine go_aload_n dX8_finds_5 rfl ?_
  refine go_gfr dX8_finds_6 fl_8_32 rfl (ms_lt hm.1 (by decide)) hm.1.1.2 hm.1.2.1.2.2.2.2.2.2.2.1 ?_
  refine go_iload_n dX8_finds_9 rfl ?_
  refine go_dup2 dX8_finds_10 ?_
  refine go_ia dX8_finds_11 hm.1.2.2.2.2.2.2.2.2.2.1 (ms_lt hm.1 (by decide)) (n_in (N := 6) hf (by decide)) ?_
  rw [i_si_o (by decide), nI_clamp (by omega)]
  refine go_iconst (1) dX8_finds_12 rfl ?_
  refine go_iadd dX8_finds_13 ?_
  refine go_ist dX8_finds_14 hm.1.2.2.2.2.2.2.2.2.2.1 (ms_lt hm.1 (by decide)) (n_in (N := 6) hf (by decide)) ?_
  show bw_go _ _ _ _ _ _ _ 15 [(0, .ref _), (1, .int _)] ([]) _ _
  rw [nI_clamp (by omega)]
  refine go_bipush (-3) dX8_finds_15 rfl ?_
  refine go_iret dX8_finds_17 rfl rfl ?_
  exact hQ _ (mr_fnd hm) (frX_t (frX_si (by decide)) (frX_si (by decide)))
set_option maxRecDepth 100000 in
set_option maxHeartbeats 4000000 in
theorem me_X8_asks {X : Nat × (Nat → Int32)} {Q : Option Value → bw_H → Prop} {h : bw_H} {S : ST} {v : Int32} (hm : MR h S) (hQ : ∀ g, MR g (wQ S v) → frX h g → Q (some (.int 1)) g) : bw_me X 0 bm_X8_asks false [.ref 60, .int v] h Q := by
  show bw_go _ 0 8 2 false (some .int) cX8_asks 0 [(0, .ref _), (1, .int _)] [] _ _
  refine go_aload_n dX8_asks_0 rfl ?_
  refine go_iload_n dX8_asks_1 rfl ?_
  refine go_pfi dX8_asks_2 fl_8_64 rfl (ms_lt hm.1 (by decide)) hm.1.1.2 (Nat.le_of_ble_eq_true rfl) (Or.inl rfl) ?_
  show bw_go _ _ _ _ _ _ _ 5 [(0, .ref _), (1, .int _)] ([]) _ _
  refine go_iconst (1) dX8_asks_5 rfl ?_
  refine go_iret dX8_asks_6 rfl rfl ?_
  exact hQ _ (mr_q hm v) (frX_si (by decide))
theorem X8_isRow_e (r : Int32) : inr r.toInt64 0 5 = isn r 6 := by
  unfold inr isn
  rw [l_i, show (0 : Int64).toInt = 0 from rfl, show (5 : Int64).toInt = 5 from rfl]
  exact decide_eq_decide.mpr (by omega)
set_option maxRecDepth 100000 in
set_option maxHeartbeats 4000000 in
theorem me_X8_isRow {X : Nat × (Nat → Int32)} {Q : Option Value → bw_H → Prop} {h : bw_H} {r : Int32} (hQ : Q (some (.int (bi (isn r 6)))) h) : bw_me X 1 bm_X8_isRow false [.int r] h Q := by
  show bw_go _ 1 8 1 false (some .boolean) cX8_isRow 0 [(0, .int _)] [] _ _
  refine go_iload_n dX8_isRow_0 rfl ?_
  refine go_i2l dX8_isRow_1 ?_
  refine go_lconst (0) dX8_isRow_2 rfl ?_
  refine go_ldc2_w dX8_isRow_3 kc_8_67 ?_
  refine go_cs (as := [.long _, .long _, .long _]) 0 dX8_isRow_6 rfl rfl mt_8_69 (Nat.le_of_ble_eq_true rfl) rfl rfl (Nat.le_of_ble_eq_true rfl) (Nat.le_of_ble_eq_true rfl) (Nat.le_of_ble_eq_true rfl) (Nat.le_of_ble_eq_true rfl) ?_
  refine me_X8_in ?_
  rw [X8_isRow_e]
  show bw_go _ _ _ _ _ _ _ 9 [(0, .int _)] ((.int _) :: []) _ _
  refine go_iret dX8_isRow_9 rfl (bi_nar _) ?_
  exact hQ
theorem X8_isText_e (r : Int32) : inr r.toInt64 0 3 = isn r 4 := by
  unfold inr isn
  rw [l_i, show (0 : Int64).toInt = 0 from rfl, show (3 : Int64).toInt = 3 from rfl]
  exact decide_eq_decide.mpr (by omega)
set_option maxRecDepth 100000 in
set_option maxHeartbeats 4000000 in
theorem me_X8_isText {X : Nat × (Nat → Int32)} {Q : Option Value → bw_H → Prop} {h : bw_H} {r : Int32} (hQ : Q (some (.int (bi (isn r 4)))) h) : bw_me X 1 bm_X8_isText false [.int r] h Q := by
  show bw_go _ 1 8 1 false (some .boolean) cX8_isText 0 [(0, .int _)] [] _ _
  refine go_iload_n dX8_isText_0 rfl ?_
  refine go_i2l dX8_isText_1 ?_
  refine go_lconst (0) dX8_isText_2 rfl ?_
  refine go_ldc2_w dX8_isText_3 kc_8_73 ?_
  refine go_cs (as := [.long _, .long _, .long _]) 0 dX8_isText_6 rfl rfl mt_8_69 (Nat.le_of_ble_eq_true rfl) rfl rfl (Nat.le_of_ble_eq_true rfl) (Nat.le_of_ble_eq_true rfl) (Nat.le_of_ble_eq_true rfl) (Nat.le_of_ble_eq_true rfl) ?_
  refine me_X8_in ?_
  rw [X8_isText_e]
  show bw_go _ _ _ _ _ _ _ 9 [(0, .int _)] ((.int _) :: []) _ _
  refine go_iret dX8_isText_9 rfl (bi_nar _) ?_
  exact hQ
theorem X8_isThing_e (r : Int32) : inr r.toInt64 0 5 = isn r 6 := by
  unfold inr isn
  rw [l_i, show (0 : Int64).toInt = 0 from rfl, show (5 : Int64).toInt = 5 from rfl]
  exact decide_eq_decide.mpr (by omega)
set_option maxRecDepth 100000 in
set_option maxHeartbeats 4000000 in
theorem me_X8_isThing {X : Nat × (Nat → Int32)} {Q : Option Value → bw_H → Prop} {h : bw_H} {r : Int32} (hQ : Q (some (.int (bi (isn r 6)))) h) : bw_me X 1 bm_X8_isThing false [.int r] h Q := by
  show bw_go _ 1 8 1 false (some .boolean) cX8_isThing 0 [(0, .int _)] [] _ _
  refine go_iload_n dX8_isThing_0 rfl ?_
  refine go_i2l dX8_isThing_1 ?_
  refine go_lconst (0) dX8_isThing_2 rfl ?_
  refine go_ldc2_w dX8_isThing_3 kc_8_67 ?_
  refine go_cs (as := [.long _, .long _, .long _]) 0 dX8_isThing_6 rfl rfl mt_8_69 (Nat.le_of_ble_eq_true rfl) rfl rfl (Nat.le_of_ble_eq_true rfl) (Nat.le_of_ble_eq_true rfl) (Nat.le_of_ble_eq_true rfl) (Nat.le_of_ble_eq_true rfl) ?_
  refine me_X8_in ?_
  rw [X8_isThing_e]
  show bw_go _ _ _ _ _ _ _ 9 [(0, .int _)] ((.int _) :: []) _ _
  refine go_iret dX8_isThing_9 rfl (bi_nar _) ?_
  exact hQ
theorem X8_isShelf_e (r : Int32) : inr r.toInt64 0 2 = isn r 3 := by
  unfold inr isn
  rw [l_i, show (0 : Int64).toInt = 0 from rfl, show (2 : Int64).toInt = 2 from rfl]
  exact decide_eq_decide.mpr (by omega)
set_option maxRecDepth 100000 in
set_option maxHeartbeats 4000000 in
theorem me_X8_isShelf {X : Nat × (Nat → Int32)} {Q : Option Value → bw_H → Prop} {h : bw_H} {r : Int32} (hQ : Q (some (.int (bi (isn r 3)))) h) : bw_me X 1 bm_X8_isShelf false [.int r] h Q := by
  show bw_go _ 1 8 1 false (some .boolean) cX8_isShelf 0 [(0, .int _)] [] _ _
  refine go_iload_n dX8_isShelf_0 rfl ?_
  refine go_i2l dX8_isShelf_1 ?_
  refine go_lconst (0) dX8_isShelf_2 rfl ?_
  refine go_ldc2_w dX8_isShelf_3 kc_8_186 ?_
  refine go_cs (as := [.long _, .long _, .long _]) 0 dX8_isShelf_6 rfl rfl mt_8_69 (Nat.le_of_ble_eq_true rfl) rfl rfl (Nat.le_of_ble_eq_true rfl) (Nat.le_of_ble_eq_true rfl) (Nat.le_of_ble_eq_true rfl) (Nat.le_of_ble_eq_true rfl) ?_
  refine me_X8_in ?_
  rw [X8_isShelf_e]
  show bw_go _ _ _ _ _ _ _ 9 [(0, .int _)] ((.int _) :: []) _ _
  refine go_iret dX8_isShelf_9 rfl (bi_nar _) ?_
  exact hQ
