/-! presses that shake; the calls for them -/
theorem fs_some {α : Type} {g : Nat → Option α} {x : α} : ∀ (m i : Nat), fs1 g i m = some x → ∃ j, i ≤ j ∧ j < i + m ∧ g j = some x ∧ ∀ k, i ≤ k → k < j → g k = none := by
  intro m
  induction m with
  | zero => intro i h; cases h
  | succ m ih =>
    intro i h
    cases e : g i with
    | some y =>
      rw [fs_yes e] at h
      cases h
      exact ⟨i, Nat.le_refl _, by omega, e, fun k h1 h2 => by omega⟩
    | none =>
      rw [fs_no e] at h
      obtain ⟨j, h1, h2, h3, h4⟩ := ih (i + 1) h
      refine ⟨j, by omega, by omega, h3, fun k k1 k2 => ?_⟩
      by_cases ek : k = i
      · subst ek; exact e
      · exact h4 k (by omega) k2
theorem fs_none {α : Type} {g : Nat → Option α} : ∀ (m i : Nat), fs1 g i m = none → ∀ j, i ≤ j → j < i + m → g j = none := by
  intro m
  induction m with
  | zero => intro i h j h1 h2; omega
  | succ m ih =>
    intro i h j h1 h2
    cases e : g i with
    | some y => rw [fs_yes e] at h; cases h
    | none =>
      rw [fs_no e] at h
      by_cases ej : j = i
      · subst ej; exact e
      · exact ih (i + 1) h j (by omega) (by omega)
def prU (A : TT) (i : Nat) : TT := ttU A i (A.2.2.1 i + 1)
def vsq : List Nat → TT → Nat → Prop
  | [], _, _ => True
  | i :: l, A, f => f ≤ i ∧ i < A.1 ∧ (A.2.1.testBit i && decide (A.2.2.1 i < 9)) = true ∧ vsq l (prU A i) i
def pfin : List Nat → TT → TT
  | [], A => A
  | i :: l, A => pfin l (prU A i)
theorem pon_ok : ∀ (n : Nat) (A : TT) (f : Nat) (l : List Nat), pon n A f = some l → vsq l A f ∧ mor (pfin l A).1 (pfin l A).2.2.1 (pfin l A).2.2.2 ≤ 0 := by
  intro n
  induction n with
  | zero =>
    intro A f l h
    have h : (if mor A.1 A.2.2.1 A.2.2.2 ≤ 0 then some [] else none) = some l := h
    split at h
    · rename_i h1
      cases h
      exact ⟨trivial, h1⟩
    · cases h
  | succ n ih =>
    intro A f l h
    rw [pon_s] at h
    obtain ⟨j, h1, h2, h3, _⟩ := fs_some _ _ h
    unfold po_g at h3
    split at h3
    · rename_i hc
      cases e : pon n (ttU A j (A.2.2.1 j + 1)) j with
      | none => rw [e] at h3; cases h3
      | some l2 =>
        rw [e] at h3
        cases h3
        obtain ⟨a, b⟩ := ih _ _ _ e
        exact ⟨⟨h1, by omega, hc, a⟩, b⟩
    · cases h3
theorem pon_no : ∀ (n : Nat) (A : TT) (f : Nat), pon n A f = none → ∀ l : List Nat, l.length = n → vsq l A f → 0 < mor (pfin l A).1 (pfin l A).2.2.1 (pfin l A).2.2.2 := by
  intro n
  induction n with
  | zero =>
    intro A f h l hl hv
    have h : (if mor A.1 A.2.2.1 A.2.2.2 ≤ 0 then some [] else none) = none := h
    obtain rfl := List.length_eq_zero_iff.mp hl
    split at h
    · cases h
    · show 0 < mor A.1 A.2.2.1 A.2.2.2
      omega
  | succ n ih =>
    intro A f h l hl hv
    rw [pon_s] at h
    cases l with
    | nil => cases hl
    | cons j l =>
      obtain ⟨h1, h2, h3, h4⟩ := hv
      have h5 := fs_none _ _ h j h1 (by omega)
      unfold po_g at h5
      rw [if_pos h3] at h5
      cases e : pon n (ttU A j (A.2.2.1 j + 1)) j with
      | none => exact ih _ _ e l (by simpa using hl) h4
      | some l2 => rw [e] at h5; cases h5
theorem vsq_take : ∀ (l : List Nat) (A : TT) (f k : Nat), vsq l A f → vsq (l.take k) A f
  | [], _, _, k, _ => by rw [List.take_nil]; trivial
  | i :: l, A, f, k, h => by
    cases k with
    | zero => exact trivial
    | succ k => exact ⟨h.1, h.2.1, h.2.2.1, vsq_take l _ _ k h.2.2.2⟩
theorem pfin_f : ∀ (l : List Nat) (A : TT), (pfin l A).1 = A.1 ∧ (pfin l A).2.1 = A.2.1 ∧ (pfin l A).2.2.2 = A.2.2.2
  | [], _ => ⟨rfl, rfl, rfl⟩
  | i :: l, A => pfin_f l (prU A i)
theorem pfin_s : ∀ (l : List Nat) (A : TT) (k : Nat), k < l.length → pfin (l.take (k + 1)) A = prU (pfin (l.take k) A) (l.getD k 0)
  | [], _, k, h => absurd h (Nat.not_lt_zero k)
  | i :: l, A, 0, _ => rfl
  | i :: l, A, k + 1, h => pfin_s l (prU A i) k (by simpa using h)
theorem vsq_at : ∀ (l : List Nat) (A : TT) (f k : Nat), vsq l A f → k < l.length → (if k = 0 then f else l.getD (k - 1) 0) ≤ l.getD k 0 ∧ l.getD k 0 < A.1 ∧ A.2.1.testBit (l.getD k 0) = true ∧ (pfin (l.take k) A).2.2.1 (l.getD k 0) < 9
  | [], _, _, k, _, h => absurd h (Nat.not_lt_zero k)
  | i :: l, A, f, 0, h, _ => by
    have h3 := h.2.2.1
    rw [Bool.and_eq_true, decide_eq_true_eq] at h3
    exact ⟨h.1, h.2.1, h3.1, h3.2⟩
  | i :: l, A, f, k + 1, h, hk => by
    have h1 := vsq_at l (prU A i) i k h.2.2.2 (by simpa using hk)
    refine ⟨?_, h1.2.1, h1.2.2.1, h1.2.2.2⟩
    have h2 := h1.1
    show (i :: l).getD k 0 ≤ _
    cases k with
    | zero => exact h2
    | succ k => exact h2
theorem fpr_some {A : TT} {l : List Nat} (h : fpr A = some l) : l.length ≤ 4 ∧ vsq l A 0 ∧ mor (pfin l A).1 (pfin l A).2.2.1 (pfin l A).2.2.2 ≤ 0 ∧ ∀ k, k < l.length → 0 < mor (pfin (l.take k) A).1 (pfin (l.take k) A).2.2.1 (pfin (l.take k) A).2.2.2 := by
  obtain ⟨j, _, h2, h3, h4⟩ := fs_some _ _ h
  have h5 := pon_len _ _ _ _ h3
  obtain ⟨h6, h7⟩ := pon_ok _ _ _ _ h3
  refine ⟨by omega, h6, h7, fun k hk => pon_no k A 0 (h4 k (Nat.zero_le _) (by omega)) (l.take k) ?_ (vsq_take _ _ _ _ h6)⟩
  rw [List.length_take]; omega
theorem fpr_none {A : TT} (h : fpr A = none) : 0 < mor A.1 A.2.2.1 A.2.2.2 := pon_no 0 A 0 (fs_none _ _ h 0 (Nat.le_refl _) (by omega)) [] rfl trivial
theorem fpr_0 {A : TT} (h : mor A.1 A.2.2.1 A.2.2.2 ≤ 0) : fpr A = some [] := by
  unfold fpr
  exact fs_yes (show pon 0 A 0 = some [] from if_pos h)
theorem ccP (B : AC) (a i : Nat) : cW (cc (acP B a i)) = cW (stC a i (cc B)) ∧ cE (cc (acP B a i)) = cE (stC a i (cc B)) ∧ cR (cc (acP B a i)) = cR (stC a i (cc B)) := by
  have h := acP_sam B a i
  exact ⟨h.1.symm, h.2.1.symm, h.2.2.symm⟩
theorem opP (B : AC) (s x i : Nat) : opT (cc (acP B 0 i)) s x = prU (opT (cc B) s x) i := by
  obtain ⟨h1, h2, h3⟩ := ccP B 0 i
  have h1 : cW (cc (acP B 0 i)) = cW (cc B) := h1
  have h2 : cE (cc (acP B 0 i)) = cE (cc B) := h2
  have h3 : cR (cc (acP B 0 i)) = bw_up (cR (cc B)) i (cR (cc B) i + 1) := h3
  have h4 : opW (cc (acP B 0 i)) s x = opW (cc B) s x := by
    funext j w
    unfold opW wof
    rw [h1, h2]
    rfl
  unfold opT prU ttU
  rw [h3, h4]
  rfl
theorem lx_shake {X : Nat × (Nat → Int32)} {Q : Option Value → bw_H → Prop} {h : bw_H} {z c : Nat} {S : ST} {A : LY} {W T0 : RW} {B : AC} {K0 : Nat → Option AC} (hl : LX z c h S A W T0 B K0) {x s : Nat} (hx : x < 6) (hs : s < 2 ^ cN (cc B)) (h0 : 0 < cN (cc B)) (hQ1 : ∀ G S', LX z c G S' A W T0 B K0 → fpr (opT (cc B) s x) = none → Q (some (.int (-9))) G) (hQ2 : ∀ G S' l, LX z c G S' A (bw_up W.1 5 (some l.length), bw_up W.2 5 (fun i => nI (l.getD i 0))) T0 B K0 → fpr (opT (cc B) s x) = some l → Q (some (.int (nI l.length))) G) : bw_me X 9 bm_X7_shake false [.ref 0, .int (nI x), .int (nI s), .int 5] h Q := by
  obtain ⟨hb, rfl, rfl, rfl, rfl⟩ := hl
  have hk := lb_6 hb
  have hN := hk.1
  refine lb_me hb (fun h Q hx hq => me_X7_shake hx hq) (fun _ => rfl) (fun _ => rfl) (fun G hG => ?_)
  have h1 : ¬ cN (nowC S) = 0 := by have : 0 < cN (nowC S) := h0; omega
  have hs2 : s < 2 ^ cN (nowC S) := hs
  have h64 := p2N hN
  cases e0 : fpr (opT (nowC S) s x) with
  | none =>
    have e : yShake (nI x) (nI s) 5 S = (-9, S) := by
      unfold yShake
      rw [if_pos ⟨isn_t hx (by decide), isn_t hs2 (by omega), by decide⟩, if_neg h1, rn_n (by omega), rn_n (by omega)]
      unfold shk
      rw [e0]
    rw [e] at hG ⊢
    exact hQ1 G _ ⟨hG, rfl, rfl, rfl, rfl⟩ e0
  | some l =>
    have e : yShake (nI x) (nI s) 5 S = (nI l.length, wR S (bw_up (sR S) 5 (some l.length)) (bw_up (sRc S) 5 (fun i => nI (l.getD i 0)))) := by
      unfold yShake
      rw [if_pos ⟨isn_t hx (by decide), isn_t hs2 (by omega), by decide⟩, if_neg h1, rn_n (by omega), rn_n (by omega)]
      unfold shk
      rw [e0]
      rfl
    rw [e] at hG ⊢
    exact hQ2 G _ l ⟨hG, rfl, rfl, rfl, rfl⟩ e0
  skip
theorem lx_at5 {X : Nat × (Nat → Int32)} {Q : Option Value → bw_H → Prop} {h : bw_H} {z c : Nat} {S : ST} {A : LY} {W T0 : RW} {B : AC} {K0 : Nat → Option AC} (hl : LX z c h S A W T0 B K0) {k m : Nat} (hw : W.1 5 = some m) (hkm : k < m) (hm : m ≤ 40) (hQ : ∀ G S', LX z c G S' A W T0 B K0 → sQ S' = W.2 5 k → Q (some (.int 1)) G) : bw_me X 4 bm_X7_at false [.ref 0, .int 5, .int (nI k)] h Q := by
  obtain ⟨hb, rfl, rfl, rfl, rfl⟩ := hl
  have hk := lb_6 hb
  have hN := hk.1
  refine lb_me hb (fun h Q hx hq => me_X7_at hx hq) (fun _ => rfl) (fun _ => rfl) (fun G hG => ?_)
  have e0 : mis (sR S 5) (nI k) = 0 := by
    have hw2 : sR S 5 = some m := hw
    rw [hw2]
    unfold mis
    simp only
    rw [if_pos]
    show decide (0 ≤ (nI k).toInt ∧ (nI k).toInt < m) = true
    exact decide_eq_true (n_in hkm (by omega))
  have e : yAt 5 (nI k) S = (1, wQ S (sRc S 5 k)) := by
    unfold yAt
    rw [if_pos (by decide), show rn 5 = 5 from rfl, if_pos e0, rn_n (by omega)]
  rw [e] at hG ⊢
  exact hQ G _ ⟨hG, rfl, rfl, rfl, rfl⟩ rfl
theorem lx_press {X : Nat × (Nat → Int32)} {Q : Option Value → bw_H → Prop} {h : bw_H} {z c : Nat} {S : ST} {A : LY} {W T0 : RW} {B : AC} {K0 : Nat → Option AC} (hl : LX z c h S A W T0 B K0) {i : Nat} (hi : i < cN (cc B)) (hT : cT B.1 < 40) (hQ1 : ∀ G S', LX z c G S' A W T0 (acP B 0 i) K0 → cbe (cc B) 0 i = true → Q (some (.int (nI (cR (cc (acP B 0 i)) i)))) G) (hQ2 : ∀ G S', LX z c G S' A W T0 B K0 → cbe (cc B) 0 i = false → Q (some (.int (-4))) G) : bw_me X 4 bm_X7_press false [.ref 0, .int (nI i)] h Q := by
  obtain ⟨hb, rfl, rfl, rfl, rfl⟩ := hl
  have hk := lb_6 hb
  have hN := hk.1
  refine lb_me hb (fun h Q hx hq => me_X7_press hx hq) (fun _ => rfl) (fun _ => rfl) (fun G hG => ?_)
  have hi2 : i < cN (nowC S) := hi
  have hT2 : cT (sA S).1 < 40 := hT
  cases e0 : cbe (nowC S) 0 i with
  | true =>
    have e : yDeed 0 (nI i) S = (nI (cR (cc (acP (sA S) 0 i)) i), wA S (acP (sA S) 0 i)) := by
      unfold yDeed
      rw [if_pos (isn_t hi2 (by omega)), rn_n (by omega), if_pos e0, if_pos hT2]
      rfl
    rw [e] at hG ⊢
    exact hQ1 G _ ⟨hG, rfl, rfl, rfl, rfl⟩ e0
  | false =>
    have e : yDeed 0 (nI i) S = (-4, S) := by
      unfold yDeed
      rw [if_pos (isn_t hi2 (by omega)), rn_n (by omega), if_neg (by rw [e0]; decide)]
    rw [e] at hG ⊢
    exact hQ2 G _ ⟨hG, rfl, rfl, rfl, rfl⟩ e0
  skip
theorem lx_mend {X : Nat × (Nat → Int32)} {Q : Option Value → bw_H → Prop} {h : bw_H} {z c : Nat} {S : ST} {A : LY} {W T0 : RW} {B : AC} {K0 : Nat → Option AC} (hl : LX z c h S A W T0 B K0) {i : Nat} (hi : i < cN (cc B)) (hT : cT B.1 < 40) (hQ1 : ∀ G S', LX z c G S' A W T0 (acP B 1 i) K0 → cbe (cc B) 1 i = true → Q (some (.int (nI (cR (cc (acP B 1 i)) i)))) G) (hQ2 : ∀ G S', LX z c G S' A W T0 B K0 → cbe (cc B) 1 i = false → Q (some (.int (-4))) G) : bw_me X 4 bm_X7_mend false [.ref 0, .int (nI i)] h Q := by
  obtain ⟨hb, rfl, rfl, rfl, rfl⟩ := hl
  have hk := lb_6 hb
  have hN := hk.1
  refine lb_me hb (fun h Q hx hq => me_X7_mend hx hq) (fun _ => rfl) (fun _ => rfl) (fun G hG => ?_)
  have hi2 : i < cN (nowC S) := hi
  have hT2 : cT (sA S).1 < 40 := hT
  cases e0 : cbe (nowC S) 1 i with
  | true =>
    have e : yDeed 1 (nI i) S = (nI (cR (cc (acP (sA S) 1 i)) i), wA S (acP (sA S) 1 i)) := by
      unfold yDeed
      rw [if_pos (isn_t hi2 (by omega)), rn_n (by omega), if_pos e0, if_pos hT2]
      rfl
    rw [e] at hG ⊢
    exact hQ1 G _ ⟨hG, rfl, rfl, rfl, rfl⟩ e0
  | false =>
    have e : yDeed 1 (nI i) S = (-4, S) := by
      unfold yDeed
      rw [if_pos (isn_t hi2 (by omega)), rn_n (by omega), if_neg (by rw [e0]; decide)]
    rw [e] at hG ⊢
    exact hQ2 G _ ⟨hG, rfl, rfl, rfl, rfl⟩ e0
  skip
theorem lx_eye {X : Nat × (Nat → Int32)} {Q : Option Value → bw_H → Prop} {h : bw_H} {z c : Nat} {S : ST} {A : LY} {W T0 : RW} {B : AC} {K0 : Nat → Option AC} (hl : LX z c h S A W T0 B K0) {i : Nat} (hi : i < cN (cc B)) (hT : cT B.1 < 40) (hQ1 : ∀ G S', LX z c G S' A W T0 (acP B 2 i) K0 → cbe (cc B) 2 i = true → Q (some (.int (nI (cE (cc (acP B 2 i)) i)))) G) (hQ2 : ∀ G S', LX z c G S' A W T0 B K0 → cbe (cc B) 2 i = false → Q (some (.int (-4))) G) : bw_me X 4 bm_X7_eye false [.ref 0, .int (nI i)] h Q := by
  obtain ⟨hb, rfl, rfl, rfl, rfl⟩ := hl
  have hk := lb_6 hb
  have hN := hk.1
  refine lb_me hb (fun h Q hx hq => me_X7_eye hx hq) (fun _ => rfl) (fun _ => rfl) (fun G hG => ?_)
  have hi2 : i < cN (nowC S) := hi
  have hT2 : cT (sA S).1 < 40 := hT
  cases e0 : cbe (nowC S) 2 i with
  | true =>
    have e : yDeed 2 (nI i) S = (nI (cE (cc (acP (sA S) 2 i)) i), wA S (acP (sA S) 2 i)) := by
      unfold yDeed
      rw [if_pos (isn_t hi2 (by omega)), rn_n (by omega), if_pos e0, if_pos hT2]
      rfl
    rw [e] at hG ⊢
    exact hQ1 G _ ⟨hG, rfl, rfl, rfl, rfl⟩ e0
  | false =>
    have e : yDeed 2 (nI i) S = (-4, S) := by
      unfold yDeed
      rw [if_pos (isn_t hi2 (by omega)), rn_n (by omega), if_neg (by rw [e0]; decide)]
    rw [e] at hG ⊢
    exact hQ2 G _ ⟨hG, rfl, rfl, rfl, rfl⟩ e0
  skip
theorem lx_turn {X : Nat × (Nat → Int32)} {Q : Option Value → bw_H → Prop} {h : bw_H} {z c : Nat} {S : ST} {A : LY} {W T0 : RW} {B : AC} {K0 : Nat → Option AC} (hl : LX z c h S A W T0 B K0) {i : Nat} (hi : i < cN (cc B)) (hT : cT B.1 < 40) (hQ1 : ∀ G S', LX z c G S' A W T0 (acP B 3 i) K0 → cbe (cc B) 3 i = true → Q (some (.int (nI ((if (cW (cc (acP B 3 i))).testBit i = true then 1 else 0))))) G) (hQ2 : ∀ G S', LX z c G S' A W T0 B K0 → cbe (cc B) 3 i = false → Q (some (.int (-4))) G) : bw_me X 4 bm_X7_turn false [.ref 0, .int (nI i)] h Q := by
  obtain ⟨hb, rfl, rfl, rfl, rfl⟩ := hl
  have hk := lb_6 hb
  have hN := hk.1
  refine lb_me hb (fun h Q hx hq => me_X7_turn hx hq) (fun _ => rfl) (fun _ => rfl) (fun G hG => ?_)
  have hi2 : i < cN (nowC S) := hi
  have hT2 : cT (sA S).1 < 40 := hT
  cases e0 : cbe (nowC S) 3 i with
  | true =>
    have e : yDeed 3 (nI i) S = (nI ((if (cW (cc (acP (sA S) 3 i))).testBit i = true then 1 else 0)), wA S (acP (sA S) 3 i)) := by
      unfold yDeed
      rw [if_pos (isn_t hi2 (by omega)), rn_n (by omega), if_pos e0, if_pos hT2]
      rfl
    rw [e] at hG ⊢
    exact hQ1 G _ ⟨hG, rfl, rfl, rfl, rfl⟩ e0
  | false =>
    have e : yDeed 3 (nI i) S = (-4, S) := by
      unfold yDeed
      rw [if_pos (isn_t hi2 (by omega)), rn_n (by omega), if_neg (by rw [e0]; decide)]
    rw [e] at hG ⊢
    exact hQ2 G _ ⟨hG, rfl, rfl, rfl, rfl⟩ e0
  skip
theorem lx_on0 {X : Nat × (Nat → Int32)} {Q : Option Value → bw_H → Prop} {h : bw_H} {z c : Nat} {S : ST} {A : LY} {W T0 : RW} {B : AC} {K0 : Nat → Option AC} (hl : LX z c h S A W T0 B K0) {B0 : AC} (hK : K0 0 = some B0) (hQ : ∀ G S', LX z c G S' A W T0 B0 K0 → Q (some (.int (nI (cT B0.1)))) G) : bw_me X 3 bm_X7_on false [.ref 0, .int 0] h Q := by
  obtain ⟨hb, rfl, rfl, rfl, rfl⟩ := hl
  have hk := lb_6 hb
  have hN := hk.1
  refine lb_me hb (fun h Q hx hq => me_X7_on hx hq) (fun _ => rfl) (fun _ => rfl) (fun G hG => ?_)
  have hK2 : sK S 0 = some B0 := hK
  have e : yOn 0 S = (nI (cT B0.1), wA S B0) := by
    unfold yOn
    rw [if_pos (by decide), show rn 0 = 0 from rfl, hK2]
  rw [e] at hG ⊢
  exact hQ G _ ⟨hG, rfl, rfl, rfl, rfl⟩
