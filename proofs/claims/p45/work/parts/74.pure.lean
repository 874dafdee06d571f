/-! pure: what is told, shown -/
def tlC (C : CT) (i : Nat) : Nat := tol (cW C) i (cK C i) (cR C i) (cV C i) (cE C i)
def onC (C : CT) (i : Nat) : Nat := one (tlC C i) (cK C i) (cR C i) (cD C)
def zrC (C : CT) (i : Nat) : Nat := tlC C i &&& (63 ^^^ onC C i)
def anC (C : CT) (i t : Nat) : Int32 := ans (cW C) i (cK C i) (cR C i) (cV C i) (cE C i) t (cD C)
def ctC (C : CT) (i t : Nat) : Int := if (tlC C i).testBit t = true then (if (onC C i).testBit t = true then 1 else -1) else 0
theorem anC_e (C : CT) (i t : Nat) : anC C i t = if (tlC C i).testBit t = true then (if (onC C i).testBit t = true then 1 else 0) else -9 := rfl
theorem an_c (C : CT) (i t : Nat) : (anC C i t = -9 ∧ ctC C i t = 0 ∧ (tlC C i).testBit t = false) ∨ (anC C i t = 0 ∧ ctC C i t = -1 ∧ (tlC C i).testBit t = true ∧ (onC C i).testBit t = false) ∨ (anC C i t = 1 ∧ ctC C i t = 1 ∧ (tlC C i).testBit t = true ∧ (onC C i).testBit t = true) := by
  rw [anC_e]
  unfold ctC
  cases h : (tlC C i).testBit t with
  | false => exact Or.inl ⟨if_neg (by decide), if_neg (by decide), rfl⟩
  | true =>
    cases h2 : (onC C i).testBit t with
    | false => exact Or.inr (Or.inl ⟨rfl, rfl, rfl, rfl⟩)
    | true => exact Or.inr (Or.inr ⟨rfl, rfl, rfl, rfl⟩)
theorem b63 : ∀ t, t < 6 → (63 : Nat).testBit t = true := by decide
theorem zr_tb {C : CT} {i t : Nat} (ht : t < 6) : (zrC C i).testBit t = ((tlC C i).testBit t && !(onC C i).testBit t) := by
  unfold zrC
  rw [Nat.testBit_and, Nat.testBit_xor, b63 t ht]
  cases (onC C i).testBit t <;> rfl
theorem on_sub {C : CT} {i t : Nat} (h : (onC C i).testBit t = true) : (tlC C i).testBit t = true := by
  unfold onC one at h
  split at h
  · exact h
  · split at h
    · rw [Nat.testBit_and, Bool.and_eq_true] at h; exact h.1
    · rw [Nat.testBit_and, Bool.and_eq_true] at h; exact h.1
theorem bal_c {C : CT} {s t : Nat} (ht : t < 6) : ∀ k, bal (taC C) s t (k + 1) = bal (taC C) s t k + (if s.testBit k = true then ctC C k t else 0) := by
  intro k
  show bal (taC C) s t k + (if s.testBit k = true then (if (onC C k).testBit t = true then 1 else 0) - (if (zrC C k).testBit t = true then 1 else 0) else 0) = _
  congr 1
  by_cases hs : s.testBit k = true
  · rw [if_pos hs, if_pos hs, zr_tb ht]
    unfold ctC
    cases h : (tlC C k).testBit t with
    | false =>
      have h2 : (onC C k).testBit t = false := by
        cases h3 : (onC C k).testBit t with
        | false => rfl
        | true => rw [on_sub h3] at h; cases h
      rw [h2]; rfl
    | true => cases (onC C k).testBit t <;> rfl
  · rw [if_neg hs, if_neg hs]
theorem orf_tb {f : Nat → Nat} {t : Nat} : ∀ m, (orf f m).testBit t = true ↔ ∃ i, i < m ∧ (f i).testBit t = true := by
  intro m
  induction m with
  | zero =>
    constructor
    · intro h; rw [show orf f 0 = 0 from rfl, Nat.zero_testBit] at h; cases h
    · rintro ⟨i, h, _⟩; exact absurd h (Nat.not_lt_zero i)
  | succ m ih =>
    show (orf f m ||| f m).testBit t = true ↔ _
    rw [Nat.testBit_or, Bool.or_eq_true, ih]
    constructor
    · rintro (⟨i, h1, h2⟩ | h)
      · exact ⟨i, by omega, h2⟩
      · exact ⟨m, by omega, h⟩
    · rintro ⟨i, h1, h2⟩
      by_cases e : i = m
      · subst e; exact Or.inr h2
      · exact Or.inl ⟨i, by omega, h2⟩
theorem p2_tb (i t : Nat) : (2 ^ i).testBit t = decide (i = t) := by
  rw [Nat.testBit_two_pow]
theorem orp_tb {P : Nat → Prop} [DecidablePred P] {m t : Nat} : (orf (fun i => if P i then 2 ^ i else 0) m).testBit t = true ↔ t < m ∧ P t := by
  rw [orf_tb]
  constructor
  · rintro ⟨i, h1, h2⟩
    by_cases h : P i
    · rw [if_pos h, p2_tb, decide_eq_true_eq] at h2
      subst h2; exact ⟨h1, h⟩
    · rw [if_neg h, Nat.zero_testBit] at h2; cases h2
  · rintro ⟨h1, h2⟩
    exact ⟨t, h1, by rw [if_pos h2, p2_tb]; exact decide_eq_true rfl⟩
theorem sho_tb {A : TA} {s t : Nat} (ht : t < 6) : (sho A s).testBit t = true ↔ 0 < bal A s t A.1 := by
  unfold sho
  rw [orp_tb (P := fun t => 0 < bal A s t A.1)]
  exact ⟨fun h => h.2, fun h => ⟨ht, h⟩⟩
theorem bal_0 {A : TA} {t : Nat} : ∀ k, bal A 0 t k = 0 := by
  intro k
  induction k with
  | zero => rfl
  | succ k ih =>
    show bal A 0 t k + (if (0 : Nat).testBit k = true then _ else 0) = 0
    rw [Nat.zero_testBit, if_neg (by decide), ih]; rfl
theorem sho_0 {A : TA} : sho A 0 = 0 := by
  unfold sho
  exact orf_0 (fun i => by rw [bal_0, if_neg (by decide)]) 6
theorem tld_0 {A : TA} : tld A 0 = 0 := by
  unfold tld
  exact orf_0 (fun i => by rw [Nat.zero_testBit, if_neg (by decide)]) _
theorem all_tb {n i : Nat} (h : i < n) : (2 ^ n - 1).testBit i = true := by
  rw [Nat.testBit_two_pow_sub_one]; exact decide_eq_true h
theorem mor_b2 {C : CT} {s t : Nat} (ht : t < 6) : ∀ k, mor k (cR C) (opW C s t) = bal (taC C) s t k := by
  intro k
  induction k with
  | zero => rfl
  | succ k ih =>
    rw [bal_c ht]
    show mor k (cR C) (opW C s t) + opW C s t k (cR C k) = _
    rw [ih]
    congr 1
-- the best: fewest, then least
theorem bst_some {P : Nat → Bool} : ∀ {k b : Nat}, bst P k = some b → b < k ∧ P b = true ∧ ∀ s, s < k → P s = true → bc b ≤ bc s := by
  intro k
  induction k with
  | zero => intro b h; cases h
  | succ k ih =>
    intro b h
    have h : (if P k = true ∧ fw k (bst P k) = true then some k else bst P k) = some b := h
    by_cases hc : P k = true ∧ fw k (bst P k) = true
    · rw [if_pos hc] at h
      cases h
      refine ⟨Nat.lt_succ_self _, hc.1, fun s hs hp => ?_⟩
      by_cases e : s = k
      · subst e; exact Nat.le_refl _
      · cases hb : bst P k with
        | none => exact absurd hb (bst_s hp (by omega))
        | some x =>
          have h2 := hc.2
          rw [hb] at h2
          have h3 : bc k < bc x := of_decide_eq_true h2
          have := (ih hb).2.2 s (by omega) hp
          omega
    · rw [if_neg hc] at h
      obtain ⟨h1, h2, h3⟩ := ih h
      refine ⟨by omega, h2, fun s hs hp => ?_⟩
      by_cases e : s = k
      · subst e
        have h4 : ¬ fw s (bst P s) = true := fun z => hc ⟨hp, z⟩
        rw [h] at h4
        have h5 : ¬ bc s < bc b := fun z => h4 (decide_eq_true z)
        omega
      · exact h3 s (by omega) hp
theorem bst_none {P : Nat → Bool} {k s : Nat} (h : bst P k = none) (hs : s < k) : P s = false := by
  cases e : P s with
  | false => rfl
  | true => exact absurd h (bst_s e hs)
theorem cal_s (S : ST) (x : Nat) : ∀ m, ((cal S x m).1 = 0 → ∀ s, 1 ≤ s → s ≤ m → ¬ (sho (taC (nowC S)) s).testBit x = true) ∧ ((cal S x m).1 ≠ 0 → (cal S x m).2 = cst S (cal S x m).1 ∧ (cal S x m).1 ≤ m ∧ (sho (taC (nowC S)) (cal S x m).1).testBit x = true ∧ ∀ s, 1 ≤ s → s ≤ m → (sho (taC (nowC S)) s).testBit x = true → cst S (cal S x m).1 ≤ cst S s) ∧ ((cal S x m).1 = 0 → (cal S x m).2 = 1000) := by
  intro m
  induction m with
  | zero => exact ⟨fun _ s h1 h2 => by omega, fun h => absurd rfl h, fun _ => rfl⟩
  | succ m ih =>
    obtain ⟨i1, i2, i3⟩ := ih
    have hlt := cst_lt S (m + 1)
    have e : cal S x (m + 1) = if (sho (taC (nowC S)) (m + 1)).testBit x = true ∧ cst S (m + 1) < (cal S x m).2 then (m + 1, cst S (m + 1)) else cal S x m := rfl
    by_cases hc : (sho (taC (nowC S)) (m + 1)).testBit x = true ∧ cst S (m + 1) < (cal S x m).2
    · rw [e, if_pos hc]
      refine ⟨fun h => absurd h (Nat.succ_ne_zero m), fun _ => ⟨rfl, Nat.le_refl _, hc.1, fun s h1 h2 h3 => ?_⟩, fun h => absurd h (Nat.succ_ne_zero m)⟩
      by_cases es : s = m + 1
      · subst es; exact Nat.le_refl _
      · by_cases h0 : (cal S x m).1 = 0
        · exact absurd h3 (i1 h0 s h1 (by omega))
        · obtain ⟨j1, j2, j3, j4⟩ := i2 h0
          have := j4 s h1 (by omega) h3
          have h5 := hc.2
          rw [j1] at h5
          show cst S (m + 1) ≤ cst S s
          omega
    · rw [e, if_neg hc]
      refine ⟨fun h0 s h1 h2 h3 => ?_, fun h0 => ?_, i3⟩
      · by_cases es : s = m + 1
        · subst es
          refine hc ⟨h3, ?_⟩
          rw [i3 h0]; omega
        · exact i1 h0 s h1 (by omega) h3
      · obtain ⟨j1, j2, j3, j4⟩ := i2 h0
        refine ⟨j1, by omega, j3, fun s h1 h2 h3 => ?_⟩
        by_cases es : s = m + 1
        · subst es
          have h5 : ¬ cst S (m + 1) < (cal S x m).2 := fun z => hc ⟨h3, z⟩
          rw [j1] at h5
          omega
        · exact j4 s h1 (by omega) h3
theorem cst_bc {S : ST} {a b : Nat} (h : cst S a ≤ cst S b) : bc a ≤ bc b := by
  have h1 := bc_lt (sho (taC (nowC S)) a)
  have h2 := bc_lt (sho (taC (nowC S)) b)
  unfold cst at h
  omega
theorem bc_del : ∀ s, s < 64 → ∀ i, i < 6 → s.testBit i = true → bc (s &&& (63 ^^^ 2 ^ i)) + 1 = bc s := by decide +kernel
theorem del_le : ∀ s, s < 64 → ∀ i, i < 6 → s &&& (63 ^^^ 2 ^ i) ≤ s := fun s _ i _ => Nat.and_le_left
theorem del_tb {s i j : Nat} (hj : j < 6) : (s &&& (63 ^^^ 2 ^ i)).testBit j = (s.testBit j && !decide (i = j)) := by
  rw [Nat.testBit_and, Nat.testBit_xor, b63 j hj, p2_tb]
  cases decide (i = j) <;> rfl
theorem bal_del {C : CT} {s i t : Nat} (ht : t < 6) (hi : s.testBit i = true) : ∀ k, k ≤ 6 → bal (taC C) (s &&& (63 ^^^ 2 ^ i)) t k = bal (taC C) s t k - (if i < k then ctC C i t else 0) := by
  intro k
  induction k with
  | zero => intro _; rfl
  | succ k ih =>
    intro hk
    rw [bal_c ht, bal_c ht, ih (by omega), del_tb (by omega)]
    by_cases e : i = k
    · subst e
      rw [decide_eq_true rfl, hi]
      have q1 : (if i < i then ctC C i t else 0) = 0 := if_neg (by omega)
      have q2 : (if i < i + 1 then ctC C i t else 0) = ctC C i t := if_pos (by omega)
      have q3 : (if (true && !true) = true then ctC C i t else 0) = 0 := rfl
      have q4 : (if (true : Bool) = true then ctC C i t else (0 : Int)) = ctC C i t := rfl
      rw [q1, q2, q3, q4]
      omega
    · have q3 : (s.testBit k && !false) = s.testBit k := by cases s.testBit k <;> rfl
      rw [decide_eq_false e, q3]
      have q : (if i < k + 1 then ctC C i t else 0) = (if i < k then ctC C i t else 0) := by
        by_cases h1 : i < k
        · rw [if_pos h1, if_pos (by omega)]
        · rw [if_neg h1, if_neg (by omega)]
      rw [q]
      generalize (if i < k then ctC C i t else 0) = y
      generalize (if s.testBit k = true then ctC C k t else 0) = w
      omega
