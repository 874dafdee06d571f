/-! the law: play by turns, and chances -/
theorem opT_k {C : CT} (hk : co_k C) {s t : Nat} (hs : s < 64) : tt_k (opT C s t) := ⟨hk.1, hs, fun i hi => (hk.2.2.2.2 i hi).2.2.1, fun i _ w _ => opW_b C s t i w⟩
def mT (A : TT) : Int := mor A.1 A.2.2.1 A.2.2.2
theorem mT_2 {A : TT} (hk : tt_k A) {i w : Nat} (hi : i < A.1) (hw : w ≤ 9) : mT A - 2 ≤ mT (ttU A i w) ∧ mT (ttU A i w) ≤ mT A + 2 := by
  have h1 := hk.2.2.1 i hi
  have h2 := hk.2.2.2 i hi (A.2.2.1 i) (by omega)
  have h3 := hk.2.2.2 i hi w (by omega)
  have h4 : mT (ttU A i w) = mT A - A.2.2.2 i (A.2.2.1 i) + A.2.2.2 i w := mor_up A.1 hi
  omega
theorem pl1 {A : TT} (hk : tt_k A) : mT A - 2 ≤ plv 1 A ∧ plv 1 A ≤ mT A := by
  have hh : ∀ n, n ≤ A.1 → mT A - 2 ≤ plk 0 A n ∧ plk 0 A n ≤ mT A := by
    intro n
    induction n with
    | zero => intro _; exact ⟨by show mT A - 2 ≤ mT A; omega, Int.le_refl _⟩
    | succ k ih =>
      intro hn
      have ih := ih (by omega)
      have h9 := hk.2.2.1 k (by omega)
      rw [plk_s, if_neg (by decide)]
      split
      · rename_i hb
        rw [Bool.and_eq_true] at hb
        have h8 := of_decide_eq_true hb.2
        have h7 := mT_2 hk (i := k) (w := A.2.2.1 k + 1) (by omega) (by omega)
        have h6 : plv 0 (ttU A k (A.2.2.1 k + 1)) = mT (ttU A k (A.2.2.1 k + 1)) := rfl
        rw [h6]
        omega
      · exact ih
  exact hh A.1 (Nat.le_refl _)
theorem pl2 {A : TT} (hk : tt_k A) : mT A - 2 ≤ plv 2 A ∧ plv 2 A ≤ mT A + 2 := by
  have hh : ∀ n, n ≤ A.1 → mT A - 2 ≤ plk 1 A n ∧ plk 1 A n ≤ mT A + 2 := by
    intro n
    induction n with
    | zero =>
      intro _
      have := pl1 hk
      exact ⟨by show mT A - 2 ≤ plv 1 A; omega, by show plv 1 A ≤ mT A + 2; omega⟩
    | succ k ih =>
      intro hn
      have ih := ih (by omega)
      have h9 := hk.2.2.1 k (by omega)
      rw [plk_s, if_pos (by decide)]
      split
      · have h7 := mT_2 hk (i := k) (w := A.2.2.1 k - 1) (by omega) (by omega)
        have h6 := pl1 (ttU_k (w := A.2.2.1 k - 1) (i := k) hk (by omega))
        omega
      · exact ih
  exact hh A.1 (Nat.le_refl _)
def wsum (p n : Nat) : Nat → Nat
  | 0 => 0
  | k + 1 => wsum p n k + wgt k p n
theorem wsum_e : ∀ n, n ≤ 6 → ∀ p, p ≤ 12 → wsum p n (2 ^ n) = 12 ^ n := by decide +kernel
theorem wgt_0 : ∀ n, n ≤ 6 → ∀ k, k < 2 ^ n → wgt k 0 n = if k + 1 = 2 ^ n then 12 ^ n else 0 := by decide +kernel
theorem wgt_12 : ∀ n, n ≤ 6 → ∀ k, k < 2 ^ n → wgt k 12 n = if k = 0 then 12 ^ n else 0 := by decide +kernel
theorem odK_w (C : CT) (x p : Nat) : ∀ m, odK C x p m ≤ wsum p (cN C) m
  | 0 => Nat.le_refl _
  | m + 1 => by
    have ih := odK_w C x p m
    show odK C x p m + (if (sho (taC C) m).testBit x = true then wgt m p (cN C) else 0) ≤ wsum p (cN C) m + wgt m p (cN C)
    split <;> omega
theorem miK_w (C : CT) (p : Nat) : ∀ m, miK C p m ≤ 6 * wsum p (cN C) m
  | 0 => Nat.le_refl _
  | m + 1 => by
    have ih := miK_w C p m
    have h1 : wgt m p (cN C) * bc (sho (taC C) m) ≤ wgt m p (cN C) * 6 := Nat.mul_le_mul_left _ (cnt_le6 _ 6)
    show miK C p m + wgt m p (cN C) * bc (sho (taC C) m) ≤ 6 * (wsum p (cN C) m + wgt m p (cN C))
    omega
theorem odK_0 (C : CT) (x : Nat) (hN : cN C ≤ 6) : ∀ m, m + 1 ≤ 2 ^ cN C → odK C x 0 m = 0
  | 0, _ => rfl
  | m + 1, h => by
    show odK C x 0 m + (if (sho (taC C) m).testBit x = true then wgt m 0 (cN C) else 0) = 0
    have hw : wgt m 0 (cN C) = 0 := by rw [wgt_0 _ hN m (by omega), if_neg (by omega)]
    rw [odK_0 C x hN m (by omega), hw, ite_self]
theorem odK_0e (C : CT) (x : Nat) (hN : cN C ≤ 6) : odK C x 0 (2 ^ cN C) = if (sho (taC C) (2 ^ cN C - 1)).testBit x = true then 12 ^ cN C else 0 := by
  have hp : 1 ≤ 2 ^ cN C := Nat.one_le_two_pow
  have e : 2 ^ cN C = (2 ^ cN C - 1) + 1 := by omega
  have h1 : odK C x 0 (2 ^ cN C - 1 + 1) = odK C x 0 (2 ^ cN C - 1) + (if (sho (taC C) (2 ^ cN C - 1)).testBit x = true then wgt (2 ^ cN C - 1) 0 (cN C) else 0) := rfl
  rw [← e] at h1
  have hw : wgt (2 ^ cN C - 1) 0 (cN C) = 12 ^ cN C := by rw [wgt_0 _ hN _ (by omega), if_pos (by omega)]
  rw [h1, odK_0 C x hN _ (by omega), hw, Nat.zero_add]
theorem miK_0 (C : CT) (hN : cN C ≤ 6) : ∀ m, m + 1 ≤ 2 ^ cN C → miK C 0 m = 0
  | 0, _ => rfl
  | m + 1, h => by
    show miK C 0 m + wgt m 0 (cN C) * bc (sho (taC C) m) = 0
    rw [miK_0 C hN m (by omega), wgt_0 _ hN m (by omega), if_neg (by omega), Nat.zero_mul]
theorem miK_0e (C : CT) (hN : cN C ≤ 6) : miK C 0 (2 ^ cN C) = 12 ^ cN C * bc (sho (taC C) (2 ^ cN C - 1)) := by
  have hp : 1 ≤ 2 ^ cN C := Nat.one_le_two_pow
  have e : 2 ^ cN C = (2 ^ cN C - 1) + 1 := by omega
  have h1 : miK C 0 (2 ^ cN C - 1 + 1) = miK C 0 (2 ^ cN C - 1) + wgt (2 ^ cN C - 1) 0 (cN C) * bc (sho (taC C) (2 ^ cN C - 1)) := rfl
  rw [← e] at h1
  rw [h1, miK_0 C hN _ (by omega), wgt_0 _ hN _ (by omega), if_pos (by omega), Nat.zero_add]
theorem odK_12 (C : CT) {x : Nat} (hx : x < 6) (hN : cN C ≤ 6) : ∀ m, m ≤ 2 ^ cN C → odK C x 12 m = 0
  | 0, _ => rfl
  | m + 1, h => by
    show odK C x 12 m + (if (sho (taC C) m).testBit x = true then wgt m 12 (cN C) else 0) = 0
    rw [odK_12 C hx hN m (by omega), wgt_12 _ hN m (by omega)]
    by_cases e : m = 0
    · subst e; rw [sho_0, Nat.zero_testBit]; rfl
    · rw [if_neg e, ite_self]
/-- parts in lowest terms -/
theorem part_le {a b : Nat} (hb : 0 < b) (h : a ≤ b) : a / Nat.gcd a b ≤ b / Nat.gcd a b ∧ b / Nat.gcd a b ≤ b ∧ 1 ≤ b / Nat.gcd a b :=
  ⟨Nat.div_le_div_right h, Nat.div_le_self _ _, Nat.div_pos (Nat.gcd_le_right _ hb) (Nat.gcd_pos_of_pos_right _ hb)⟩
theorem part_6 {a b : Nat} (h : a ≤ 6 * b) : a / Nat.gcd a b ≤ 6 * (b / Nat.gcd a b) := by
  rw [← Nat.mul_div_assoc _ (Nat.gcd_dvd_right a b)]
  exact Nat.div_le_div_right h
theorem part_m {b k : Nat} (hb : 0 < b) : b * k / Nat.gcd (b * k) b = k ∧ b / Nat.gcd (b * k) b = 1 := by
  rw [show Nat.gcd (b * k) b = b from Nat.gcd_eq_right ⟨k, rfl⟩]
  exact ⟨Nat.mul_div_cancel_left k hb, Nat.div_self hb⟩
def odP (C : CT) (x p u o : Nat) : Prop := u ≤ o ∧ o ≤ 2985984 ∧ (p = 0 → u = (if (sho (taC C) (2 ^ cN C - 1)).testBit x = true then 1 else 0) ∧ o = 1) ∧ (p = 12 → u = 0)
theorem odP_i {C : CT} {x p : Nat} (hN : cN C ≤ 6) (hx : x < 6) (hp : p ≤ 12) : odP C x p (odK C x p (2 ^ cN C) / Nat.gcd (odK C x p (2 ^ cN C)) (12 ^ cN C)) (12 ^ cN C / Nat.gcd (odK C x p (2 ^ cN C)) (12 ^ cN C)) := by
  have hb : 0 < 12 ^ cN C := Nat.pow_pos (by decide)
  have h12 := p12 hN
  have h1 := odK_w C x p (2 ^ cN C)
  rw [wsum_e _ hN _ hp] at h1
  obtain ⟨g1, g2, g3⟩ := part_le hb h1
  refine ⟨g1, by omega, fun e => ?_, fun e => ?_⟩
  · subst e
    rw [odK_0e C x hN]
    by_cases z : (sho (taC C) (2 ^ cN C - 1)).testBit x = true
    · rw [if_pos z, if_pos z]
      have := part_m (b := 12 ^ cN C) (k := 1) hb
      rw [Nat.mul_one] at this
      exact this
    · rw [if_neg z, if_neg z]
      exact part_m (b := 12 ^ cN C) (k := 0) hb
  · subst e
    rw [odK_12 C hx hN _ (Nat.le_refl _), Nat.zero_div]
def miP (C : CT) (p u o : Nat) : Prop := u ≤ 6 * o ∧ o ≤ 2985984 ∧ (p = 0 → u = bc (sho (taC C) (2 ^ cN C - 1)))
theorem miP_i {C : CT} {p : Nat} (hN : cN C ≤ 6) (hp : p ≤ 12) : miP C p (miK C p (2 ^ cN C) / Nat.gcd (miK C p (2 ^ cN C)) (12 ^ cN C)) (12 ^ cN C / Nat.gcd (miK C p (2 ^ cN C)) (12 ^ cN C)) := by
  have hb : 0 < 12 ^ cN C := Nat.pow_pos (by decide)
  have h12 := p12 hN
  have h1 := miK_w C p (2 ^ cN C)
  rw [wsum_e _ hN _ hp] at h1
  refine ⟨part_6 h1, Nat.le_trans (Nat.div_le_self _ _) h12, fun e => ?_⟩
  subst e
  rw [miK_0e C hN]
  exact (part_m hb).1
theorem lx_odds {X : Nat × (Nat → Int32)} {Q : Option Value → bw_H → Prop} {h : bw_H} {z c : Nat} {S : ST} {A : LY} {W T0 : RW} {B : AC} {K0 : Nat → Option AC} (hl : LX z c h S A W T0 B K0) {x p : Nat} (hx6 : x < 6) (hp : p ≤ 12) (h0 : 0 < cN (cc B)) (hQ : ∀ G S' u o, LX z c G S' A W T0 B K0 → sU S' = lN u → sO S' = lN o → odP (cc B) x p u o → Q (some (.int 1)) G) : bw_me X 4 bm_X7_odds false [.ref 0, .int (nI x), .int (nI p)] h Q := by
  obtain ⟨hb, rfl, rfl, rfl, rfl⟩ := hl
  have hk := lb_6 hb
  have hN := hk.1
  refine lb_me hb (fun h Q hx hq => me_X7_odds hx hq) (fun _ => rfl) (fun _ => rfl) (fun G hG => ?_)
  have t_0 := nI_toInt (n := p) (by omega)
  have h0' : 0 < cN (nowC S) := h0
  have e : yOdds (nI x) (nI p) S = (1, tlP S (odK (nowC S) x p (2 ^ cN (nowC S))) (12 ^ cN (nowC S))) := by
    unfold yOdds
    rw [if_pos ⟨isn_t hx6 (by decide), by omega, by omega⟩, if_neg (by omega), rn_n (by omega), rn_n (by omega)]
  rw [e] at hG ⊢
  exact hQ G _ _ _ ⟨hG, rfl, rfl, rfl, rfl⟩ rfl rfl (odP_i hN hx6 hp)
theorem lx_mid {X : Nat × (Nat → Int32)} {Q : Option Value → bw_H → Prop} {h : bw_H} {z c : Nat} {S : ST} {A : LY} {W T0 : RW} {B : AC} {K0 : Nat → Option AC} (hl : LX z c h S A W T0 B K0) {p : Nat} (hp : p ≤ 12) (h0 : 0 < cN (cc B)) (hQ : ∀ G S' u o, LX z c G S' A W T0 B K0 → sU S' = lN u → sO S' = lN o → miP (cc B) p u o → Q (some (.int 1)) G) : bw_me X 4 bm_X7_mid false [.ref 0, .int (nI p)] h Q := by
  obtain ⟨hb, rfl, rfl, rfl, rfl⟩ := hl
  have hk := lb_6 hb
  have hN := hk.1
  refine lb_me hb (fun h Q hx hq => me_X7_mid hx hq) (fun _ => rfl) (fun _ => rfl) (fun G hG => ?_)
  have t_0 := nI_toInt (n := p) (by omega)
  have h0' : 0 < cN (nowC S) := h0
  have e : yMid (nI p) S = (1, tlP S (miK (nowC S) p (2 ^ cN (nowC S))) (12 ^ cN (nowC S))) := by
    unfold yMid
    rw [if_pos ⟨by omega, by omega⟩, if_neg (by omega), rn_n (by omega)]
  rw [e] at hG ⊢
  exact hQ G _ _ _ ⟨hG, rfl, rfl, rfl, rfl⟩ rfl rfl (miP_i hN hp)
