/-! the law's calls, with what they answer -/
abbrev RW : Type := (Nat → Option Nat) × (Nat → Nat → Int32)
abbrev cc (B : AC) : CT := hsT B (cT B.1)
def LX (z c : Nat) (H : bw_H) (S : ST) (A : LY) (W T0 : RW) (B : AC) (K0 : Nat → Option AC) : Prop := LB z c H S A ∧ S.1 = W ∧ S.2.1 = T0 ∧ sA S = B ∧ sK S = K0
theorem lx_k {z c : Nat} {H : bw_H} {S : ST} {A : LY} {W T0 : RW} {B : AC} {K0 : Nat → Option AC} (hl : LX z c H S A W T0 B K0) : co_k (cc B) := by
  obtain ⟨hb, rfl, rfl, rfl, rfl⟩ := hl
  exact lb_6 hb
theorem lx_ac {z c : Nat} {H : bw_H} {S : ST} {A : LY} {W T0 : RW} {B : AC} {K0 : Nat → Option AC} (hl : LX z c H S A W T0 B K0) : ac_k B := by
  obtain ⟨hb, rfl, rfl, rfl, rfl⟩ := hl
  exact lb_ac hb
theorem lx_tells {X : Nat × (Nat → Int32)} {Q : Option Value → bw_H → Prop} {h : bw_H} {z c : Nat} {S : ST} {A : LY} {W T0 : RW} {B : AC} {K0 : Nat → Option AC} (hl : LX z c h S A W T0 B K0) {i t : Nat} (hi : i < cN (cc B)) (ht : t < 6) (hQ : ∀ G S', LX z c G S' A W T0 B K0 → Q (some (.int (anC (cc B) i t))) G) : bw_me X 5 bm_X7_tells false [.ref 0, .int (nI i), .int (nI t)] h Q := by
  obtain ⟨hb, rfl, rfl, rfl, rfl⟩ := hl
  have hk := lb_6 hb
  have hN := hk.1
  refine lb_me hb (fun h Q hx hq => me_X7_tells hx hq) (fun _ => rfl) (fun _ => rfl) (fun G hG => ?_)
  have e : yTells (nI i) (nI t) S = (anC (nowC S) i t, S) := by
    have hi2 : i < cN (nowC S) := hi
    unfold yTells
    rw [if_pos ⟨isn_t hi2 (by omega), isn_t ht (by decide)⟩, rn_n (by omega), rn_n (by omega)]
    rfl
  rw [e] at hG ⊢
  exact hQ G _ ⟨hG, rfl, rfl, rfl, rfl⟩
theorem lx_asked {X : Nat × (Nat → Int32)} {Q : Option Value → bw_H → Prop} {h : bw_H} {z c : Nat} {S : ST} {A : LY} {W T0 : RW} {B : AC} {K0 : Nat → Option AC} (hl : LX z c h S A W T0 B K0)  (hQ : ∀ G, LX z c G S A W T0 B K0 → Q (some (.int (sQ S))) G) : bw_me X 0 bm_X7_asked false [.ref 0] h Q := by
  obtain ⟨hb, rfl, rfl, rfl, rfl⟩ := hl
  have hk := lb_6 hb
  have hN := hk.1
  refine lb_me hb (fun h Q hx hq => me_X7_asked hx hq) (fun _ => rfl) (fun _ => rfl) (fun G hG => ?_)
  skip
  exact hQ G ⟨hG, rfl, rfl, rfl, rfl⟩
theorem lx_count1 {X : Nat × (Nat → Int32)} {Q : Option Value → bw_H → Prop} {h : bw_H} {z c : Nat} {S : ST} {A : LY} {W T0 : RW} {B : AC} {K0 : Nat → Option AC} (hl : LX z c h S A W T0 B K0)  (hQ : ∀ G, LX z c G S A W T0 B K0 → Q (some (.int (nI (cD (cc B))))) G) : bw_me X 5 bm_X7_count false [.ref 0, .int 1] h Q := by
  obtain ⟨hb, rfl, rfl, rfl, rfl⟩ := hl
  have hk := lb_6 hb
  have hN := hk.1
  refine lb_me hb (fun h Q hx hq => me_X7_count hx hq) (fun _ => rfl) (fun _ => rfl) (fun G hG => ?_)
  have e : yCount 1 S = (nI (cnf S 1), S) := by
    unfold yCount
    rw [if_pos (by decide)]; rfl
  rw [e] at hG ⊢
  exact hQ G ⟨hG, rfl, rfl, rfl, rfl⟩
theorem lx_count2 {X : Nat × (Nat → Int32)} {Q : Option Value → bw_H → Prop} {h : bw_H} {z c : Nat} {S : ST} {A : LY} {W T0 : RW} {B : AC} {K0 : Nat → Option AC} (hl : LX z c h S A W T0 B K0)  (hQ : ∀ G, LX z c G S A W T0 B K0 → Q (some (.int (nI (cT B.1)))) G) : bw_me X 5 bm_X7_count false [.ref 0, .int 2] h Q := by
  obtain ⟨hb, rfl, rfl, rfl, rfl⟩ := hl
  have hk := lb_6 hb
  have hN := hk.1
  refine lb_me hb (fun h Q hx hq => me_X7_count hx hq) (fun _ => rfl) (fun _ => rfl) (fun G hG => ?_)
  have e : yCount 2 S = (nI (cnf S 2), S) := by
    unfold yCount
    rw [if_pos (by decide)]; rfl
  rw [e] at hG ⊢
  exact hQ G ⟨hG, rfl, rfl, rfl, rfl⟩
theorem lx_count3 {X : Nat × (Nat → Int32)} {Q : Option Value → bw_H → Prop} {h : bw_H} {z c : Nat} {S : ST} {A : LY} {W T0 : RW} {B : AC} {K0 : Nat → Option AC} (hl : LX z c h S A W T0 B K0)  (hQ : ∀ G, LX z c G S A W T0 B K0 → Q (some (.int (nI (cW (cc B))))) G) : bw_me X 5 bm_X7_count false [.ref 0, .int 3] h Q := by
  obtain ⟨hb, rfl, rfl, rfl, rfl⟩ := hl
  have hk := lb_6 hb
  have hN := hk.1
  refine lb_me hb (fun h Q hx hq => me_X7_count hx hq) (fun _ => rfl) (fun _ => rfl) (fun G hG => ?_)
  have e : yCount 3 S = (nI (cnf S 3), S) := by
    unfold yCount
    rw [if_pos (by decide)]; rfl
  rw [e] at hG ⊢
  exact hQ G ⟨hG, rfl, rfl, rfl, rfl⟩
theorem lx_count4 {X : Nat × (Nat → Int32)} {Q : Option Value → bw_H → Prop} {h : bw_H} {z c : Nat} {S : ST} {A : LY} {W T0 : RW} {B : AC} {K0 : Nat → Option AC} (hl : LX z c h S A W T0 B K0)  (hQ : ∀ G, LX z c G S A W T0 B K0 → Q (some (.int (nI (sho (taC (cc B)) (2 ^ cN (cc B) - 1))))) G) : bw_me X 5 bm_X7_count false [.ref 0, .int 4] h Q := by
  obtain ⟨hb, rfl, rfl, rfl, rfl⟩ := hl
  have hk := lb_6 hb
  have hN := hk.1
  refine lb_me hb (fun h Q hx hq => me_X7_count hx hq) (fun _ => rfl) (fun _ => rfl) (fun G hG => ?_)
  have e : yCount 4 S = (nI (cnf S 4), S) := by
    unfold yCount
    rw [if_pos (by decide)]; rfl
  rw [e] at hG ⊢
  exact hQ G ⟨hG, rfl, rfl, rfl, rfl⟩
theorem lx_count5 {X : Nat × (Nat → Int32)} {Q : Option Value → bw_H → Prop} {h : bw_H} {z c : Nat} {S : ST} {A : LY} {W T0 : RW} {B : AC} {K0 : Nat → Option AC} (hl : LX z c h S A W T0 B K0)  (hQ : ∀ G, LX z c G S A W T0 B K0 → Q (some (.int (nI (smN (cR (cc B)) (cN (cc B)))))) G) : bw_me X 5 bm_X7_count false [.ref 0, .int 5] h Q := by
  obtain ⟨hb, rfl, rfl, rfl, rfl⟩ := hl
  have hk := lb_6 hb
  have hN := hk.1
  refine lb_me hb (fun h Q hx hq => me_X7_count hx hq) (fun _ => rfl) (fun _ => rfl) (fun G hG => ?_)
  have e : yCount 5 S = (nI (cnf S 5), S) := by
    unfold yCount
    rw [if_pos (by decide)]; rfl
  rw [e] at hG ⊢
  exact hQ G ⟨hG, rfl, rfl, rfl, rfl⟩
theorem lx_shown {X : Nat × (Nat → Int32)} {Q : Option Value → bw_H → Prop} {h : bw_H} {z c : Nat} {S : ST} {A : LY} {W T0 : RW} {B : AC} {K0 : Nat → Option AC} (hl : LX z c h S A W T0 B K0) {s : Nat} (hs : s < 2 ^ cN (cc B)) (h0 : 0 < cN (cc B)) (hQ : ∀ G S', LX z c G S' A W T0 B K0 → sQ S' = nI (tie (taC (cc B)) s &&& tld (taC (cc B)) s) → Q (some (.int (nI (sho (taC (cc B)) s)))) G) : bw_me X 4 bm_X7_shown false [.ref 0, .int (nI s)] h Q := by
  obtain ⟨hb, rfl, rfl, rfl, rfl⟩ := hl
  have hk := lb_6 hb
  have hN := hk.1
  refine lb_me hb (fun h Q hx hq => me_X7_shown hx hq) (fun _ => rfl) (fun _ => rfl) (fun G hG => ?_)
  have e : yShown (nI s) S = (nI (sho (taC (nowC S)) s), wQ S (nI (tie (taC (nowC S)) s &&& tld (taC (nowC S)) s))) := by
    have hs2 : s < 2 ^ cN (nowC S) := hs
    have h64 := p2N hN
    have h1 : ¬ cN (nowC S) = 0 := by have : 0 < cN (nowC S) := h0; omega
    unfold yShown
    rw [if_pos (isn_t hs2 (by omega)), if_neg h1, rn_n (by omega)]
  rw [e] at hG ⊢
  exact hQ G _ ⟨hG, rfl, rfl, rfl, rfl⟩ rfl
theorem lx_duel {X : Nat × (Nat → Int32)} {Q : Option Value → bw_H → Prop} {h : bw_H} {z c : Nat} {S : ST} {A : LY} {W T0 : RW} {B : AC} {K0 : Nat → Option AC} (hl : LX z c h S A W T0 B K0) {t n : Nat} (ht : t < 6) (hn : n ≤ 2) (h0 : 0 < cN (cc B)) (hQ : ∀ G S', LX z c G S' A W T0 B K0 → sQ S' = Int32.ofInt (plv (2 * n) (opT (cc B) (2 ^ cN (cc B) - 1) t)) → Q (some (.int 1)) G) : bw_me X 8 bm_X7_duel false [.ref 0, .int (nI t), .int (nI n)] h Q := by
  obtain ⟨hb, rfl, rfl, rfl, rfl⟩ := hl
  have hk := lb_6 hb
  have hN := hk.1
  refine lb_me hb (fun h Q hx hq => me_X7_duel hx hq) (fun _ => rfl) (fun _ => rfl) (fun G hG => ?_)
  have e : yDuel (nI t) (nI n) S = (1, wQ S (Int32.ofInt (plv (2 * n) (opT (nowC S) (2 ^ cN (nowC S) - 1) t)))) := by
    have t_0 := nI_toInt (n := n) (by omega)
    have h1 : ¬ cN (nowC S) = 0 := by have : 0 < cN (nowC S) := h0; omega
    unfold yDuel
    rw [if_pos ⟨isn_t ht (by decide), by omega, by omega⟩, if_neg h1, rn_n (by omega), rn_n (by omega)]
  rw [e] at hG ⊢
  exact hQ G _ ⟨hG, rfl, rfl, rfl, rfl⟩ rfl
theorem lx_call {X : Nat × (Nat → Int32)} {Q : Option Value → bw_H → Prop} {h : bw_H} {z c : Nat} {S : ST} {A : LY} {W T0 : RW} {B : AC} {K0 : Nat → Option AC} (hl : LX z c h S A W T0 B K0) {t : Nat} (ht : t < 6) (h0 : 0 < cN (cc B)) (hQ1 : ∀ G S', LX z c G S' A W T0 B K0 → (∀ s, 1 ≤ s → s < 2 ^ cN (cc B) → ¬ (sho (taC (cc B)) s).testBit t = true) → Q (some (.int (-9))) G) (hQ2 : ∀ G S' b, LX z c G S' A W T0 B K0 → sQ S' = nI b → 1 ≤ b → b < 2 ^ cN (cc B) → (sho (taC (cc B)) b).testBit t = true → (∀ s, 1 ≤ s → s < 2 ^ cN (cc B) → (sho (taC (cc B)) s).testBit t = true → bc b ≤ bc s) → Q (some (.int (nI (bc b)))) G) : bw_me X 4 bm_X7_call false [.ref 0, .int (nI t)] h Q := by
  obtain ⟨hb, rfl, rfl, rfl, rfl⟩ := hl
  have hk := lb_6 hb
  have hN := hk.1
  refine lb_me hb (fun h Q hx hq => me_X7_call hx hq) (fun _ => rfl) (fun _ => rfl) (fun G hG => ?_)
  have h1 : ¬ cN (nowC S) = 0 := by have : 0 < cN (nowC S) := h0; omega
  have hp : 1 ≤ 2 ^ cN (nowC S) := Nat.one_le_two_pow
  obtain ⟨c1, c2, c3⟩ := cal_s S t (2 ^ cN (nowC S) - 1)
  by_cases hz : (cal S t (2 ^ cN (nowC S) - 1)).1 = 0
  · have e : yCall (nI t) S = (-9, S) := by
      unfold yCall
      rw [if_pos (isn_t ht (by decide)), if_neg h1, rn_n (by omega), if_pos hz]
    rw [e] at hG ⊢
    exact hQ1 G _ ⟨hG, rfl, rfl, rfl, rfl⟩ (fun s h1 h2 => c1 hz s h1 (by have : s < 2 ^ cN (nowC S) := h2; omega))
  · obtain ⟨d1, d2, d3, d4⟩ := c2 hz
    have e : yCall (nI t) S = (nI (bc (cal S t (2 ^ cN (nowC S) - 1)).1), wQ S (nI (cal S t (2 ^ cN (nowC S) - 1)).1)) := by
      unfold yCall
      rw [if_pos (isn_t ht (by decide)), if_neg h1, rn_n (by omega), if_neg hz]
    rw [e] at hG ⊢
    exact hQ2 G _ _ ⟨hG, rfl, rfl, rfl, rfl⟩ rfl (by omega) (by show _ < 2 ^ cN (nowC S); omega) d3 (fun s h1 h2 h3 => cst_bc (d4 s h1 (by have : s < 2 ^ cN (nowC S) := h2; omega) h3))
  skip
theorem lx_told {X : Nat × (Nat → Int32)} {Q : Option Value → bw_H → Prop} {h : bw_H} {z c : Nat} {S : ST} {A : LY} {W T0 : RW} {B : AC} {K0 : Nat → Option AC} (hl : LX z c h S A W T0 B K0) {i w : Nat} (hi : i < cN (cc B)) (hw : w < 6) (hQ : ∀ G S', LX z c G S' A W T0 B K0 → Q (some (.int (nI (obf (cc B) i w)))) G) : bw_me X 5 bm_L_told false [.ref 0, .int (nI i), .int (nI w)] h Q := by
  obtain ⟨hb, rfl, rfl, rfl, rfl⟩ := hl
  exact me_L_told hb hi hw (fun G hG => hQ G _ ⟨hG, rfl, rfl, rfl, rfl⟩)
theorem lx_askd {X : Nat × (Nat → Int32)} {Q : Option Value → bw_H → Prop} {h : bw_H} {z c : Nat} {S : ST} {A : LY} {W T0 : RW} {B : AC} {K0 : Nat → Option AC} (hl : LX z c h S A W T0 B K0) {v : Int32} (hQ : ∀ G, LX z c G S A W T0 B K0 → Q (some (.int (if v < 0 then -100 else sQ S))) G) : bw_me X 1 bm_L_asked false [.ref 0, .int v] h Q := by
  obtain ⟨hb, rfl, rfl, rfl, rfl⟩ := hl
  exact me_L_asked hb (fun G hG => hQ G ⟨hG, rfl, rfl, rfl, rfl⟩)
