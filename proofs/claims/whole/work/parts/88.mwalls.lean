/-! the reference: what to ask next -/
def pcv (C : CT) (P : Nat → Bool) (i x v : Nat) : Nat → Nat := cnt (fun d => P d && decide (prF (anC C i x d) = nI v))
theorem cnt_split {P Q : Nat → Bool} : ∀ n, cnt (fun d => P d && Q d) n + cnt (fun d => P d && !Q d) n = cnt P n
  | 0 => rfl
  | n + 1 => by
    have ih := cnt_split (P := P) (Q := Q) n
    show (cnt (fun d => P d && Q d) n + (if (P n && Q n) = true then 1 else 0)) + (cnt (fun d => P d && !Q d) n + (if (P n && !Q n) = true then 1 else 0)) = cnt P n + (if P n = true then 1 else 0)
    cases P n <;> cases Q n <;> simp <;> omega
theorem anC_d {C : CT} {i x d : Nat} (hx : x < 6) : anC C i x d = if d.testBit x = true then anC C i x 63 else anC C i x 0 := by
  unfold anC
  rw [ans_sya hx, ans_sya hx, ans_sya hx]
  unfold sya
  rw [t63 x hx, Nat.zero_testBit]
  cases d.testBit x <;> rfl
theorem trc_and {a b x : Nat} (ha : a < 64) (hx : x < 6) : cnt (fun d => tq a b d && d.testBit x) 64 = trc (a ||| 2 ^ x) b := cnt_c 64 (fun d hd => (tq_a hx ha hd).symm)
theorem trc_not {a b x : Nat} (ha : a < 64) (hx : x < 6) : cnt (fun d => tq a b d && !d.testBit x) 64 = trc a b - trc (a ||| 2 ^ x) b := by
  have h := cnt_split (P := tq a b) (Q := fun d => d.testBit x) 64
  have h2 := trc_and (b := b) ha hx
  have h3 : trc a b = cnt (tq a b) 64 := rfl
  have h4 : cnt (fun d => tq a b d && (fun d => d.testBit x) d) 64 = trc (a ||| 2 ^ x) b := h2
  have h5 : cnt (fun d => tq a b d && !(fun d => d.testBit x) d) 64 = cnt (fun d => tq a b d && !d.testBit x) 64 := rfl
  omega
theorem pcv_e {C : CT} {a b i x v : Nat} (ha : a < 64) (hx : x < 6) : pcv C (tq a b) i x v 64 = (if prF (anC C i x 63) = nI v then trc (a ||| 2 ^ x) b else 0) + (if prF (anC C i x 0) = nI v then trc a b - trc (a ||| 2 ^ x) b else 0) := by
  have h := cnt_split (P := fun d => tq a b d && decide (prF (anC C i x d) = nI v)) (Q := fun d => d.testBit x) 64
  have e1 : cnt (fun d => (fun d => tq a b d && decide (prF (anC C i x d) = nI v)) d && (fun d => d.testBit x) d) 64 = if prF (anC C i x 63) = nI v then trc (a ||| 2 ^ x) b else 0 := by
    by_cases z : prF (anC C i x 63) = nI v
    · rw [if_pos z, ← trc_and ha hx]
      refine cnt_c 64 (fun d hd => ?_)
      show ((tq a b d && decide (prF (anC C i x d) = nI v)) && d.testBit x) = (tq a b d && d.testBit x)
      rw [anC_d hx]
      cases y : d.testBit x with
      | true => rw [if_pos rfl, decide_eq_true z, Bool.and_true]
      | false => rw [Bool.and_false, Bool.and_false]
    · rw [if_neg z]
      refine (cnt_0 64).mpr (fun d hd => ?_)
      show ((tq a b d && decide (prF (anC C i x d) = nI v)) && d.testBit x) = false
      rw [anC_d hx]
      cases y : d.testBit x with
      | true => rw [if_pos rfl, decide_eq_false z, Bool.and_false, Bool.false_and]
      | false => rw [Bool.and_false]
  have e2 : cnt (fun d => (fun d => tq a b d && decide (prF (anC C i x d) = nI v)) d && !(fun d => d.testBit x) d) 64 = if prF (anC C i x 0) = nI v then trc a b - trc (a ||| 2 ^ x) b else 0 := by
    by_cases z : prF (anC C i x 0) = nI v
    · rw [if_pos z, ← trc_not ha hx]
      refine cnt_c 64 (fun d hd => ?_)
      show ((tq a b d && decide (prF (anC C i x d) = nI v)) && !d.testBit x) = (tq a b d && !d.testBit x)
      rw [anC_d hx]
      cases y : d.testBit x with
      | true => rw [Bool.not_true, Bool.and_false, Bool.and_false]
      | false => rw [if_neg (by decide), decide_eq_true z, Bool.and_true]
    · rw [if_neg z]
      refine (cnt_0 64).mpr (fun d hd => ?_)
      show ((tq a b d && decide (prF (anC C i x d) = nI v)) && !d.testBit x) = false
      rw [anC_d hx]
      cases y : d.testBit x with
      | true => rw [Bool.not_true, Bool.and_false]
      | false => rw [if_neg (by decide), decide_eq_false z, Bool.and_false, Bool.false_and]
  rw [← e1, ← e2]
  exact h.symm
def mx3 (p q r : Nat) : Nat := if max p q < r then r else max p q
theorem mx3_e {C : CT} {a b i x : Nat} (ha : a < 64) (hx : x < 6) : mx3 (pcv C (tq a b) i x 0 64) (pcv C (tq a b) i x 1 64) (pcv C (tq a b) i x 2 64) = gpt C a b i x := by
  have hor := trc_or (b := b) ha hx
  have hs : sme C i x = decide (anC C i x 0 = anC C i x 63) := rfl
  rw [pcv_e ha hx, pcv_e ha hx, pcv_e ha hx]
  unfold gpt mx3
  rw [hs]
  generalize trc (a ||| 2 ^ x) b = W at *
  generalize trc a b = T at *
  rcases anC_3 C i x 63 with h1 | h1 | h1 <;> rcases anC_3 C i x 0 with h2 | h2 | h2 <;> rw [h1, h2]
  · show (if max (0 + 0) (0 + 0) < W + (T - W) then W + (T - W) else max (0 + 0) (0 + 0)) = T
    split <;> omega
  · show (if max (0 + (T - W)) (0 + 0) < W + 0 then W + 0 else max (0 + (T - W)) (0 + 0)) = max W (T - W)
    split <;> omega
  · show (if max (0 + 0) (0 + (T - W)) < W + 0 then W + 0 else max (0 + 0) (0 + (T - W))) = max W (T - W)
    split <;> omega
  · show (if max (W + 0) (0 + 0) < 0 + (T - W) then 0 + (T - W) else max (W + 0) (0 + 0)) = max W (T - W)
    split <;> omega
  · show (if max (W + (T - W)) (0 + 0) < 0 + 0 then 0 + 0 else max (W + (T - W)) (0 + 0)) = T
    split <;> omega
  · show (if max (W + 0) (0 + (T - W)) < 0 + 0 then 0 + 0 else max (W + 0) (0 + (T - W))) = max W (T - W)
    split <;> omega
  · show (if max (0 + 0) (W + 0) < 0 + (T - W) then 0 + (T - W) else max (0 + 0) (W + 0)) = max W (T - W)
    split <;> omega
  · show (if max (0 + (T - W)) (W + 0) < 0 + 0 then 0 + 0 else max (0 + (T - W)) (W + 0)) = max W (T - W)
    split <;> omega
  · show (if max (0 + 0) (W + (T - W)) < 0 + 0 then 0 + 0 else max (0 + 0) (W + (T - W))) = T
    split <;> omega
def mnx (C : CT) (a b : Nat) : Nat → Option Nat × Nat
  | 0 => (none, 1000000)
  | m + 1 => if 0 < trc a b ∧ m % 8 < 6 ∧ gpt C a b (m / 8) (m % 8) < (mnx C a b m).2 then (some m, gpt C a b (m / 8) (m % 8)) else mnx C a b m
theorem mnx_0 {C : CT} {a b : Nat} (h : trc a b = 0) : ∀ k, mnx C a b k = (none, 1000000)
  | 0 => rfl
  | k + 1 => by
    show (if 0 < trc a b ∧ k % 8 < 6 ∧ gpt C a b (k / 8) (k % 8) < (mnx C a b k).2 then (some k, gpt C a b (k / 8) (k % 8)) else mnx C a b k) = _
    rw [if_neg (fun z => by omega)]
    exact mnx_0 h k
theorem mnx_p {C : CT} {a b : Nat} (ha : a < 64) (h : 0 < trc a b) : ∀ k, (mnx C a b (k + 1)).1 = some (nxf C a b (k + 1)).1 ∧ (mnx C a b (k + 1)).2 = (nxf C a b (k + 1)).2
  | 0 => by
    have g := gpt_le C (b := b) (i := 0) ha (show 0 < 6 by decide)
    have e1 : mnx C a b 1 = if 0 < trc a b ∧ 0 % 8 < 6 ∧ gpt C a b (0 / 8) (0 % 8) < 1000000 then (some 0, gpt C a b (0 / 8) (0 % 8)) else (none, 1000000) := rfl
    have e2 : nxf C a b 1 = if 0 % 8 < 6 ∧ gpt C a b (0 / 8) (0 % 8) < 1000 then (0, gpt C a b (0 / 8) (0 % 8)) else (0, 1000) := rfl
    have g2 : gpt C a b (0 / 8) (0 % 8) ≤ 64 := g
    rw [e1, e2, if_pos ⟨h, by decide, by omega⟩, if_pos ⟨by decide, by omega⟩]
    exact ⟨rfl, rfl⟩
  | k + 1 => by
    obtain ⟨h1, h2⟩ := mnx_p (C := C) ha h k
    have e1 : mnx C a b (k + 1 + 1) = if 0 < trc a b ∧ (k + 1) % 8 < 6 ∧ gpt C a b ((k + 1) / 8) ((k + 1) % 8) < (mnx C a b (k + 1)).2 then (some (k + 1), gpt C a b ((k + 1) / 8) ((k + 1) % 8)) else mnx C a b (k + 1) := rfl
    have e2 : nxf C a b (k + 1 + 1) = if (k + 1) % 8 < 6 ∧ gpt C a b ((k + 1) / 8) ((k + 1) % 8) < (nxf C a b (k + 1)).2 then (k + 1, gpt C a b ((k + 1) / 8) ((k + 1) % 8)) else nxf C a b (k + 1) := rfl
    rw [e1, e2]
    by_cases z : (k + 1) % 8 < 6 ∧ gpt C a b ((k + 1) / 8) ((k + 1) % 8) < (nxf C a b (k + 1)).2
    · rw [if_pos ⟨h, z.1, by rw [h2]; exact z.2⟩, if_pos z]; exact ⟨rfl, rfl⟩
    · rw [if_neg (fun y => z ⟨y.2.1, by rw [← h2]; exact y.2.2⟩), if_neg z]; exact ⟨h1, h2⟩
theorem mnx_b {C : CT} {a b : Nat} (ha : a < 64) : ∀ k, (mnx C a b k).2 ≤ 1000000 ∧ ∀ x, (mnx C a b k).1 = some x → x < k
  | 0 => ⟨Nat.le_refl _, fun x z => by cases z⟩
  | k + 1 => by
    have ih := mnx_b (C := C) (b := b) ha k
    have e1 : mnx C a b (k + 1) = if 0 < trc a b ∧ k % 8 < 6 ∧ gpt C a b (k / 8) (k % 8) < (mnx C a b k).2 then (some k, gpt C a b (k / 8) (k % 8)) else mnx C a b k := rfl
    rw [e1]
    by_cases z : 0 < trc a b ∧ k % 8 < 6 ∧ gpt C a b (k / 8) (k % 8) < (mnx C a b k).2
    · rw [if_pos z]
      have g := gpt_le C (b := b) (i := k / 8) ha z.2.1
      exact ⟨by show gpt C a b (k / 8) (k % 8) ≤ _; omega, fun x y => by cases y; omega⟩
    · rw [if_neg z]; exact ⟨ih.1, fun x y => by have := ih.2 x y; omega⟩
theorem lk_at {S : ST} {j m q : Nat} (hl : lkf S j m) (hq : q < m / 2) : ∃ a v, sRc S j (2 * q) = nI a ∧ sRc S j (2 * q + 1) = nI v ∧ (rdA (sRc S j) 0 m).2.1 q = a / 8 ∧ (rdA (sRc S j) 0 m).2.2.1 q = a % 8 ∧ (rdA (sRc S j) 0 m).2.2.2 q = v ∧ a / 8 < cN (nowC S) ∧ a % 8 < 6 ∧ a < 48 ∧ v ≤ 2 := by
  obtain ⟨a, v, ea, ev, b1, b2, b3, b4⟩ := hl.2.2.2.2 q hq
  refine ⟨a, v, ea, ev, ?_, ?_, ?_, b1, b2, b3, b4⟩
  · show (sRc S j (0 + 2 * q)).toNatClampNeg / 8 = _; rw [Nat.zero_add, ea, nI_clamp (by omega)]
  · show (sRc S j (0 + 2 * q)).toNatClampNeg % 8 = _; rw [Nat.zero_add, ea, nI_clamp (by omega)]
  · show (sRc S j (0 + 2 * q + 1)).toNatClampNeg = _; rw [Nat.zero_add, ev, nI_clamp (by omega)]
def muC (C : CT) (A : LK) : Nat → Nat := orf (fun q => if (see (cK C (A.2.1 q)) (cR C (A.2.1 q)) (cV C (A.2.1 q)) (cE C (A.2.1 q))).testBit (A.2.2.1 q) = true then 2 ^ A.2.1 q else 0)
def spC (A : LK) : Nat → Nat := orf (fun q => if A.2.2.2 q = 2 then 0 else 2 ^ A.2.1 q)
def kpC (C : CT) (A : LK) : Nat → Nat := orf (fun q => if A.2.2.2 q = 2 ∧ (see (cK C (A.2.1 q)) (cR C (A.2.1 q)) (cV C (A.2.1 q)) (cE C (A.2.1 q))).testBit (A.2.2.1 q) = true then 2 ^ A.2.1 q else 0)
theorem wal_e {C : CT} {A : LK} {n : Nat} (h : ∀ q, q < n → A.2.1 q < 6) : muC C A n &&& (63 ^^^ spC A n) = kpC C A n &&& (63 ^^^ spC A n) := by
  apply Nat.eq_of_testBit_eq
  intro t
  rw [Nat.testBit_and, Nat.testBit_and]
  cases hs : (63 ^^^ spC A n).testBit t with
  | false => rw [Bool.and_false, Bool.and_false]
  | true =>
    rw [Bool.and_true, Bool.and_true]
    have key : (muC C A n).testBit t = true ↔ (kpC C A n).testBit t = true := by
      unfold muC kpC
      rw [orf_ex, orf_ex]
      constructor
      · rintro ⟨q, hq, h1⟩
        refine ⟨q, hq, ?_⟩
        by_cases z : (see (cK C (A.2.1 q)) (cR C (A.2.1 q)) (cV C (A.2.1 q)) (cE C (A.2.1 q))).testBit (A.2.2.1 q) = true
        · rw [if_pos z] at h1
          by_cases y : A.2.2.2 q = 2
          · rw [if_pos ⟨y, z⟩]; exact h1
          · exfalso
            have hsp : (spC A n).testBit t = true := by
              unfold spC
              rw [orf_ex]
              exact ⟨q, hq, by rw [if_neg y]; exact h1⟩
            have ht : t < 6 := by
              rw [Nat.testBit_two_pow] at h1
              have := of_decide_eq_true h1
              have := h q hq
              omega
            rw [Nat.testBit_xor, t63 t ht, hsp] at hs
            cases hs
        · rw [if_neg z, Nat.zero_testBit] at h1; cases h1
      · rintro ⟨q, hq, h1⟩
        refine ⟨q, hq, ?_⟩
        by_cases z : A.2.2.2 q = 2 ∧ (see (cK C (A.2.1 q)) (cR C (A.2.1 q)) (cV C (A.2.1 q)) (cE C (A.2.1 q))).testBit (A.2.2.1 q) = true
        · rw [if_pos z] at h1; rw [if_pos z.2]; exact h1
        · rw [if_neg z, Nat.zero_testBit] at h1; cases h1
    cases h1 : (muC C A n).testBit t with
    | true => exact (key.mp h1).symm
    | false =>
      cases h2 : (kpC C A n).testBit t with
      | true => rw [key.mpr h2] at h1; cases h1
      | false => rfl
set_option maxRecDepth 100000 in
set_option maxHeartbeats 4000000 in
theorem me_X8_walls {X : Nat × (Nat → Int32)} {Q : Option Value → bw_H → Prop} {h : bw_H} {S : ST} {r : Int32} (hm : MR h S) (hQ : PM h Q (yWalls r S)) : bw_me X 4 bm_X8_walls false [.ref 60, .int r] h Q := by
  have hv := mr_v hm
  have hk := mr_k hm
  have k1 := hk.1
  have hkC := hk
  have h2N := p2N k1
  have hp0 : 0 < 2 ^ cN (nowC S) := Nat.two_pow_pos _
  show bw_go _ 4 8 7 false (some .int) cX8_walls 0 [(0, .ref _), (1, .int _)] [] _ _
  refine go_aload_n dX8_walls_0 rfl ?_
  refine go_iload_n dX8_walls_1 rfl ?_
  refine go_cv (as := [.int _]) 3 dX8_walls_2 mt_8_222 (Or.inl rfl) rfl rfl (ms_lt hm.1 (by decide)) hm.1.1.2 (Nat.le_of_ble_eq_true rfl) (Nat.le_of_ble_eq_true rfl) (Nat.le_of_ble_eq_true rfl) (Nat.le_of_ble_eq_true rfl) (Nat.le_of_ble_eq_true rfl) ?_
  refine me_X8_refusesLooks hm (fun g hg hf => ?_)
  have hm00 := hm
  have hm := hg
  show bw_go _ _ _ _ _ _ _ 5 [(0, .ref _), (1, .int _)] ((.int _) :: []) _ _
  refine go_istore_n dX8_walls_5 (Nat.lt_of_lt_of_le (Nat.lt_succ_self _) (Nat.le_of_ble_eq_true rfl)) ?_
  show bw_go _ _ _ _ _ _ _ 6 [(2, .int _), (0, .ref _), (1, .int _)] ([]) _ _
  refine go_iload_n dX8_walls_6 rfl ?_
  refine go_if_eq (pc' := 12) dX8_walls_7 rfl (fun c_7 => ?_) (fun c_7 => ?_)
  · -- eq at 7: yes
    show bw_go _ _ _ _ _ _ _ 12 [(2, .int _), (0, .ref _), (1, .int _)] ([]) _ _
    obtain ⟨j, m, rfl, hl, hpos, e2⟩ := yRL_0 k1 c_7
    rw [e2] at hg
    have hm := hg
    have ha := lkf_a hl
    have hb := lkf_b hl
    have hv := mr_v hm
    have hkC := mr_k hm
    obtain ⟨hj, em, hm2, hm16, hl5⟩ := hl
    have hl : lkf S j m := ⟨hj, em, hm2, hm16, hl5⟩
    have em2 : bw_i g 65 j = nI m := by rw [(hm.2.2.2.1 j hj).1, em]; rfl
    refine go_iconst (0) dX8_walls_12 rfl ?_
    refine go_istore_n dX8_walls_13 (Nat.lt_of_lt_of_le (Nat.lt_succ_self _) (Nat.le_of_ble_eq_true rfl)) ?_
    show bw_go _ _ _ _ _ _ _ 14 [(3, .int _), (2, .int _), (0, .ref _), (1, .int _)] ([]) _ _
    refine go_iconst (0) dX8_walls_14 rfl ?_
    refine go_istore dX8_walls_15 (Nat.lt_of_lt_of_le (Nat.lt_succ_self _) (Nat.le_of_ble_eq_true rfl)) ?_
    show bw_go _ _ _ _ _ _ _ 17 [(4, .int _), (3, .int _), (2, .int _), (0, .ref _), (1, .int _)] ([]) _ _
    refine go_iconst (0) dX8_walls_17 rfl ?_
    refine go_istore dX8_walls_18 (Nat.lt_of_lt_of_le (Nat.lt_succ_self _) (Nat.le_of_ble_eq_true rfl)) ?_
    show bw_go _ _ _ _ _ _ _ 20 [(5, .int _), (4, .int _), (3, .int _), (2, .int _), (0, .ref _), (1, .int _)] ([]) _ _
    refine go_ls [(5, .int _), (4, .int _), (3, .int _), (0, .ref _), (1, .int _), (2, .int _)] (by show List.Nodup ([5, 4, 3, 0, 1, 2] : List Nat); decide) (by show List.Nodup ([5, 4, 3, 2, 0, 1] : List Nat); decide) (le_cons rfl (le_cons rfl (le_cons rfl (le_cons rfl (le_cons rfl (le_cons rfl (le_nil _))))))) ?_
    refine go_for (P := fun q => bw_go X 4 8 7 false (some .int) cX8_walls 20 [(5, .int (nI (2 * q))), (4, .int (nI (spC (rdA (sRc S j) 0 m) q))), (3, .int (nI (muC (nowC S) (rdA (sRc S j) 0 m) q))), (0, .ref (60)), (1, .int (nI j)), (2, .int ((yRL (nI j) S).1))] [] g Q) (N := m / 2) (fun q hq K => ?_) ?_ (0) (Nat.zero_le _)
    · -- a turn
      obtain ⟨a, v, ea, ev, f1, f2, f3, b1, b2, b3, b4⟩ := lk_at hl hq
      show bw_go _ _ _ _ _ _ _ 20 [(5, .int _), (4, .int _), (3, .int _), (0, .ref _), (1, .int _), (2, .int _)] ([]) _ _
      refine go_iload dX8_walls_20 rfl ?_
      refine go_iconst (1) dX8_walls_22 rfl ?_
      refine go_iadd dX8_walls_23 ?_
      rw [nI_1]
      refine go_aload_n dX8_walls_24 rfl ?_
      refine go_gfr dX8_walls_25 fl_8_23 rfl (ms_lt hm.1 (by decide)) hm.1.1.2 hm.1.2.1.2.2.2.2.1 ?_
      refine go_iload_n dX8_walls_28 rfl ?_
      refine go_ia dX8_walls_29 hm.1.2.2.2.2.2.2.1 (ms_lt hm.1 (by decide)) (n_in (N := 6) hj (by decide)) ?_
      rw [nI_clamp (by omega), em2]
      refine go_icmp_ge (pc' := 134) dX8_walls_30 rfl (fun c_30 => ?_) (fun c_30 => ?_)
      · -- ge at 30: yes
        exfalso; have t_0 := nI_toInt (n := 2 * q + 1) (by omega); have t_1 := nI_toInt (n := m) (by omega); simp only [i_le, i_lt, i_eq, bi_eq] at c_30; omega
      · -- ge at 30: no
        show bw_go _ _ _ _ _ _ _ 33 [(5, .int _), (4, .int _), (3, .int _), (0, .ref _), (1, .int _), (2, .int _)] ([]) _ _
        refine go_aload_n dX8_walls_33 rfl ?_
        refine go_gfr dX8_walls_34 fl_8_20 rfl (ms_lt hm.1 (by decide)) hm.1.1.2 hm.1.2.1.2.2.2.1 ?_
        refine go_bipush (40) dX8_walls_37 rfl ?_
        refine go_iload_n dX8_walls_39 rfl ?_
        refine go_imul dX8_walls_40 ?_
        rw [show (40 : Int32) = nI 40 from rfl, nmul]
        refine go_iload dX8_walls_41 rfl ?_
        refine go_iadd dX8_walls_43 ?_
        rw [nI_add]
        refine go_ia dX8_walls_44 hm.1.2.2.2.2.2.1 (ms_lt hm.1 (by decide)) (n_in (N := 240) (by omega) (by decide)) ?_
        rw [nI_clamp (by omega), (hm.2.2.2.1 j hj).2.2 m em (2 * q) (by omega), ea]
        refine go_bipush (8) dX8_walls_45 rfl ?_
        rw [show (8 : Int32) = nI 8 from rfl]
        refine go_idiv dX8_walls_47 (by decide) ?_
        rw [nI_div (by omega) (by decide) (by decide)]
        refine go_istore dX8_walls_48 (Nat.lt_of_lt_of_le (Nat.lt_succ_self _) (Nat.le_of_ble_eq_true rfl)) ?_
        show bw_go _ _ _ _ _ _ _ 50 [(6, .int _), (5, .int _), (4, .int _), (3, .int _), (0, .ref _), (1, .int _), (2, .int _)] ([]) _ _
        refine go_iload_n dX8_walls_50 rfl ?_
        refine go_aload_n dX8_walls_51 rfl ?_
        refine go_aload_n dX8_walls_52 rfl ?_
        refine go_gfr dX8_walls_53 fl_8_7 rfl (ms_lt hm.1 (by decide)) hm.1.1.2 hm.1.2.1.1 ?_
        refine go_iload dX8_walls_56 rfl ?_
        refine go_aload_n dX8_walls_58 rfl ?_
        refine go_gfr dX8_walls_59 fl_8_20 rfl (ms_lt hm.1 (by decide)) hm.1.1.2 hm.1.2.1.2.2.2.1 ?_
        refine go_bipush (40) dX8_walls_62 rfl ?_
        refine go_iload_n dX8_walls_64 rfl ?_
        refine go_imul dX8_walls_65 ?_
        rw [show (40 : Int32) = nI 40 from rfl, nmul]
        refine go_iload dX8_walls_66 rfl ?_
        refine go_iadd dX8_walls_68 ?_
        rw [nI_add]
        refine go_ia dX8_walls_69 hm.1.2.2.2.2.2.1 (ms_lt hm.1 (by decide)) (n_in (N := 240) (by omega) (by decide)) ?_
        rw [nI_clamp (by omega), (hm.2.2.2.1 j hj).2.2 m em (2 * q) (by omega), ea]
        refine go_bipush (8) dX8_walls_70 rfl ?_
        rw [show (8 : Int32) = nI 8 from rfl]
        refine go_irem dX8_walls_72 (by decide) ?_
        rw [nI_rem (by omega) (by decide) (by decide)]
        refine go_aload_n dX8_walls_73 rfl ?_
        refine go_gfr dX8_walls_74 fl_8_7 rfl (ms_lt hm.1 (by decide)) hm.1.1.2 hm.1.2.1.1 ?_
        refine go_iconst (1) dX8_walls_77 rfl ?_
        refine go_ia dX8_walls_78 hm.1.2.2.1 (ms_lt hm.1 (by decide)) (by decide) ?_
        rw [show (1 : Int32).toNatClampNeg = 1 from rfl, hv.2.1]
        refine go_cv (as := [.ref _, .int _, .int _, .int _]) 3 dX8_walls_79 mt_8_140 (Or.inl rfl) rfl rfl (ms_lt hm.1 (by decide)) hm.1.1.2 (Nat.le_of_ble_eq_true rfl) (Nat.le_of_ble_eq_true rfl) (Nat.le_of_ble_eq_true rfl) (Nat.le_of_ble_eq_true rfl) (Nat.le_of_ble_eq_true rfl) ?_
        refine me_X8_sayOf hm.1 (ms_lt hm.1 (by decide)) hm.1.2.2.1 hv hkC b1 b2 hkC.2.1 ?_
        show bw_go _ _ _ _ _ _ _ 82 [(6, .int _), (5, .int _), (4, .int _), (3, .int _), (0, .ref _), (1, .int _), (2, .int _)] ((.int _) :: (.int _) :: []) _ _
        refine go_bipush (-9) dX8_walls_82 rfl ?_
        refine go_icmp_eq (pc' := 94) dX8_walls_84 rfl (fun c_84 => ?_) (fun c_84 => ?_)
        · -- eq at 84: yes
          show bw_go _ _ _ _ _ _ _ 94 [(6, .int _), (5, .int _), (4, .int _), (3, .int _), (0, .ref _), (1, .int _), (2, .int _)] ((.int _) :: []) _ _
          refine go_iconst (0) dX8_walls_94 rfl ?_
          refine go_ior dX8_walls_95 ?_
          first | rw [or_n] | rw [show (0 : Int32) = nI 0 from rfl, or_n, Nat.or_zero]
          refine go_istore_n dX8_walls_96 (Nat.lt_of_lt_of_le (Nat.lt_succ_self _) (Nat.le_of_ble_eq_true rfl)) ?_
          show bw_go _ _ _ _ _ _ _ 97 [(3, .int _), (6, .int _), (5, .int _), (4, .int _), (0, .ref _), (1, .int _), (2, .int _)] ([]) _ _
          refine go_iload dX8_walls_97 rfl ?_
          refine go_aload_n dX8_walls_99 rfl ?_
          refine go_gfr dX8_walls_100 fl_8_20 rfl (ms_lt hm.1 (by decide)) hm.1.1.2 hm.1.2.1.2.2.2.1 ?_
          refine go_bipush (40) dX8_walls_103 rfl ?_
          refine go_iload_n dX8_walls_105 rfl ?_
          refine go_imul dX8_walls_106 ?_
          rw [show (40 : Int32) = nI 40 from rfl, nmul]
          refine go_iload dX8_walls_107 rfl ?_
          refine go_iadd dX8_walls_109 ?_
          rw [nI_add]
          refine go_iconst (1) dX8_walls_110 rfl ?_
          refine go_iadd dX8_walls_111 ?_
          rw [nI_1]
          refine go_ia dX8_walls_112 hm.1.2.2.2.2.2.1 (ms_lt hm.1 (by decide)) (n_in (N := 240) (by omega) (by decide)) ?_
          rw [nI_clamp (by omega), show 40 * j + 2 * q + 1 = 40 * j + (2 * q + 1) from rfl, (hm.2.2.2.1 j hj).2.2 m em (2 * q + 1) (by omega), ev]
          refine go_iconst (2) dX8_walls_113 rfl ?_
          refine go_icmp_ge (pc' := 124) dX8_walls_114 rfl (fun c_114 => ?_) (fun c_114 => ?_)
          · -- ge at 114: yes
            show bw_go _ _ _ _ _ _ _ 124 [(3, .int _), (6, .int _), (5, .int _), (4, .int _), (0, .ref _), (1, .int _), (2, .int _)] ((.int _) :: []) _ _
            refine go_iconst (0) dX8_walls_124 rfl ?_
            refine go_ior dX8_walls_125 ?_
            first | rw [or_n] | rw [show (0 : Int32) = nI 0 from rfl, or_n, Nat.or_zero]
            refine go_istore dX8_walls_126 (Nat.lt_of_lt_of_le (Nat.lt_succ_self _) (Nat.le_of_ble_eq_true rfl)) ?_
            show bw_go _ _ _ _ _ _ _ 128 [(4, .int _), (3, .int _), (6, .int _), (5, .int _), (0, .ref _), (1, .int _), (2, .int _)] ([]) _ _
            refine go_iinc dX8_walls_128 rfl (show nI (2 * q) + Int32.ofInt 2 = nI (2 * (q + 1)) from nI_add _ 2) (Nat.lt_of_lt_of_le (Nat.lt_succ_self _) (Nat.le_of_ble_eq_true rfl)) ?_
            show bw_go _ _ _ _ _ _ _ 131 [(5, .int _), (4, .int _), (3, .int _), (6, .int _), (0, .ref _), (1, .int _), (2, .int _)] ([]) _ _
            refine go_goto (pc' := 20) dX8_walls_131 rfl ?_
            refine go_ls [(5, .int _), (4, .int _), (3, .int _), (0, .ref _), (1, .int _), (2, .int _)] (by show List.Nodup ([5, 4, 3, 0, 1, 2] : List Nat); decide) (by show List.Nodup ([5, 4, 3, 6, 0, 1, 2] : List Nat); decide) (le_cons rfl (le_cons rfl (le_cons rfl (le_cons rfl (le_cons rfl (le_cons rfl (le_nil _))))))) ?_
            have e1 : muC (nowC S) (rdA (sRc S j) 0 m) (q + 1) = muC (nowC S) (rdA (sRc S j) 0 m) q ||| (if (see (cK (nowC S) ((rdA (sRc S j) 0 m).2.1 q)) (cR (nowC S) ((rdA (sRc S j) 0 m).2.1 q)) (cV (nowC S) ((rdA (sRc S j) 0 m).2.1 q)) (cE (nowC S) ((rdA (sRc S j) 0 m).2.1 q))).testBit ((rdA (sRc S j) 0 m).2.2.1 q) = true then 2 ^ (rdA (sRc S j) 0 m).2.1 q else 0) := rfl
            have e2 : spC (rdA (sRc S j) 0 m) (q + 1) = spC (rdA (sRc S j) 0 m) q ||| (if (rdA (sRc S j) 0 m).2.2.2 q = 2 then 0 else 2 ^ (rdA (sRc S j) 0 m).2.1 q) := rfl
            rw [f1, f2] at e1
            rw [f1, f3] at e2
            have t_0 := nI_toInt (n := v) (by omega)
            have l_2 : (2 : Int32).toInt = 2 := rfl
            simp only [i_le] at c_114
            have z9 := sya_9 (k := cK (nowC S) (a / 8)) (e := cE (nowC S) (a / 8)) (w := cR (nowC S) (a / 8)) (v := cV (nowC S) (a / 8)) (t := a % 8) (dn := cD (nowC S))
            first
            | rw [if_neg (z9.mp c_84), Nat.or_zero] at e1
            | rw [if_pos (Decidable.of_not_not (fun z => c_84 (z9.mpr z)))] at e1
            first
            | rw [if_pos (show v = 2 by omega), Nat.or_zero] at e2
            | rw [if_neg (show ¬ v = 2 by omega)] at e2
            rw [e1, e2] at K
            exact K
          · -- ge at 114: no
            show bw_go _ _ _ _ _ _ _ 117 [(3, .int _), (6, .int _), (5, .int _), (4, .int _), (0, .ref _), (1, .int _), (2, .int _)] ((.int _) :: []) _ _
            refine go_iconst (1) dX8_walls_117 rfl ?_
            refine go_iload dX8_walls_118 rfl ?_
            refine go_ishl dX8_walls_120 ?_
            rw [sh_t (a / 8) (by omega)]
            refine go_goto (pc' := 125) dX8_walls_121 rfl ?_
            show bw_go _ _ _ _ _ _ _ 125 [(3, .int _), (6, .int _), (5, .int _), (4, .int _), (0, .ref _), (1, .int _), (2, .int _)] ((.int _) :: (.int _) :: []) _ _
            refine go_ior dX8_walls_125 ?_
            first | rw [or_n] | rw [show (0 : Int32) = nI 0 from rfl, or_n, Nat.or_zero]
            refine go_istore dX8_walls_126 (Nat.lt_of_lt_of_le (Nat.lt_succ_self _) (Nat.le_of_ble_eq_true rfl)) ?_
            show bw_go _ _ _ _ _ _ _ 128 [(4, .int _), (3, .int _), (6, .int _), (5, .int _), (0, .ref _), (1, .int _), (2, .int _)] ([]) _ _
            refine go_iinc dX8_walls_128 rfl (show nI (2 * q) + Int32.ofInt 2 = nI (2 * (q + 1)) from nI_add _ 2) (Nat.lt_of_lt_of_le (Nat.lt_succ_self _) (Nat.le_of_ble_eq_true rfl)) ?_
            show bw_go _ _ _ _ _ _ _ 131 [(5, .int _), (4, .int _), (3, .int _), (6, .int _), (0, .ref _), (1, .int _), (2, .int _)] ([]) _ _
            refine go_goto (pc' := 20) dX8_walls_131 rfl ?_
            refine go_ls [(5, .int _), (4, .int _), (3, .int _), (0, .ref _), (1, .int _), (2, .int _)] (by show List.Nodup ([5, 4, 3, 0, 1, 2] : List Nat); decide) (by show List.Nodup ([5, 4, 3, 6, 0, 1, 2] : List Nat); decide) (le_cons rfl (le_cons rfl (le_cons rfl (le_cons rfl (le_cons rfl (le_cons rfl (le_nil _))))))) ?_
            have e1 : muC (nowC S) (rdA (sRc S j) 0 m) (q + 1) = muC (nowC S) (rdA (sRc S j) 0 m) q ||| (if (see (cK (nowC S) ((rdA (sRc S j) 0 m).2.1 q)) (cR (nowC S) ((rdA (sRc S j) 0 m).2.1 q)) (cV (nowC S) ((rdA (sRc S j) 0 m).2.1 q)) (cE (nowC S) ((rdA (sRc S j) 0 m).2.1 q))).testBit ((rdA (sRc S j) 0 m).2.2.1 q) = true then 2 ^ (rdA (sRc S j) 0 m).2.1 q else 0) := rfl
            have e2 : spC (rdA (sRc S j) 0 m) (q + 1) = spC (rdA (sRc S j) 0 m) q ||| (if (rdA (sRc S j) 0 m).2.2.2 q = 2 then 0 else 2 ^ (rdA (sRc S j) 0 m).2.1 q) := rfl
            rw [f1, f2] at e1
            rw [f1, f3] at e2
            have t_0 := nI_toInt (n := v) (by omega)
            have l_2 : (2 : Int32).toInt = 2 := rfl
            simp only [i_le] at c_114
            have z9 := sya_9 (k := cK (nowC S) (a / 8)) (e := cE (nowC S) (a / 8)) (w := cR (nowC S) (a / 8)) (v := cV (nowC S) (a / 8)) (t := a % 8) (dn := cD (nowC S))
            first
            | rw [if_neg (z9.mp c_84), Nat.or_zero] at e1
            | rw [if_pos (Decidable.of_not_not (fun z => c_84 (z9.mpr z)))] at e1
            first
            | rw [if_pos (show v = 2 by omega), Nat.or_zero] at e2
            | rw [if_neg (show ¬ v = 2 by omega)] at e2
            rw [e1, e2] at K
            exact K
        · -- eq at 84: no
          show bw_go _ _ _ _ _ _ _ 87 [(6, .int _), (5, .int _), (4, .int _), (3, .int _), (0, .ref _), (1, .int _), (2, .int _)] ((.int _) :: []) _ _
          refine go_iconst (1) dX8_walls_87 rfl ?_
          refine go_iload dX8_walls_88 rfl ?_
          refine go_ishl dX8_walls_90 ?_
          rw [sh_t (a / 8) (by omega)]
          refine go_goto (pc' := 95) dX8_walls_91 rfl ?_
          show bw_go _ _ _ _ _ _ _ 95 [(6, .int _), (5, .int _), (4, .int _), (3, .int _), (0, .ref _), (1, .int _), (2, .int _)] ((.int _) :: (.int _) :: []) _ _
          refine go_ior dX8_walls_95 ?_
          first | rw [or_n] | rw [show (0 : Int32) = nI 0 from rfl, or_n, Nat.or_zero]
          refine go_istore_n dX8_walls_96 (Nat.lt_of_lt_of_le (Nat.lt_succ_self _) (Nat.le_of_ble_eq_true rfl)) ?_
          show bw_go _ _ _ _ _ _ _ 97 [(3, .int _), (6, .int _), (5, .int _), (4, .int _), (0, .ref _), (1, .int _), (2, .int _)] ([]) _ _
          refine go_iload dX8_walls_97 rfl ?_
          refine go_aload_n dX8_walls_99 rfl ?_
          refine go_gfr dX8_walls_100 fl_8_20 rfl (ms_lt hm.1 (by decide)) hm.1.1.2 hm.1.2.1.2.2.2.1 ?_
          refine go_bipush (40) dX8_walls_103 rfl ?_
          refine go_iload_n dX8_walls_105 rfl ?_
          refine go_imul dX8_walls_106 ?_
          rw [show (40 : Int32) = nI 40 from rfl, nmul]
          refine go_iload dX8_walls_107 rfl ?_
          refine go_iadd dX8_walls_109 ?_
          rw [nI_add]
          refine go_iconst (1) dX8_walls_110 rfl ?_
          refine go_iadd dX8_walls_111 ?_
          rw [nI_1]
          refine go_ia dX8_walls_112 hm.1.2.2.2.2.2.1 (ms_lt hm.1 (by decide)) (n_in (N := 240) (by omega) (by decide)) ?_
          rw [nI_clamp (by omega), show 40 * j + 2 * q + 1 = 40 * j + (2 * q + 1) from rfl, (hm.2.2.2.1 j hj).2.2 m em (2 * q + 1) (by omega), ev]
          refine go_iconst (2) dX8_walls_113 rfl ?_
          refine go_icmp_ge (pc' := 124) dX8_walls_114 rfl (fun c_114 => ?_) (fun c_114 => ?_)
          · -- ge at 114: yes
            show bw_go _ _ _ _ _ _ _ 124 [(3, .int _), (6, .int _), (5, .int _), (4, .int _), (0, .ref _), (1, .int _), (2, .int _)] ((.int _) :: []) _ _
            refine go_iconst (0) dX8_walls_124 rfl ?_
            refine go_ior dX8_walls_125 ?_
            first | rw [or_n] | rw [show (0 : Int32) = nI 0 from rfl, or_n, Nat.or_zero]
            refine go_istore dX8_walls_126 (Nat.lt_of_lt_of_le (Nat.lt_succ_self _) (Nat.le_of_ble_eq_true rfl)) ?_
            show bw_go _ _ _ _ _ _ _ 128 [(4, .int _), (3, .int _), (6, .int _), (5, .int _), (0, .ref _), (1, .int _), (2, .int _)] ([]) _ _
            refine go_iinc dX8_walls_128 rfl (show nI (2 * q) + Int32.ofInt 2 = nI (2 * (q + 1)) from nI_add _ 2) (Nat.lt_of_lt_of_le (Nat.lt_succ_self _) (Nat.le_of_ble_eq_true rfl)) ?_
            show bw_go _ _ _ _ _ _ _ 131 [(5, .int _), (4, .int _), (3, .int _), (6, .int _), (0, .ref _), (1, .int _), (2, .int _)] ([]) _ _
            refine go_goto (pc' := 20) dX8_walls_131 rfl ?_
            refine go_ls [(5, .int _), (4, .int _), (3, .int _), (0, .ref _), (1, .int _), (2, .int _)] (by show List.Nodup ([5, 4, 3, 0, 1, 2] : List Nat); decide) (by show List.Nodup ([5, 4, 3, 6, 0, 1, 2] : List Nat); decide) (le_cons rfl (le_cons rfl (le_cons rfl (le_cons rfl (le_cons rfl (le_cons rfl (le_nil _))))))) ?_
            have e1 : muC (nowC S) (rdA (sRc S j) 0 m) (q + 1) = muC (nowC S) (rdA (sRc S j) 0 m) q ||| (if (see (cK (nowC S) ((rdA (sRc S j) 0 m).2.1 q)) (cR (nowC S) ((rdA (sRc S j) 0 m).2.1 q)) (cV (nowC S) ((rdA (sRc S j) 0 m).2.1 q)) (cE (nowC S) ((rdA (sRc S j) 0 m).2.1 q))).testBit ((rdA (sRc S j) 0 m).2.2.1 q) = true then 2 ^ (rdA (sRc S j) 0 m).2.1 q else 0) := rfl
            have e2 : spC (rdA (sRc S j) 0 m) (q + 1) = spC (rdA (sRc S j) 0 m) q ||| (if (rdA (sRc S j) 0 m).2.2.2 q = 2 then 0 else 2 ^ (rdA (sRc S j) 0 m).2.1 q) := rfl
            rw [f1, f2] at e1
            rw [f1, f3] at e2
            have t_0 := nI_toInt (n := v) (by omega)
            have l_2 : (2 : Int32).toInt = 2 := rfl
            simp only [i_le] at c_114
            have z9 := sya_9 (k := cK (nowC S) (a / 8)) (e := cE (nowC S) (a / 8)) (w := cR (nowC S) (a / 8)) (v := cV (nowC S) (a / 8)) (t := a % 8) (dn := cD (nowC S))
            first
            | rw [if_neg (z9.mp c_84), Nat.or_zero] at e1
            | rw [if_pos (Decidable.of_not_not (fun z => c_84 (z9.mpr z)))] at e1
            first
            | rw [if_pos (show v = 2 by omega), Nat.or_zero] at e2
            | rw [if_neg (show ¬ v = 2 by omega)] at e2
            rw [e1, e2] at K
            exact K
          · -- ge at 114: no
            show bw_go _ _ _ _ _ _ _ 117 [(3, .int _), (6, .int _), (5, .int _), (4, .int _), (0, .ref _), (1, .int _), (2, .int _)] ((.int _) :: []) _ _
            refine go_iconst (1) dX8_walls_117 rfl ?_
            refine go_iload dX8_walls_118 rfl ?_
            refine go_ishl dX8_walls_120 ?_
            rw [sh_t (a / 8) (by omega)]
            refine go_goto (pc' := 125) dX8_walls_121 rfl ?_
            show bw_go _ _ _ _ _ _ _ 125 [(3, .int _), (6, .int _), (5, .int _), (4, .int _), (0, .ref _), (1, .int _), (2, .int _)] ((.int _) :: (.int _) :: []) _ _
            refine go_ior dX8_walls_125 ?_
            first | rw [or_n] | rw [show (0 : Int32) = nI 0 from rfl, or_n, Nat.or_zero]
            refine go_istore dX8_walls_126 (Nat.lt_of_lt_of_le (Nat.lt_succ_self _) (Nat.le_of_ble_eq_true rfl)) ?_
            show bw_go _ _ _ _ _ _ _ 128 [(4, .int _), (3, .int _), (6, .int _), (5, .int _), (0, .ref _), (1, .int _), (2, .int _)] ([]) _ _
            refine go_iinc dX8_walls_128 rfl (show nI (2 * q) + Int32.ofInt 2 = nI (2 * (q + 1)) from nI_add _ 2) (Nat.lt_of_lt_of_le (Nat.lt_succ_self _) (Nat.le_of_ble_eq_true rfl)) ?_
            show bw_go _ _ _ _ _ _ _ 131 [(5, .int _), (4, .int _), (3, .int _), (6, .int _), (0, .ref _), (1, .int _), (2, .int _)] ([]) _ _
            refine go_goto (pc' := 20) dX8_walls_131 rfl ?_
            refine go_ls [(5, .int _), (4, .int _), (3, .int _), (0, .ref _), (1, .int _), (2, .int _)] (by show List.Nodup ([5, 4, 3, 0, 1, 2] : List Nat); decide) (by show List.Nodup ([5, 4, 3, 6, 0, 1, 2] : List Nat); decide) (le_cons rfl (le_cons rfl (le_cons rfl (le_cons rfl (le_cons rfl (le_cons rfl (le_nil _))))))) ?_
            have e1 : muC (nowC S) (rdA (sRc S j) 0 m) (q + 1) = muC (nowC S) (rdA (sRc S j) 0 m) q ||| (if (see (cK (nowC S) ((rdA (sRc S j) 0 m).2.1 q)) (cR (nowC S) ((rdA (sRc S j) 0 m).2.1 q)) (cV (nowC S) ((rdA (sRc S j) 0 m).2.1 q)) (cE (nowC S) ((rdA (sRc S j) 0 m).2.1 q))).testBit ((rdA (sRc S j) 0 m).2.2.1 q) = true then 2 ^ (rdA (sRc S j) 0 m).2.1 q else 0) := rfl
            have e2 : spC (rdA (sRc S j) 0 m) (q + 1) = spC (rdA (sRc S j) 0 m) q ||| (if (rdA (sRc S j) 0 m).2.2.2 q = 2 then 0 else 2 ^ (rdA (sRc S j) 0 m).2.1 q) := rfl
            rw [f1, f2] at e1
            rw [f1, f3] at e2
            have t_0 := nI_toInt (n := v) (by omega)
            have l_2 : (2 : Int32).toInt = 2 := rfl
            simp only [i_le] at c_114
            have z9 := sya_9 (k := cK (nowC S) (a / 8)) (e := cE (nowC S) (a / 8)) (w := cR (nowC S) (a / 8)) (v := cV (nowC S) (a / 8)) (t := a % 8) (dn := cD (nowC S))
            first
            | rw [if_neg (z9.mp c_84), Nat.or_zero] at e1
            | rw [if_pos (Decidable.of_not_not (fun z => c_84 (z9.mpr z)))] at e1
            first
            | rw [if_pos (show v = 2 by omega), Nat.or_zero] at e2
            | rw [if_neg (show ¬ v = 2 by omega)] at e2
            rw [e1, e2] at K
            exact K
    · -- behind the last
      have h6 : ∀ q, q < m / 2 → (rdA (sRc S j) 0 m).2.1 q < 6 := fun q hq => by
        obtain ⟨a, v, ea, ev, f1, f2, f3, b1, b2, b3, b4⟩ := lk_at hl hq
        rw [f1]; omega
      have hsp : spC (rdA (sRc S j) 0 m) (m / 2) < 64 := orf_lt' _ (fun q hq => by
        have := p2_lt _ (h6 q hq)
        show (if (rdA (sRc S j) 0 m).2.2.2 q = 2 then 0 else 2 ^ (rdA (sRc S j) 0 m).2.1 q) < 64
        split <;> omega)
      have hmu : muC (nowC S) (rdA (sRc S j) 0 m) (m / 2) < 64 := orf_lt' _ (fun q hq => by
        have := p2_lt _ (h6 q hq)
        show (if (see (cK (nowC S) ((rdA (sRc S j) 0 m).2.1 q)) (cR (nowC S) ((rdA (sRc S j) 0 m).2.1 q)) (cV (nowC S) ((rdA (sRc S j) 0 m).2.1 q)) (cE (nowC S) ((rdA (sRc S j) 0 m).2.1 q))).testBit ((rdA (sRc S j) 0 m).2.2.1 q) = true then 2 ^ (rdA (sRc S j) 0 m).2.1 q else 0) < 64
        split <;> omega)
      show bw_go _ _ _ _ _ _ _ 20 [(5, .int _), (4, .int _), (3, .int _), (0, .ref _), (1, .int _), (2, .int _)] ([]) _ _
      refine go_iload dX8_walls_20 rfl ?_
      refine go_iconst (1) dX8_walls_22 rfl ?_
      refine go_iadd dX8_walls_23 ?_
      rw [nI_1]
      refine go_aload_n dX8_walls_24 rfl ?_
      refine go_gfr dX8_walls_25 fl_8_23 rfl (ms_lt hm.1 (by decide)) hm.1.1.2 hm.1.2.1.2.2.2.2.1 ?_
      refine go_iload_n dX8_walls_28 rfl ?_
      refine go_ia dX8_walls_29 hm.1.2.2.2.2.2.2.1 (ms_lt hm.1 (by decide)) (n_in (N := 6) hj (by decide)) ?_
      rw [nI_clamp (by omega), em2]
      refine go_icmp_ge (pc' := 134) dX8_walls_30 rfl (fun c_30 => ?_) (fun c_30 => ?_)
      · -- ge at 30: yes
        show bw_go _ _ _ _ _ _ _ 134 [(5, .int _), (4, .int _), (3, .int _), (0, .ref _), (1, .int _), (2, .int _)] ([]) _ _
        refine go_aload_n dX8_walls_134 rfl ?_
        refine go_iload dX8_walls_135 rfl ?_
        refine go_cv (as := [.int _]) 0 dX8_walls_137 mt_8_87 (Or.inl rfl) rfl rfl (ms_lt hm.1 (by decide)) hm.1.1.2 (Nat.le_of_ble_eq_true rfl) (Nat.le_of_ble_eq_true rfl) (Nat.le_of_ble_eq_true rfl) (Nat.le_of_ble_eq_true rfl) (Nat.le_of_ble_eq_true rfl) ?_
        refine me_X8_asks hm (fun g2 hg2 hf2 => ?_)
        show bw_go _ _ _ _ _ _ _ 140 [(5, .int _), (4, .int _), (3, .int _), (0, .ref _), (1, .int _), (2, .int _)] ((.int _) :: []) _ _
        refine go_istore dX8_walls_140 (Nat.lt_of_lt_of_le (Nat.lt_succ_self _) (Nat.le_of_ble_eq_true rfl)) ?_
        show bw_go _ _ _ _ _ _ _ 142 [(5, .int _), (4, .int _), (3, .int _), (0, .ref _), (1, .int _), (2, .int _)] ([]) _ _
        refine go_iload_n dX8_walls_142 rfl ?_
        refine go_iload dX8_walls_143 rfl ?_
        refine go_iconst (-1) dX8_walls_145 rfl ?_
        refine go_ixor dX8_walls_146 ?_
        refine go_iand dX8_walls_147 ?_
        rw [not_n _ hsp _ hmu]
        refine go_iret dX8_walls_148 rfl rfl ?_
        rw [wal_e h6]
        refine q_m hQ ?_ hg2 (frX_t hf hf2)
        unfold yWalls
        rw [if_pos c_7, lk_v1 hl]
        rfl
      · -- ge at 30: no
        exfalso; have t_0 := nI_toInt (n := 2 * (m / 2) + 1) (by omega); have t_1 := nI_toInt (n := m) (by omega); simp only [i_le, i_lt, i_eq, bi_eq] at c_30; omega
  · -- eq at 7: no
    show bw_go _ _ _ _ _ _ _ 10 [(2, .int _), (0, .ref _), (1, .int _)] ([]) _ _
    refine go_iload_n dX8_walls_10 rfl ?_
    refine go_iret dX8_walls_11 rfl rfl ?_
    refine q_m hQ ?_ hg hf
    unfold yWalls
    rw [if_neg c_7]
