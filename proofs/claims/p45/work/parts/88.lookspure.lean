/-! the law: what a row of true looks tells -/
theorem bit_and (x y t : Nat) (h : x.testBit t = y.testBit t) (z : Nat) : (z &&& x).testBit t = (z &&& y).testBit t := by
  rw [Nat.testBit_and, Nat.testBit_and, h]
theorem ans_d {wl i k w v e t d d' : Nat} (h : d.testBit t = d'.testBit t) : ans wl i k w v e t d = ans wl i k w v e t d' := by
  have h1 : (one (tol wl i k w v e) k w d).testBit t = (one (tol wl i k w v e) k w d').testBit t := by
    unfold one
    split
    · rfl
    · split
      · rw [Nat.testBit_and, Nat.testBit_and, Nat.testBit_xor, Nat.testBit_xor, h]
      · exact bit_and _ _ _ h _
  unfold ans
  rw [h1]
/-- the looks of a laid row -/
def lkq (R : Nat → Int32) (q : Nat) : LK := rdA R 0 (2 * q)
theorem lkq_1 (R : Nat → Int32) (q : Nat) : (lkq R q).1 = q := by show 2 * q / 2 = q; omega
theorem lkq_c {R : Nat → Int32} {C : CT} {q j : Nat} (hN : cN C ≤ 6) (h : lkp R C q) (hj : j < q) : (lkq R q).2.1 j < cN C ∧ (lkq R q).2.2.1 j < 6 ∧ (lkq R q).2.2.2 j = vC C ((lkq R q).2.1 j) ((lkq R q).2.2.1 j) ∧ R (2 * j) = nI (8 * (lkq R q).2.1 j + (lkq R q).2.2.1 j) := by
  obtain ⟨i, t, hi, ht, e1, e2⟩ := h j hj
  have hv := vC_le C i t
  have a1 : (lkq R q).2.1 j = i := by
    show (R (0 + 2 * j)).toNatClampNeg / 8 = i
    rw [Nat.zero_add, e1, nI_clamp (by omega)]; omega
  have a2 : (lkq R q).2.2.1 j = t := by
    show (R (0 + 2 * j)).toNatClampNeg % 8 = t
    rw [Nat.zero_add, e1, nI_clamp (by omega)]; omega
  have a3 : (lkq R q).2.2.2 j = vC C i t := by
    show (R (0 + 2 * j + 1)).toNatClampNeg = vC C i t
    rw [Nat.zero_add, e2, nI_clamp (by omega)]
  rw [a1, a2, a3]
  exact ⟨hi, ht, rfl, e1⟩
theorem lkp_ok {R : Nat → Int32} {C : CT} {q : Nat} (hN : cN C ≤ 6) (h : lkp R C q) : ∀ k, k ≤ q → okR R 0 (cN C) k = true
  | 0, _ => rfl
  | k + 1, hk => by
    have ih := lkp_ok hN h k (by omega)
    show (okR R 0 (cN C) k && okp (R (0 + 2 * k)) (R (0 + 2 * k + 1)) (cN C)) = true
    rw [ih, Bool.true_and]
    obtain ⟨i, t, hi, ht, e1, e2⟩ := h k (by omega)
    have hv := vC_le C i t
    rw [Nat.zero_add, e1, e2]
    unfold okp
    have t_0 := nI_toInt (n := 8 * i + t) (by omega)
    have t_1 := nI_toInt (n := vC C i t) (by omega)
    rw [nI_clamp (by omega)]
    exact decide_eq_true ⟨by omega, by omega, by omega, by omega, by omega⟩
theorem fit_c {R : Nat → Int32} {C : CT} {q j : Nat} (hN : cN C ≤ 6) (h : lkp R C q) (hj : j < q) : fit C (lkq R q) j (cK C ((lkq R q).2.1 j)) (cD C) = true := by
  obtain ⟨_, _, a3, _⟩ := lkq_c hN h hj
  unfold fit
  rw [a3, vC_an]
  exact decide_eq_true rfl
theorem fit_d {C : CT} {A : LK} {j d d' : Nat} {k : Nat} (h : d.testBit (A.2.2.1 j) = d'.testBit (A.2.2.1 j)) : fit C A j k d = fit C A j k d' := by
  unfold fit
  rw [ans_d h]
def aX (R : Nat → Int32) (C : CT) (q : Nat) : Nat := lAk C (lkq R q) q
def bX (R : Nat → Int32) (C : CT) (q : Nat) : Nat := lBk C (lkq R q) q
theorem aX_lt {R : Nat → Int32} {C : CT} {q : Nat} (hN : cN C ≤ 6) (h : lkp R C q) : aX R C q < 64 ∧ bX R C q < 64 :=
  ⟨lA_lt q (fun _ hj => (lkq_c hN h hj).2.1), lB_lt q (fun _ hj => (lkq_c hN h hj).2.1)⟩
theorem p2b {t u : Nat} (h : (2 ^ t).testBit u = true) : t = u := by
  rw [p2_tb] at h
  first | exact of_decide_eq_true h | exact (of_decide_eq_true h).symm
theorem aX_d {R : Nat → Int32} {C : CT} {q : Nat} (hN : cN C ≤ 6) (h : lkp R C q) : tq (aX R C q) (bX R C q) (cD C) = true := by
  refine decide_eq_true ⟨sub_m (a := aX R C q) (fun t ht => ?_) (Nat.and_self _), tb_0 (fun t ht => ?_)⟩
  · obtain ⟨j, hj, hb⟩ := (orf_tb q).mp ht
    by_cases z : fit C (lkq R q) j (cK C ((lkq R q).2.1 j)) 0 = true
    · rw [if_pos z, Nat.zero_testBit] at hb; cases hb
    · rw [if_neg z] at hb
      have e := p2b hb
      cases hd : (cD C).testBit t with
      | true => rfl
      | false =>
        exfalso
        apply z
        rw [fit_d (d := 0) (d' := cD C) (by rw [e, hd, Nat.zero_testBit])]
        exact fit_c hN h hj
  · rw [Nat.testBit_and, Bool.and_eq_true] at ht
    obtain ⟨hd, ht⟩ := ht
    obtain ⟨j, hj, hb⟩ := (orf_tb q).mp ht
    by_cases z : fit C (lkq R q) j (cK C ((lkq R q).2.1 j)) 63 = true
    · rw [if_pos z, Nat.zero_testBit] at hb; cases hb
    · rw [if_neg z] at hb
      have e := p2b hb
      apply z
      rw [fit_d (d := 63) (d' := cD C) (by rw [e, hd]; exact b63 t (by rw [← e]; exact (lkq_c hN h hj).2.1))]
      exact fit_c hN h hj
theorem cnt_pos {P : Nat → Bool} {k : Nat} (h : P k = true) : ∀ m, k < m → 1 ≤ cnt P m
  | 0, hk => absurd hk (Nat.not_lt_zero k)
  | m + 1, hk => by
    show 1 ≤ cnt P m + (if P m = true then 1 else 0)
    by_cases e : k = m
    · subst e; rw [if_pos h]; omega
    · have := cnt_pos h m (by omega)
      omega
theorem lst_le {P : Nat → Bool} {k : Nat} (h : P k = true) : ∀ m, k < m → ∃ x, lst P m = some x ∧ x ≤ k
  | 0, hk => absurd hk (Nat.not_lt_zero k)
  | m + 1, hk => by
    show ∃ x, (match lst P m with
      | some x => some x
      | none => if P m = true then some m else none) = some x ∧ x ≤ k
    by_cases e : k = m
    · subst e
      cases hl : lst P k with
      | none => exact ⟨k, by simp only; rw [if_pos h], Nat.le_refl _⟩
      | some x =>
        refine ⟨x, rfl, ?_⟩
        have : ∀ n, ∀ y, lst P n = some y → y < n := by
          intro n
          induction n with
          | zero => intro y hy; cases hy
          | succ n ih =>
            intro y hy
            have hy : (match lst P n with
              | some x => some x
              | none => if P n = true then some n else none) = some y := hy
            cases hn : lst P n with
            | some z => rw [hn] at hy; cases hy; have := ih _ hn; omega
            | none =>
              rw [hn] at hy
              simp only at hy
              split at hy
              · cases hy; omega
              · cases hy
        have := this k x hl
        omega
    · obtain ⟨x, hx, hx2⟩ := lst_le h m (by omega)
      exact ⟨x, by rw [hx], hx2⟩
theorem tq_or {a b d t : Nat} (h : tq a b d = true) (ht : d.testBit t = true) : tq (a ||| 2 ^ t) b d = true := by
  have h2 := of_decide_eq_true h
  refine decide_eq_true ⟨sub_m (a := a ||| 2 ^ t) (fun u hu => ?_) (Nat.and_self _), h2.2⟩
  rw [Nat.testBit_or, Bool.or_eq_true] at hu
  rcases hu with hu | hu
  · have h3 := h2.1
    rw [← h3, Nat.testBit_and, Bool.and_eq_true] at hu
    exact hu.1
  · rw [← p2b hu]; exact ht
theorem tq_or2 {a b d t : Nat} (h : tq a b d = true) (ht : d.testBit t = false) : tq a (b ||| 2 ^ t) d = true := by
  have h2 := of_decide_eq_true h
  refine decide_eq_true ⟨h2.1, tb_0 (fun u hu => ?_)⟩
  rw [Nat.testBit_and, Nat.testBit_or, Bool.and_eq_true, Bool.or_eq_true] at hu
  obtain ⟨h3, h4 | h4⟩ := hu
  · have h5 : (d &&& b).testBit u = true := by rw [Nat.testBit_and, h3, h4]; rfl
    rw [h2.2, Nat.zero_testBit] at h5
    cases h5
  · rw [p2b h4, h3] at ht
    cases ht
theorem trc_pos {a b d : Nat} (hd : d < 64) (h : tq a b d = true) : 1 ≤ trc a b := cnt_pos h 64 hd
theorem surE_sub {a b d : Nat} (hd : d < 64) (h : tq a b d = true) : surE a b &&& (63 ^^^ d) = 0 := by
  refine tb_0 (fun t ht => ?_)
  rw [Nat.testBit_and, Bool.and_eq_true] at ht
  obtain ⟨h1, h2⟩ := ht
  obtain ⟨u, hu, hb⟩ := (orf_tb 6).mp h1
  by_cases z : trc a (b ||| 2 ^ u) = 0
  · rw [if_pos z] at hb
    have e := p2b hb
    subst e
    rw [Nat.testBit_xor, b63 u hu] at h2
    have hd2 : d.testBit u = false := by
      cases hh : d.testBit u with
      | false => rfl
      | true => rw [hh] at h2; cases h2
    have := trc_pos hd (tq_or2 h hd2)
    omega
  · rw [if_neg z, Nat.zero_testBit] at hb; cases hb
theorem surN_sub {a b d : Nat} (hd : d < 64) (h : tq a b d = true) : surN a b &&& d = 0 := by
  refine tb_0 (fun t ht => ?_)
  rw [Nat.testBit_and, Bool.and_eq_true] at ht
  obtain ⟨h1, h2⟩ := ht
  obtain ⟨u, hu, hb⟩ := (orf_tb 6).mp h1
  by_cases z : trc (a ||| 2 ^ u) b = 0
  · rw [if_pos z] at hb
    have e := p2b hb
    subst e
    have := trc_pos hd (tq_or h h2)
    omega
  · rw [if_neg z, Nat.zero_testBit] at hb; cases hb
theorem sur_lt (a b : Nat) : surE a b < 64 ∧ surN a b < 64 := by
  constructor
  · refine orf_lt' 6 (fun t ht => ?_)
    have := p2_lt t ht
    show (if trc a (b ||| 2 ^ t) = 0 then 2 ^ t else 0) < 64
    split <;> omega
  · refine orf_lt' 6 (fun t ht => ?_)
    have := p2_lt t ht
    show (if trc (a ||| 2 ^ t) b = 0 then 2 ^ t else 0) < 64
    split <;> omega
theorem gpt_b (C : CT) {a b i x : Nat} (ha : a < 64) (hx : x < 6) : gpt C a b i x ≤ trc a b ∧ trc a b ≤ 2 * gpt C a b i x := by
  have h2 := trc_or (b := b) ha hx
  unfold gpt
  split <;> omega
theorem nxf_in (C : CT) {a b : Nat} (ha : a < 64) : ∀ m, (nxf C a b (m + 1)).1 < m + 1 ∧ (nxf C a b (m + 1)).1 % 8 < 6 ∧ (nxf C a b (m + 1)).2 = gpt C a b ((nxf C a b (m + 1)).1 / 8) ((nxf C a b (m + 1)).1 % 8)
  | 0 => by
    have h1 := gpt_le C (b := b) (i := 0) (x := 0) ha (by decide)
    have e : nxf C a b (0 + 1) = (0, gpt C a b 0 0) := if_pos ⟨by decide, by show gpt C a b 0 0 < 1000; omega⟩
    rw [e]
    exact ⟨Nat.zero_lt_one, Nat.zero_lt_succ 5, by show gpt C a b 0 0 = gpt C a b (0 / 8) (0 % 8); rw [show (0 : Nat) / 8 = 0 from rfl, show (0 : Nat) % 8 = 0 from rfl]⟩
  | m + 1 => by
    obtain ⟨i1, i2, i3⟩ := nxf_in C (b := b) ha m
    by_cases z : (m + 1) % 8 < 6 ∧ gpt C a b ((m + 1) / 8) ((m + 1) % 8) < (nxf C a b (m + 1)).2
    · have e : nxf C a b (m + 1 + 1) = (m + 1, gpt C a b ((m + 1) / 8) ((m + 1) % 8)) := if_pos z
      rw [e]
      exact ⟨Nat.lt_succ_self _, z.1, rfl⟩
    · have e : nxf C a b (m + 1 + 1) = nxf C a b (m + 1) := if_neg z
      rw [e]
      exact ⟨by omega, i2, i3⟩
theorem spk_f (R : Nat → Int32) (q : Nat) : spk (lkq R q) = spf R q := by
  unfold spk
  rw [lkq_1]
  refine orf_c q (fun j _ => ?_)
  show (if (R (0 + 2 * j + 1)).toNatClampNeg = 2 then 0 else 2 ^ ((R (0 + 2 * j)).toNatClampNeg / 8)) = _
  rw [Nat.zero_add]
theorem vC_no {C : CT} {i t : Nat} (h : vC C i t = 2) : (tlC C i).testBit t = false := by
  rcases an_c C i t with ⟨_, _, h1⟩ | ⟨_, _, h1, h2⟩ | ⟨_, _, h1, h2⟩
  · exact h1
  · rw [vC_0 h1 h2] at h; cases h
  · rw [vC_1 h1 h2] at h; cases h
theorem kpb_sub {R : Nat → Int32} {C : CT} {q : Nat} (hN : cN C ≤ 6) (h : lkp R C q) : (kpb C (lkq R q) &&& (63 ^^^ spf R q)) &&& (63 ^^^ cW C) = 0 := by
  refine tb_0 (fun t ht => ?_)
  rw [Nat.testBit_and, Nat.testBit_and, Bool.and_eq_true, Bool.and_eq_true] at ht
  obtain ⟨⟨h1, _⟩, h2⟩ := ht
  unfold kpb at h1
  rw [lkq_1] at h1
  obtain ⟨j, hj, hb⟩ := (orf_tb q).mp h1
  obtain ⟨a1, a2, a3, _⟩ := lkq_c hN h hj
  by_cases z : (lkq R q).2.2.2 j = 2 ∧ (see (cK C ((lkq R q).2.1 j)) (cR C ((lkq R q).2.1 j)) (cV C ((lkq R q).2.1 j)) (cE C ((lkq R q).2.1 j))).testBit ((lkq R q).2.2.1 j) = true
  · rw [if_pos z] at hb
    have e := p2b hb
    have h3 := vC_no (a3.symm.trans z.1)
    rw [← e] at h2
    cases hw : (cW C).testBit ((lkq R q).2.1 j) with
    | true =>
      rw [Nat.testBit_xor, b63 _ (by omega), hw] at h2
      cases h2
    | false =>
      have h4 : tlC C ((lkq R q).2.1 j) = see (cK C ((lkq R q).2.1 j)) (cR C ((lkq R q).2.1 j)) (cV C ((lkq R q).2.1 j)) (cE C ((lkq R q).2.1 j)) := by
        unfold tlC tol
        rw [hw]; rfl
      rw [h4, z.2] at h3
      cases h3
  · rw [if_neg z, Nat.zero_testBit] at hb; cases hb
theorem kpl_lt {R : Nat → Int32} {C : CT} {q : Nat} (hN : cN C ≤ 6) (h : lkp R C q) : kpb C (lkq R q) < 64 := by
  unfold kpb
  rw [lkq_1]
  refine orf_lt' q (fun j hj => ?_)
  have := p2_lt _ (Nat.lt_of_lt_of_le (lkq_c hN h hj).1 hN)
  show (if (lkq R q).2.2.2 j = 2 ∧ (see (cK C ((lkq R q).2.1 j)) (cR C ((lkq R q).2.1 j)) (cV C ((lkq R q).2.1 j)) (cE C ((lkq R q).2.1 j))).testBit ((lkq R q).2.2.1 j) = true then 2 ^ (lkq R q).2.1 j else 0) < 64
  split <;> omega
theorem spf_lt {R : Nat → Int32} {C : CT} {q : Nat} (hN : cN C ≤ 6) (h : lkp R C q) : spf R q < 64 := by
  rw [← spk_f]
  unfold spk
  rw [lkq_1]
  refine orf_lt' q (fun j hj => ?_)
  have := p2_lt _ (Nat.lt_of_lt_of_le (lkq_c hN h hj).1 hN)
  show (if (lkq R q).2.2.2 j = 2 then 0 else 2 ^ (lkq R q).2.1 j) < 64
  split <;> omega
theorem and_no : ∀ a, a < 64 → ∀ b, b < 64 → (a &&& (63 ^^^ b)) &&& b = 0 := by decide +kernel
theorem fkk_c {R : Nat → Int32} {C : CT} {q i : Nat} (hN : cN C ≤ 6) (h : lkp R C q) : ∀ m, m ≤ q → fkk C (lkq R q) i (cK C i) m = true
  | 0, _ => rfl
  | m + 1, hm => by
    have ih := fkk_c hN h (i := i) m (by omega)
    show (fkk C (lkq R q) i (cK C i) m && (decide ((lkq R q).2.1 m ≠ i) || fit C (lkq R q) m (cK C i) (cD C))) = true
    rw [ih, Bool.true_and]
    by_cases e : (lkq R q).2.1 m = i
    · have h1 := fit_c hN h (show m < q by omega)
      rw [e] at h1
      rw [h1, Bool.or_true]
    · rw [decide_eq_true e, Bool.true_or]
theorem rl_0 {S : ST} {q : Nat} (hm : sR S 3 = some (2 * q)) (hq : q ≤ 8) (hN : cN (nowC S) ≤ 6) (h0 : 0 < cN (nowC S)) (h : lkp (sRc S 3) (nowC S) q) : yRL (nI 3) S = (0, S) ∧ lkA S (nI 3) = lkq (sRc S 3) q := by
  have h1 : rdf (some (2 * q)) (sRc S 3) 0 (cN (nowC S)) = 0 := by
    show (if 2 * q % 2 = 0 ∧ 2 * q ≤ 16 then (if okR (sRc S 3) 0 (cN (nowC S)) (2 * q / 2) = true then 0 else 3) else 5) = 0
    rw [if_pos ⟨by omega, by omega⟩, show 2 * q / 2 = q by omega, if_pos (lkp_ok hN h q (Nat.le_refl _))]
  constructor
  · unfold yRL
    rw [if_pos (isn_t (by decide) (by decide)), if_neg (by omega), rn_n (by decide), hm, if_pos h1]
  · unfold lkA
    rw [rn_n (by decide), hm]
    rfl
theorem lx_truths {X : Nat × (Nat → Int32)} {Q : Option Value → bw_H → Prop} {h : bw_H} {z c : Nat} {S : ST} {A : LY} {W T0 : RW} {B : AC} {K0 : Nat → Option AC} (hl : LX z c h S A W T0 B K0) {q : Nat} (hm : W.1 3 = some (2 * q)) (hq8 : q ≤ 8) (h0 : 0 < cN (cc B)) (hlk : lkp (W.2 3) (cc B) q) (hQ : ∀ G S' d, LX z c G S' A W T0 B K0 → 1 ≤ trc (aX (W.2 3) (cc B) q) (bX (W.2 3) (cc B) q) → trc (aX (W.2 3) (cc B) q) (bX (W.2 3) (cc B) q) ≤ 64 → sU S' = lN (trc (aX (W.2 3) (cc B) q) (bX (W.2 3) (cc B) q)) → sQ S' = nI d → d ≤ cD (cc B) → Q (some (.int 1)) G) : bw_me X 6 bm_X7_truths false [.ref 0, .int (nI 3)] h Q := by
  obtain ⟨hb, rfl, rfl, rfl, rfl⟩ := hl
  have hk := lb_6 hb
  have hN := hk.1
  refine lb_me hb (fun h Q hx hq => me_X7_truths hx hq) (fun _ => rfl) (fun _ => rfl) (fun G hG => ?_)
  have hd6 := hk.2.1
  obtain ⟨r1, r2⟩ := rl_0 (S := S) hm hq8 hN h0 hlk
  have r0 : (yRL (nI 3) S).1 = 0 := by rw [r1]
  have hlk2 : lkp (sRc S 3) (nowC S) q := hlk
  have ha : lA S (nI 3) = aX (sRc S 3) (nowC S) q := by
    unfold lA
    rw [r2, lkq_1]; rfl
  have hb' : lB S (nI 3) = bX (sRc S 3) (nowC S) q := by
    unfold lB
    rw [r2, lkq_1]; rfl
  have hab := aX_lt hN hlk2
  have hd : tq (lA S (nI 3)) (lB S (nI 3)) (cD (nowC S)) = true := by rw [ha, hb']; exact aX_d hN hlk2
  rw [← ha, ← hb'] at hab
  have hp := trc_pos hd6 hd
  have hle := trc_le (lA S (nI 3)) (lB S (nI 3))
  obtain ⟨d, d1, d2⟩ := lst_le hd 64 hd6
  have e : yTruths (nI 3) S = (1, tlP (wQ S (nI d)) (trc (lA S (nI 3)) (lB S (nI 3))) 1) := by
    unfold yTruths
    rw [if_pos r0, d1]; rfl
  rw [e] at hG ⊢
  have e2 : sU (tlP (wQ S (nI d)) (trc (lA S (nI 3)) (lB S (nI 3))) 1) = lN (trc (lA S (nI 3)) (lB S (nI 3))) := by
    show lN (trc (lA S (nI 3)) (lB S (nI 3)) / Nat.gcd (trc (lA S (nI 3)) (lB S (nI 3))) 1) = _
    rw [Nat.gcd_one_right, Nat.div_one]
  have htr : trc (lA S (nI 3)) (lB S (nI 3)) = trc (aX (sRc S 3) (nowC S) q) (bX (sRc S 3) (nowC S) q) := by rw [ha, hb']
  rw [ha, hb'] at hp hle
  exact hQ G _ d ⟨hG, rfl, rfl, rfl, rfl⟩ hp hle (e2.trans (congrArg lN htr)) rfl d2
theorem lx_sure {X : Nat × (Nat → Int32)} {Q : Option Value → bw_H → Prop} {h : bw_H} {z c : Nat} {S : ST} {A : LY} {W T0 : RW} {B : AC} {K0 : Nat → Option AC} (hl : LX z c h S A W T0 B K0) {q : Nat} (hm : W.1 3 = some (2 * q)) (hq8 : q ≤ 8) (h0 : 0 < cN (cc B)) (hlk : lkp (W.2 3) (cc B) q) (hQ : ∀ G S' e n, LX z c G S' A W T0 B K0 → e < 64 → n < 64 → e &&& (63 ^^^ cD (cc B)) = 0 → n &&& cD (cc B) = 0 → sQ S' = nI n → Q (some (.int (nI e))) G) : bw_me X 6 bm_X7_sure false [.ref 0, .int (nI 3)] h Q := by
  obtain ⟨hb, rfl, rfl, rfl, rfl⟩ := hl
  have hk := lb_6 hb
  have hN := hk.1
  refine lb_me hb (fun h Q hx hq => me_X7_sure hx hq) (fun _ => rfl) (fun _ => rfl) (fun G hG => ?_)
  have hd6 := hk.2.1
  obtain ⟨r1, r2⟩ := rl_0 (S := S) hm hq8 hN h0 hlk
  have r0 : (yRL (nI 3) S).1 = 0 := by rw [r1]
  have hlk2 : lkp (sRc S 3) (nowC S) q := hlk
  have ha : lA S (nI 3) = aX (sRc S 3) (nowC S) q := by
    unfold lA
    rw [r2, lkq_1]; rfl
  have hb' : lB S (nI 3) = bX (sRc S 3) (nowC S) q := by
    unfold lB
    rw [r2, lkq_1]; rfl
  have hab := aX_lt hN hlk2
  have hd : tq (lA S (nI 3)) (lB S (nI 3)) (cD (nowC S)) = true := by rw [ha, hb']; exact aX_d hN hlk2
  rw [← ha, ← hb'] at hab
  have hp := trc_pos hd6 hd
  have hle := trc_le (lA S (nI 3)) (lB S (nI 3))
  have e : ySure (nI 3) S = (nI (surE (lA S (nI 3)) (lB S (nI 3))), wQ S (nI (surN (lA S (nI 3)) (lB S (nI 3))))) := by
    unfold ySure
    rw [if_pos r0]
  rw [e] at hG ⊢
  exact hQ G _ _ _ ⟨hG, rfl, rfl, rfl, rfl⟩ (sur_lt _ _).1 (sur_lt _ _).2 (surE_sub hd6 hd) (surN_sub hd6 hd) rfl
theorem lx_next {X : Nat × (Nat → Int32)} {Q : Option Value → bw_H → Prop} {h : bw_H} {z c : Nat} {S : ST} {A : LY} {W T0 : RW} {B : AC} {K0 : Nat → Option AC} (hl : LX z c h S A W T0 B K0) {q : Nat} (hm : W.1 3 = some (2 * q)) (hq8 : q ≤ 8) (h0 : 0 < cN (cc B)) (hlk : lkp (W.2 3) (cc B) q) (hQ : ∀ G S' m p, LX z c G S' A W T0 B K0 → m < 8 * cN (cc B) → m % 8 < 6 → p ≤ trc (aX (W.2 3) (cc B) q) (bX (W.2 3) (cc B) q) → trc (aX (W.2 3) (cc B) q) (bX (W.2 3) (cc B) q) ≤ 2 * p → sQ S' = nI p → Q (some (.int (nI m))) G) : bw_me X 6 bm_X7_next false [.ref 0, .int (nI 3)] h Q := by
  obtain ⟨hb, rfl, rfl, rfl, rfl⟩ := hl
  have hk := lb_6 hb
  have hN := hk.1
  refine lb_me hb (fun h Q hx hq => me_X7_next hx hq) (fun _ => rfl) (fun _ => rfl) (fun G hG => ?_)
  have hd6 := hk.2.1
  obtain ⟨r1, r2⟩ := rl_0 (S := S) hm hq8 hN h0 hlk
  have r0 : (yRL (nI 3) S).1 = 0 := by rw [r1]
  have hlk2 : lkp (sRc S 3) (nowC S) q := hlk
  have ha : lA S (nI 3) = aX (sRc S 3) (nowC S) q := by
    unfold lA
    rw [r2, lkq_1]; rfl
  have hb' : lB S (nI 3) = bX (sRc S 3) (nowC S) q := by
    unfold lB
    rw [r2, lkq_1]; rfl
  have hab := aX_lt hN hlk2
  have hd : tq (lA S (nI 3)) (lB S (nI 3)) (cD (nowC S)) = true := by rw [ha, hb']; exact aX_d hN hlk2
  rw [← ha, ← hb'] at hab
  have hp := trc_pos hd6 hd
  have hle := trc_le (lA S (nI 3)) (lB S (nI 3))
  have e : yNext (nI 3) S = (nI (nxf (nowC S) (lA S (nI 3)) (lB S (nI 3)) (8 * cN (nowC S))).1, wQ S (nI (nxf (nowC S) (lA S (nI 3)) (lB S (nI 3)) (8 * cN (nowC S))).2)) := by
    unfold yNext
    rw [if_pos r0, if_neg (by omega)]
  rw [e] at hG ⊢
  have h0' : 0 < cN (nowC S) := h0
  obtain ⟨n1, n2, n3⟩ := nxf_in (nowC S) (a := lA S (nI 3)) (b := lB S (nI 3)) hab.1 (8 * cN (nowC S) - 1)
  rw [show 8 * cN (nowC S) - 1 + 1 = 8 * cN (nowC S) by omega] at n1 n2 n3
  have g1 := gpt_b (nowC S) (a := lA S (nI 3)) (b := lB S (nI 3)) (i := (nxf (nowC S) (lA S (nI 3)) (lB S (nI 3)) (8 * cN (nowC S))).1 / 8) hab.1 n2
  rw [← n3] at g1
  refine hQ G _ _ _ ⟨hG, rfl, rfl, rfl, rfl⟩ n1 n2 ?_ ?_ rfl
  · have g2 := g1.1
    rw [show trc (lA S (nI 3)) (lB S (nI 3)) = _ from by rw [ha, hb']] at g2
    exact g2
  · have g2 := g1.2
    rw [show trc (lA S (nI 3)) (lB S (nI 3)) = _ from by rw [ha, hb']] at g2
    exact g2
theorem lx_walls {X : Nat × (Nat → Int32)} {Q : Option Value → bw_H → Prop} {h : bw_H} {z c : Nat} {S : ST} {A : LY} {W T0 : RW} {B : AC} {K0 : Nat → Option AC} (hl : LX z c h S A W T0 B K0) {q : Nat} (hm : W.1 3 = some (2 * q)) (hq8 : q ≤ 8) (h0 : 0 < cN (cc B)) (hlk : lkp (W.2 3) (cc B) q) (hQ : ∀ G S' m, LX z c G S' A W T0 B K0 → m < 64 → m &&& (63 ^^^ cW (cc B)) = 0 → m &&& spf (W.2 3) q = 0 → sQ S' = nI (spf (W.2 3) q) → Q (some (.int (nI m))) G) : bw_me X 6 bm_X7_walls false [.ref 0, .int (nI 3)] h Q := by
  obtain ⟨hb, rfl, rfl, rfl, rfl⟩ := hl
  have hk := lb_6 hb
  have hN := hk.1
  refine lb_me hb (fun h Q hx hq => me_X7_walls hx hq) (fun _ => rfl) (fun _ => rfl) (fun G hG => ?_)
  have hd6 := hk.2.1
  obtain ⟨r1, r2⟩ := rl_0 (S := S) hm hq8 hN h0 hlk
  have r0 : (yRL (nI 3) S).1 = 0 := by rw [r1]
  have hlk2 : lkp (sRc S 3) (nowC S) q := hlk
  have ha : lA S (nI 3) = aX (sRc S 3) (nowC S) q := by
    unfold lA
    rw [r2, lkq_1]; rfl
  have hb' : lB S (nI 3) = bX (sRc S 3) (nowC S) q := by
    unfold lB
    rw [r2, lkq_1]; rfl
  have hab := aX_lt hN hlk2
  have hd : tq (lA S (nI 3)) (lB S (nI 3)) (cD (nowC S)) = true := by rw [ha, hb']; exact aX_d hN hlk2
  rw [← ha, ← hb'] at hab
  have hp := trc_pos hd6 hd
  have hle := trc_le (lA S (nI 3)) (lB S (nI 3))
  have e : yWalls (nI 3) S = (nI (kpb (nowC S) (lkq (sRc S 3) q) &&& (63 ^^^ spf (sRc S 3) q)), wQ S (nI (spf (sRc S 3) q))) := by
    unfold yWalls
    rw [if_pos r0, r2, spk_f]
  rw [e] at hG ⊢
  exact hQ G _ _ ⟨hG, rfl, rfl, rfl, rfl⟩ (and_lt (kpl_lt hN hlk2)) (kpb_sub hN hlk2) (and_no _ (kpl_lt hN hlk2) _ (spf_lt hN hlk2)) rfl
theorem lx_kinds {X : Nat × (Nat → Int32)} {Q : Option Value → bw_H → Prop} {h : bw_H} {z c : Nat} {S : ST} {A : LY} {W T0 : RW} {B : AC} {K0 : Nat → Option AC} (hl : LX z c h S A W T0 B K0) {q : Nat} (hm : W.1 3 = some (2 * q)) (hq8 : q ≤ 8) (h0 : 0 < cN (cc B)) (hlk : lkp (W.2 3) (cc B) q) {i : Nat} (hi : i < cN (cc B)) (hQ : ∀ G S' s, LX z c G S' A W T0 B K0 → s < 64 → s.testBit (cK (cc B) i) = true → Q (some (.int (nI s))) G) : bw_me X 6 bm_X7_kinds false [.ref 0, .int (nI i), .int (nI 3)] h Q := by
  obtain ⟨hb, rfl, rfl, rfl, rfl⟩ := hl
  have hk := lb_6 hb
  have hN := hk.1
  refine lb_me hb (fun h Q hx hq => me_X7_kinds hx hq) (fun _ => rfl) (fun _ => rfl) (fun G hG => ?_)
  have hd6 := hk.2.1
  obtain ⟨r1, r2⟩ := rl_0 (S := S) hm hq8 hN h0 hlk
  have r0 : (yRL (nI 3) S).1 = 0 := by rw [r1]
  have hlk2 : lkp (sRc S 3) (nowC S) q := hlk
  have ha : lA S (nI 3) = aX (sRc S 3) (nowC S) q := by
    unfold lA
    rw [r2, lkq_1]; rfl
  have hb' : lB S (nI 3) = bX (sRc S 3) (nowC S) q := by
    unfold lB
    rw [r2, lkq_1]; rfl
  have hab := aX_lt hN hlk2
  have hd : tq (lA S (nI 3)) (lB S (nI 3)) (cD (nowC S)) = true := by rw [ha, hb']; exact aX_d hN hlk2
  rw [← ha, ← hb'] at hab
  have hp := trc_pos hd6 hd
  have hle := trc_le (lA S (nI 3)) (lB S (nI 3))
  have hi' : i < cN (nowC S) := hi
  have e : yKinds (nI i) (nI 3) S = (nI (kis S (lkq (sRc S 3) q) i), S) := by
    unfold yKinds
    rw [if_pos (isn_t hi' (by omega)), if_pos r0, r2, rn_n (by omega)]
  rw [e] at hG ⊢
  have hk6 := (hk.2.2.2.2 i hi').1
  refine hQ G _ _ ⟨hG, rfl, rfl, rfl, rfl⟩ ?_ ?_
  · refine orf_lt' 6 (fun t ht => ?_)
    have := p2_lt t ht
    show (if fkk (nowC S) (lkq (sRc S 3) q) i t (lkq (sRc S 3) q).1 = true then 2 ^ t else 0) < 64
    split <;> omega
  · refine (orf_tb 6).mpr ⟨cK (nowC S) i, hk6, ?_⟩
    rw [if_pos (by rw [lkq_1]; exact fkk_c hN hlk2 q (Nat.le_refl _)), p2_tb]
    exact decide_eq_true rfl
theorem lx_upper {X : Nat × (Nat → Int32)} {Q : Option Value → bw_H → Prop} {h : bw_H} {z c : Nat} {S : ST} {A : LY} {W T0 : RW} {B : AC} {K0 : Nat → Option AC} (hl : LX z c h S A W T0 B K0) (hQ : ∀ G, LX z c G S A W T0 B K0 → Q (some (.long (sU S))) G) : bw_me X 0 bm_X7_upper false [.ref 0] h Q := by
  obtain ⟨hb, rfl, rfl, rfl, rfl⟩ := hl
  exact lb_me hb (fun h Q hx hq => me_X7_upper hx hq) (fun _ => rfl) (fun _ => rfl) (fun G hG => hQ G ⟨hG, rfl, rfl, rfl, rfl⟩)
theorem lx_lower {X : Nat × (Nat → Int32)} {Q : Option Value → bw_H → Prop} {h : bw_H} {z c : Nat} {S : ST} {A : LY} {W T0 : RW} {B : AC} {K0 : Nat → Option AC} (hl : LX z c h S A W T0 B K0) (hQ : ∀ G, LX z c G S A W T0 B K0 → Q (some (.long (sO S))) G) : bw_me X 0 bm_X7_lower false [.ref 0] h Q := by
  obtain ⟨hb, rfl, rfl, rfl, rfl⟩ := hl
  exact lb_me hb (fun h Q hx hq => me_X7_lower hx hq) (fun _ => rfl) (fun _ => rfl) (fun G hG => hQ G ⟨hG, rfl, rfl, rfl, rfl⟩)
