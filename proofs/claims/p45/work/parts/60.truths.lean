/-! sets of sets of things: those with all of a and none of b -/
def mska (a : Nat) : Int64 := (if a.testBit 0 = true then bw_set6 0 else -1) &&& ((if a.testBit 1 = true then bw_set6 1 else -1) &&& ((if a.testBit 2 = true then bw_set6 2 else -1) &&& ((if a.testBit 3 = true then bw_set6 3 else -1) &&& ((if a.testBit 4 = true then bw_set6 4 else -1) &&& (if a.testBit 5 = true then bw_set6 5 else -1)))))
def mskb (a : Nat) : Int64 := (if a.testBit 0 = true then bw_set6 0 ^^^ -1 else -1) &&& ((if a.testBit 1 = true then bw_set6 1 ^^^ -1 else -1) &&& ((if a.testBit 2 = true then bw_set6 2 ^^^ -1 else -1) &&& ((if a.testBit 3 = true then bw_set6 3 ^^^ -1 else -1) &&& ((if a.testBit 4 = true then bw_set6 4 ^^^ -1 else -1) &&& (if a.testBit 5 = true then bw_set6 5 ^^^ -1 else -1)))))
def sts (a b : Nat) : Int64 := mska a &&& mskb b
theorem mska_or : ∀ a, a < 64 → ∀ t, t < 6 → mska (a ||| 2 ^ t) = mska a &&& bw_set6 t := by decide +kernel
theorem mskb_or : ∀ a, a < 64 → ∀ t, t < 6 → mskb (a ||| 2 ^ t) = mskb a &&& (bw_set6 t ^^^ -1) := by decide +kernel
theorem sts_0 : sts 0 0 = -1 := by decide +kernel
theorem sts_a {a b t : Nat} (ha : a < 64) (ht : t < 6) : sts a b &&& bw_set6 t = sts (a ||| 2 ^ t) b := by
  unfold sts
  rw [mska_or a ha t ht, Int64.and_assoc, Int64.and_comm (mskb b), ← Int64.and_assoc]
theorem sts_b {a b t : Nat} (hb : b < 64) (ht : t < 6) : sts a b &&& (bw_set6 t ^^^ -1) = sts a (b ||| 2 ^ t) := by
  unfold sts
  rw [mskb_or b hb t ht, Int64.and_assoc]
def tq (a b d : Nat) : Bool := decide (d &&& a = a ∧ d &&& b = 0)
def trc (a b : Nat) : Nat := cnt (tq a b) 64
def lst (P : Nat → Bool) : Nat → Option Nat
  | 0 => none
  | k + 1 => match lst P k with
    | some x => some x
    | none => if P k = true then some k else none
def lso (x : Int64) : Int32 := if x = 0 then -9 else lbc ((x &&& -x) - 1)
theorem tab_1 : ∀ a, a < 64 → ∀ b, b < 64 → lbc (sts a b) = nI (trc a b) := by decide +kernel
theorem tab_2 : ∀ a, a < 64 → ∀ b, b < 64 → lso (sts a b) = mtI (lst (tq a b) 64) := by decide +kernel
theorem tab_3 : ∀ a, a < 64 → ∀ b, b < 64 → (sts a b = 0 ↔ trc a b = 0) := by decide +kernel
def lAk (C : CT) (A : LK) : Nat → Nat := orf (fun q => if fit C A q (cK C (A.2.1 q)) 0 = true then 0 else 2 ^ A.2.2.1 q)
def lBk (C : CT) (A : LK) : Nat → Nat := orf (fun q => if fit C A q (cK C (A.2.1 q)) 63 = true then 0 else 2 ^ A.2.2.1 q)
theorem lA_lt {C : CT} {A : LK} (k : Nat) (h : ∀ q, q < k → A.2.2.1 q < 6) : lAk C A k < 64 := orf_lt' k (fun q hq => by
  have h1 := p2_lt _ (h q hq)
  show (if fit C A q (cK C (A.2.1 q)) 0 = true then 0 else 2 ^ A.2.2.1 q) < 64
  split
  · omega
  · exact h1)
theorem lB_lt {C : CT} {A : LK} (k : Nat) (h : ∀ q, q < k → A.2.2.1 q < 6) : lBk C A k < 64 := orf_lt' k (fun q hq => by
  have h1 := p2_lt _ (h q hq)
  show (if fit C A q (cK C (A.2.1 q)) 63 = true then 0 else 2 ^ A.2.2.1 q) < 64
  split
  · omega
  · exact h1)
theorem fsk_e (C : CT) (A : LK) : ∀ k, (∀ q, q < k → A.2.2.1 q < 6) → fsk C A k = sts (lAk C A k) (lBk C A k)
  | 0, _ => sts_0.symm
  | k + 1, h => by
    have ih := fsk_e C A k (fun q hq => h q (by omega))
    have ht := h k (by omega)
    have ha := lA_lt (C := C) k (fun q hq => h q (by omega))
    have hb := lB_lt (C := C) k (fun q hq => h q (by omega))
    have hb2 := lB_lt (C := C) (k + 1) h
    have e0 : fsk C A (k + 1) = (if fit C A k (cK C (A.2.1 k)) 0 = true then (if fit C A k (cK C (A.2.1 k)) 63 = true then fsk C A k else fsk C A k &&& (bw_set6 (A.2.2.1 k) ^^^ -1)) else (if fit C A k (cK C (A.2.1 k)) 63 = true then fsk C A k else fsk C A k &&& (bw_set6 (A.2.2.1 k) ^^^ -1)) &&& bw_set6 (A.2.2.1 k)) := rfl
    have e1 : lAk C A (k + 1) = lAk C A k ||| (if fit C A k (cK C (A.2.1 k)) 0 = true then 0 else 2 ^ A.2.2.1 k) := rfl
    have e2 : lBk C A (k + 1) = lBk C A k ||| (if fit C A k (cK C (A.2.1 k)) 63 = true then 0 else 2 ^ A.2.2.1 k) := rfl
    have s1 : (if fit C A k (cK C (A.2.1 k)) 63 = true then fsk C A k else fsk C A k &&& (bw_set6 (A.2.2.1 k) ^^^ -1)) = sts (lAk C A k) (lBk C A (k + 1)) := by
      rw [e2, ih]
      by_cases z : fit C A k (cK C (A.2.1 k)) 63 = true
      · rw [if_pos z, if_pos z, Nat.or_zero]
      · rw [if_neg z, if_neg z, sts_b hb ht]
    rw [e0, s1, e1]
    by_cases z : fit C A k (cK C (A.2.1 k)) 0 = true
    · rw [if_pos z, if_pos z, Nat.or_zero]
    · rw [if_neg z, if_neg z, sts_a ha ht]
def lA (S : ST) (r : Int32) : Nat := lAk (nowC S) (lkA S r) (lkA S r).1
def lB (S : ST) (r : Int32) : Nat := lBk (nowC S) (lkA S r) (lkA S r).1
theorem trc_le (a b : Nat) : trc a b ≤ 64 := cnt_le6 _ 64
theorem cnt_mono {P P' : Nat → Bool} (h : ∀ i, P i = true → P' i = true) : ∀ k, cnt P k ≤ cnt P' k
  | 0 => Nat.le_refl _
  | k + 1 => by
    have ih := cnt_mono h k
    show cnt P k + (if P k = true then 1 else 0) ≤ cnt P' k + (if P' k = true then 1 else 0)
    by_cases z : P k = true
    · rw [if_pos z, if_pos (h k z)]; omega
    · rw [if_neg z]; omega
theorem tr_or : ∀ a, a < 64 → ∀ t, t < 6 → ∀ d, d < 64 → d &&& (a ||| 2 ^ t) = a ||| 2 ^ t → d &&& a = a := by decide +kernel
theorem cnt_mono2 {P P' : Nat → Bool} : ∀ k, (∀ i, i < k → P i = true → P' i = true) → cnt P k ≤ cnt P' k
  | 0, _ => Nat.le_refl _
  | k + 1, h => by
    have ih := cnt_mono2 k (fun i hi => h i (by omega))
    show cnt P k + (if P k = true then 1 else 0) ≤ cnt P' k + (if P' k = true then 1 else 0)
    by_cases z : P k = true
    · rw [if_pos z, if_pos (h k (by omega) z)]; omega
    · rw [if_neg z]; omega
theorem trc_or {a b t : Nat} (ha : a < 64) (ht : t < 6) : trc (a ||| 2 ^ t) b ≤ trc a b := cnt_mono2 64 (fun d hd z => by
  have z2 := of_decide_eq_true z
  exact decide_eq_true ⟨tr_or a ha t ht d hd z2.1, z2.2⟩)
def sme (C : CT) (i x : Nat) : Bool := decide (ans (cW C) i (cK C i) (cR C i) (cV C i) (cE C i) x 0 = ans (cW C) i (cK C i) (cR C i) (cV C i) (cE C i) x 63)
def gpt (C : CT) (a b i x : Nat) : Nat := if sme C i x = true then trc a b else max (trc (a ||| 2 ^ x) b) (trc a b - trc (a ||| 2 ^ x) b)
def nxf (C : CT) (a b : Nat) : Nat → Nat × Nat
  | 0 => (0, 1000)
  | m + 1 => if m % 8 < 6 ∧ gpt C a b (m / 8) (m % 8) < (nxf C a b m).2 then (m, gpt C a b (m / 8) (m % 8)) else nxf C a b m
theorem gpt_le (C : CT) {a b i x : Nat} (ha : a < 64) (hx : x < 6) : gpt C a b i x ≤ 64 := by
  have h1 := trc_le a b
  have h2 := trc_or (b := b) ha hx
  unfold gpt
  split <;> omega
theorem nxf_b {C : CT} {a b : Nat} (ha : a < 64) : ∀ m, (nxf C a b m).1 ≤ m ∧ (nxf C a b m).2 ≤ 1000
  | 0 => ⟨Nat.le_refl _, Nat.le_refl _⟩
  | m + 1 => by
    have ih := nxf_b (C := C) (b := b) ha m
    show (if m % 8 < 6 ∧ gpt C a b (m / 8) (m % 8) < (nxf C a b m).2 then (m, gpt C a b (m / 8) (m % 8)) else nxf C a b m).1 ≤ m + 1 ∧ (if m % 8 < 6 ∧ gpt C a b (m / 8) (m % 8) < (nxf C a b m).2 then (m, gpt C a b (m / 8) (m % 8)) else nxf C a b m).2 ≤ 1000
    split
    · rename_i z
      exact ⟨Nat.le_succ m, by have := gpt_le C (b := b) (i := m / 8) ha z.1; show gpt C a b (m / 8) (m % 8) ≤ 1000; omega⟩
    · exact ⟨by omega, ih.2⟩
theorem nxf_s {C : CT} {a b i y : Nat} (hy : y < 6) : nxf C a b (8 * i + (y + 1)) = if gpt C a b i y < (nxf C a b (8 * i + y)).2 then (8 * i + y, gpt C a b i y) else nxf C a b (8 * i + y) := by
  have e0 : nxf C a b (8 * i + (y + 1)) = if (8 * i + y) % 8 < 6 ∧ gpt C a b ((8 * i + y) / 8) ((8 * i + y) % 8) < (nxf C a b (8 * i + y)).2 then (8 * i + y, gpt C a b ((8 * i + y) / 8) ((8 * i + y) % 8)) else nxf C a b (8 * i + y) := rfl
  rw [e0, show (8 * i + y) % 8 = y by omega, show (8 * i + y) / 8 = i by omega]
  by_cases z : gpt C a b i y < (nxf C a b (8 * i + y)).2
  · rw [if_pos z, if_pos ⟨hy, z⟩]
  · rw [if_neg z, if_neg (fun z2 => z z2.2)]
theorem nxf_6 {C : CT} {a b i : Nat} : nxf C a b (8 * (i + 1)) = nxf C a b (8 * i + 6) := by
  have e1 : nxf C a b (8 * i + 8) = if (8 * i + 7) % 8 < 6 ∧ gpt C a b ((8 * i + 7) / 8) ((8 * i + 7) % 8) < (nxf C a b (8 * i + 7)).2 then (8 * i + 7, gpt C a b ((8 * i + 7) / 8) ((8 * i + 7) % 8)) else nxf C a b (8 * i + 7) := rfl
  have e2 : nxf C a b (8 * i + 7) = if (8 * i + 6) % 8 < 6 ∧ gpt C a b ((8 * i + 6) / 8) ((8 * i + 6) % 8) < (nxf C a b (8 * i + 6)).2 then (8 * i + 6, gpt C a b ((8 * i + 6) / 8) ((8 * i + 6) % 8)) else nxf C a b (8 * i + 6) := rfl
  rw [show 8 * (i + 1) = 8 * i + 8 by omega, e1, if_neg (by omega), e2, if_neg (by omega)]
theorem mx_n {a b : Nat} (ha : a < 2147483648) (hb : b < 2147483648) : (if nI a < nI b then nI b else nI a) = nI (max a b) := by
  by_cases z : a < b
  · rw [if_pos (nI_lt z hb), Nat.max_eq_right (Nat.le_of_lt z)]
  · rw [if_neg (nI_nlt (by omega) ha), Nat.max_eq_left (by omega)]
def surE (a b : Nat) : Nat := orf (fun t => if trc a (b ||| 2 ^ t) = 0 then 2 ^ t else 0) 6
def surN (a b : Nat) : Nat := orf (fun t => if trc (a ||| 2 ^ t) b = 0 then 2 ^ t else 0) 6
def yTruths (r : Int32) (S : ST) : Int32 × ST := if (yRL r S).1 = 0 then (1, tlP (wQ S (mtI (lst (tq (lA S r) (lB S r)) 64))) (trc (lA S r) (lB S r)) 1) else yRL r S
def ySure (r : Int32) (S : ST) : Int32 × ST := if (yRL r S).1 = 0 then (nI (surE (lA S r) (lB S r)), wQ S (nI (surN (lA S r) (lB S r)))) else yRL r S
def yNext (r : Int32) (S : ST) : Int32 × ST := if (yRL r S).1 = 0 then (if trc (lA S r) (lB S r) = 0 then (-9, S) else (nI (nxf (nowC S) (lA S r) (lB S r) (8 * cN (nowC S))).1, wQ S (nI (nxf (nowC S) (lA S r) (lB S r) (8 * cN (nowC S))).2))) else yRL r S
set_option maxRecDepth 100000 in
set_option maxHeartbeats 4000000 in
theorem me_X7_leastOf {X : Nat × (Nat → Int32)} {Q : Option Value → bw_H → Prop} {h : bw_H} {x : Int64} (hQ : Q (some (.int (lso x))) h) : bw_me X 1 bm_X7_leastOf false [.long x] h Q := by
  show bw_go _ 1 7 2 false (some .int) cX7_leastOf 0 [(0, .long _)] [] _ _
  refine go_lload_n dX7_leastOf_0 rfl ?_
  refine go_lconst (0) dX7_leastOf_1 rfl ?_
  refine go_lcmp dX7_leastOf_2 ?_
  refine go_if_ne (pc' := 9) dX7_leastOf_3 rfl (fun c_3 => ?_) (fun c_3 => ?_)
  · -- ne at 3: yes
    show bw_go _ _ _ _ _ _ _ 9 [(0, .long _)] ([]) _ _
    refine go_lload_n dX7_leastOf_9 rfl ?_
    refine go_lload_n dX7_leastOf_10 rfl ?_
    refine go_lneg dX7_leastOf_11 ?_
    refine go_land dX7_leastOf_12 ?_
    refine go_lconst (1) dX7_leastOf_13 rfl ?_
    refine go_lsub dX7_leastOf_14 ?_
    refine go_cs (as := [.long _]) 0 dX7_leastOf_15 rfl rfl mt_7_238 (Nat.le_of_ble_eq_true rfl) rfl rfl (Nat.le_of_ble_eq_true rfl) (Nat.le_of_ble_eq_true rfl) (Nat.le_of_ble_eq_true rfl) (Nat.le_of_ble_eq_true rfl) ?_
    refine me_lbitCount ?_
    show bw_go _ _ _ _ _ _ _ 18 [(0, .long _)] ((.int _) :: []) _ _
    refine go_iret dX7_leastOf_18 rfl rfl ?_
    refine qi hQ ?_
    unfold lso
    rw [if_neg (fun z => c_3 ((lg_cmp_eq _ _).mpr z))]
  · -- ne at 3: no
    show bw_go _ _ _ _ _ _ _ 6 [(0, .long _)] ([]) _ _
    refine go_bipush (-9) dX7_leastOf_6 rfl ?_
    refine go_iret dX7_leastOf_8 rfl rfl ?_
    refine qi hQ ?_
    unfold lso
    rw [if_pos ((lg_cmp_eq _ _).mp (Decidable.of_not_not c_3))]
set_option maxRecDepth 100000 in
set_option maxHeartbeats 4000000 in
theorem me_X7_truths {X : Nat × (Nat → Int32)} {Q : Option Value → bw_H → Prop} {h : bw_H} {S : ST} {r : Int32} (hx : XR h S) (hQ : PX h Q (yTruths r S)) : bw_me X 6 bm_X7_truths false [.ref 0, .int r] h Q := by
  have hc : bw_ct h 11 (nowC S) := hx.2.2.2.1.1.1
  have hN := hc.2.2.1
  show bw_go _ 6 7 5 false (some .int) cX7_truths 0 [(0, .ref _), (1, .int _)] [] _ _
  refine go_aload_n dX7_truths_0 rfl ?_
  refine go_iload_n dX7_truths_1 rfl ?_
  refine go_cv (as := [.int _]) 5 dX7_truths_2 mt_7_227 (Or.inl rfl) rfl rfl hx.1.1.1 hx.1.1.2.1 (Nat.le_of_ble_eq_true rfl) (Nat.le_of_ble_eq_true rfl) (Nat.le_of_ble_eq_true rfl) (Nat.le_of_ble_eq_true rfl) (Nat.le_of_ble_eq_true rfl) ?_
  refine me_X7_readLooks hx (fun g hg hf hl => ?_)
  show bw_go _ _ _ _ _ _ _ 5 [(0, .ref _), (1, .int _)] ((.int _) :: []) _ _
  refine go_istore_n dX7_truths_5 (Nat.lt_of_lt_of_le (Nat.lt_succ_self _) (Nat.le_of_ble_eq_true rfl)) ?_
  show bw_go _ _ _ _ _ _ _ 6 [(2, .int _), (0, .ref _), (1, .int _)] ([]) _ _
  refine go_iload_n dX7_truths_6 rfl ?_
  refine go_if_eq (pc' := 12) dX7_truths_7 rfl (fun c_7 => ?_) (fun c_7 => ?_)
  · -- eq at 7: yes
    show bw_go _ _ _ _ _ _ _ 12 [(2, .int _), (0, .ref _), (1, .int _)] ([]) _ _
    obtain ⟨hlk, e2, hpos⟩ := hl c_7
    rw [e2] at hg
    have hx0 := hx
    have hx := hg
    have hc : bw_ct g 11 (nowC S) := hx.2.2.2.1.1.1
    have hth : ∀ q, q < (lkA S r).1 → (lkA S r).2.2.1 q < 6 := fun q hq => (hlk.2.2.2 q hq).2.2.1
    have ha : lA S r < 64 := lA_lt (C := nowC S) _ hth
    have hb : lB S r < 64 := lB_lt (C := nowC S) _ hth
    have htr := trc_le (lA S r) (lB S r)
    refine go_aload_n dX7_truths_12 rfl ?_
    refine go_gfr dX7_truths_13 fl_7_45 rfl hx.1.1.1 hx.1.1.2.1 hx.1.1.2.2.2.2.2.2.2.2.1 ?_
    refine go_aload_n dX7_truths_16 rfl ?_
    refine go_gfr dX7_truths_17 fl_7_24 rfl hx.1.1.1 hx.1.1.2.1 hx.1.1.2.2.2.2.1 ?_
    refine go_cv (as := [.ref _]) 5 dX7_truths_20 mt_7_230 (Or.inr rfl) rfl rfl hx.1.2.2.2.2.1.1.1 hx.1.2.2.2.2.1.1.2.1 (Nat.le_of_ble_eq_true rfl) (Nat.le_of_ble_eq_true rfl) (Nat.le_of_ble_eq_true rfl) (Nat.le_of_ble_eq_true rfl) (Nat.le_of_ble_eq_true rfl) ?_
    refine me_X2_fittingSets hlk hc ?_
    rw [fsk_e _ _ _ hth, show sts (lAk (nowC S) (lkA S r) (lkA S r).1) (lBk (nowC S) (lkA S r) (lkA S r).1) = sts (lA S r) (lB S r) from rfl]
    show bw_go _ _ _ _ _ _ _ 23 [(2, .int _), (0, .ref _), (1, .int _)] ((.long _) :: []) _ _
    refine go_lstore_n dX7_truths_23 (Nat.lt_of_lt_of_le (Nat.lt_succ_self _) (Nat.le_of_ble_eq_true rfl)) ?_
    show bw_go _ _ _ _ _ _ _ 24 [(3, .long _), (2, .int _), (0, .ref _), (1, .int _)] ([]) _ _
    refine go_aload_n dX7_truths_24 rfl ?_
    refine go_lload_n dX7_truths_25 rfl ?_
    refine go_cs (as := [.long _]) 1 dX7_truths_26 rfl rfl mt_7_234 (Nat.le_of_ble_eq_true rfl) rfl rfl (Nat.le_of_ble_eq_true rfl) (Nat.le_of_ble_eq_true rfl) (Nat.le_of_ble_eq_true rfl) (Nat.le_of_ble_eq_true rfl) ?_
    refine me_X7_leastOf ?_
    rw [tab_2 _ ha _ hb]
    show bw_go _ _ _ _ _ _ _ 29 [(3, .long _), (2, .int _), (0, .ref _), (1, .int _)] ((.int _) :: (.ref _) :: []) _ _
    refine go_pfi dX7_truths_29 fl_7_76 rfl hx.1.1.1 hx.1.1.2.1 (Nat.le_of_ble_eq_true rfl) (Or.inl rfl) ?_
    show bw_go _ _ _ _ _ _ _ 32 [(3, .long _), (2, .int _), (0, .ref _), (1, .int _)] ([]) _ _
    refine go_aload_n dX7_truths_32 rfl ?_
    refine go_lload_n dX7_truths_33 rfl ?_
    refine go_cs (as := [.long _]) 0 dX7_truths_34 rfl rfl mt_7_238 (Nat.le_of_ble_eq_true rfl) rfl rfl (Nat.le_of_ble_eq_true rfl) (Nat.le_of_ble_eq_true rfl) (Nat.le_of_ble_eq_true rfl) (Nat.le_of_ble_eq_true rfl) ?_
    refine me_lbitCount ?_
    show bw_go _ _ _ _ _ _ _ 37 [(3, .long _), (2, .int _), (0, .ref _), (1, .int _)] ((.int _) :: (.ref _) :: []) _ _
    rw [tab_1 _ ha _ hb]
    refine go_i2l dX7_truths_37 ?_
    rw [nI_l (by omega)]
    refine go_lconst (1) dX7_truths_38 rfl ?_
    rw [show (1 : Int64) = lN 1 from rfl]
    refine go_cv (as := [.long _, .long _]) 1 dX7_truths_39 mt_7_242 (Or.inl rfl) rfl rfl hx.1.1.1 hx.1.1.2.1 (Nat.le_of_ble_eq_true rfl) (Nat.le_of_ble_eq_true rfl) (Nat.le_of_ble_eq_true rfl) (Nat.le_of_ble_eq_true rfl) (Nat.le_of_ble_eq_true rfl) ?_
    refine me_X7_tellPart (xr_la hx _) (by omega) (by decide) (by decide) (fun g2 hg2 hf2 => ?_)
    show bw_go _ _ _ _ _ _ _ 42 [(3, .long _), (2, .int _), (0, .ref _), (1, .int _)] ([]) _ _
    refine go_iconst (1) dX7_truths_42 rfl ?_
    refine go_iret dX7_truths_43 rfl rfl ?_
    refine q_x hQ ?_ hg2 (frM_t hf (frM_t (frM_wi rfl (fun q h1 h2 => ?_)) hf2))
    · unfold yTruths
      rw [if_pos c_7]
    · rw [i_si_o (by omega)]
  · -- eq at 7: no
    show bw_go _ _ _ _ _ _ _ 10 [(2, .int _), (0, .ref _), (1, .int _)] ([]) _ _
    refine go_iload_n dX7_truths_10 rfl ?_
    refine go_iret dX7_truths_11 rfl rfl ?_
    refine q_x hQ ?_ hg hf
    unfold yTruths
    rw [if_neg c_7]
set_option maxRecDepth 100000 in
set_option maxHeartbeats 4000000 in
theorem me_X7_sure {X : Nat × (Nat → Int32)} {Q : Option Value → bw_H → Prop} {h : bw_H} {S : ST} {r : Int32} (hx : XR h S) (hQ : PX h Q (ySure r S)) : bw_me X 6 bm_X7_sure false [.ref 0, .int r] h Q := by
  have hc : bw_ct h 11 (nowC S) := hx.2.2.2.1.1.1
  have hN := hc.2.2.1
  show bw_go _ 6 7 8 false (some .int) cX7_sure 0 [(0, .ref _), (1, .int _)] [] _ _
  refine go_aload_n dX7_sure_0 rfl ?_
  refine go_iload_n dX7_sure_1 rfl ?_
  refine go_cv (as := [.int _]) 5 dX7_sure_2 mt_7_227 (Or.inl rfl) rfl rfl hx.1.1.1 hx.1.1.2.1 (Nat.le_of_ble_eq_true rfl) (Nat.le_of_ble_eq_true rfl) (Nat.le_of_ble_eq_true rfl) (Nat.le_of_ble_eq_true rfl) (Nat.le_of_ble_eq_true rfl) ?_
  refine me_X7_readLooks hx (fun g hg hf hl => ?_)
  show bw_go _ _ _ _ _ _ _ 5 [(0, .ref _), (1, .int _)] ((.int _) :: []) _ _
  refine go_istore_n dX7_sure_5 (Nat.lt_of_lt_of_le (Nat.lt_succ_self _) (Nat.le_of_ble_eq_true rfl)) ?_
  show bw_go _ _ _ _ _ _ _ 6 [(2, .int _), (0, .ref _), (1, .int _)] ([]) _ _
  refine go_iload_n dX7_sure_6 rfl ?_
  refine go_if_eq (pc' := 12) dX7_sure_7 rfl (fun c_7 => ?_) (fun c_7 => ?_)
  · -- eq at 7: yes
    show bw_go _ _ _ _ _ _ _ 12 [(2, .int _), (0, .ref _), (1, .int _)] ([]) _ _
    obtain ⟨hlk, e2, hpos⟩ := hl c_7
    rw [e2] at hg
    have hx0 := hx
    have hx := hg
    have hc : bw_ct g 11 (nowC S) := hx.2.2.2.1.1.1
    have hth : ∀ q, q < (lkA S r).1 → (lkA S r).2.2.1 q < 6 := fun q hq => (hlk.2.2.2 q hq).2.2.1
    have ha : lA S r < 64 := lA_lt (C := nowC S) _ hth
    have hb : lB S r < 64 := lB_lt (C := nowC S) _ hth
    have htr := trc_le (lA S r) (lB S r)
    refine go_aload_n dX7_sure_12 rfl ?_
    refine go_gfr dX7_sure_13 fl_7_45 rfl hx.1.1.1 hx.1.1.2.1 hx.1.1.2.2.2.2.2.2.2.2.1 ?_
    refine go_aload_n dX7_sure_16 rfl ?_
    refine go_gfr dX7_sure_17 fl_7_24 rfl hx.1.1.1 hx.1.1.2.1 hx.1.1.2.2.2.2.1 ?_
    refine go_cv (as := [.ref _]) 5 dX7_sure_20 mt_7_230 (Or.inr rfl) rfl rfl hx.1.2.2.2.2.1.1.1 hx.1.2.2.2.2.1.1.2.1 (Nat.le_of_ble_eq_true rfl) (Nat.le_of_ble_eq_true rfl) (Nat.le_of_ble_eq_true rfl) (Nat.le_of_ble_eq_true rfl) (Nat.le_of_ble_eq_true rfl) ?_
    refine me_X2_fittingSets hlk hc ?_
    rw [fsk_e _ _ _ hth, show sts (lAk (nowC S) (lkA S r) (lkA S r).1) (lBk (nowC S) (lkA S r) (lkA S r).1) = sts (lA S r) (lB S r) from rfl]
    show bw_go _ _ _ _ _ _ _ 23 [(2, .int _), (0, .ref _), (1, .int _)] ((.long _) :: []) _ _
    refine go_lstore_n dX7_sure_23 (Nat.lt_of_lt_of_le (Nat.lt_succ_self _) (Nat.le_of_ble_eq_true rfl)) ?_
    show bw_go _ _ _ _ _ _ _ 24 [(3, .long _), (2, .int _), (0, .ref _), (1, .int _)] ([]) _ _
    refine go_iconst (0) dX7_sure_24 rfl ?_
    refine go_istore dX7_sure_25 (Nat.lt_of_lt_of_le (Nat.lt_succ_self _) (Nat.le_of_ble_eq_true rfl)) ?_
    show bw_go _ _ _ _ _ _ _ 27 [(5, .int _), (3, .long _), (2, .int _), (0, .ref _), (1, .int _)] ([]) _ _
    refine go_iconst (0) dX7_sure_27 rfl ?_
    refine go_istore dX7_sure_28 (Nat.lt_of_lt_of_le (Nat.lt_succ_self _) (Nat.le_of_ble_eq_true rfl)) ?_
    show bw_go _ _ _ _ _ _ _ 30 [(6, .int _), (5, .int _), (3, .long _), (2, .int _), (0, .ref _), (1, .int _)] ([]) _ _
    refine go_iconst (0) dX7_sure_30 rfl ?_
    refine go_istore dX7_sure_31 (Nat.lt_of_lt_of_le (Nat.lt_succ_self _) (Nat.le_of_ble_eq_true rfl)) ?_
    show bw_go _ _ _ _ _ _ _ 33 [(7, .int _), (6, .int _), (5, .int _), (3, .long _), (2, .int _), (0, .ref _), (1, .int _)] ([]) _ _
    refine go_ls [(7, .int _), (6, .int _), (5, .int _), (3, .long _), (0, .ref _), (1, .int _), (2, .int _)] (by show List.Nodup ([7, 6, 5, 3, 0, 1, 2] : List Nat); decide) (by show List.Nodup ([7, 6, 5, 3, 2, 0, 1] : List Nat); decide) (le_cons rfl (le_cons rfl (le_cons rfl (le_cons rfl (le_cons rfl (le_cons rfl (le_cons rfl (le_nil _)))))))) ?_
    refine go_for (P := fun k => bw_go X 6 7 8 false (some .int) cX7_sure 33 [(7, .int (nI k)), (6, .int (nI (orf (fun t => if trc (lA S r ||| 2 ^ t) (lB S r) = 0 then 2 ^ t else 0) k))), (5, .int (nI (orf (fun t => if trc (lA S r) (lB S r ||| 2 ^ t) = 0 then 2 ^ t else 0) k))), (3, .long (sts (lA S r) (lB S r))), (0, .ref (0)), (1, .int (r)), (2, .int ((yRL r S).1))] [] g Q) (N := 6) (fun k hk K => ?_) ?_ (0) (Nat.zero_le _)
    · -- a turn
      have hk2 := p2_lt k hk
      have z1 : lg_cmp (sts (lA S r) (lB S r ||| 2 ^ k)) 0 = 0 ↔ trc (lA S r) (lB S r ||| 2 ^ k) = 0 := (lg_cmp_eq _ _).trans (tab_3 _ ha _ (or_lt hb hk2))
      have z2 : lg_cmp (sts (lA S r ||| 2 ^ k) (lB S r)) 0 = 0 ↔ trc (lA S r ||| 2 ^ k) (lB S r) = 0 := (lg_cmp_eq _ _).trans (tab_3 _ (or_lt ha hk2) _ hb)
      show bw_go _ _ _ _ _ _ _ 33 [(7, .int _), (6, .int _), (5, .int _), (3, .long _), (0, .ref _), (1, .int _), (2, .int _)] ([]) _ _
      refine go_iload dX7_sure_33 rfl ?_
      refine go_bipush (6) dX7_sure_35 rfl ?_
      refine go_icmp_ge (pc' := 92) dX7_sure_37 rfl (fun c_37 => ?_) (fun c_37 => ?_)
      · -- ge at 37: yes
        exfalso; have t_0 := nI_toInt (n := k) (by omega); have l_0 : (6 : Int32).toInt = 6 := rfl; simp only [i_le, i_lt, i_eq, bi_eq] at c_37; omega
      · -- ge at 37: no
        show bw_go _ _ _ _ _ _ _ 40 [(7, .int _), (6, .int _), (5, .int _), (3, .long _), (0, .ref _), (1, .int _), (2, .int _)] ([]) _ _
        refine go_lload_n dX7_sure_40 rfl ?_
        refine go_iload dX7_sure_41 rfl ?_
        refine go_cs (as := [.int _]) 0 dX7_sure_43 rfl rfl mt_7_246 (Nat.le_of_ble_eq_true rfl) rfl rfl (Nat.le_of_ble_eq_true rfl) (Nat.le_of_ble_eq_true rfl) (Nat.le_of_ble_eq_true rfl) (Nat.le_of_ble_eq_true rfl) ?_
        refine me_X2_setsWith hk ?_
        show bw_go _ _ _ _ _ _ _ 46 [(7, .int _), (6, .int _), (5, .int _), (3, .long _), (0, .ref _), (1, .int _), (2, .int _)] ((.long _) :: (.long _) :: []) _ _
        refine go_ldc2_w dX7_sure_46 kc_7_249 ?_
        refine go_lxor dX7_sure_49 ?_
        refine go_land dX7_sure_50 ?_
        rw [sts_b hb hk]
        refine go_lconst (0) dX7_sure_51 rfl ?_
        refine go_lcmp dX7_sure_52 ?_
        refine go_if_ne (pc' := 65) dX7_sure_53 rfl (fun c_53 => ?_) (fun c_53 => ?_)
        · -- ne at 53: yes
          show bw_go _ _ _ _ _ _ _ 65 [(7, .int _), (6, .int _), (5, .int _), (3, .long _), (0, .ref _), (1, .int _), (2, .int _)] ([]) _ _
          refine go_lload_n dX7_sure_65 rfl ?_
          refine go_iload dX7_sure_66 rfl ?_
          refine go_cs (as := [.int _]) 0 dX7_sure_68 rfl rfl mt_7_246 (Nat.le_of_ble_eq_true rfl) rfl rfl (Nat.le_of_ble_eq_true rfl) (Nat.le_of_ble_eq_true rfl) (Nat.le_of_ble_eq_true rfl) (Nat.le_of_ble_eq_true rfl) ?_
          refine me_X2_setsWith hk ?_
          show bw_go _ _ _ _ _ _ _ 71 [(7, .int _), (6, .int _), (5, .int _), (3, .long _), (0, .ref _), (1, .int _), (2, .int _)] ((.long _) :: (.long _) :: []) _ _
          refine go_land dX7_sure_71 ?_
          rw [sts_a ha hk]
          refine go_lconst (0) dX7_sure_72 rfl ?_
          refine go_lcmp dX7_sure_73 ?_
          refine go_if_ne (pc' := 86) dX7_sure_74 rfl (fun c_74 => ?_) (fun c_74 => ?_)
          · -- ne at 74: yes
            show bw_go _ _ _ _ _ _ _ 86 [(7, .int _), (6, .int _), (5, .int _), (3, .long _), (0, .ref _), (1, .int _), (2, .int _)] ([]) _ _
            refine go_iinc dX7_sure_86 rfl (nI_1 k) (Nat.lt_of_lt_of_le (Nat.lt_succ_self _) (Nat.le_of_ble_eq_true rfl)) ?_
            show bw_go _ _ _ _ _ _ _ 89 [(7, .int _), (6, .int _), (5, .int _), (3, .long _), (0, .ref _), (1, .int _), (2, .int _)] ([]) _ _
            refine go_goto (pc' := 33) dX7_sure_89 rfl ?_
            have e1 : orf (fun t => if trc (lA S r) (lB S r ||| 2 ^ t) = 0 then 2 ^ t else 0) (k + 1) = orf (fun t => if trc (lA S r) (lB S r ||| 2 ^ t) = 0 then 2 ^ t else 0) k ||| (if trc (lA S r) (lB S r ||| 2 ^ k) = 0 then 2 ^ k else 0) := rfl
            have e2 : orf (fun t => if trc (lA S r ||| 2 ^ t) (lB S r) = 0 then 2 ^ t else 0) (k + 1) = orf (fun t => if trc (lA S r ||| 2 ^ t) (lB S r) = 0 then 2 ^ t else 0) k ||| (if trc (lA S r ||| 2 ^ k) (lB S r) = 0 then 2 ^ k else 0) := rfl
            first | rw [if_neg (fun z => c_53 (z1.mpr z)), Nat.or_zero] at e1 | rw [if_pos (z1.mp (Decidable.of_not_not c_53))] at e1
            first | rw [if_neg (fun z => c_74 (z2.mpr z)), Nat.or_zero] at e2 | rw [if_pos (z2.mp (Decidable.of_not_not c_74))] at e2
            rw [e1, e2] at K
            exact K
          · -- ne at 74: no
            show bw_go _ _ _ _ _ _ _ 77 [(7, .int _), (6, .int _), (5, .int _), (3, .long _), (0, .ref _), (1, .int _), (2, .int _)] ([]) _ _
            refine go_iload dX7_sure_77 rfl ?_
            refine go_iconst (1) dX7_sure_79 rfl ?_
            refine go_iload dX7_sure_80 rfl ?_
            refine go_ishl dX7_sure_82 ?_
            rw [sh_t k (by omega)]
            refine go_ior dX7_sure_83 ?_
            rw [or_n]
            refine go_istore dX7_sure_84 (Nat.lt_of_lt_of_le (Nat.lt_succ_self _) (Nat.le_of_ble_eq_true rfl)) ?_
            show bw_go _ _ _ _ _ _ _ 86 [(6, .int _), (7, .int _), (5, .int _), (3, .long _), (0, .ref _), (1, .int _), (2, .int _)] ([]) _ _
            refine go_iinc dX7_sure_86 rfl (nI_1 k) (Nat.lt_of_lt_of_le (Nat.lt_succ_self _) (Nat.le_of_ble_eq_true rfl)) ?_
            show bw_go _ _ _ _ _ _ _ 89 [(7, .int _), (6, .int _), (5, .int _), (3, .long _), (0, .ref _), (1, .int _), (2, .int _)] ([]) _ _
            refine go_goto (pc' := 33) dX7_sure_89 rfl ?_
            have e1 : orf (fun t => if trc (lA S r) (lB S r ||| 2 ^ t) = 0 then 2 ^ t else 0) (k + 1) = orf (fun t => if trc (lA S r) (lB S r ||| 2 ^ t) = 0 then 2 ^ t else 0) k ||| (if trc (lA S r) (lB S r ||| 2 ^ k) = 0 then 2 ^ k else 0) := rfl
            have e2 : orf (fun t => if trc (lA S r ||| 2 ^ t) (lB S r) = 0 then 2 ^ t else 0) (k + 1) = orf (fun t => if trc (lA S r ||| 2 ^ t) (lB S r) = 0 then 2 ^ t else 0) k ||| (if trc (lA S r ||| 2 ^ k) (lB S r) = 0 then 2 ^ k else 0) := rfl
            first | rw [if_neg (fun z => c_53 (z1.mpr z)), Nat.or_zero] at e1 | rw [if_pos (z1.mp (Decidable.of_not_not c_53))] at e1
            first | rw [if_neg (fun z => c_74 (z2.mpr z)), Nat.or_zero] at e2 | rw [if_pos (z2.mp (Decidable.of_not_not c_74))] at e2
            rw [e1, e2] at K
            exact K
        · -- ne at 53: no
          show bw_go _ _ _ _ _ _ _ 56 [(7, .int _), (6, .int _), (5, .int _), (3, .long _), (0, .ref _), (1, .int _), (2, .int _)] ([]) _ _
          refine go_iload dX7_sure_56 rfl ?_
          refine go_iconst (1) dX7_sure_58 rfl ?_
          refine go_iload dX7_sure_59 rfl ?_
          refine go_ishl dX7_sure_61 ?_
          rw [sh_t k (by omega)]
          refine go_ior dX7_sure_62 ?_
          rw [or_n]
          refine go_istore dX7_sure_63 (Nat.lt_of_lt_of_le (Nat.lt_succ_self _) (Nat.le_of_ble_eq_true rfl)) ?_
          show bw_go _ _ _ _ _ _ _ 65 [(5, .int _), (7, .int _), (6, .int _), (3, .long _), (0, .ref _), (1, .int _), (2, .int _)] ([]) _ _
          refine go_lload_n dX7_sure_65 rfl ?_
          refine go_iload dX7_sure_66 rfl ?_
          refine go_cs (as := [.int _]) 0 dX7_sure_68 rfl rfl mt_7_246 (Nat.le_of_ble_eq_true rfl) rfl rfl (Nat.le_of_ble_eq_true rfl) (Nat.le_of_ble_eq_true rfl) (Nat.le_of_ble_eq_true rfl) (Nat.le_of_ble_eq_true rfl) ?_
          refine me_X2_setsWith hk ?_
          show bw_go _ _ _ _ _ _ _ 71 [(5, .int _), (7, .int _), (6, .int _), (3, .long _), (0, .ref _), (1, .int _), (2, .int _)] ((.long _) :: (.long _) :: []) _ _
          refine go_land dX7_sure_71 ?_
          rw [sts_a ha hk]
          refine go_lconst (0) dX7_sure_72 rfl ?_
          refine go_lcmp dX7_sure_73 ?_
          refine go_if_ne (pc' := 86) dX7_sure_74 rfl (fun c_74 => ?_) (fun c_74 => ?_)
          · -- ne at 74: yes
            show bw_go _ _ _ _ _ _ _ 86 [(5, .int _), (7, .int _), (6, .int _), (3, .long _), (0, .ref _), (1, .int _), (2, .int _)] ([]) _ _
            refine go_iinc dX7_sure_86 rfl (nI_1 k) (Nat.lt_of_lt_of_le (Nat.lt_succ_self _) (Nat.le_of_ble_eq_true rfl)) ?_
            show bw_go _ _ _ _ _ _ _ 89 [(7, .int _), (5, .int _), (6, .int _), (3, .long _), (0, .ref _), (1, .int _), (2, .int _)] ([]) _ _
            refine go_goto (pc' := 33) dX7_sure_89 rfl ?_
            refine go_ls [(7, .int _), (6, .int _), (5, .int _), (3, .long _), (0, .ref _), (1, .int _), (2, .int _)] (by show List.Nodup ([7, 6, 5, 3, 0, 1, 2] : List Nat); decide) (by show List.Nodup ([7, 5, 6, 3, 0, 1, 2] : List Nat); decide) (le_cons rfl (le_cons rfl (le_cons rfl (le_cons rfl (le_cons rfl (le_cons rfl (le_cons rfl (le_nil _)))))))) ?_
            have e1 : orf (fun t => if trc (lA S r) (lB S r ||| 2 ^ t) = 0 then 2 ^ t else 0) (k + 1) = orf (fun t => if trc (lA S r) (lB S r ||| 2 ^ t) = 0 then 2 ^ t else 0) k ||| (if trc (lA S r) (lB S r ||| 2 ^ k) = 0 then 2 ^ k else 0) := rfl
            have e2 : orf (fun t => if trc (lA S r ||| 2 ^ t) (lB S r) = 0 then 2 ^ t else 0) (k + 1) = orf (fun t => if trc (lA S r ||| 2 ^ t) (lB S r) = 0 then 2 ^ t else 0) k ||| (if trc (lA S r ||| 2 ^ k) (lB S r) = 0 then 2 ^ k else 0) := rfl
            first | rw [if_neg (fun z => c_53 (z1.mpr z)), Nat.or_zero] at e1 | rw [if_pos (z1.mp (Decidable.of_not_not c_53))] at e1
            first | rw [if_neg (fun z => c_74 (z2.mpr z)), Nat.or_zero] at e2 | rw [if_pos (z2.mp (Decidable.of_not_not c_74))] at e2
            rw [e1, e2] at K
            exact K
          · -- ne at 74: no
            show bw_go _ _ _ _ _ _ _ 77 [(5, .int _), (7, .int _), (6, .int _), (3, .long _), (0, .ref _), (1, .int _), (2, .int _)] ([]) _ _
            refine go_iload dX7_sure_77 rfl ?_
            refine go_iconst (1) dX7_sure_79 rfl ?_
            refine go_iload dX7_sure_80 rfl ?_
            refine go_ishl dX7_sure_82 ?_
            rw [sh_t k (by omega)]
            refine go_ior dX7_sure_83 ?_
            rw [or_n]
            refine go_istore dX7_sure_84 (Nat.lt_of_lt_of_le (Nat.lt_succ_self _) (Nat.le_of_ble_eq_true rfl)) ?_
            show bw_go _ _ _ _ _ _ _ 86 [(6, .int _), (5, .int _), (7, .int _), (3, .long _), (0, .ref _), (1, .int _), (2, .int _)] ([]) _ _
            refine go_iinc dX7_sure_86 rfl (nI_1 k) (Nat.lt_of_lt_of_le (Nat.lt_succ_self _) (Nat.le_of_ble_eq_true rfl)) ?_
            show bw_go _ _ _ _ _ _ _ 89 [(7, .int _), (6, .int _), (5, .int _), (3, .long _), (0, .ref _), (1, .int _), (2, .int _)] ([]) _ _
            refine go_goto (pc' := 33) dX7_sure_89 rfl ?_
            have e1 : orf (fun t => if trc (lA S r) (lB S r ||| 2 ^ t) = 0 then 2 ^ t else 0) (k + 1) = orf (fun t => if trc (lA S r) (lB S r ||| 2 ^ t) = 0 then 2 ^ t else 0) k ||| (if trc (lA S r) (lB S r ||| 2 ^ k) = 0 then 2 ^ k else 0) := rfl
            have e2 : orf (fun t => if trc (lA S r ||| 2 ^ t) (lB S r) = 0 then 2 ^ t else 0) (k + 1) = orf (fun t => if trc (lA S r ||| 2 ^ t) (lB S r) = 0 then 2 ^ t else 0) k ||| (if trc (lA S r ||| 2 ^ k) (lB S r) = 0 then 2 ^ k else 0) := rfl
            first | rw [if_neg (fun z => c_53 (z1.mpr z)), Nat.or_zero] at e1 | rw [if_pos (z1.mp (Decidable.of_not_not c_53))] at e1
            first | rw [if_neg (fun z => c_74 (z2.mpr z)), Nat.or_zero] at e2 | rw [if_pos (z2.mp (Decidable.of_not_not c_74))] at e2
            rw [e1, e2] at K
            exact K
    · -- behind the last
      show bw_go _ _ _ _ _ _ _ 33 [(7, .int _), (6, .int _), (5, .int _), (3, .long _), (0, .ref _), (1, .int _), (2, .int _)] ([]) _ _
      refine go_iload dX7_sure_33 rfl ?_
      refine go_bipush (6) dX7_sure_35 rfl ?_
      refine go_icmp_ge (pc' := 92) dX7_sure_37 rfl (fun c_37 => ?_) (fun c_37 => ?_)
      · -- ge at 37: yes
        show bw_go _ _ _ _ _ _ _ 92 [(7, .int _), (6, .int _), (5, .int _), (3, .long _), (0, .ref _), (1, .int _), (2, .int _)] ([]) _ _
        refine go_aload_n dX7_sure_92 rfl ?_
        refine go_iload dX7_sure_93 rfl ?_
        refine go_pfi dX7_sure_95 fl_7_76 rfl hx.1.1.1 hx.1.1.2.1 (Nat.le_of_ble_eq_true rfl) (Or.inl rfl) ?_
        show bw_go _ _ _ _ _ _ _ 98 [(7, .int _), (6, .int _), (5, .int _), (3, .long _), (0, .ref _), (1, .int _), (2, .int _)] ([]) _ _
        refine go_iload dX7_sure_98 rfl ?_
        refine go_iret dX7_sure_100 rfl rfl ?_
        refine q_x hQ ?_ (xr_la hx _) (frM_t hf (frM_wi rfl (fun q h1 h2 => ?_)))
        · unfold ySure surE surN
          rw [if_pos c_7]
        · rw [i_si_o (by omega)]
      · -- ge at 37: no
        exfalso; have t_0 := nI_toInt (n := 6) (by omega); have l_0 : (6 : Int32).toInt = 6 := rfl; simp only [i_le, i_lt, i_eq, bi_eq] at c_37; omega
  · -- eq at 7: no
    show bw_go _ _ _ _ _ _ _ 10 [(2, .int _), (0, .ref _), (1, .int _)] ([]) _ _
    refine go_iload_n dX7_sure_10 rfl ?_
    refine go_iret dX7_sure_11 rfl rfl ?_
    refine q_x hQ ?_ hg hf
    unfold ySure
    rw [if_neg c_7]
set_option maxRecDepth 100000 in
set_option maxHeartbeats 4000000 in
theorem me_X7_greatestPart {X : Nat × (Nat → Int32)} {Q : Option Value → bw_H → Prop} {h : bw_H} {S : ST} {i y a b : Nat} (hx : XR h S) (hi : i < cN (nowC S)) (hy : y < 6) (ha : a < 64) (hb : b < 64) (hQ : Q (some (.int (nI (gpt (nowC S) a b i y)))) h) : bw_me X 4 bm_X7_greatestPart false [.ref 0, .int (nI i), .int (nI y), .long (sts a b)] h Q := by
  have hc : bw_ct h 11 (nowC S) := hx.2.2.2.1.1.1
  have hN := hc.2.2.1
  have htr := trc_le a b
  have hor := trc_or (b := b) ha hy
  show bw_go _ 4 7 8 false (some .int) cX7_greatestPart 0 [(0, .ref _), (1, .int _), (2, .int _), (3, .long _)] [] _ _
  refine go_lload_n dX7_greatestPart_0 rfl ?_
  refine go_cs (as := [.long _]) 0 dX7_greatestPart_1 rfl rfl mt_7_238 (Nat.le_of_ble_eq_true rfl) rfl rfl (Nat.le_of_ble_eq_true rfl) (Nat.le_of_ble_eq_true rfl) (Nat.le_of_ble_eq_true rfl) (Nat.le_of_ble_eq_true rfl) ?_
  refine me_lbitCount ?_
  show bw_go _ _ _ _ _ _ _ 4 [(0, .ref _), (1, .int _), (2, .int _), (3, .long _)] ((.int _) :: []) _ _
  rw [tab_1 _ ha _ hb]
  refine go_istore dX7_greatestPart_4 (Nat.lt_of_lt_of_le (Nat.lt_succ_self _) (Nat.le_of_ble_eq_true rfl)) ?_
  show bw_go _ _ _ _ _ _ _ 6 [(5, .int _), (0, .ref _), (1, .int _), (2, .int _), (3, .long _)] ([]) _ _
  refine go_lload_n dX7_greatestPart_6 rfl ?_
  refine go_iload_n dX7_greatestPart_7 rfl ?_
  refine go_cs (as := [.int _]) 0 dX7_greatestPart_8 rfl rfl mt_7_246 (Nat.le_of_ble_eq_true rfl) rfl rfl (Nat.le_of_ble_eq_true rfl) (Nat.le_of_ble_eq_true rfl) (Nat.le_of_ble_eq_true rfl) (Nat.le_of_ble_eq_true rfl) ?_
  refine me_X2_setsWith hy ?_
  show bw_go _ _ _ _ _ _ _ 11 [(5, .int _), (0, .ref _), (1, .int _), (2, .int _), (3, .long _)] ((.long _) :: (.long _) :: []) _ _
  refine go_land dX7_greatestPart_11 ?_
  rw [sts_a ha hy]
  refine go_cs (as := [.long _]) 0 dX7_greatestPart_12 rfl rfl mt_7_238 (Nat.le_of_ble_eq_true rfl) rfl rfl (Nat.le_of_ble_eq_true rfl) (Nat.le_of_ble_eq_true rfl) (Nat.le_of_ble_eq_true rfl) (Nat.le_of_ble_eq_true rfl) ?_
  refine me_lbitCount ?_
  show bw_go _ _ _ _ _ _ _ 15 [(5, .int _), (0, .ref _), (1, .int _), (2, .int _), (3, .long _)] ((.int _) :: []) _ _
  rw [tab_1 _ (or_lt ha (p2_lt y hy)) _ hb]
  refine go_istore dX7_greatestPart_15 (Nat.lt_of_lt_of_le (Nat.lt_succ_self _) (Nat.le_of_ble_eq_true rfl)) ?_
  show bw_go _ _ _ _ _ _ _ 17 [(6, .int _), (5, .int _), (0, .ref _), (1, .int _), (2, .int _), (3, .long _)] ([]) _ _
  refine go_aload_n dX7_greatestPart_17 rfl ?_
  refine go_gfr dX7_greatestPart_18 fl_7_24 rfl hx.1.1.1 hx.1.1.2.1 hx.1.1.2.2.2.2.1 ?_
  refine go_iload_n dX7_greatestPart_21 rfl ?_
  refine go_aload_n dX7_greatestPart_22 rfl ?_
  refine go_gfr dX7_greatestPart_23 fl_7_24 rfl hx.1.1.1 hx.1.1.2.1 hx.1.1.2.2.2.2.1 ?_
  refine go_gfr dX7_greatestPart_26 fl_7_150 rfl hc.1.1.1 hc.1.1.2.1 hc.1.1.2.2.1 ?_
  refine go_iload_n dX7_greatestPart_29 rfl ?_
  refine go_cv (as := [.int _]) 0 dX7_greatestPart_30 mt_7_153 (Or.inr rfl) rfl rfl hc.1.2.1.1 hc.1.2.1.2.1 (Nat.le_of_ble_eq_true rfl) (Nat.le_of_ble_eq_true rfl) (Nat.le_of_ble_eq_true rfl) (Nat.le_of_ble_eq_true rfl) (Nat.le_of_ble_eq_true rfl) ?_
  refine me_X0_get hc.1.2.1 ?_
  rw [cg_n (Nat.lt_of_lt_of_le hi hc.2.2.1) (by decide), (hc.2.1.2.2.2.2 _ hi).1]
  show bw_go _ _ _ _ _ _ _ 33 [(6, .int _), (5, .int _), (0, .ref _), (1, .int _), (2, .int _), (3, .long _)] ((.int _) :: (.int _) :: (.ref _) :: []) _ _
  refine go_iload_n dX7_greatestPart_33 rfl ?_
  refine go_iconst (0) dX7_greatestPart_34 rfl ?_
  refine go_cv (as := [.int _, .int _, .int _, .int _]) 3 dX7_greatestPart_35 mt_7_352 (Or.inr rfl) rfl rfl hc.1.1.1 hc.1.1.2.1 (Nat.le_of_ble_eq_true rfl) (Nat.le_of_ble_eq_true rfl) (Nat.le_of_ble_eq_true rfl) (Nat.le_of_ble_eq_true rfl) (Nat.le_of_ble_eq_true rfl) ?_
  rw [show (0 : Int32) = nI 0 from rfl]
  refine me_X1_answerIf hc hi (hc.2.2.2.2.2.2 i hi).1 hy (by decide) ?_
  show bw_go _ _ _ _ _ _ _ 38 [(6, .int _), (5, .int _), (0, .ref _), (1, .int _), (2, .int _), (3, .long _)] ((.int _) :: []) _ _
  refine go_aload_n dX7_greatestPart_38 rfl ?_
  refine go_gfr dX7_greatestPart_39 fl_7_24 rfl hx.1.1.1 hx.1.1.2.1 hx.1.1.2.2.2.2.1 ?_
  refine go_iload_n dX7_greatestPart_42 rfl ?_
  refine go_aload_n dX7_greatestPart_43 rfl ?_
  refine go_gfr dX7_greatestPart_44 fl_7_24 rfl hx.1.1.1 hx.1.1.2.1 hx.1.1.2.2.2.2.1 ?_
  refine go_gfr dX7_greatestPart_47 fl_7_150 rfl hc.1.1.1 hc.1.1.2.1 hc.1.1.2.2.1 ?_
  refine go_iload_n dX7_greatestPart_50 rfl ?_
  refine go_cv (as := [.int _]) 0 dX7_greatestPart_51 mt_7_153 (Or.inr rfl) rfl rfl hc.1.2.1.1 hc.1.2.1.2.1 (Nat.le_of_ble_eq_true rfl) (Nat.le_of_ble_eq_true rfl) (Nat.le_of_ble_eq_true rfl) (Nat.le_of_ble_eq_true rfl) (Nat.le_of_ble_eq_true rfl) ?_
  refine me_X0_get hc.1.2.1 ?_
  rw [cg_n (Nat.lt_of_lt_of_le hi hc.2.2.1) (by decide), (hc.2.1.2.2.2.2 _ hi).1]
  show bw_go _ _ _ _ _ _ _ 54 [(6, .int _), (5, .int _), (0, .ref _), (1, .int _), (2, .int _), (3, .long _)] ((.int _) :: (.int _) :: (.ref _) :: (.int _) :: []) _ _
  refine go_iload_n dX7_greatestPart_54 rfl ?_
  refine go_bipush (63) dX7_greatestPart_55 rfl ?_
  refine go_cv (as := [.int _, .int _, .int _, .int _]) 3 dX7_greatestPart_57 mt_7_352 (Or.inr rfl) rfl rfl hc.1.1.1 hc.1.1.2.1 (Nat.le_of_ble_eq_true rfl) (Nat.le_of_ble_eq_true rfl) (Nat.le_of_ble_eq_true rfl) (Nat.le_of_ble_eq_true rfl) (Nat.le_of_ble_eq_true rfl) ?_
  rw [show (63 : Int32) = nI 63 from rfl]
  refine me_X1_answerIf hc hi (hc.2.2.2.2.2.2 i hi).1 hy (by decide) ?_
  show bw_go _ _ _ _ _ _ _ 60 [(6, .int _), (5, .int _), (0, .ref _), (1, .int _), (2, .int _), (3, .long _)] ((.int _) :: (.int _) :: []) _ _
  refine go_icmp_ne (pc' := 67) dX7_greatestPart_60 rfl (fun c_60 => ?_) (fun c_60 => ?_)
  · -- ne at 60: yes
    show bw_go _ _ _ _ _ _ _ 67 [(6, .int _), (5, .int _), (0, .ref _), (1, .int _), (2, .int _), (3, .long _)] ([]) _ _
    refine go_iconst (0) dX7_greatestPart_67 rfl ?_
    refine go_istore dX7_greatestPart_68 (Nat.lt_of_lt_of_le (Nat.lt_succ_self _) (Nat.le_of_ble_eq_true rfl)) ?_
    show bw_go _ _ _ _ _ _ _ 70 [(7, .int _), (6, .int _), (5, .int _), (0, .ref _), (1, .int _), (2, .int _), (3, .long _)] ([]) _ _
    refine go_iload dX7_greatestPart_70 rfl ?_
    refine go_if_eq (pc' := 80) dX7_greatestPart_72 rfl (fun _ => ?_) (fun c => absurd (by decide) c)
    show bw_go _ _ _ _ _ _ _ 80 [(7, .int _), (6, .int _), (5, .int _), (0, .ref _), (1, .int _), (2, .int _), (3, .long _)] ([]) _ _
    refine go_iload dX7_greatestPart_80 rfl ?_
    refine go_iload dX7_greatestPart_82 rfl ?_
    refine go_iload dX7_greatestPart_84 rfl ?_
    refine go_isub dX7_greatestPart_86 ?_
    rw [pk_sub hor]
    refine go_max dX7_greatestPart_87 rfl (Nat.le_of_ble_eq_true rfl) ?_
    first | rw [mx_n (by omega) (by omega)] | skip
    refine go_iret dX7_greatestPart_90 rfl rfl ?_
    refine qi hQ ?_
    unfold gpt sme
    rw [if_neg (fun z => c_60 (of_decide_eq_true z))]
  · -- ne at 60: no
    show bw_go _ _ _ _ _ _ _ 63 [(6, .int _), (5, .int _), (0, .ref _), (1, .int _), (2, .int _), (3, .long _)] ([]) _ _
    refine go_iconst (1) dX7_greatestPart_63 rfl ?_
    refine go_goto (pc' := 68) dX7_greatestPart_64 rfl ?_
    show bw_go _ _ _ _ _ _ _ 68 [(6, .int _), (5, .int _), (0, .ref _), (1, .int _), (2, .int _), (3, .long _)] ((.int _) :: []) _ _
    refine go_istore dX7_greatestPart_68 (Nat.lt_of_lt_of_le (Nat.lt_succ_self _) (Nat.le_of_ble_eq_true rfl)) ?_
    show bw_go _ _ _ _ _ _ _ 70 [(7, .int _), (6, .int _), (5, .int _), (0, .ref _), (1, .int _), (2, .int _), (3, .long _)] ([]) _ _
    refine go_iload dX7_greatestPart_70 rfl ?_
    refine go_if_eq (pc' := 80) dX7_greatestPart_72 rfl (fun c => absurd c (by decide)) (fun _ => ?_)
    show bw_go _ _ _ _ _ _ _ 75 [(7, .int _), (6, .int _), (5, .int _), (0, .ref _), (1, .int _), (2, .int _), (3, .long _)] ([]) _ _
    refine go_iload dX7_greatestPart_75 rfl ?_
    refine go_goto (pc' := 90) dX7_greatestPart_77 rfl ?_
    show bw_go _ _ _ _ _ _ _ 90 [(7, .int _), (6, .int _), (5, .int _), (0, .ref _), (1, .int _), (2, .int _), (3, .long _)] ((.int _) :: []) _ _
    first | rw [mx_n (by omega) (by omega)] | skip
    refine go_iret dX7_greatestPart_90 rfl rfl ?_
    refine qi hQ ?_
    unfold gpt sme
    rw [if_pos (decide_eq_true (Decidable.of_not_not c_60))]
set_option maxRecDepth 100000 in
set_option maxHeartbeats 4000000 in
theorem me_X7_next {X : Nat × (Nat → Int32)} {Q : Option Value → bw_H → Prop} {h : bw_H} {S : ST} {r : Int32} (hx : XR h S) (hQ : PX h Q (yNext r S)) : bw_me X 6 bm_X7_next false [.ref 0, .int r] h Q := by
  have hc : bw_ct h 11 (nowC S) := hx.2.2.2.1.1.1
  have hN := hc.2.2.1
  show bw_go _ 6 7 10 false (some .int) cX7_next 0 [(0, .ref _), (1, .int _)] [] _ _
  refine go_aload_n dX7_next_0 rfl ?_
  refine go_iload_n dX7_next_1 rfl ?_
  refine go_cv (as := [.int _]) 5 dX7_next_2 mt_7_227 (Or.inl rfl) rfl rfl hx.1.1.1 hx.1.1.2.1 (Nat.le_of_ble_eq_true rfl) (Nat.le_of_ble_eq_true rfl) (Nat.le_of_ble_eq_true rfl) (Nat.le_of_ble_eq_true rfl) (Nat.le_of_ble_eq_true rfl) ?_
  refine me_X7_readLooks hx (fun g hg hf hl => ?_)
  show bw_go _ _ _ _ _ _ _ 5 [(0, .ref _), (1, .int _)] ((.int _) :: []) _ _
  refine go_istore_n dX7_next_5 (Nat.lt_of_lt_of_le (Nat.lt_succ_self _) (Nat.le_of_ble_eq_true rfl)) ?_
  show bw_go _ _ _ _ _ _ _ 6 [(2, .int _), (0, .ref _), (1, .int _)] ([]) _ _
  refine go_iload_n dX7_next_6 rfl ?_
  refine go_if_eq (pc' := 12) dX7_next_7 rfl (fun c_7 => ?_) (fun c_7 => ?_)
  · -- eq at 7: yes
    show bw_go _ _ _ _ _ _ _ 12 [(2, .int _), (0, .ref _), (1, .int _)] ([]) _ _
    obtain ⟨hlk, e2, hpos⟩ := hl c_7
    rw [e2] at hg
    have hx0 := hx
    have hx := hg
    have hc : bw_ct g 11 (nowC S) := hx.2.2.2.1.1.1
    have hth : ∀ q, q < (lkA S r).1 → (lkA S r).2.2.1 q < 6 := fun q hq => (hlk.2.2.2 q hq).2.2.1
    have ha : lA S r < 64 := lA_lt (C := nowC S) _ hth
    have hb : lB S r < 64 := lB_lt (C := nowC S) _ hth
    have htr := trc_le (lA S r) (lB S r)
    refine go_aload_n dX7_next_12 rfl ?_
    refine go_gfr dX7_next_13 fl_7_45 rfl hx.1.1.1 hx.1.1.2.1 hx.1.1.2.2.2.2.2.2.2.2.1 ?_
    refine go_aload_n dX7_next_16 rfl ?_
    refine go_gfr dX7_next_17 fl_7_24 rfl hx.1.1.1 hx.1.1.2.1 hx.1.1.2.2.2.2.1 ?_
    refine go_cv (as := [.ref _]) 5 dX7_next_20 mt_7_230 (Or.inr rfl) rfl rfl hx.1.2.2.2.2.1.1.1 hx.1.2.2.2.2.1.1.2.1 (Nat.le_of_ble_eq_true rfl) (Nat.le_of_ble_eq_true rfl) (Nat.le_of_ble_eq_true rfl) (Nat.le_of_ble_eq_true rfl) (Nat.le_of_ble_eq_true rfl) ?_
    refine me_X2_fittingSets hlk hc ?_
    rw [fsk_e _ _ _ hth, show sts (lAk (nowC S) (lkA S r) (lkA S r).1) (lBk (nowC S) (lkA S r) (lkA S r).1) = sts (lA S r) (lB S r) from rfl]
    show bw_go _ _ _ _ _ _ _ 23 [(2, .int _), (0, .ref _), (1, .int _)] ((.long _) :: []) _ _
    refine go_lstore_n dX7_next_23 (Nat.lt_of_lt_of_le (Nat.lt_succ_self _) (Nat.le_of_ble_eq_true rfl)) ?_
    show bw_go _ _ _ _ _ _ _ 24 [(3, .long _), (2, .int _), (0, .ref _), (1, .int _)] ([]) _ _
    refine go_lload_n dX7_next_24 rfl ?_
    refine go_lconst (0) dX7_next_25 rfl ?_
    refine go_lcmp dX7_next_26 ?_
    refine go_if_ne (pc' := 33) dX7_next_27 rfl (fun c_27 => ?_) (fun c_27 => ?_)
    · -- ne at 27: yes
      show bw_go _ _ _ _ _ _ _ 33 [(3, .long _), (2, .int _), (0, .ref _), (1, .int _)] ([]) _ _
      refine go_iconst (0) dX7_next_33 rfl ?_
      refine go_istore dX7_next_34 (Nat.lt_of_lt_of_le (Nat.lt_succ_self _) (Nat.le_of_ble_eq_true rfl)) ?_
      show bw_go _ _ _ _ _ _ _ 36 [(5, .int _), (3, .long _), (2, .int _), (0, .ref _), (1, .int _)] ([]) _ _
      refine go_sipush (1000) dX7_next_36 rfl ?_
      refine go_istore dX7_next_39 (Nat.lt_of_lt_of_le (Nat.lt_succ_self _) (Nat.le_of_ble_eq_true rfl)) ?_
      show bw_go _ _ _ _ _ _ _ 41 [(6, .int _), (5, .int _), (3, .long _), (2, .int _), (0, .ref _), (1, .int _)] ([]) _ _
      refine go_iconst (0) dX7_next_41 rfl ?_
      refine go_istore dX7_next_42 (Nat.lt_of_lt_of_le (Nat.lt_succ_self _) (Nat.le_of_ble_eq_true rfl)) ?_
      show bw_go _ _ _ _ _ _ _ 44 [(7, .int _), (6, .int _), (5, .int _), (3, .long _), (2, .int _), (0, .ref _), (1, .int _)] ([]) _ _
      refine go_ls [(7, .int _), (6, .int _), (5, .int _), (3, .long _), (0, .ref _), (1, .int _), (2, .int _)] (by show List.Nodup ([7, 6, 5, 3, 0, 1, 2] : List Nat); decide) (by show List.Nodup ([7, 6, 5, 3, 2, 0, 1] : List Nat); decide) (le_cons rfl (le_cons rfl (le_cons rfl (le_cons rfl (le_cons rfl (le_cons rfl (le_cons rfl (le_nil _)))))))) ?_
      refine go_for (P := fun i => bw_go X 6 7 10 false (some .int) cX7_next 44 [(7, .int (nI i)), (6, .int (nI (nxf (nowC S) (lA S r) (lB S r) (8 * i)).2)), (5, .int (nI (nxf (nowC S) (lA S r) (lB S r) (8 * i)).1)), (3, .long (sts (lA S r) (lB S r))), (0, .ref (0)), (1, .int (r)), (2, .int ((yRL r S).1))] [] g Q) (N := cN (nowC S)) (fun i hi K => ?_) ?_ (0) (Nat.zero_le _)
      · -- a turn
        show bw_go _ _ _ _ _ _ _ 44 [(7, .int _), (6, .int _), (5, .int _), (3, .long _), (0, .ref _), (1, .int _), (2, .int _)] ([]) _ _
        refine go_iload dX7_next_44 rfl ?_
        refine go_aload_n dX7_next_46 rfl ?_
        refine go_gfr dX7_next_47 fl_7_24 rfl hx.1.1.1 hx.1.1.2.1 hx.1.1.2.2.2.2.1 ?_
        refine go_gfi dX7_next_50 fl_7_141 rfl hc.1.1.1 hc.1.1.2.1 ?_
        rw [hc.2.1.1]
        refine go_icmp_ge (pc' := 110) dX7_next_53 rfl (fun c_53 => ?_) (fun c_53 => ?_)
        · -- ge at 53: yes
          exfalso; have t_0 := nI_toInt (n := i) (by omega); have t_1 := nI_toInt (n := cN (nowC S)) (by omega); simp only [i_le, i_lt, i_eq, bi_eq] at c_53; omega
        · -- ge at 53: no
          show bw_go _ _ _ _ _ _ _ 56 [(7, .int _), (6, .int _), (5, .int _), (3, .long _), (0, .ref _), (1, .int _), (2, .int _)] ([]) _ _
          refine go_iconst (0) dX7_next_56 rfl ?_
          refine go_istore dX7_next_57 (Nat.lt_of_lt_of_le (Nat.lt_succ_self _) (Nat.le_of_ble_eq_true rfl)) ?_
          show bw_go _ _ _ _ _ _ _ 59 [(8, .int _), (7, .int _), (6, .int _), (5, .int _), (3, .long _), (0, .ref _), (1, .int _), (2, .int _)] ([]) _ _
          refine go_for (P := fun y => bw_go X 6 7 10 false (some .int) cX7_next 59 [(8, .int (nI y)), (7, .int (nI i)), (6, .int (nI (nxf (nowC S) (lA S r) (lB S r) (8 * i + y)).2)), (5, .int (nI (nxf (nowC S) (lA S r) (lB S r) (8 * i + y)).1)), (3, .long (sts (lA S r) (lB S r))), (0, .ref (0)), (1, .int (r)), (2, .int ((yRL r S).1))] [] g Q) (N := 6) (fun y hy K => ?_) ?_ (0) (Nat.zero_le _)
          · -- a turn
            have b1 := nxf_b (C := nowC S) (b := lB S r) ha (8 * i + y)
            have b2 := gpt_le (nowC S) (b := lB S r) (i := i) ha hy
            show bw_go _ _ _ _ _ _ _ 59 [(8, .int _), (7, .int _), (6, .int _), (5, .int _), (3, .long _), (0, .ref _), (1, .int _), (2, .int _)] ([]) _ _
            refine go_iload dX7_next_59 rfl ?_
            refine go_bipush (6) dX7_next_61 rfl ?_
            refine go_icmp_ge (pc' := 104) dX7_next_63 rfl (fun c_63 => ?_) (fun c_63 => ?_)
            · -- ge at 63: yes
              exfalso; have t_0 := nI_toInt (n := y) (by omega); have l_0 : (6 : Int32).toInt = 6 := rfl; simp only [i_le, i_lt, i_eq, bi_eq] at c_63; omega
            · -- ge at 63: no
              show bw_go _ _ _ _ _ _ _ 66 [(8, .int _), (7, .int _), (6, .int _), (5, .int _), (3, .long _), (0, .ref _), (1, .int _), (2, .int _)] ([]) _ _
              refine go_aload_n dX7_next_66 rfl ?_
              refine go_iload dX7_next_67 rfl ?_
              refine go_iload dX7_next_69 rfl ?_
              refine go_lload_n dX7_next_71 rfl ?_
              refine go_cv (as := [.int _, .int _, .long _]) 4 dX7_next_72 mt_7_251 (Or.inl rfl) rfl rfl hx.1.1.1 hx.1.1.2.1 (Nat.le_of_ble_eq_true rfl) (Nat.le_of_ble_eq_true rfl) (Nat.le_of_ble_eq_true rfl) (Nat.le_of_ble_eq_true rfl) (Nat.le_of_ble_eq_true rfl) ?_
              refine me_X7_greatestPart hx hi hy ha hb ?_
              show bw_go _ _ _ _ _ _ _ 75 [(8, .int _), (7, .int _), (6, .int _), (5, .int _), (3, .long _), (0, .ref _), (1, .int _), (2, .int _)] ((.int _) :: []) _ _
              refine go_istore dX7_next_75 (Nat.lt_of_lt_of_le (Nat.lt_succ_self _) (Nat.le_of_ble_eq_true rfl)) ?_
              show bw_go _ _ _ _ _ _ _ 77 [(9, .int _), (8, .int _), (7, .int _), (6, .int _), (5, .int _), (3, .long _), (0, .ref _), (1, .int _), (2, .int _)] ([]) _ _
              refine go_iload dX7_next_77 rfl ?_
              refine go_iload dX7_next_79 rfl ?_
              refine go_icmp_ge (pc' := 98) dX7_next_81 rfl (fun c_81 => ?_) (fun c_81 => ?_)
              · -- ge at 81: yes
                show bw_go _ _ _ _ _ _ _ 98 [(9, .int _), (8, .int _), (7, .int _), (6, .int _), (5, .int _), (3, .long _), (0, .ref _), (1, .int _), (2, .int _)] ([]) _ _
                refine go_iinc dX7_next_98 rfl (nI_1 y) (Nat.lt_of_lt_of_le (Nat.lt_succ_self _) (Nat.le_of_ble_eq_true rfl)) ?_
                show bw_go _ _ _ _ _ _ _ 101 [(8, .int _), (9, .int _), (7, .int _), (6, .int _), (5, .int _), (3, .long _), (0, .ref _), (1, .int _), (2, .int _)] ([]) _ _
                refine go_goto (pc' := 59) dX7_next_101 rfl ?_
                refine go_ls [(8, .int _), (7, .int _), (6, .int _), (5, .int _), (3, .long _), (0, .ref _), (1, .int _), (2, .int _)] (by show List.Nodup ([8, 7, 6, 5, 3, 0, 1, 2] : List Nat); decide) (by show List.Nodup ([8, 9, 7, 6, 5, 3, 0, 1, 2] : List Nat); decide) (le_cons rfl (le_cons rfl (le_cons rfl (le_cons rfl (le_cons rfl (le_cons rfl (le_cons rfl (le_cons rfl (le_nil _))))))))) ?_
                have e0 := nxf_s (C := nowC S) (a := lA S r) (b := lB S r) (i := i) hy
                have t_0 := nI_toInt (n := gpt (nowC S) (lA S r) (lB S r) i y) (by omega)
                have t_1 := nI_toInt (n := (nxf (nowC S) (lA S r) (lB S r) (8 * i + y)).2) (by omega)
                simp only [i_le] at c_81
                first | rw [if_pos (by omega)] at e0 | rw [if_neg (by omega)] at e0
                rw [e0] at K
                exact K
              · -- ge at 81: no
                show bw_go _ _ _ _ _ _ _ 84 [(9, .int _), (8, .int _), (7, .int _), (6, .int _), (5, .int _), (3, .long _), (0, .ref _), (1, .int _), (2, .int _)] ([]) _ _
                refine go_bipush (8) dX7_next_84 rfl ?_
                refine go_iload dX7_next_86 rfl ?_
                rw [show (8 : Int32) = nI 8 from rfl]
                refine go_imul dX7_next_88 ?_
                rw [nmul]
                refine go_iload dX7_next_89 rfl ?_
                refine go_iadd dX7_next_91 ?_
                rw [nI_add]
                refine go_istore dX7_next_92 (Nat.lt_of_lt_of_le (Nat.lt_succ_self _) (Nat.le_of_ble_eq_true rfl)) ?_
                show bw_go _ _ _ _ _ _ _ 94 [(5, .int _), (9, .int _), (8, .int _), (7, .int _), (6, .int _), (3, .long _), (0, .ref _), (1, .int _), (2, .int _)] ([]) _ _
                refine go_iload dX7_next_94 rfl ?_
                refine go_istore dX7_next_96 (Nat.lt_of_lt_of_le (Nat.lt_succ_self _) (Nat.le_of_ble_eq_true rfl)) ?_
                show bw_go _ _ _ _ _ _ _ 98 [(6, .int _), (5, .int _), (9, .int _), (8, .int _), (7, .int _), (3, .long _), (0, .ref _), (1, .int _), (2, .int _)] ([]) _ _
                refine go_iinc dX7_next_98 rfl (nI_1 y) (Nat.lt_of_lt_of_le (Nat.lt_succ_self _) (Nat.le_of_ble_eq_true rfl)) ?_
                show bw_go _ _ _ _ _ _ _ 101 [(8, .int _), (6, .int _), (5, .int _), (9, .int _), (7, .int _), (3, .long _), (0, .ref _), (1, .int _), (2, .int _)] ([]) _ _
                refine go_goto (pc' := 59) dX7_next_101 rfl ?_
                refine go_ls [(8, .int _), (7, .int _), (6, .int _), (5, .int _), (3, .long _), (0, .ref _), (1, .int _), (2, .int _)] (by show List.Nodup ([8, 7, 6, 5, 3, 0, 1, 2] : List Nat); decide) (by show List.Nodup ([8, 6, 5, 9, 7, 3, 0, 1, 2] : List Nat); decide) (le_cons rfl (le_cons rfl (le_cons rfl (le_cons rfl (le_cons rfl (le_cons rfl (le_cons rfl (le_cons rfl (le_nil _))))))))) ?_
                have e0 := nxf_s (C := nowC S) (a := lA S r) (b := lB S r) (i := i) hy
                have t_0 := nI_toInt (n := gpt (nowC S) (lA S r) (lB S r) i y) (by omega)
                have t_1 := nI_toInt (n := (nxf (nowC S) (lA S r) (lB S r) (8 * i + y)).2) (by omega)
                simp only [i_le] at c_81
                first | rw [if_pos (by omega)] at e0 | rw [if_neg (by omega)] at e0
                rw [e0] at K
                exact K
          · -- behind the last
            show bw_go _ _ _ _ _ _ _ 59 [(8, .int _), (7, .int _), (6, .int _), (5, .int _), (3, .long _), (0, .ref _), (1, .int _), (2, .int _)] ([]) _ _
            refine go_iload dX7_next_59 rfl ?_
            refine go_bipush (6) dX7_next_61 rfl ?_
            refine go_icmp_ge (pc' := 104) dX7_next_63 rfl (fun c_63 => ?_) (fun c_63 => ?_)
            · -- ge at 63: yes
              show bw_go _ _ _ _ _ _ _ 104 [(8, .int _), (7, .int _), (6, .int _), (5, .int _), (3, .long _), (0, .ref _), (1, .int _), (2, .int _)] ([]) _ _
              refine go_iinc dX7_next_104 rfl (nI_1 i) (Nat.lt_of_lt_of_le (Nat.lt_succ_self _) (Nat.le_of_ble_eq_true rfl)) ?_
              show bw_go _ _ _ _ _ _ _ 107 [(7, .int _), (8, .int _), (6, .int _), (5, .int _), (3, .long _), (0, .ref _), (1, .int _), (2, .int _)] ([]) _ _
              refine go_goto (pc' := 44) dX7_next_107 rfl ?_
              refine go_ls [(7, .int _), (6, .int _), (5, .int _), (3, .long _), (0, .ref _), (1, .int _), (2, .int _)] (by show List.Nodup ([7, 6, 5, 3, 0, 1, 2] : List Nat); decide) (by show List.Nodup ([7, 8, 6, 5, 3, 0, 1, 2] : List Nat); decide) (le_cons rfl (le_cons rfl (le_cons rfl (le_cons rfl (le_cons rfl (le_cons rfl (le_cons rfl (le_nil _)))))))) ?_
              rw [nxf_6] at K
              exact K
            · -- ge at 63: no
              exfalso; have t_0 := nI_toInt (n := 6) (by omega); have l_0 : (6 : Int32).toInt = 6 := rfl; simp only [i_le, i_lt, i_eq, bi_eq] at c_63; omega
      · -- behind the last
        show bw_go _ _ _ _ _ _ _ 44 [(7, .int _), (6, .int _), (5, .int _), (3, .long _), (0, .ref _), (1, .int _), (2, .int _)] ([]) _ _
        refine go_iload dX7_next_44 rfl ?_
        refine go_aload_n dX7_next_46 rfl ?_
        refine go_gfr dX7_next_47 fl_7_24 rfl hx.1.1.1 hx.1.1.2.1 hx.1.1.2.2.2.2.1 ?_
        refine go_gfi dX7_next_50 fl_7_141 rfl hc.1.1.1 hc.1.1.2.1 ?_
        rw [hc.2.1.1]
        refine go_icmp_ge (pc' := 110) dX7_next_53 rfl (fun c_53 => ?_) (fun c_53 => ?_)
        · -- ge at 53: yes
          show bw_go _ _ _ _ _ _ _ 110 [(7, .int _), (6, .int _), (5, .int _), (3, .long _), (0, .ref _), (1, .int _), (2, .int _)] ([]) _ _
          refine go_aload_n dX7_next_110 rfl ?_
          refine go_iload dX7_next_111 rfl ?_
          refine go_pfi dX7_next_113 fl_7_76 rfl hx.1.1.1 hx.1.1.2.1 (Nat.le_of_ble_eq_true rfl) (Or.inl rfl) ?_
          show bw_go _ _ _ _ _ _ _ 116 [(7, .int _), (6, .int _), (5, .int _), (3, .long _), (0, .ref _), (1, .int _), (2, .int _)] ([]) _ _
          refine go_iload dX7_next_116 rfl ?_
          refine go_iret dX7_next_118 rfl rfl ?_
          refine q_x hQ ?_ (xr_la hx _) (frM_t hf (frM_wi rfl (fun q h1 h2 => ?_)))
          · unfold yNext
            rw [if_pos c_7, if_neg (fun z => c_27 ((lg_cmp_eq _ _).mpr ((tab_3 _ ha _ hb).mpr z)))]
          · rw [i_si_o (by omega)]
        · -- ge at 53: no
          exfalso; have t_0 := nI_toInt (n := cN (nowC S)) (by omega); simp only [i_le, i_lt, i_eq, bi_eq] at c_53; omega
    · -- ne at 27: no
      show bw_go _ _ _ _ _ _ _ 30 [(3, .long _), (2, .int _), (0, .ref _), (1, .int _)] ([]) _ _
      refine go_bipush (-9) dX7_next_30 rfl ?_
      refine go_iret dX7_next_32 rfl rfl ?_
      refine q_x hQ ?_ hx hf
      unfold yNext
      rw [if_pos c_7, if_pos ((tab_3 _ ha _ hb).mp ((lg_cmp_eq _ _).mp (Decidable.of_not_not c_27)))]
  · -- eq at 7: no
    show bw_go _ _ _ _ _ _ _ 10 [(2, .int _), (0, .ref _), (1, .int _)] ([]) _ _
    refine go_iload_n dX7_next_10 rfl ?_
    refine go_iret dX7_next_11 rfl rfl ?_
    refine q_x hQ ?_ hg hf
    unfold yNext
    rw [if_neg c_7]
