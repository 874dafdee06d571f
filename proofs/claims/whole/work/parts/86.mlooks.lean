/-! the reference: looks -/
def yRP (r : Int32) (S : ST) : Int32 × ST := if rdf (sR S (rn r)) (sRc S (rn r)) 0 (cN (nowC S)) = 0 then (0, S) else (-3, fnd S (rdf (sR S (rn r)) (sRc S (rn r)) 0 (cN (nowC S))))
theorem okp_t {a v : Int32} {n : Nat} (hn : n ≤ 6) : okp a v n = true ↔ (0 ≤ a.toInt ∧ a.toInt ≤ 47) ∧ a.toNatClampNeg / 8 < n ∧ a.toNatClampNeg % 8 < 6 ∧ 0 ≤ v.toInt ∧ v.toInt ≤ 2 := by
  unfold okp
  rw [decide_eq_true_eq]
  have e : a.toNatClampNeg = a.toInt.toNat := rfl
  omega
theorem okR_i {F : Nat → Int32} {n : Nat} : ∀ k, okR F 0 n k = true ↔ ∀ q, q < k → okp (F (2 * q)) (F (2 * q + 1)) n = true
  | 0 => ⟨fun _ q hq => absurd hq (Nat.not_lt_zero q), fun _ => rfl⟩
  | k + 1 => by
    show (okR F 0 n k && okp (F (0 + 2 * k)) (F (0 + 2 * k + 1)) n) = true ↔ _
    rw [Bool.and_eq_true, okR_i k, Nat.zero_add]
    constructor
    · intro h q hq
      by_cases e : q = k
      · subst e; exact h.2
      · exact h.1 q (by omega)
    · intro h
      exact ⟨fun q hq => h q (by omega), h k (by omega)⟩
theorem okR_s {F : Nat → Int32} {n k : Nat} (h : okR F 0 n k = true) (h2 : okp (F (2 * k)) (F (2 * k + 1)) n = true) : okR F 0 n (k + 1) = true := by
  show (okR F 0 n k && okp (F (0 + 2 * k)) (F (0 + 2 * k + 1)) n) = true
  rw [Nat.zero_add, h, h2]; rfl
theorem okR_no {F : Nat → Int32} {n k q : Nat} (hq : q < k) (h2 : ¬ okp (F (2 * q)) (F (2 * q + 1)) n = true) : ¬ okR F 0 n k = true := fun z => h2 ((okR_i k).mp z q hq)
/-- what stands in a row of looks that was not refused -/
def lkf (S : ST) (j m : Nat) : Prop := j < 6 ∧ sR S j = some m ∧ m % 2 = 0 ∧ m ≤ 16 ∧ ∀ q, q < m / 2 → ∃ a v, sRc S j (2 * q) = nI a ∧ sRc S j (2 * q + 1) = nI v ∧ a / 8 < cN (nowC S) ∧ a % 8 < 6 ∧ a < 48 ∧ v ≤ 2
theorem lkf_of {S : ST} {j m : Nat} (hn : cN (nowC S) ≤ 6) (hj : j < 6) (e : sR S j = some m) (h : rdf (sR S j) (sRc S j) 0 (cN (nowC S)) = 0) : lkf S j m := by
  rw [e] at h
  unfold rdf at h
  simp only at h
  split at h
  · rename_i h1
    split at h
    · rename_i h2
      refine ⟨hj, e, h1.1, h1.2, fun q hq => ?_⟩
      have h3 := (okp_t hn).mp ((okR_i _).mp h2 q hq)
      have e1 : (sRc S j (2 * q)).toNatClampNeg = (sRc S j (2 * q)).toInt.toNat := rfl
      refine ⟨(sRc S j (2 * q)).toNatClampNeg, (sRc S j (2 * q + 1)).toInt.toNat, ?_, ?_, h3.2.1, h3.2.2.1, by omega, by omega⟩
      · apply Int32.toInt_inj.mp; rw [nI_toInt (by omega)]; omega
      · apply Int32.toInt_inj.mp; rw [nI_toInt (by omega)]; omega
    · cases h
  · cases h
theorem yRL_0 {r : Int32} {S : ST} (hn : cN (nowC S) ≤ 6) (h : (yRL r S).1 = 0) : ∃ j m, r = nI j ∧ lkf S j m ∧ 0 < cN (nowC S) ∧ (yRL r S).2 = S := by
  unfold yRL at h ⊢
  split at h
  · rename_i h1
    obtain ⟨j, hj, rfl⟩ := isn_ex h1 (by decide)
    rw [rn_n (by omega)] at h ⊢
    split at h
    · exact absurd (show (-4 : Int32) = 0 from h) (by decide)
    · rename_i h2
      split at h
      · rename_i h3
        rw [if_pos h1, if_neg h2, if_pos h3]
        cases e : sR S j with
        | none => rw [e] at h3; cases h3
        | some m => exact ⟨j, m, rfl, lkf_of hn hj e h3, by omega, rfl⟩
      · exact absurd (show (-3 : Int32) = 0 from h) (by decide)
  · exact absurd (show (-1 : Int32) = 0 from h) (by decide)
theorem lk_v1 {S : ST} {j m : Nat} (h : lkf S j m) : lkA S (nI j) = rdA (sRc S j) 0 m := by
  unfold lkA
  rw [rn_n (by have := h.1; omega), h.2.1]
  rfl
def prF (x : Int32) : Int32 := if x = -9 then 2 else x
theorem pr_tv {x : Int32} {v : Nat} (hv : v ≤ 2) (hx : x = -9 ∨ x = 0 ∨ x = 1) : (prF x = nI v) ↔ x = tvI v := by
  rcases (show v = 0 ∨ v = 1 ∨ v = 2 by omega) with rfl | rfl | rfl <;> rcases hx with rfl | rfl | rfl <;> decide
theorem anC_3 (C : CT) (i t dn : Nat) : anC C i t dn = -9 ∨ anC C i t dn = 0 ∨ anC C i t dn = 1 := by
  by_cases z : anC C i t dn = -9
  · exact Or.inl z
  · exact Or.inr (ans_01 z)
def tru (C : CT) (A : LK) (dn : Nat) : Nat → Bool
  | 0 => true
  | q + 1 => tru C A dn q && fit C A q (cK C (A.2.1 q)) dn
theorem fit_b {C : CT} {A : LK} {q k dn : Nat} (ht : A.2.2.1 q < 6) : fit C A q k dn = if dn.testBit (A.2.2.1 q) = true then fit C A q k 63 else fit C A q k 0 := by
  unfold fit
  rw [ans_sya ht, ans_sya ht, ans_sya ht]
  unfold sya
  rw [t63 _ ht, Nat.zero_testBit]
  cases dn.testBit (A.2.2.1 q) <;> rfl
theorem tqa : ∀ t, t < 6 → ∀ a, a < 64 → ∀ d, d < 64 → ((d &&& (a ||| 2 ^ t) = a ||| 2 ^ t) ↔ (d &&& a = a ∧ d.testBit t = true)) := by decide +kernel
theorem tqb : ∀ t, t < 6 → ∀ a, a < 64 → ∀ d, d < 64 → ((d &&& (a ||| 2 ^ t) = 0) ↔ (d &&& a = 0 ∧ d.testBit t = false)) := by decide +kernel
theorem tq_a {a b t d : Nat} (ht : t < 6) (ha : a < 64) (hd : d < 64) : tq (a ||| 2 ^ t) b d = (tq a b d && d.testBit t) := by
  unfold tq
  rw [← Bool.decide_coe (d.testBit t), ← Bool.decide_and]
  exact decide_eq_decide.mpr (by rw [tqa t ht a ha d hd]; exact ⟨fun z => ⟨⟨z.1.1, z.2⟩, z.1.2⟩, fun z => ⟨⟨z.1.1, z.2⟩, z.1.2⟩⟩)
theorem tq_b {a b t d : Nat} (ht : t < 6) (hb : b < 64) (hd : d < 64) : tq a (b ||| 2 ^ t) d = (tq a b d && !d.testBit t) := by
  unfold tq
  rw [← Bool.decide_coe (!d.testBit t), ← Bool.decide_and]
  exact decide_eq_decide.mpr (by rw [tqb t ht b hb d hd, Bool.not_eq_true']; exact ⟨fun z => ⟨⟨z.1, z.2.1⟩, z.2.2⟩, fun z => ⟨z.1.1, z.1.2, z.2⟩⟩)
theorem tru_e {C : CT} {A : LK} {d : Nat} (hd : d < 64) : ∀ k, (∀ q, q < k → A.2.2.1 q < 6) → tru C A d k = tq (lAk C A k) (lBk C A k) d
  | 0, _ => by
    show true = decide (d &&& 0 = 0 ∧ d &&& 0 = 0)
    rw [Nat.and_zero]; rfl
  | k + 1, h => by
    have ih := tru_e (C := C) hd k (fun q hq => h q (by omega))
    have ht := h k (by omega)
    have ha := lA_lt (C := C) k (fun q hq => h q (by omega))
    have hb := lB_lt (C := C) k (fun q hq => h q (by omega))
    have hb2 := lB_lt (C := C) (k + 1) h
    have e1 : lAk C A (k + 1) = lAk C A k ||| (if fit C A k (cK C (A.2.1 k)) 0 = true then 0 else 2 ^ A.2.2.1 k) := rfl
    have e2 : lBk C A (k + 1) = lBk C A k ||| (if fit C A k (cK C (A.2.1 k)) 63 = true then 0 else 2 ^ A.2.2.1 k) := rfl
    show (tru C A d k && fit C A k (cK C (A.2.1 k)) d) = _
    rw [ih, fit_b ht]
    cases h0 : fit C A k (cK C (A.2.1 k)) 0 with
    | true =>
      rw [h0, if_pos rfl, Nat.or_zero] at e1
      cases h6 : fit C A k (cK C (A.2.1 k)) 63 with
      | true =>
        rw [h6, if_pos rfl, Nat.or_zero] at e2
        rw [e1, e2]
        cases d.testBit (A.2.2.1 k) <;> simp
      | false =>
        rw [h6, if_neg (by decide)] at e2
        rw [e1, e2, tq_b ht hb hd]
        cases d.testBit (A.2.2.1 k) <;> simp
    | false =>
      rw [h0, if_neg (by decide)] at e1
      cases h6 : fit C A k (cK C (A.2.1 k)) 63 with
      | true =>
        rw [h6, if_pos rfl, Nat.or_zero] at e2
        rw [e1, e2, tq_a ht ha hd]
        cases d.testBit (A.2.2.1 k) <;> simp
      | false =>
        rw [h6, if_neg (by decide)] at e2
        rw [e1, e2, tq_a ht ha hd, tq_b ht hb hd]
        cases d.testBit (A.2.2.1 k) <;> simp
set_option maxRecDepth 100000 in
set_option maxHeartbeats 4000000 in
theorem me_X8_refusesPairs {X : Nat × (Nat → Int32)} {Q : Option Value → bw_H → Prop} {h : bw_H} {S : ST} {j : Nat} (hm : MR h S) (hj : j < 6) (hQ : PM h Q (yRP (nI j) S)) : bw_me X 2 bm_X8_refusesPairs false [.ref 60, .int (nI j)] h Q := by
  have hv := mr_v hm
  have hk := mr_k hm
  have k1 := hk.1
  have hkC := hk
  have h2N := p2N k1
  have hp0 : 0 < 2 ^ cN (nowC S) := Nat.two_pow_pos _
  show bw_go _ 2 8 4 false (some .int) cX8_refusesPairs 0 [(0, .ref _), (1, .int _)] [] _ _
  refine go_aload_n dX8_refusesPairs_0 rfl ?_
  refine go_gfr dX8_refusesPairs_1 fl_8_23 rfl (ms_lt hm.1 (by decide)) hm.1.1.2 hm.1.2.1.2.2.2.2.1 ?_
  refine go_iload_n dX8_refusesPairs_4 rfl ?_
  refine go_ia dX8_refusesPairs_5 hm.1.2.2.2.2.2.2.1 (ms_lt hm.1 (by decide)) (n_in (N := 6) hj (by decide)) ?_
  rw [nI_clamp (by omega), (hm.2.2.2.1 j hj).1]
  refine go_if_ge (pc' := 15) dX8_refusesPairs_6 rfl (fun c_6 => ?_) (fun c_6 => ?_)
  · -- ge at 6: yes
    show bw_go _ _ _ _ _ _ _ 15 [(0, .ref _), (1, .int _)] ([]) _ _
    obtain ⟨m, em, hml⟩ := oz_some (hm.2.2.2.1 j hj).2.1 (by decide) c_6
    have em2 : bw_i h 65 j = nI m := by rw [(hm.2.2.2.1 j hj).1, em]; rfl
    refine go_aload_n dX8_refusesPairs_15 rfl ?_
    refine go_gfr dX8_refusesPairs_16 fl_8_23 rfl (ms_lt hm.1 (by decide)) hm.1.1.2 hm.1.2.1.2.2.2.2.1 ?_
    refine go_iload_n dX8_refusesPairs_19 rfl ?_
    refine go_ia dX8_refusesPairs_20 hm.1.2.2.2.2.2.2.1 (ms_lt hm.1 (by decide)) (n_in (N := 6) hj (by decide)) ?_
    rw [nI_clamp (by omega), em2]
    refine go_iconst (2) dX8_refusesPairs_21 rfl ?_
    refine go_irem dX8_refusesPairs_22 (by decide) ?_
    rw [show (2 : Int32) = nI 2 from rfl, nI_rem (by omega) (by decide) (by decide)]
    refine go_if_ne (pc' := 37) dX8_refusesPairs_23 rfl (fun c_23 => ?_) (fun c_23 => ?_)
    · -- ne at 23: yes
      show bw_go _ _ _ _ _ _ _ 37 [(0, .ref _), (1, .int _)] ([]) _ _
      refine go_aload_n dX8_refusesPairs_37 rfl ?_
      refine go_iconst (5) dX8_refusesPairs_38 rfl ?_
      refine go_cv (as := [.int _]) 0 dX8_refusesPairs_39 mt_8_79 (Or.inl rfl) rfl rfl (ms_lt hm.1 (by decide)) hm.1.1.2 (Nat.le_of_ble_eq_true rfl) (Nat.le_of_ble_eq_true rfl) (Nat.le_of_ble_eq_true rfl) (Nat.le_of_ble_eq_true rfl) (Nat.le_of_ble_eq_true rfl) ?_
      rw [show (5 : Int32) = nI 5 from rfl]
      refine me_X8_finds hm (f := 5) (by decide) (fun g hg hf => ?_)
      show bw_go _ _ _ _ _ _ _ 42 [(0, .ref _), (1, .int _)] ((.int _) :: []) _ _
      refine go_iret dX8_refusesPairs_42 rfl rfl ?_
      refine q_m hQ ?_ hg hf
      have e9 : rdf (some m) (sRc S j) 0 (cN (nowC S)) = 5 := by
        unfold rdf; simp only
        rw [if_neg (fun z => ?_)]
        have t_0 := nI_toInt (n := m) (by omega)
        have l_16 : (16 : Int32).toInt = 16 := rfl
        try simp only [i_le] at c_34
        first
        | omega
        | exact c_23 (by rw [z.1]; rfl)
      unfold yRP
      rw [rn_n (by omega), em, e9]
      rfl
    · -- ne at 23: no
      show bw_go _ _ _ _ _ _ _ 26 [(0, .ref _), (1, .int _)] ([]) _ _
      refine go_aload_n dX8_refusesPairs_26 rfl ?_
      refine go_gfr dX8_refusesPairs_27 fl_8_23 rfl (ms_lt hm.1 (by decide)) hm.1.1.2 hm.1.2.1.2.2.2.2.1 ?_
      refine go_iload_n dX8_refusesPairs_30 rfl ?_
      refine go_ia dX8_refusesPairs_31 hm.1.2.2.2.2.2.2.1 (ms_lt hm.1 (by decide)) (n_in (N := 6) hj (by decide)) ?_
      rw [nI_clamp (by omega), em2]
      refine go_bipush (16) dX8_refusesPairs_32 rfl ?_
      refine go_icmp_le (pc' := 43) dX8_refusesPairs_34 rfl (fun c_34 => ?_) (fun c_34 => ?_)
      · -- le at 34: yes
        show bw_go _ _ _ _ _ _ _ 43 [(0, .ref _), (1, .int _)] ([]) _ _
        have hm2 : m % 2 = 0 := (nI_eq (b := 0) (by omega) (by decide)).mp (Decidable.of_not_not c_23)
        have hm16 : m ≤ 16 := by have t_0 := nI_toInt (n := m) (by omega); have l_16 : (16 : Int32).toInt = 16 := rfl; simp only [i_le] at c_34; omega
        refine go_iconst (0) dX8_refusesPairs_43 rfl ?_
        refine go_istore_n dX8_refusesPairs_44 (Nat.lt_of_lt_of_le (Nat.lt_succ_self _) (Nat.le_of_ble_eq_true rfl)) ?_
        show bw_go _ _ _ _ _ _ _ 45 [(2, .int _), (0, .ref _), (1, .int _)] ([]) _ _
        refine go_for (P := fun q => ∀ (_ : Unit), (okR (sRc S j) 0 (cN (nowC S)) q = true) → bw_go X 2 8 4 false (some .int) cX8_refusesPairs 45 [(2, .int (nI (2 * q))), (0, .ref (60)), (1, .int (nI j))] [] h Q) (N := m / 2) (fun q hq K => ?_) ?_ (0) (Nat.zero_le _) () rfl
        · -- a turn
          intro _ hok
          show bw_go _ _ _ _ _ _ _ 45 [(2, .int _), (0, .ref _), (1, .int _)] ([]) _ _
          refine go_iload_n dX8_refusesPairs_45 rfl ?_
          refine go_aload_n dX8_refusesPairs_46 rfl ?_
          refine go_gfr dX8_refusesPairs_47 fl_8_23 rfl (ms_lt hm.1 (by decide)) hm.1.1.2 hm.1.2.1.2.2.2.2.1 ?_
          refine go_iload_n dX8_refusesPairs_50 rfl ?_
          refine go_ia dX8_refusesPairs_51 hm.1.2.2.2.2.2.2.1 (ms_lt hm.1 (by decide)) (n_in (N := 6) hj (by decide)) ?_
          rw [nI_clamp (by omega), em2]
          refine go_icmp_ge (pc' := 136) dX8_refusesPairs_52 rfl (fun c_52 => ?_) (fun c_52 => ?_)
          · -- ge at 52: yes
            exfalso; have t_0 := nI_toInt (n := 2 * q) (by omega); have t_1 := nI_toInt (n := m) (by omega); simp only [i_le, i_lt, i_eq, bi_eq] at c_52; omega
          · -- ge at 52: no
            show bw_go _ _ _ _ _ _ _ 55 [(2, .int _), (0, .ref _), (1, .int _)] ([]) _ _
            refine go_aload_n dX8_refusesPairs_55 rfl ?_
            refine go_gfr dX8_refusesPairs_56 fl_8_20 rfl (ms_lt hm.1 (by decide)) hm.1.1.2 hm.1.2.1.2.2.2.1 ?_
            refine go_bipush (40) dX8_refusesPairs_59 rfl ?_
            refine go_iload_n dX8_refusesPairs_61 rfl ?_
            refine go_imul dX8_refusesPairs_62 ?_
            rw [show (40 : Int32) = nI 40 from rfl, nmul]
            refine go_iload_n dX8_refusesPairs_63 rfl ?_
            refine go_iadd dX8_refusesPairs_64 ?_
            rw [nI_add]
            refine go_ia dX8_refusesPairs_65 hm.1.2.2.2.2.2.1 (ms_lt hm.1 (by decide)) (n_in (N := 240) (by omega) (by decide)) ?_
            rw [nI_clamp (by omega), (hm.2.2.2.1 j hj).2.2 m em (2 * q) (by omega)]
            refine go_istore_n dX8_refusesPairs_66 (Nat.lt_of_lt_of_le (Nat.lt_succ_self _) (Nat.le_of_ble_eq_true rfl)) ?_
            show bw_go _ _ _ _ _ _ _ 67 [(3, .int _), (2, .int _), (0, .ref _), (1, .int _)] ([]) _ _
            refine go_iload_n dX8_refusesPairs_67 rfl ?_
            refine go_i2l dX8_refusesPairs_68 ?_
            refine go_lconst (0) dX8_refusesPairs_69 rfl ?_
            refine go_ldc2_w dX8_refusesPairs_70 kc_8_214 ?_
            refine go_cs (as := [.long _, .long _, .long _]) 0 dX8_refusesPairs_73 rfl rfl mt_8_69 (Nat.le_of_ble_eq_true rfl) rfl rfl (Nat.le_of_ble_eq_true rfl) (Nat.le_of_ble_eq_true rfl) (Nat.le_of_ble_eq_true rfl) (Nat.le_of_ble_eq_true rfl) ?_
            refine me_X8_in ?_
            rw [show inr (sRc S j (2 * q)).toInt64 0 47 = decide (0 ≤ (sRc S j (2 * q)).toInt ∧ (sRc S j (2 * q)).toInt ≤ 47) from by unfold inr; rw [l_i]; rfl]
            show bw_go _ _ _ _ _ _ _ 76 [(3, .int _), (2, .int _), (0, .ref _), (1, .int _)] ((.int _) :: []) _ _
            refine go_ifb_eq (pc' := 124) dX8_refusesPairs_76 rfl (fun c_76 => ?_) (fun c_76 => ?_)
            · -- eq at 76: yes
              show bw_go _ _ _ _ _ _ _ 124 [(3, .int _), (2, .int _), (0, .ref _), (1, .int _)] ([]) _ _
              refine go_aload_n dX8_refusesPairs_124 rfl ?_
              refine go_iconst (3) dX8_refusesPairs_125 rfl ?_
              refine go_cv (as := [.int _]) 0 dX8_refusesPairs_126 mt_8_79 (Or.inl rfl) rfl rfl (ms_lt hm.1 (by decide)) hm.1.1.2 (Nat.le_of_ble_eq_true rfl) (Nat.le_of_ble_eq_true rfl) (Nat.le_of_ble_eq_true rfl) (Nat.le_of_ble_eq_true rfl) (Nat.le_of_ble_eq_true rfl) ?_
              rw [show (3 : Int32) = nI 3 from rfl]
              refine me_X8_finds hm (f := 3) (by decide) (fun g hg hf => ?_)
              show bw_go _ _ _ _ _ _ _ 129 [(3, .int _), (2, .int _), (0, .ref _), (1, .int _)] ((.int _) :: []) _ _
              refine go_iret dX8_refusesPairs_129 rfl rfl ?_
              have hnok : ¬ okp (sRc S j (2 * q)) (sRc S j (2 * q + 1)) (cN (nowC S)) = true := fun z => by have z2 := (okp_t k1).mp z; exact absurd z2.1 (of_decide_eq_false c_76)
              have hno : ¬ okR (sRc S j) 0 (cN (nowC S)) (m / 2) = true := okR_no hq hnok
              have e9 : rdf (some m) (sRc S j) 0 (cN (nowC S)) = 3 := by unfold rdf; simp only; rw [if_pos ⟨hm2, hm16⟩, if_neg hno]
              refine q_m hQ ?_ hg hf
              unfold yRP
              rw [rn_n (by omega), em, e9]
              rfl
            · -- eq at 76: no
              show bw_go _ _ _ _ _ _ _ 79 [(3, .int _), (2, .int _), (0, .ref _), (1, .int _)] ([]) _ _
              have hc76 := of_decide_eq_true c_76
              obtain ⟨a, ha, ea⟩ := isn_ex (r := sRc S j (2 * q)) (num := 48) (decide_eq_true (by omega)) (by decide)
              rw [ea]
              refine go_aload_n dX8_refusesPairs_79 rfl ?_
              refine go_iload_n dX8_refusesPairs_80 rfl ?_
              refine go_bipush (8) dX8_refusesPairs_81 rfl ?_
              rw [show (8 : Int32) = nI 8 from rfl]
              refine go_idiv dX8_refusesPairs_83 (by decide) ?_
              rw [nI_div (by omega) (by decide) (by decide)]
              refine go_cv (as := [.int _]) 1 dX8_refusesPairs_84 mt_8_157 (Or.inl rfl) rfl rfl (ms_lt hm.1 (by decide)) hm.1.1.2 (Nat.le_of_ble_eq_true rfl) (Nat.le_of_ble_eq_true rfl) (Nat.le_of_ble_eq_true rfl) (Nat.le_of_ble_eq_true rfl) (Nat.le_of_ble_eq_true rfl) ?_
              refine me_X8_isBear hm ?_
              show bw_go _ _ _ _ _ _ _ 87 [(3, .int _), (2, .int _), (0, .ref _), (1, .int _)] ((.int _) :: []) _ _
              refine go_ifb_eq (pc' := 124) dX8_refusesPairs_87 rfl (fun c_87 => ?_) (fun c_87 => ?_)
              · -- eq at 87: yes
                show bw_go _ _ _ _ _ _ _ 124 [(3, .int _), (2, .int _), (0, .ref _), (1, .int _)] ([]) _ _
                refine go_aload_n dX8_refusesPairs_124 rfl ?_
                refine go_iconst (3) dX8_refusesPairs_125 rfl ?_
                refine go_cv (as := [.int _]) 0 dX8_refusesPairs_126 mt_8_79 (Or.inl rfl) rfl rfl (ms_lt hm.1 (by decide)) hm.1.1.2 (Nat.le_of_ble_eq_true rfl) (Nat.le_of_ble_eq_true rfl) (Nat.le_of_ble_eq_true rfl) (Nat.le_of_ble_eq_true rfl) (Nat.le_of_ble_eq_true rfl) ?_
                rw [show (3 : Int32) = nI 3 from rfl]
                refine me_X8_finds hm (f := 3) (by decide) (fun g hg hf => ?_)
                show bw_go _ _ _ _ _ _ _ 129 [(3, .int _), (2, .int _), (0, .ref _), (1, .int _)] ((.int _) :: []) _ _
                refine go_iret dX8_refusesPairs_129 rfl rfl ?_
                have hnok : ¬ okp (sRc S j (2 * q)) (sRc S j (2 * q + 1)) (cN (nowC S)) = true := fun z => by have z2 := (okp_t k1).mp z; rw [ea, nI_clamp (by omega)] at z2; have z3 := of_decide_eq_false (show decide (0 ≤ (nI (a / 8)).toInt ∧ (nI (a / 8)).toInt < cN (nowC S)) = false from c_87); rw [nI_toInt (by omega)] at z3; omega
                have hno : ¬ okR (sRc S j) 0 (cN (nowC S)) (m / 2) = true := okR_no hq hnok
                have e9 : rdf (some m) (sRc S j) 0 (cN (nowC S)) = 3 := by unfold rdf; simp only; rw [if_pos ⟨hm2, hm16⟩, if_neg hno]
                refine q_m hQ ?_ hg hf
                unfold yRP
                rw [rn_n (by omega), em, e9]
                rfl
              · -- eq at 87: no
                show bw_go _ _ _ _ _ _ _ 90 [(3, .int _), (2, .int _), (0, .ref _), (1, .int _)] ([]) _ _
                refine go_iload_n dX8_refusesPairs_90 rfl ?_
                refine go_bipush (8) dX8_refusesPairs_91 rfl ?_
                rw [show (8 : Int32) = nI 8 from rfl]
                refine go_irem dX8_refusesPairs_93 (by decide) ?_
                rw [nI_rem (by omega) (by decide) (by decide)]
                refine go_cs (as := [.int _]) 1 dX8_refusesPairs_94 rfl rfl mt_8_191 (Nat.le_of_ble_eq_true rfl) rfl rfl (Nat.le_of_ble_eq_true rfl) (Nat.le_of_ble_eq_true rfl) (Nat.le_of_ble_eq_true rfl) (Nat.le_of_ble_eq_true rfl) ?_
                refine me_X8_isThing ?_
                show bw_go _ _ _ _ _ _ _ 97 [(3, .int _), (2, .int _), (0, .ref _), (1, .int _)] ((.int _) :: []) _ _
                refine go_ifb_eq (pc' := 124) dX8_refusesPairs_97 rfl (fun c_97 => ?_) (fun c_97 => ?_)
                · -- eq at 97: yes
                  show bw_go _ _ _ _ _ _ _ 124 [(3, .int _), (2, .int _), (0, .ref _), (1, .int _)] ([]) _ _
                  refine go_aload_n dX8_refusesPairs_124 rfl ?_
                  refine go_iconst (3) dX8_refusesPairs_125 rfl ?_
                  refine go_cv (as := [.int _]) 0 dX8_refusesPairs_126 mt_8_79 (Or.inl rfl) rfl rfl (ms_lt hm.1 (by decide)) hm.1.1.2 (Nat.le_of_ble_eq_true rfl) (Nat.le_of_ble_eq_true rfl) (Nat.le_of_ble_eq_true rfl) (Nat.le_of_ble_eq_true rfl) (Nat.le_of_ble_eq_true rfl) ?_
                  rw [show (3 : Int32) = nI 3 from rfl]
                  refine me_X8_finds hm (f := 3) (by decide) (fun g hg hf => ?_)
                  show bw_go _ _ _ _ _ _ _ 129 [(3, .int _), (2, .int _), (0, .ref _), (1, .int _)] ((.int _) :: []) _ _
                  refine go_iret dX8_refusesPairs_129 rfl rfl ?_
                  have hnok : ¬ okp (sRc S j (2 * q)) (sRc S j (2 * q + 1)) (cN (nowC S)) = true := fun z => by have z2 := (okp_t k1).mp z; rw [ea, nI_clamp (by omega)] at z2; have z3 := of_decide_eq_false (show decide (0 ≤ (nI (a % 8)).toInt ∧ (nI (a % 8)).toInt < (6 : Nat)) = false from c_97); rw [nI_toInt (by omega)] at z3; omega
                  have hno : ¬ okR (sRc S j) 0 (cN (nowC S)) (m / 2) = true := okR_no hq hnok
                  have e9 : rdf (some m) (sRc S j) 0 (cN (nowC S)) = 3 := by unfold rdf; simp only; rw [if_pos ⟨hm2, hm16⟩, if_neg hno]
                  refine q_m hQ ?_ hg hf
                  unfold yRP
                  rw [rn_n (by omega), em, e9]
                  rfl
                · -- eq at 97: no
                  show bw_go _ _ _ _ _ _ _ 100 [(3, .int _), (2, .int _), (0, .ref _), (1, .int _)] ([]) _ _
                  refine go_aload_n dX8_refusesPairs_100 rfl ?_
                  refine go_gfr dX8_refusesPairs_101 fl_8_20 rfl (ms_lt hm.1 (by decide)) hm.1.1.2 hm.1.2.1.2.2.2.1 ?_
                  refine go_bipush (40) dX8_refusesPairs_104 rfl ?_
                  refine go_iload_n dX8_refusesPairs_106 rfl ?_
                  refine go_imul dX8_refusesPairs_107 ?_
                  rw [show (40 : Int32) = nI 40 from rfl, nmul]
                  refine go_iload_n dX8_refusesPairs_108 rfl ?_
                  refine go_iadd dX8_refusesPairs_109 ?_
                  rw [nI_add]
                  refine go_iconst (1) dX8_refusesPairs_110 rfl ?_
                  refine go_iadd dX8_refusesPairs_111 ?_
                  rw [nI_1]
                  refine go_ia dX8_refusesPairs_112 hm.1.2.2.2.2.2.1 (ms_lt hm.1 (by decide)) (n_in (N := 240) (by omega) (by decide)) ?_
                  rw [nI_clamp (by omega), show 40 * j + 2 * q + 1 = 40 * j + (2 * q + 1) from rfl, (hm.2.2.2.1 j hj).2.2 m em (2 * q + 1) (by omega)]
                  refine go_i2l dX8_refusesPairs_113 ?_
                  refine go_lconst (0) dX8_refusesPairs_114 rfl ?_
                  refine go_ldc2_w dX8_refusesPairs_115 kc_8_186 ?_
                  refine go_cs (as := [.long _, .long _, .long _]) 0 dX8_refusesPairs_118 rfl rfl mt_8_69 (Nat.le_of_ble_eq_true rfl) rfl rfl (Nat.le_of_ble_eq_true rfl) (Nat.le_of_ble_eq_true rfl) (Nat.le_of_ble_eq_true rfl) (Nat.le_of_ble_eq_true rfl) ?_
                  refine me_X8_in ?_
                  rw [show inr (sRc S j (2 * q + 1)).toInt64 0 2 = decide (0 ≤ (sRc S j (2 * q + 1)).toInt ∧ (sRc S j (2 * q + 1)).toInt ≤ 2) from by unfold inr; rw [l_i]; rfl]
                  show bw_go _ _ _ _ _ _ _ 121 [(3, .int _), (2, .int _), (0, .ref _), (1, .int _)] ((.int _) :: []) _ _
                  refine go_ifb_ne (pc' := 130) dX8_refusesPairs_121 rfl (fun c_121 => ?_) (fun c_121 => ?_)
                  · -- ne at 121: yes
                    show bw_go _ _ _ _ _ _ _ 130 [(3, .int _), (2, .int _), (0, .ref _), (1, .int _)] ([]) _ _
                    refine go_iinc dX8_refusesPairs_130 rfl (show nI (2 * q) + Int32.ofInt 2 = nI (2 * (q + 1)) from nI_add _ 2) (Nat.lt_of_lt_of_le (Nat.lt_succ_self _) (Nat.le_of_ble_eq_true rfl)) ?_
                    show bw_go _ _ _ _ _ _ _ 133 [(2, .int _), (3, .int _), (0, .ref _), (1, .int _)] ([]) _ _
                    refine go_goto (pc' := 45) dX8_refusesPairs_133 rfl ?_
                    refine go_ls [(2, .int _), (0, .ref _), (1, .int _)] (by show List.Nodup ([2, 0, 1] : List Nat); decide) (by show List.Nodup ([2, 3, 0, 1] : List Nat); decide) (le_cons rfl (le_cons rfl (le_cons rfl (le_nil _)))) ?_
                    refine K () (okR_s hok ((okp_t k1).mpr ⟨hc76, ?_⟩))
                    rw [ea, nI_clamp (by omega)]
                    have z3 := of_decide_eq_true (show decide (0 ≤ (nI (a / 8)).toInt ∧ (nI (a / 8)).toInt < cN (nowC S)) = true from c_87)
                    have z4 := of_decide_eq_true (show decide (0 ≤ (nI (a % 8)).toInt ∧ (nI (a % 8)).toInt < (6 : Nat)) = true from c_97)
                    rw [nI_toInt (by omega)] at z3 z4
                    exact ⟨by omega, by omega, (of_decide_eq_true c_121).1, (of_decide_eq_true c_121).2⟩
                  · -- ne at 121: no
                    show bw_go _ _ _ _ _ _ _ 124 [(3, .int _), (2, .int _), (0, .ref _), (1, .int _)] ([]) _ _
                    refine go_aload_n dX8_refusesPairs_124 rfl ?_
                    refine go_iconst (3) dX8_refusesPairs_125 rfl ?_
                    refine go_cv (as := [.int _]) 0 dX8_refusesPairs_126 mt_8_79 (Or.inl rfl) rfl rfl (ms_lt hm.1 (by decide)) hm.1.1.2 (Nat.le_of_ble_eq_true rfl) (Nat.le_of_ble_eq_true rfl) (Nat.le_of_ble_eq_true rfl) (Nat.le_of_ble_eq_true rfl) (Nat.le_of_ble_eq_true rfl) ?_
                    rw [show (3 : Int32) = nI 3 from rfl]
                    refine me_X8_finds hm (f := 3) (by decide) (fun g hg hf => ?_)
                    show bw_go _ _ _ _ _ _ _ 129 [(3, .int _), (2, .int _), (0, .ref _), (1, .int _)] ((.int _) :: []) _ _
                    refine go_iret dX8_refusesPairs_129 rfl rfl ?_
                    have hnok : ¬ okp (sRc S j (2 * q)) (sRc S j (2 * q + 1)) (cN (nowC S)) = true := fun z => by have z2 := (okp_t k1).mp z; exact absurd ⟨z2.2.2.2.1, z2.2.2.2.2⟩ (of_decide_eq_false c_121)
                    have hno : ¬ okR (sRc S j) 0 (cN (nowC S)) (m / 2) = true := okR_no hq hnok
                    have e9 : rdf (some m) (sRc S j) 0 (cN (nowC S)) = 3 := by unfold rdf; simp only; rw [if_pos ⟨hm2, hm16⟩, if_neg hno]
                    refine q_m hQ ?_ hg hf
                    unfold yRP
                    rw [rn_n (by omega), em, e9]
                    rfl
        · -- behind the last
          intro _ hok
          show bw_go _ _ _ _ _ _ _ 45 [(2, .int _), (0, .ref _), (1, .int _)] ([]) _ _
          refine go_iload_n dX8_refusesPairs_45 rfl ?_
          refine go_aload_n dX8_refusesPairs_46 rfl ?_
          refine go_gfr dX8_refusesPairs_47 fl_8_23 rfl (ms_lt hm.1 (by decide)) hm.1.1.2 hm.1.2.1.2.2.2.2.1 ?_
          refine go_iload_n dX8_refusesPairs_50 rfl ?_
          refine go_ia dX8_refusesPairs_51 hm.1.2.2.2.2.2.2.1 (ms_lt hm.1 (by decide)) (n_in (N := 6) hj (by decide)) ?_
          rw [nI_clamp (by omega), em2]
          refine go_icmp_ge (pc' := 136) dX8_refusesPairs_52 rfl (fun c_52 => ?_) (fun c_52 => ?_)
          · -- ge at 52: yes
            show bw_go _ _ _ _ _ _ _ 136 [(2, .int _), (0, .ref _), (1, .int _)] ([]) _ _
            refine go_iconst (0) dX8_refusesPairs_136 rfl ?_
            refine go_iret dX8_refusesPairs_137 rfl rfl ?_
            refine q_m hQ ?_ hm (frX_r h)
            unfold yRP
            rw [rn_n (by omega), em, show rdf (some m) (sRc S j) 0 (cN (nowC S)) = 0 from by unfold rdf; simp only; rw [if_pos ⟨hm2, hm16⟩, if_pos hok]]
            rfl
          · -- ge at 52: no
            exfalso; have t_0 := nI_toInt (n := 2 * (m / 2)) (by omega); have t_1 := nI_toInt (n := m) (by omega); simp only [i_le, i_lt, i_eq, bi_eq] at c_52; omega
      · -- le at 34: no
        show bw_go _ _ _ _ _ _ _ 37 [(0, .ref _), (1, .int _)] ([]) _ _
        refine go_aload_n dX8_refusesPairs_37 rfl ?_
        refine go_iconst (5) dX8_refusesPairs_38 rfl ?_
        refine go_cv (as := [.int _]) 0 dX8_refusesPairs_39 mt_8_79 (Or.inl rfl) rfl rfl (ms_lt hm.1 (by decide)) hm.1.1.2 (Nat.le_of_ble_eq_true rfl) (Nat.le_of_ble_eq_true rfl) (Nat.le_of_ble_eq_true rfl) (Nat.le_of_ble_eq_true rfl) (Nat.le_of_ble_eq_true rfl) ?_
        rw [show (5 : Int32) = nI 5 from rfl]
        refine me_X8_finds hm (f := 5) (by decide) (fun g hg hf => ?_)
        show bw_go _ _ _ _ _ _ _ 42 [(0, .ref _), (1, .int _)] ((.int _) :: []) _ _
        refine go_iret dX8_refusesPairs_42 rfl rfl ?_
        refine q_m hQ ?_ hg hf
        have e9 : rdf (some m) (sRc S j) 0 (cN (nowC S)) = 5 := by
          unfold rdf; simp only
          rw [if_neg (fun z => ?_)]
          have t_0 := nI_toInt (n := m) (by omega)
          have l_16 : (16 : Int32).toInt = 16 := rfl
          try simp only [i_le] at c_34
          first
          | omega
          | exact c_23 (by rw [z.1]; rfl)
        unfold yRP
        rw [rn_n (by omega), em, e9]
        rfl
  · -- ge at 6: no
    show bw_go _ _ _ _ _ _ _ 9 [(0, .ref _), (1, .int _)] ([]) _ _
    refine go_aload_n dX8_refusesPairs_9 rfl ?_
    refine go_iconst (1) dX8_refusesPairs_10 rfl ?_
    refine go_cv (as := [.int _]) 0 dX8_refusesPairs_11 mt_8_79 (Or.inl rfl) rfl rfl (ms_lt hm.1 (by decide)) hm.1.1.2 (Nat.le_of_ble_eq_true rfl) (Nat.le_of_ble_eq_true rfl) (Nat.le_of_ble_eq_true rfl) (Nat.le_of_ble_eq_true rfl) (Nat.le_of_ble_eq_true rfl) ?_
    rw [show (1 : Int32) = nI 1 from rfl]
    refine me_X8_finds hm (f := 1) (by decide) (fun g hg hf => ?_)
    show bw_go _ _ _ _ _ _ _ 14 [(0, .ref _), (1, .int _)] ((.int _) :: []) _ _
    refine go_iret dX8_refusesPairs_14 rfl rfl ?_
    refine q_m hQ ?_ hg hf
    unfold yRP
    rw [rn_n (by omega), oz_none (hm.2.2.2.1 j hj).2.1 (by decide) c_6]
    rfl
set_option maxRecDepth 100000 in
set_option maxHeartbeats 4000000 in
theorem me_X8_pairOf {X : Nat × (Nat → Int32)} {Q : Option Value → bw_H → Prop} {h : bw_H} {x : Int32} (hQ : Q (some (.int (prF x))) h) : bw_me X 0 bm_X8_pairOf false [.int x] h Q := by
  show bw_go _ 0 8 1 false (some .int) cX8_pairOf 0 [(0, .int _)] [] _ _
  refine go_iload_n dX8_pairOf_0 rfl ?_
  refine go_bipush (-9) dX8_pairOf_1 rfl ?_
  refine go_icmp_ne (pc' := 10) dX8_pairOf_3 rfl (fun c_3 => ?_) (fun c_3 => ?_)
  · -- ne at 3: yes
    show bw_go _ _ _ _ _ _ _ 10 [(0, .int _)] ([]) _ _
    refine go_iload_n dX8_pairOf_10 rfl ?_
    refine go_iret dX8_pairOf_11 rfl rfl ?_
    refine qi hQ ?_
    unfold prF
    first | rw [if_neg c_3] | rw [if_pos (Decidable.of_not_not c_3)]
  · -- ne at 3: no
    show bw_go _ _ _ _ _ _ _ 6 [(0, .int _)] ([]) _ _
    refine go_iconst (2) dX8_pairOf_6 rfl ?_
    refine go_goto (pc' := 11) dX8_pairOf_7 rfl ?_
    show bw_go _ _ _ _ _ _ _ 11 [(0, .int _)] ((.int _) :: []) _ _
    refine go_iret dX8_pairOf_11 rfl rfl ?_
    refine qi hQ ?_
    unfold prF
    first | rw [if_neg c_3] | rw [if_pos (Decidable.of_not_not c_3)]
set_option maxRecDepth 100000 in
set_option maxHeartbeats 4000000 in
theorem me_X8_refusesLooks {X : Nat × (Nat → Int32)} {Q : Option Value → bw_H → Prop} {h : bw_H} {S : ST} {r : Int32} (hm : MR h S) (hQ : PM h Q (yRL r S)) : bw_me X 3 bm_X8_refusesLooks false [.ref 60, .int r] h Q := by
  have hv := mr_v hm
  have hk := mr_k hm
  have k1 := hk.1
  have hkC := hk
  have h2N := p2N k1
  have hp0 : 0 < 2 ^ cN (nowC S) := Nat.two_pow_pos _
  show bw_go _ 3 8 2 false (some .int) cX8_refusesLooks 0 [(0, .ref _), (1, .int _)] [] _ _
  refine go_iload_n dX8_refusesLooks_0 rfl ?_
  refine go_cs (as := [.int _]) 1 dX8_refusesLooks_1 rfl rfl mt_8_75 (Nat.le_of_ble_eq_true rfl) rfl rfl (Nat.le_of_ble_eq_true rfl) (Nat.le_of_ble_eq_true rfl) (Nat.le_of_ble_eq_true rfl) (Nat.le_of_ble_eq_true rfl) ?_
  refine me_X8_isRow ?_
  show bw_go _ _ _ _ _ _ _ 4 [(0, .ref _), (1, .int _)] ((.int _) :: []) _ _
  refine go_ifb_ne (pc' := 11) dX8_refusesLooks_4 rfl (fun c_4 => ?_) (fun c_4 => ?_)
  · -- ne at 4: yes
    show bw_go _ _ _ _ _ _ _ 11 [(0, .ref _), (1, .int _)] ([]) _ _
    obtain ⟨j, hj, rfl⟩ := isn_ex (r := r) (num := 6) c_4 (by decide)
    refine go_aload_n dX8_refusesLooks_11 rfl ?_
    refine go_gfr dX8_refusesLooks_12 fl_8_7 rfl (ms_lt hm.1 (by decide)) hm.1.1.2 hm.1.2.1.1 ?_
    refine go_iconst (0) dX8_refusesLooks_15 rfl ?_
    refine go_ia dX8_refusesLooks_16 hm.1.2.2.1 (ms_lt hm.1 (by decide)) (by decide) ?_
    rw [show (0 : Int32).toNatClampNeg = 0 from rfl, hv.1]
    refine go_if_ne (pc' := 25) dX8_refusesLooks_17 rfl (fun c_17 => ?_) (fun c_17 => ?_)
    · -- ne at 17: yes
      show bw_go _ _ _ _ _ _ _ 25 [(0, .ref _), (1, .int _)] ([]) _ _
      refine go_aload_n dX8_refusesLooks_25 rfl ?_
      refine go_iload_n dX8_refusesLooks_26 rfl ?_
      refine go_cv (as := [.int _]) 2 dX8_refusesLooks_27 mt_8_219 (Or.inl rfl) rfl rfl (ms_lt hm.1 (by decide)) hm.1.1.2 (Nat.le_of_ble_eq_true rfl) (Nat.le_of_ble_eq_true rfl) (Nat.le_of_ble_eq_true rfl) (Nat.le_of_ble_eq_true rfl) (Nat.le_of_ble_eq_true rfl) ?_
      have h0 : ¬ cN (nowC S) = 0 := fun z => c_17 ((nI_eq (a := cN (nowC S)) (b := 0) (by omega) (by omega)).mpr z)
      refine me_X8_refusesPairs hm hj (fun g hg hf => ?_)
      show bw_go _ _ _ _ _ _ _ 30 [(0, .ref _), (1, .int _)] ((.int _) :: []) _ _
      refine go_iret dX8_refusesLooks_30 rfl rfl ?_
      have e9 : yRL (nI j) S = yRP (nI j) S := by
        unfold yRL yRP
        rw [if_pos (show isn (nI j) 6 = true from c_4), if_neg h0]
      rw [← e9] at hg ⊢
      exact hQ g hg hf
    · -- ne at 17: no
      show bw_go _ _ _ _ _ _ _ 20 [(0, .ref _), (1, .int _)] ([]) _ _
      refine go_bipush (-4) dX8_refusesLooks_20 rfl ?_
      refine go_goto (pc' := 30) dX8_refusesLooks_22 rfl ?_
      show bw_go _ _ _ _ _ _ _ 30 [(0, .ref _), (1, .int _)] ((.int _) :: []) _ _
      refine go_iret dX8_refusesLooks_30 rfl rfl ?_
      refine q_m hQ ?_ hm (frX_r h)
      unfold yRL
      rw [if_pos (show isn (nI j) 6 = true from c_4), if_pos ((nI_eq (a := cN (nowC S)) (b := 0) (by omega) (by omega)).mp (Decidable.of_not_not c_17))]
  · -- ne at 4: no
    show bw_go _ _ _ _ _ _ _ 7 [(0, .ref _), (1, .int _)] ([]) _ _
    refine go_iconst (-1) dX8_refusesLooks_7 rfl ?_
    refine go_goto (pc' := 30) dX8_refusesLooks_8 rfl ?_
    show bw_go _ _ _ _ _ _ _ 30 [(0, .ref _), (1, .int _)] ((.int _) :: []) _ _
    refine go_iret dX8_refusesLooks_30 rfl rfl ?_
    refine q_m hQ ?_ hm (frX_r h)
    unfold yRL
    rw [if_neg (fun z => Bool.noConfusion ((show isn r 6 = false from c_4).symm.trans z))]
set_option maxRecDepth 100000 in
set_option maxHeartbeats 4000000 in
theorem me_X8_isTruth {X : Nat × (Nat → Int32)} {Q : Option Value → bw_H → Prop} {h : bw_H} {S : ST} {j m dn : Nat} (hm : MR h S) (hl : lkf S j m) (hd : dn < 64) (hQ : Q (some (.int (bi (tru (nowC S) (rdA (sRc S j) 0 m) dn (m / 2))))) h) : bw_me X 5 bm_X8_isTruth false [.ref 60, .int (nI dn), .int (nI j)] h Q := by
  have hv := mr_v hm
  have hk := mr_k hm
  have k1 := hk.1
  have hkC := hk
  have h2N := p2N k1
  have hp0 : 0 < 2 ^ cN (nowC S) := Nat.two_pow_pos _
  obtain ⟨hj, em, hm2, hm16, hl5⟩ := hl
  have em2 : bw_i h 65 j = nI m := by rw [(hm.2.2.2.1 j hj).1, em]; rfl
  show bw_go _ 5 8 6 false (some .boolean) cX8_isTruth 0 [(0, .ref _), (1, .int _), (2, .int _)] [] _ _
  refine go_iconst (1) dX8_isTruth_0 rfl ?_
  refine go_istore_n dX8_isTruth_1 (Nat.lt_of_lt_of_le (Nat.lt_succ_self _) (Nat.le_of_ble_eq_true rfl)) ?_
  show bw_go _ _ _ _ _ _ _ 2 [(3, .int _), (0, .ref _), (1, .int _), (2, .int _)] ([]) _ _
  refine go_iconst (0) dX8_isTruth_2 rfl ?_
  refine go_istore dX8_isTruth_3 (Nat.lt_of_lt_of_le (Nat.lt_succ_self _) (Nat.le_of_ble_eq_true rfl)) ?_
  show bw_go _ _ _ _ _ _ _ 5 [(4, .int _), (3, .int _), (0, .ref _), (1, .int _), (2, .int _)] ([]) _ _
  refine go_for (P := fun q => bw_go X 5 8 6 false (some .boolean) cX8_isTruth 5 [(4, .int (nI (2 * q))), (3, .int (bi (tru (nowC S) (rdA (sRc S j) 0 m) dn q))), (0, .ref (60)), (1, .int (nI dn)), (2, .int (nI j))] [] h Q) (N := m / 2) (fun q hq K => ?_) ?_ (0) (Nat.zero_le _)
  · skip
    obtain ⟨a, v, ea, ev, b1, b2, b3, b4⟩ := hl5 q hq
    show bw_go _ _ _ _ _ _ _ 5 [(4, .int _), (3, .int _), (0, .ref _), (1, .int _), (2, .int _)] ([]) _ _
    refine go_iload dX8_isTruth_5 rfl ?_
    refine go_iconst (1) dX8_isTruth_7 rfl ?_
    refine go_iadd dX8_isTruth_8 ?_
    rw [nI_1]
    refine go_aload_n dX8_isTruth_9 rfl ?_
    refine go_gfr dX8_isTruth_10 fl_8_23 rfl (ms_lt hm.1 (by decide)) hm.1.1.2 hm.1.2.1.2.2.2.2.1 ?_
    refine go_iload_n dX8_isTruth_13 rfl ?_
    refine go_ia dX8_isTruth_14 hm.1.2.2.2.2.2.2.1 (ms_lt hm.1 (by decide)) (n_in (N := 6) hj (by decide)) ?_
    rw [nI_clamp (by omega), em2]
    refine go_icmp_ge (pc' := 87) dX8_isTruth_15 rfl (fun c_15 => ?_) (fun c_15 => ?_)
    · -- ge at 15: yes
      exfalso; have t_0 := nI_toInt (n := 2 * q + 1) (by omega); have t_1 := nI_toInt (n := m) (by omega); simp only [i_le, i_lt, i_eq, bi_eq] at c_15; omega
    · -- ge at 15: no
      show bw_go _ _ _ _ _ _ _ 18 [(4, .int _), (3, .int _), (0, .ref _), (1, .int _), (2, .int _)] ([]) _ _
      refine go_aload_n dX8_isTruth_18 rfl ?_
      refine go_gfr dX8_isTruth_19 fl_8_20 rfl (ms_lt hm.1 (by decide)) hm.1.1.2 hm.1.2.1.2.2.2.1 ?_
      refine go_bipush (40) dX8_isTruth_22 rfl ?_
      refine go_iload_n dX8_isTruth_24 rfl ?_
      refine go_imul dX8_isTruth_25 ?_
      rw [show (40 : Int32) = nI 40 from rfl, nmul]
      refine go_iload dX8_isTruth_26 rfl ?_
      refine go_iadd dX8_isTruth_28 ?_
      rw [nI_add]
      refine go_ia dX8_isTruth_29 hm.1.2.2.2.2.2.1 (ms_lt hm.1 (by decide)) (n_in (N := 240) (by omega) (by decide)) ?_
      rw [nI_clamp (by omega), (hm.2.2.2.1 j hj).2.2 m em (2 * q) (by omega), ea]
      refine go_istore dX8_isTruth_30 (Nat.lt_of_lt_of_le (Nat.lt_succ_self _) (Nat.le_of_ble_eq_true rfl)) ?_
      show bw_go _ _ _ _ _ _ _ 32 [(5, .int _), (4, .int _), (3, .int _), (0, .ref _), (1, .int _), (2, .int _)] ([]) _ _
      refine go_iload_n dX8_isTruth_32 rfl ?_
      refine go_ifb_eq (pc' := 79) dX8_isTruth_33 rfl (fun c_33 => ?_) (fun c_33 => ?_)
      · -- eq at 33: yes
        show bw_go _ _ _ _ _ _ _ 79 [(5, .int _), (4, .int _), (3, .int _), (0, .ref _), (1, .int _), (2, .int _)] ([]) _ _
        refine go_iconst (0) dX8_isTruth_79 rfl ?_
        refine go_istore_n dX8_isTruth_80 (Nat.lt_of_lt_of_le (Nat.lt_succ_self _) (Nat.le_of_ble_eq_true rfl)) ?_
        show bw_go _ _ _ _ _ _ _ 81 [(3, .int _), (5, .int _), (4, .int _), (0, .ref _), (1, .int _), (2, .int _)] ([]) _ _
        refine go_iinc dX8_isTruth_81 rfl (show nI (2 * q) + Int32.ofInt 2 = nI (2 * (q + 1)) from nI_add _ 2) (Nat.lt_of_lt_of_le (Nat.lt_succ_self _) (Nat.le_of_ble_eq_true rfl)) ?_
        show bw_go _ _ _ _ _ _ _ 84 [(4, .int _), (3, .int _), (5, .int _), (0, .ref _), (1, .int _), (2, .int _)] ([]) _ _
        refine go_goto (pc' := 5) dX8_isTruth_84 rfl ?_
        refine go_ls [(4, .int _), (3, .int _), (0, .ref _), (1, .int _), (2, .int _)] (by show List.Nodup ([4, 3, 0, 1, 2] : List Nat); decide) (by show List.Nodup ([4, 3, 5, 0, 1, 2] : List Nat); decide) (le_cons rfl (le_cons rfl (le_cons rfl (le_cons rfl (le_cons rfl (le_nil _)))))) ?_
        have e0 : tru (nowC S) (rdA (sRc S j) 0 m) dn (q + 1) = (tru (nowC S) (rdA (sRc S j) 0 m) dn q && fit (nowC S) (rdA (sRc S j) 0 m) q (cK (nowC S) ((rdA (sRc S j) 0 m).2.1 q)) dn) := rfl
        have f1 : (rdA (sRc S j) 0 m).2.1 q = a / 8 := by show (sRc S j (0 + 2 * q)).toNatClampNeg / 8 = _; rw [Nat.zero_add, ea, nI_clamp (by omega)]
        have f2 : (rdA (sRc S j) 0 m).2.2.1 q = a % 8 := by show (sRc S j (0 + 2 * q)).toNatClampNeg % 8 = _; rw [Nat.zero_add, ea, nI_clamp (by omega)]
        have f3 : (rdA (sRc S j) 0 m).2.2.2 q = v := by show (sRc S j (0 + 2 * q + 1)).toNatClampNeg = _; rw [Nat.zero_add, ev, nI_clamp (by omega)]
        have ef : fit (nowC S) (rdA (sRc S j) 0 m) q (cK (nowC S) ((rdA (sRc S j) 0 m).2.1 q)) dn = decide (anC (nowC S) (a / 8) (a % 8) dn = tvI v) := by unfold fit anC; rw [f1, f2, f3]
        have hpt := pr_tv (v := v) b4 (anC_3 (nowC S) (a / 8) (a % 8) dn)
        first
        | (have hb : tru (nowC S) (rdA (sRc S j) 0 m) dn (q + 1) = false := by rw [e0, c_33]; rfl
           rw [hb] at K; exact K)
        | (have hb : tru (nowC S) (rdA (sRc S j) 0 m) dn (q + 1) = false := by rw [e0, c_33, ef, decide_eq_false (fun z => c_72 (hpt.mpr z))]; rfl
           rw [hb] at K; exact K)
        | (have hb : tru (nowC S) (rdA (sRc S j) 0 m) dn (q + 1) = true := by rw [e0, c_33, ef, decide_eq_true (hpt.mp (Decidable.of_not_not c_72))]; rfl
           rw [hb] at K; exact K)
      · -- eq at 33: no
        show bw_go _ _ _ _ _ _ _ 36 [(5, .int _), (4, .int _), (3, .int _), (0, .ref _), (1, .int _), (2, .int _)] ([]) _ _
        refine go_aload_n dX8_isTruth_36 rfl ?_
        refine go_aload_n dX8_isTruth_37 rfl ?_
        refine go_gfr dX8_isTruth_38 fl_8_7 rfl (ms_lt hm.1 (by decide)) hm.1.1.2 hm.1.2.1.1 ?_
        refine go_iload dX8_isTruth_41 rfl ?_
        refine go_bipush (8) dX8_isTruth_43 rfl ?_
        rw [show (8 : Int32) = nI 8 from rfl]
        refine go_idiv dX8_isTruth_45 (by decide) ?_
        rw [nI_div (by omega) (by decide) (by decide)]
        refine go_iload dX8_isTruth_46 rfl ?_
        refine go_bipush (8) dX8_isTruth_48 rfl ?_
        rw [show (8 : Int32) = nI 8 from rfl]
        refine go_irem dX8_isTruth_50 (by decide) ?_
        rw [nI_rem (by omega) (by decide) (by decide)]
        refine go_iload_n dX8_isTruth_51 rfl ?_
        refine go_cv (as := [.ref _, .int _, .int _, .int _]) 4 dX8_isTruth_52 mt_8_144 (Or.inl rfl) rfl rfl (ms_lt hm.1 (by decide)) hm.1.1.2 (Nat.le_of_ble_eq_true rfl) (Nat.le_of_ble_eq_true rfl) (Nat.le_of_ble_eq_true rfl) (Nat.le_of_ble_eq_true rfl) (Nat.le_of_ble_eq_true rfl) ?_
        refine me_X8_tellOf hm.1 (ms_lt hm.1 (by decide)) hm.1.2.2.1 hv hkC b1 b2 hd ?_
        show bw_go _ _ _ _ _ _ _ 55 [(5, .int _), (4, .int _), (3, .int _), (0, .ref _), (1, .int _), (2, .int _)] ((.int _) :: []) _ _
        refine go_cs (as := [.int _]) 0 dX8_isTruth_55 rfl rfl mt_8_216 (Nat.le_of_ble_eq_true rfl) rfl rfl (Nat.le_of_ble_eq_true rfl) (Nat.le_of_ble_eq_true rfl) (Nat.le_of_ble_eq_true rfl) (Nat.le_of_ble_eq_true rfl) ?_
        refine me_X8_pairOf ?_
        show bw_go _ _ _ _ _ _ _ 58 [(5, .int _), (4, .int _), (3, .int _), (0, .ref _), (1, .int _), (2, .int _)] ((.int _) :: []) _ _
        refine go_aload_n dX8_isTruth_58 rfl ?_
        refine go_gfr dX8_isTruth_59 fl_8_20 rfl (ms_lt hm.1 (by decide)) hm.1.1.2 hm.1.2.1.2.2.2.1 ?_
        refine go_bipush (40) dX8_isTruth_62 rfl ?_
        refine go_iload_n dX8_isTruth_64 rfl ?_
        refine go_imul dX8_isTruth_65 ?_
        rw [show (40 : Int32) = nI 40 from rfl, nmul]
        refine go_iload dX8_isTruth_66 rfl ?_
        refine go_iadd dX8_isTruth_68 ?_
        rw [nI_add]
        refine go_iconst (1) dX8_isTruth_69 rfl ?_
        refine go_iadd dX8_isTruth_70 ?_
        rw [nI_1]
        refine go_ia dX8_isTruth_71 hm.1.2.2.2.2.2.1 (ms_lt hm.1 (by decide)) (n_in (N := 240) (by omega) (by decide)) ?_
        rw [nI_clamp (by omega), show 40 * j + 2 * q + 1 = 40 * j + (2 * q + 1) from rfl, (hm.2.2.2.1 j hj).2.2 m em (2 * q + 1) (by omega), ev]
        refine go_icmp_ne (pc' := 79) dX8_isTruth_72 rfl (fun c_72 => ?_) (fun c_72 => ?_)
        · -- ne at 72: yes
          show bw_go _ _ _ _ _ _ _ 79 [(5, .int _), (4, .int _), (3, .int _), (0, .ref _), (1, .int _), (2, .int _)] ([]) _ _
          refine go_iconst (0) dX8_isTruth_79 rfl ?_
          refine go_istore_n dX8_isTruth_80 (Nat.lt_of_lt_of_le (Nat.lt_succ_self _) (Nat.le_of_ble_eq_true rfl)) ?_
          show bw_go _ _ _ _ _ _ _ 81 [(3, .int _), (5, .int _), (4, .int _), (0, .ref _), (1, .int _), (2, .int _)] ([]) _ _
          refine go_iinc dX8_isTruth_81 rfl (show nI (2 * q) + Int32.ofInt 2 = nI (2 * (q + 1)) from nI_add _ 2) (Nat.lt_of_lt_of_le (Nat.lt_succ_self _) (Nat.le_of_ble_eq_true rfl)) ?_
          show bw_go _ _ _ _ _ _ _ 84 [(4, .int _), (3, .int _), (5, .int _), (0, .ref _), (1, .int _), (2, .int _)] ([]) _ _
          refine go_goto (pc' := 5) dX8_isTruth_84 rfl ?_
          refine go_ls [(4, .int _), (3, .int _), (0, .ref _), (1, .int _), (2, .int _)] (by show List.Nodup ([4, 3, 0, 1, 2] : List Nat); decide) (by show List.Nodup ([4, 3, 5, 0, 1, 2] : List Nat); decide) (le_cons rfl (le_cons rfl (le_cons rfl (le_cons rfl (le_cons rfl (le_nil _)))))) ?_
          have e0 : tru (nowC S) (rdA (sRc S j) 0 m) dn (q + 1) = (tru (nowC S) (rdA (sRc S j) 0 m) dn q && fit (nowC S) (rdA (sRc S j) 0 m) q (cK (nowC S) ((rdA (sRc S j) 0 m).2.1 q)) dn) := rfl
          have f1 : (rdA (sRc S j) 0 m).2.1 q = a / 8 := by show (sRc S j (0 + 2 * q)).toNatClampNeg / 8 = _; rw [Nat.zero_add, ea, nI_clamp (by omega)]
          have f2 : (rdA (sRc S j) 0 m).2.2.1 q = a % 8 := by show (sRc S j (0 + 2 * q)).toNatClampNeg % 8 = _; rw [Nat.zero_add, ea, nI_clamp (by omega)]
          have f3 : (rdA (sRc S j) 0 m).2.2.2 q = v := by show (sRc S j (0 + 2 * q + 1)).toNatClampNeg = _; rw [Nat.zero_add, ev, nI_clamp (by omega)]
          have ef : fit (nowC S) (rdA (sRc S j) 0 m) q (cK (nowC S) ((rdA (sRc S j) 0 m).2.1 q)) dn = decide (anC (nowC S) (a / 8) (a % 8) dn = tvI v) := by unfold fit anC; rw [f1, f2, f3]
          have hpt := pr_tv (v := v) b4 (anC_3 (nowC S) (a / 8) (a % 8) dn)
          first
          | (have hb : tru (nowC S) (rdA (sRc S j) 0 m) dn (q + 1) = false := by rw [e0, c_33]; rfl
             rw [hb] at K; exact K)
          | (have hb : tru (nowC S) (rdA (sRc S j) 0 m) dn (q + 1) = false := by rw [e0, c_33, ef, decide_eq_false (fun z => c_72 (hpt.mpr z))]; rfl
             rw [hb] at K; exact K)
          | (have hb : tru (nowC S) (rdA (sRc S j) 0 m) dn (q + 1) = true := by rw [e0, c_33, ef, decide_eq_true (hpt.mp (Decidable.of_not_not c_72))]; rfl
             rw [hb] at K; exact K)
        · -- ne at 72: no
          show bw_go _ _ _ _ _ _ _ 75 [(5, .int _), (4, .int _), (3, .int _), (0, .ref _), (1, .int _), (2, .int _)] ([]) _ _
          refine go_iconst (1) dX8_isTruth_75 rfl ?_
          refine go_goto (pc' := 80) dX8_isTruth_76 rfl ?_
          show bw_go _ _ _ _ _ _ _ 80 [(5, .int _), (4, .int _), (3, .int _), (0, .ref _), (1, .int _), (2, .int _)] ((.int _) :: []) _ _
          refine go_istore_n dX8_isTruth_80 (Nat.lt_of_lt_of_le (Nat.lt_succ_self _) (Nat.le_of_ble_eq_true rfl)) ?_
          show bw_go _ _ _ _ _ _ _ 81 [(3, .int _), (5, .int _), (4, .int _), (0, .ref _), (1, .int _), (2, .int _)] ([]) _ _
          refine go_iinc dX8_isTruth_81 rfl (show nI (2 * q) + Int32.ofInt 2 = nI (2 * (q + 1)) from nI_add _ 2) (Nat.lt_of_lt_of_le (Nat.lt_succ_self _) (Nat.le_of_ble_eq_true rfl)) ?_
          show bw_go _ _ _ _ _ _ _ 84 [(4, .int _), (3, .int _), (5, .int _), (0, .ref _), (1, .int _), (2, .int _)] ([]) _ _
          refine go_goto (pc' := 5) dX8_isTruth_84 rfl ?_
          refine go_ls [(4, .int _), (3, .int _), (0, .ref _), (1, .int _), (2, .int _)] (by show List.Nodup ([4, 3, 0, 1, 2] : List Nat); decide) (by show List.Nodup ([4, 3, 5, 0, 1, 2] : List Nat); decide) (le_cons rfl (le_cons rfl (le_cons rfl (le_cons rfl (le_cons rfl (le_nil _)))))) ?_
          have e0 : tru (nowC S) (rdA (sRc S j) 0 m) dn (q + 1) = (tru (nowC S) (rdA (sRc S j) 0 m) dn q && fit (nowC S) (rdA (sRc S j) 0 m) q (cK (nowC S) ((rdA (sRc S j) 0 m).2.1 q)) dn) := rfl
          have f1 : (rdA (sRc S j) 0 m).2.1 q = a / 8 := by show (sRc S j (0 + 2 * q)).toNatClampNeg / 8 = _; rw [Nat.zero_add, ea, nI_clamp (by omega)]
          have f2 : (rdA (sRc S j) 0 m).2.2.1 q = a % 8 := by show (sRc S j (0 + 2 * q)).toNatClampNeg % 8 = _; rw [Nat.zero_add, ea, nI_clamp (by omega)]
          have f3 : (rdA (sRc S j) 0 m).2.2.2 q = v := by show (sRc S j (0 + 2 * q + 1)).toNatClampNeg = _; rw [Nat.zero_add, ev, nI_clamp (by omega)]
          have ef : fit (nowC S) (rdA (sRc S j) 0 m) q (cK (nowC S) ((rdA (sRc S j) 0 m).2.1 q)) dn = decide (anC (nowC S) (a / 8) (a % 8) dn = tvI v) := by unfold fit anC; rw [f1, f2, f3]
          have hpt := pr_tv (v := v) b4 (anC_3 (nowC S) (a / 8) (a % 8) dn)
          first
          | (have hb : tru (nowC S) (rdA (sRc S j) 0 m) dn (q + 1) = false := by rw [e0, c_33]; rfl
             rw [hb] at K; exact K)
          | (have hb : tru (nowC S) (rdA (sRc S j) 0 m) dn (q + 1) = false := by rw [e0, c_33, ef, decide_eq_false (fun z => c_72 (hpt.mpr z))]; rfl
             rw [hb] at K; exact K)
          | (have hb : tru (nowC S) (rdA (sRc S j) 0 m) dn (q + 1) = true := by rw [e0, c_33, ef, decide_eq_true (hpt.mp (Decidable.of_not_not c_72))]; rfl
             rw [hb] at K; exact K)
  · skip
    show bw_go _ _ _ _ _ _ _ 5 [(4, .int _), (3, .int _), (0, .ref _), (1, .int _), (2, .int _)] ([]) _ _
    refine go_iload dX8_isTruth_5 rfl ?_
    refine go_iconst (1) dX8_isTruth_7 rfl ?_
    refine go_iadd dX8_isTruth_8 ?_
    rw [nI_1]
    refine go_aload_n dX8_isTruth_9 rfl ?_
    refine go_gfr dX8_isTruth_10 fl_8_23 rfl (ms_lt hm.1 (by decide)) hm.1.1.2 hm.1.2.1.2.2.2.2.1 ?_
    refine go_iload_n dX8_isTruth_13 rfl ?_
    refine go_ia dX8_isTruth_14 hm.1.2.2.2.2.2.2.1 (ms_lt hm.1 (by decide)) (n_in (N := 6) hj (by decide)) ?_
    rw [nI_clamp (by omega), em2]
    refine go_icmp_ge (pc' := 87) dX8_isTruth_15 rfl (fun c_15 => ?_) (fun c_15 => ?_)
    · -- ge at 15: yes
      show bw_go _ _ _ _ _ _ _ 87 [(4, .int _), (3, .int _), (0, .ref _), (1, .int _), (2, .int _)] ([]) _ _
      refine go_iload_n dX8_isTruth_87 rfl ?_
      refine go_iret dX8_isTruth_88 rfl (bi_nar _) ?_
      exact hQ
    · -- ge at 15: no
      exfalso; have t_0 := nI_toInt (n := 2 * (m / 2) + 1) (by omega); have t_1 := nI_toInt (n := m) (by omega); simp only [i_le, i_lt, i_eq, bi_eq] at c_15; omega
