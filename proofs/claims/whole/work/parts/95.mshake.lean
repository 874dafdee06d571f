/-! the reference: presses that shake, tried one after another -/
def GC : Nat → TT → Nat → Nat → Bool
  | 0, A, _, _ => decide (mor A.1 A.2.2.1 A.2.2.2 ≤ 0)
  | n + 1, A, f, c => (decide (f ≤ c / 6 ^ n) && (A.2.1.testBit (c / 6 ^ n) && decide (A.2.2.1 (c / 6 ^ n) < 9))) && GC n (ttU A (c / 6 ^ n) (A.2.2.1 (c / 6 ^ n) + 1)) (c / 6 ^ n) (c % 6 ^ n)
def dgl : Nat → Nat → List Nat
  | 0, _ => []
  | n + 1, c => c / 6 ^ n :: dgl n (c % 6 ^ n)
theorem bl_d {b i e : Nat} (he : e < b) : (i * b + e) / b = i ∧ (i * b + e) % b = e := by
  have h0 : 0 < b := by omega
  constructor
  · rw [Nat.mul_comm, Nat.mul_add_div h0, Nat.div_eq_of_lt he, Nat.add_zero]
  · rw [Nat.mul_comm, Nat.mul_add_mod, Nat.mod_eq_of_lt he]
theorem gc_blk {n : Nat} {A : TT} {f i e : Nat} (he : e < 6 ^ n) : GC (n + 1) A f (i * 6 ^ n + e) = ((decide (f ≤ i) && (A.2.1.testBit i && decide (A.2.2.1 i < 9))) && GC n (ttU A i (A.2.2.1 i + 1)) i e) := by
  show ((decide (f ≤ (i * 6 ^ n + e) / 6 ^ n) && (A.2.1.testBit ((i * 6 ^ n + e) / 6 ^ n) && decide (A.2.2.1 ((i * 6 ^ n + e) / 6 ^ n) < 9))) && GC n (ttU A ((i * 6 ^ n + e) / 6 ^ n) (A.2.2.1 ((i * 6 ^ n + e) / 6 ^ n) + 1)) ((i * 6 ^ n + e) / 6 ^ n) ((i * 6 ^ n + e) % 6 ^ n)) = _
  rw [(bl_d he).1, (bl_d he).2]
theorem pon_c : ∀ (n : Nat) (A : TT) (f : Nat), A.1 ≤ 6 → A.2.1 < 2 ^ A.1 → f ≤ A.1 →
    (∀ l, pon n A f = some l → ∃ c, c < 6 ^ n ∧ dgl n c = l ∧ GC n A f c = true ∧ ∀ d, d < c → GC n A f d = false) ∧ (pon n A f = none → ∀ d, d < 6 ^ n → GC n A f d = false)
  | 0, A, f, _, _, _ => by
    unfold pon
    by_cases z : mor A.1 A.2.2.1 A.2.2.2 ≤ 0
    · rw [if_pos z]
      exact ⟨fun l hl => by cases hl; exact ⟨0, by decide, rfl, decide_eq_true z, fun d hd => absurd hd (Nat.not_lt_zero d)⟩, fun y => by cases y⟩
    · rw [if_neg z]
      exact ⟨fun l y => (by cases y), fun _ d _ => decide_eq_false z⟩
  | n + 1, A, f, h6, hS, hf => by
    have hb : 0 < 6 ^ n := Nat.pow_pos (by decide)
    have e6 : 6 ^ (n + 1) = 6 * 6 ^ n := by rw [Nat.pow_succ, Nat.mul_comm]
    have hbit : ∀ i, A.2.1.testBit i = true → i < A.1 := fun i hi => by
      refine Nat.lt_of_not_le (fun z => ?_)
      rw [Nat.testBit_lt_two_pow (Nat.lt_of_lt_of_le hS (Nat.pow_le_pow_right (by decide) z))] at hi
      cases hi
    have blk : ∀ i d, i * 6 ^ n ≤ d → d < i * 6 ^ n + 6 ^ n → GC (n + 1) A f d = ((decide (f ≤ i) && (A.2.1.testBit i && decide (A.2.2.1 i < 9))) && GC n (ttU A i (A.2.2.1 i + 1)) i (d - i * 6 ^ n)) := fun i d h1 h2 => by
      have e : d = i * 6 ^ n + (d - i * 6 ^ n) := by omega
      have e2 := gc_blk (n := n) (A := A) (f := f) (i := i) (e := d - i * 6 ^ n) (by omega)
      rw [← e] at e2
      exact e2
    have inner : ∀ m i, i + m = A.1 → f ≤ i → (∀ l, fs1 (po_g A n) i m = some l → ∃ c, (i * 6 ^ n ≤ c ∧ c < 6 ^ (n + 1)) ∧ dgl (n + 1) c = l ∧ GC (n + 1) A f c = true ∧ ∀ d, i * 6 ^ n ≤ d → d < c → GC (n + 1) A f d = false) ∧ (fs1 (po_g A n) i m = none → ∀ d, i * 6 ^ n ≤ d → GC (n + 1) A f d = false) := by
      intro m
      induction m with
      | zero =>
        intro i hi _
        refine ⟨fun l y => (by cases y), fun _ d hd => ?_⟩
        have h1 : i ≤ d / 6 ^ n := (Nat.le_div_iff_mul_le hb).mpr hd
        show ((decide (f ≤ d / 6 ^ n) && (A.2.1.testBit (d / 6 ^ n) && decide (A.2.2.1 (d / 6 ^ n) < 9))) && GC n (ttU A (d / 6 ^ n) (A.2.2.1 (d / 6 ^ n) + 1)) (d / 6 ^ n) (d % 6 ^ n)) = false
        cases z : A.2.1.testBit (d / 6 ^ n) with
        | false => simp
        | true => have := hbit _ z; omega
      | succ m ih =>
        intro i hi hfi
        have ih := ih (i + 1) (by omega) (by omega)
        have e1 : (i + 1) * 6 ^ n = i * 6 ^ n + 6 ^ n := Nat.succ_mul _ _
        rw [e1] at ih
        have hlt : i * 6 ^ n + 6 ^ n ≤ 6 ^ (n + 1) := by rw [e6, ← e1]; exact Nat.mul_le_mul_right _ (by omega)
        cases eg : po_g A n i with
        | none =>
          have hz : ∀ d, i * 6 ^ n ≤ d → d < i * 6 ^ n + 6 ^ n → GC (n + 1) A f d = false := fun d h1 h2 => by
            rw [blk i d h1 h2]
            unfold po_g at eg
            by_cases z : (A.2.1.testBit i && decide (A.2.2.1 i < 9)) = true
            · rw [if_pos z] at eg
              have en : pon n (ttU A i (A.2.2.1 i + 1)) i = none := by
                cases ep : pon n (ttU A i (A.2.2.1 i + 1)) i with
                | none => rfl
                | some x => rw [ep] at eg; cases eg
              rw [(pon_c n (ttU A i (A.2.2.1 i + 1)) i h6 hS (show i ≤ A.1 by omega)).2 en (d - i * 6 ^ n) (by omega), Bool.and_false]
            · rw [Bool.eq_false_iff.mpr z, Bool.and_false, Bool.false_and]
          rw [fs_no eg]
          refine ⟨fun l hl => ?_, fun hn d hd => ?_⟩
          · obtain ⟨c, c1, c2, c3, c4⟩ := ih.1 l hl
            refine ⟨c, ⟨by omega, c1.2⟩, c2, c3, fun d h1 h2 => ?_⟩
            by_cases z : d < i * 6 ^ n + 6 ^ n
            · exact hz d h1 z
            · exact c4 d (by omega) h2
          · by_cases z : d < i * 6 ^ n + 6 ^ n
            · exact hz d hd z
            · exact ih.2 hn d (by omega)
        | some x =>
          rw [fs_yes eg]
          unfold po_g at eg
          by_cases z : (A.2.1.testBit i && decide (A.2.2.1 i < 9)) = true
          · rw [if_pos z] at eg
            cases ep : pon n (ttU A i (A.2.2.1 i + 1)) i with
            | none => rw [ep] at eg; cases eg
            | some y =>
              rw [ep] at eg
              cases eg
              obtain ⟨c, c1, c2, c3, c4⟩ := (pon_c n (ttU A i (A.2.2.1 i + 1)) i h6 hS (show i ≤ A.1 by omega)).1 y ep
              refine ⟨fun l hl => ?_, fun y => by cases y⟩
              cases hl
              refine ⟨i * 6 ^ n + c, ⟨by omega, by omega⟩, ?_, ?_, fun d h1 h2 => ?_⟩
              · show (i * 6 ^ n + c) / 6 ^ n :: dgl n ((i * 6 ^ n + c) % 6 ^ n) = _
                rw [(bl_d c1).1, (bl_d c1).2, c2]
              · rw [gc_blk c1, c3, z, decide_eq_true hfi]; rfl
              · rw [blk i d h1 (by omega), c4 _ (by omega), Bool.and_false]
          · rw [if_neg z] at eg; cases eg
    have i0 := inner (A.1 - f) f (by omega) (Nat.le_refl _)
    have hlow : ∀ d, d < f * 6 ^ n → GC (n + 1) A f d = false := fun d hd => by
      have h1 : d / 6 ^ n < f := (Nat.div_lt_iff_lt_mul hb).mpr hd
      show ((decide (f ≤ d / 6 ^ n) && _) && _) = false
      rw [decide_eq_false (by omega)]; rfl
    rw [pon_s]
    refine ⟨fun l hl => ?_, fun hn d hd => ?_⟩
    · obtain ⟨c, c1, c2, c3, c4⟩ := i0.1 l hl
      refine ⟨c, c1.2, c2, c3, fun d hd => ?_⟩
      by_cases z : d < f * 6 ^ n
      · exact hlow d z
      · exact c4 d (by omega) hd
    · by_cases z : d < f * 6 ^ n
      · exact hlow d z
      · exact i0.2 hn d (by omega)
def dg6 (n c j : Nat) : Nat := c / 6 ^ (n - 1 - j) % 6
theorem dg6_lt (n c j : Nat) : dg6 n c j < 6 := Nat.mod_lt _ (by decide)
theorem md6 {c k n : Nat} (h : k < n) : (c % 6 ^ n) / 6 ^ k % 6 = c / 6 ^ k % 6 := by
  obtain ⟨d, rfl⟩ : ∃ d, n = k + (d + 1) := ⟨n - k - 1, by omega⟩
  rw [Nat.pow_add, Nat.mod_mul_right_div_self]
  exact Nat.mod_mod_of_dvd _ ⟨6 ^ d, by rw [Nat.pow_succ, Nat.mul_comm]⟩
theorem dgl_d : ∀ (n c : Nat), c < 6 ^ n → ∀ j, j < n → (dgl n c).getD j 0 = dg6 n c j
  | 0, _, _, j, hj => absurd hj (Nat.not_lt_zero j)
  | n + 1, c, hc, 0, _ => by
    show c / 6 ^ n = c / 6 ^ (n + 1 - 1 - 0) % 6
    rw [show n + 1 - 1 - 0 = n by omega]
    refine (Nat.mod_eq_of_lt ?_).symm
    rw [Nat.pow_succ, Nat.mul_comm] at hc
    exact (Nat.div_lt_iff_lt_mul (Nat.pow_pos (by decide))).mpr hc
  | n + 1, c, hc, j + 1, hj => by
    show (dgl n (c % 6 ^ n)).getD j 0 = c / 6 ^ (n + 1 - 1 - (j + 1)) % 6
    rw [dgl_d n (c % 6 ^ n) (Nat.mod_lt _ (Nat.pow_pos (by decide))) j (by omega), show n + 1 - 1 - (j + 1) = n - 1 - j by omega]
    exact md6 (by omega)
theorem dgl_l : ∀ (n c : Nat), (dgl n c).length = n
  | 0, _ => rfl
  | n + 1, c => by show (dgl n (c % 6 ^ n)).length + 1 = _; rw [dgl_l]
def wrC (C : CT) (wr : Nat → Nat) : CT := (cN C, cD C, cW C, cT C, cK C, cE C, wr, cV C)
theorem wrC_b (C : CT) (wr : Nat → Nat) (s t : Nat) (ht : t < 6) : ∀ k, bal (taC (wrC C wr)) s t k = mor k wr (opW C s t)
  | 0 => rfl
  | k + 1 => by
    show bal (taC (wrC C wr)) s t k + _ = mor k wr (opW C s t) + opW C s t k (wr k)
    rw [wrC_b C wr s t ht k]
    congr 1
    unfold opW
    by_cases z : s.testBit k = true
    · rw [if_pos z, if_pos z]
      show (if (one (tol (cW C) k (cK C k) (wr k) (cV C k) (cE C k)) (cK C k) (wr k) (cD C)).testBit t = true then (1 : Int) else 0) - (if (tol (cW C) k (cK C k) (wr k) (cV C k) (cE C k) &&& (63 ^^^ one (tol (cW C) k (cK C k) (wr k) (cV C k) (cE C k)) (cK C k) (wr k) (cD C))).testBit t = true then 1 else 0) = wof C k (wr k) t
      unfold wof
      generalize hT : tol (cW C) k (cK C k) (wr k) (cV C k) (cE C k) = T
      rw [Nat.testBit_and, Nat.testBit_xor, t63 t ht]
      have hs : (one T (cK C k) (wr k) (cD C)).testBit t = true → T.testBit t = true := by
        unfold one
        split
        · exact id
        · split
          · rw [Nat.testBit_and]; intro q; cases h : T.testBit t with
            | true => rfl
            | false => rw [h] at q; cases q
          · rw [Nat.testBit_and]; intro q; cases h : T.testBit t with
            | true => rfl
            | false => rw [h] at q; cases q
      cases h1 : T.testBit t with
      | true => cases (one T (cK C k) (wr k) (cD C)).testBit t <;> rfl
      | false =>
        cases h2 : (one T (cK C k) (wr k) (cD C)).testBit t with
        | true => rw [hs h2] at h1; cases h1
        | false => rfl
    · rw [if_neg z, if_neg z]
theorem mr_p {h : bw_H} {S : ST} {p : Nat} {F : Nat → Int32} (hm : MR h S) (hp : 69 ≤ p ∧ p < 76) : MR (bw_sa h p F) S ∧ frX h (bw_sa h p F) := by
  have hf : frX h (bw_sa h p F) := frX_sa ⟨by omega, hp.2⟩
  refine ⟨mr_sc hm hf (fun q h1 h2 => i_sa_o (by omega)) (mr_flg hm (i_sa_o (by omega)) rfl), hf⟩
set_option maxRecDepth 100000 in
set_option maxHeartbeats 4000000 in
theorem me_X8_layHand {X : Nat × (Nat → Int32)} {Q : Option Value → bw_H → Prop} {h : bw_H} {S : ST} (hm : MR h S) (hQ : Q none (bw_sa h 71 (mix (bw_i h 61) (bw_i h 71) 80))) : bw_me X 0 bm_X8_layHand false [.ref 60] h Q := by
  show bw_go _ 0 8 2 false none cX8_layHand 0 [(0, .ref _)] [] _ _
  refine go_iconst (0) dX8_layHand_0 rfl ?_
  refine go_istore_n dX8_layHand_1 (Nat.lt_of_lt_of_le (Nat.lt_succ_self _) (Nat.le_of_ble_eq_true rfl)) ?_
  show bw_go _ _ _ _ _ _ _ 2 [(1, .int _), (0, .ref _)] ([]) _ _
  have e0 : h = bw_sa h 71 (mix (bw_i h 61) (bw_i h 71) 0) := by rw [mix_0, sa_id]
  suffices hz : bw_go X 0 8 2 false none cX8_layHand 2 [(1, .int (nI 0)), (0, .ref 60)] [] (bw_sa h 71 (mix (bw_i h 61) (bw_i h 71) 0)) Q by rw [← e0] at hz; exact hz
  refine go_for (P := fun k => bw_go X 0 8 2 false none cX8_layHand 2 [(1, .int (nI k)), (0, .ref (60))] [] (bw_sa h 71 (mix (bw_i h 61) (bw_i h 71) k)) Q) (N := 80) (fun k hk K => ?_) ?_ (0) (Nat.zero_le _)
  · -- a turn
    show bw_go _ _ _ _ _ _ _ 2 [(1, .int _), (0, .ref _)] ([]) _ _
    refine go_iload_n dX8_layHand_2 rfl ?_
    refine go_bipush (80) dX8_layHand_3 rfl ?_
    refine go_icmp_ge (pc' := 26) dX8_layHand_5 rfl (fun c_5 => ?_) (fun c_5 => ?_)
    · -- ge at 5: yes
      exfalso; have t_0 := nI_toInt (n := k) (by omega); have l_0 : (80 : Int32).toInt = 80 := rfl; simp only [i_le, i_lt, i_eq, bi_eq] at c_5; omega
    · -- ge at 5: no
      show bw_go _ _ _ _ _ _ _ 8 [(1, .int _), (0, .ref _)] ([]) _ _
      refine go_aload_n dX8_layHand_8 rfl ?_
      refine go_gfr dX8_layHand_9 fl_8_45 rfl (ms_lt hm.1 (by decide)) hm.1.1.2 hm.1.2.1.2.2.2.2.2.2.2.2.2.2.1 ?_
      refine go_iload_n dX8_layHand_12 rfl ?_
      refine go_aload_n dX8_layHand_13 rfl ?_
      refine go_gfr dX8_layHand_14 fl_8_7 rfl (ms_lt hm.1 (by decide)) hm.1.1.2 hm.1.2.1.1 ?_
      refine go_iload_n dX8_layHand_17 rfl ?_
      refine go_ia dX8_layHand_18 hm.1.2.2.1 (ms_lt hm.1 (by decide)) (n_in (N := 80) (by omega) (by decide)) ?_
      rw [nI_clamp (by omega), i_sa_o (by decide)]
      refine go_ist dX8_layHand_19 hm.1.2.2.2.2.2.2.2.2.2.2.2.2.1 (ms_lt hm.1 (by decide)) (n_in (N := 80) (by omega) (by decide)) ?_
      show bw_go _ _ _ _ _ _ _ 20 [(1, .int _), (0, .ref _)] ([]) _ _
      rw [nI_clamp (by omega), si_sa, i_sa_s, sa_sa, mix_s]
      refine go_iinc dX8_layHand_20 rfl (nI_1 k) (Nat.lt_of_lt_of_le (Nat.lt_succ_self _) (Nat.le_of_ble_eq_true rfl)) ?_
      show bw_go _ _ _ _ _ _ _ 23 [(1, .int _), (0, .ref _)] ([]) _ _
      refine go_goto (pc' := 2) dX8_layHand_23 rfl ?_
      exact K
  · -- behind the last
    show bw_go _ _ _ _ _ _ _ 2 [(1, .int _), (0, .ref _)] ([]) _ _
    refine go_iload_n dX8_layHand_2 rfl ?_
    refine go_bipush (80) dX8_layHand_3 rfl ?_
    refine go_icmp_ge (pc' := 26) dX8_layHand_5 rfl (fun c_5 => ?_) (fun c_5 => ?_)
    · -- ge at 5: yes
      show bw_go _ _ _ _ _ _ _ 26 [(1, .int _), (0, .ref _)] ([]) _ _
      refine go_vret dX8_layHand_26 rfl ?_
      exact hQ
    · -- ge at 5: no
      exfalso; have t_0 := nI_toInt (n := 80) (by omega); have l_0 : (80 : Int32).toInt = 80 := rfl; simp only [i_le, i_lt, i_eq, bi_eq] at c_5; omega
