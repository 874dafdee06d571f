/-! the reference: duel -/
theorem pfx_c {A0 : TT} {ch ch' : Nat → Nat} : ∀ i, (∀ j, j < i → ch j = ch' j) → pfx A0 ch i = pfx A0 ch' i
  | 0, _ => rfl
  | i + 1, h => by
    show (pfx A0 ch i).bind (pfs i (ch i)) = (pfx A0 ch' i).bind (pfs i (ch' i))
    rw [pfx_c i (fun j hj => h j (by omega)), h i (by omega)]
theorem far_t {a : Int} (ha : -6 ≤ a ∧ a ≤ 6) : (Int32.ofInt a).toInt = a := ofI_t (by omega) (by omega)
theorem far_ne {a : Int} (ha : -6 ≤ a ∧ a ≤ 6) : ¬ (Int32.ofInt a = 1000000 ∨ Int32.ofInt a = -1000000) := by
  intro z
  have t := far_t ha
  rcases z with z | z <;> rw [z] at t
  · have : (1000000 : Int32).toInt = 1000000 := rfl
    omega
  · have : (-1000000 : Int32).toInt = -1000000 := rfl
    omega
theorem wg_st {i : Nat} {a : Int} (ha : -6 ≤ a ∧ a ≤ 6) : wg i (stV i) (Int32.ofInt a) = Int32.ofInt a := by
  have t := far_t ha
  unfold wg stV
  rw [if_neg (far_ne ha)]
  by_cases e : i % 2 = 0
  · rw [if_pos e, if_pos e, if_pos]
    rw [i_lt, t, show (-1000000 : Int32).toInt = -1000000 from rfl]; omega
  · rw [if_neg e, if_neg e, if_pos]
    rw [i_lt, t, show (1000000 : Int32).toInt = 1000000 from rfl]; omega
theorem wg_mx {i : Nat} {a b : Int} (ha : -6 ≤ a ∧ a ≤ 6) (hb : -6 ≤ b ∧ b ≤ 6) (e : i % 2 = 0) : wg i (Int32.ofInt a) (Int32.ofInt b) = Int32.ofInt (max a b) := by
  unfold wg
  rw [if_neg (far_ne hb), if_pos e]
  exact max_ofI ha hb
theorem wg_mn {i : Nat} {a b : Int} (ha : -6 ≤ a ∧ a ≤ 6) (hb : -6 ≤ b ∧ b ≤ 6) (e : ¬ i % 2 = 0) : wg i (Int32.ofInt a) (Int32.ofInt b) = Int32.ofInt (min a b) := by
  unfold wg
  rw [if_neg (far_ne hb), if_neg e]
  exact min_ofI ha hb
theorem stV_f (i : Nat) : stV i = 1000000 ∨ stV i = -1000000 := by
  unfold stV
  by_cases e : i % 2 = 0
  · rw [if_pos e]; exact Or.inr rfl
  · rw [if_neg e]; exact Or.inl rfl
theorem VV_far {T i : Nat} {A0 : TT} {ch : Nat → Nat} (h : pfx A0 ch i = none) : VV T A0 ch i = 1000000 ∨ VV T A0 ch i = -1000000 := by
  rw [VV_n h]
  by_cases e : i = T
  · rw [if_pos e]; exact Or.inl rfl
  · rw [if_neg e]; exact stV_f i
theorem pfs_k {i c : Nat} {A B : TT} (hk : tt_k A) (hc : c ≤ A.1) (h : pfs i c A = some B) : B.1 = A.1 ∧ B.2.1 = A.2.1 ∧ tt_k B := by
  unfold pfs at h
  by_cases e : c = 0
  · rw [if_pos e] at h; cases h; exact ⟨rfl, rfl, hk⟩
  · rw [if_neg e] at h
    have h9 := hk.2.2.1 (c - 1) (by omega)
    unfold chA at h
    by_cases e2 : i % 2 = 0
    · rw [if_pos e2] at h
      by_cases e3 : 0 < A.2.2.1 (c - 1)
      · rw [if_pos e3] at h; cases h; exact ⟨rfl, rfl, ttU_k hk (by omega)⟩
      · rw [if_neg e3] at h; cases h
    · rw [if_neg e2] at h
      by_cases e3 : A.2.2.1 (c - 1) < 9
      · rw [if_pos e3] at h; cases h; exact ⟨rfl, rfl, ttU_k hk (by omega)⟩
      · rw [if_neg e3] at h; cases h
theorem pfx_k {A0 : TT} {ch : Nat → Nat} (hk : tt_k A0) : ∀ i, (∀ j, j < i → ch j ≤ A0.1) → ∀ A, pfx A0 ch i = some A → A.1 = A0.1 ∧ A.2.1 = A0.2.1 ∧ tt_k A
  | 0, _, A, h => by cases h; exact ⟨rfl, rfl, hk⟩
  | i + 1, hc, A, h => by
    cases e : pfx A0 ch i with
    | none =>
      have : pfx A0 ch (i + 1) = none := pfx_no2 (Nat.le_succ i) e
      rw [this] at h; cases h
    | some B =>
      obtain ⟨b1, b2, b3⟩ := pfx_k hk i (fun j hj => hc j (by omega)) B e
      rw [pfx_s e] at h
      obtain ⟨c1, c2, c3⟩ := pfs_k b3 (by rw [b1]; exact hc i (by omega)) h
      exact ⟨c1.trans b1, c2.trans b2, c3⟩
def accd (T : Nat) (A0 : TT) (ch : Nat → Nat) (i : Nat) : Nat → Int32
  | 0 => stV i
  | c + 1 => wg i (accd T A0 ch i c) (VV T A0 (bw_up ch i c) (i + 1))
theorem acc_ok {T i : Nat} {A0 : TT} {ch : Nat → Nat} (hk : tt_k A0) (hS : A0.2.1 = 2 ^ A0.1 - 1) (hT : T % 2 = 0) (hi : i < T) (hc : ∀ j, j < i → ch j ≤ A0.1) : accd T A0 ch i (A0.1 + 1) = VV T A0 ch i := by
  have hp : ∀ c, pfx A0 (bw_up ch i c) i = pfx A0 ch i := fun c => pfx_c i (fun j hj => bw_up_o (by omega))
  cases e : pfx A0 ch i with
  | none =>
    have hz : ∀ c, accd T A0 ch i c = stV i := by
      intro c
      induction c with
      | zero => rfl
      | succ c ih =>
        show wg i (accd T A0 ch i c) _ = _
        rw [wg_f (VV_far (pfx_no2 (Nat.le_succ i) ((hp c).trans e))), ih]
    rw [hz, VV_n e, if_neg (by omega)]
  | some A =>
    obtain ⟨a1, a2, a3⟩ := pfx_k hk i hc A e
    obtain ⟨t, ht⟩ : ∃ t, T - i = t + 1 := ⟨T - i - 1, by omega⟩
    have ht2 : T - (i + 1) = t := by omega
    have hs : ∀ c, pfx A0 (bw_up ch i c) (i + 1) = pfs i c A := fun c => by
      rw [pfx_s ((hp c).trans e), bw_up_s]
    have hz : ∀ c, c ≤ A.1 → accd T A0 ch i (c + 1) = Int32.ofInt (plk t A c) := by
      intro c
      induction c with
      | zero =>
        intro _
        show wg i (stV i) (VV T A0 (bw_up ch i 0) (i + 1)) = Int32.ofInt (plv t A)
        rw [VV_y ((hs 0).trans (show pfs i 0 A = some A from rfl)), ht2]
        exact wg_st (plv_b t A a3)
      | succ c ih =>
        intro hc1
        have ih := ih (by omega)
        have hb := plk_b t A a3 c (by omega)
        have h9 := a3.2.2.1 c (by omega)
        have hbit : A.2.1.testBit c = true := by rw [a2, hS, Nat.testBit_two_pow_sub_one, ← a1]; exact decide_eq_true (by omega)
        have e5 : pfs i (c + 1) A = chA i c A := if_neg (Nat.succ_ne_zero c)
        show wg i (accd T A0 ch i (c + 1)) (VV T A0 (bw_up ch i (c + 1)) (i + 1)) = Int32.ofInt (plk t A (c + 1))
        rw [ih, plk_s, hbit, Bool.true_and, Bool.true_and]
        have hsc := (hs (c + 1)).trans e5
        unfold chA at hsc
        by_cases e2 : i % 2 = 0
        · rw [if_pos (show (t + 1) % 2 = 0 by omega)]
          rw [if_pos e2] at hsc
          by_cases e3 : 0 < A.2.2.1 c
          · rw [if_pos e3] at hsc
            rw [if_pos (decide_eq_true e3), VV_y hsc, ht2]
            exact wg_mx hb (plv_b t _ (ttU_k a3 (by omega))) e2
          · rw [if_neg e3] at hsc
            rw [if_neg (fun z => e3 (of_decide_eq_true z)), wg_f (VV_far hsc)]
        · rw [if_neg (show ¬ (t + 1) % 2 = 0 by omega)]
          rw [if_neg e2] at hsc
          by_cases e3 : A.2.2.1 c < 9
          · rw [if_pos e3] at hsc
            rw [if_pos (decide_eq_true e3), VV_y hsc, ht2]
            exact wg_mn hb (plv_b t _ (ttU_k a3 (by omega))) e2
          · rw [if_neg e3] at hsc
            rw [if_neg (fun z => e3 (of_decide_eq_true z)), wg_f (VV_far hsc)]
    rw [← a1, hz A.1 (Nat.le_refl _), VV_y e, ht]
    rfl
def DS (h g : bw_H) (S : ST) (T : Nat) (ch : Nat → Nat) (vl : Nat → Int32) : Prop := MR g S ∧ frX h g ∧ (∀ j, j < T → bw_i g 74 j = nI (ch j)) ∧ ∀ j, j < T → bw_i g 75 j = vl j
set_option maxRecDepth 100000 in
set_option maxHeartbeats 8000000 in
theorem duel_sub {X : Nat × (Nat → Int32)} {Q : Option Value → bw_H → Prop} {h : bw_H} {S : ST} {x n T : Nat} (hkC : co_k (nowC S)) (hx : x < 6) (hT : T ≤ 4) (hTe : T % 2 = 0) (hk0 : tt_k (opT (nowC S) (2 ^ cN (nowC S) - 1) x)) : ∀ d i, i + d = T → ∀ (ch : Nat → Nat) (vl : Nat → Int32) (g : bw_H) (v0 : Int32), DS h g S T ch vl → (∀ j, j < i → ch j ≤ (cN (nowC S))) → (∀ j, i ≤ j → j < T → ch j = 0 ∧ vl j = stV j) → (∀ g', DS h g' S T ch vl → bw_go X 7 8 8 false (some .int) cX8_duel 99 [(7, .int 1), (6, .int (nI i - 1)), (4, .int (VV T (opT (nowC S) (2 ^ cN (nowC S) - 1) x) ch i)), (3, .int (nI T)), (0, .ref 60), (1, .int (nI x)), (2, .int (nI n))] [] g' Q) → bw_go X 7 8 8 false (some .int) cX8_duel 78 [(5, .int 1), (4, .int (v0)), (3, .int (nI T)), (0, .ref 60), (1, .int (nI x)), (2, .int (nI n))] [] g Q := by
  have k1 := hkC.1
  intro d
  induction d with
  | zero =>
    intro i hi ch vl g v0 hd hch hz K
    show bw_go _ _ _ _ _ _ _ 78 [(5, .int _), (4, .int _), (3, .int _), (0, .ref _), (1, .int _), (2, .int _)] ([]) _ _
    refine go_iload dX8_duel_78 rfl ?_
    refine go_if_eq (pc' := 206) dX8_duel_80 rfl (fun c => absurd c (by decide)) (fun _ => ?_)
    show bw_go _ _ _ _ _ _ _ 83 [(5, .int _), (4, .int _), (3, .int _), (0, .ref _), (1, .int _), (2, .int _)] ([]) _ _
    refine go_aload_n dX8_duel_83 rfl ?_
    refine go_iload_n dX8_duel_84 rfl ?_
    refine go_iload_n dX8_duel_85 rfl ?_
    refine go_cv (as := [.int _, .int _]) 6 dX8_duel_86 mt_8_235 (Or.inl rfl) rfl rfl (ms_lt hd.1.1 (by decide)) hd.1.1.1.2 (Nat.le_of_ble_eq_true rfl) (Nat.le_of_ble_eq_true rfl) (Nat.le_of_ble_eq_true rfl) (Nat.le_of_ble_eq_true rfl) (Nat.le_of_ble_eq_true rfl) ?_
    refine me_X8_goChoices hd.1 hx hT (fun j hj => ⟨hd.2.2.1 j hj, hch j (by omega)⟩) (fun g' hg' hf' hs' => ?_)
    show bw_go _ _ _ _ _ _ _ 89 [(5, .int _), (4, .int _), (3, .int _), (0, .ref _), (1, .int _), (2, .int _)] ((.int _) :: []) _ _
    refine go_istore dX8_duel_89 (Nat.lt_of_lt_of_le (Nat.lt_succ_self _) (Nat.le_of_ble_eq_true rfl)) ?_
    show bw_go _ _ _ _ _ _ _ 91 [(4, .int _), (5, .int _), (3, .int _), (0, .ref _), (1, .int _), (2, .int _)] ([]) _ _
    refine go_iload_n dX8_duel_91 rfl ?_
    refine go_iconst (1) dX8_duel_92 rfl ?_
    refine go_isub dX8_duel_93 ?_
    refine go_istore dX8_duel_94 (Nat.lt_of_lt_of_le (Nat.lt_succ_self _) (Nat.le_of_ble_eq_true rfl)) ?_
    show bw_go _ _ _ _ _ _ _ 96 [(6, .int _), (4, .int _), (5, .int _), (3, .int _), (0, .ref _), (1, .int _), (2, .int _)] ([]) _ _
    refine go_iconst (1) dX8_duel_96 rfl ?_
    refine go_istore dX8_duel_97 (Nat.lt_of_lt_of_le (Nat.lt_succ_self _) (Nat.le_of_ble_eq_true rfl)) ?_
    show bw_go _ _ _ _ _ _ _ 99 [(7, .int _), (6, .int _), (4, .int _), (5, .int _), (3, .int _), (0, .ref _), (1, .int _), (2, .int _)] ([]) _ _
    refine go_ls [(7, .int _), (6, .int _), (4, .int _), (3, .int _), (0, .ref _), (1, .int _), (2, .int _)] (by show List.Nodup ([7, 6, 4, 3, 0, 1, 2] : List Nat); decide) (by show List.Nodup ([7, 6, 4, 5, 3, 0, 1, 2] : List Nat); decide) (le_cons rfl (le_cons rfl (le_cons rfl (le_cons rfl (le_cons rfl (le_cons rfl (le_cons rfl (le_nil _)))))))) ?_
    have e9 : i = T := by omega
    subst e9
    exact K g' ⟨hg', frX_t hd.2.1 hf', fun j hj => by rw [hs' 74 (by decide)]; exact hd.2.2.1 j hj, fun j hj => by rw [hs' 75 (by decide)]; exact hd.2.2.2 j hj⟩
  | succ d ih =>
    intro i hi ch vl g v0 hd hch hz K
    have hiT : i < T := by omega
    have hstep : ∀ c, c ≤ (cN (nowC S)) → (c < (cN (nowC S)) → ∀ (g : bw_H) (v0 : Int32), DS h g S T (bw_up ch i (c + 1)) (bw_up vl i (accd T (opT (nowC S) (2 ^ cN (nowC S) - 1) x) ch i (c + 1))) → bw_go X 7 8 8 false (some .int) cX8_duel 78 [(5, .int 1), (4, .int (v0)), (3, .int (nI T)), (0, .ref 60), (1, .int (nI x)), (2, .int (nI n))] [] g Q) → ∀ (g : bw_H) (v0 : Int32), DS h g S T (bw_up ch i c) (bw_up vl i (accd T (opT (nowC S) (2 ^ cN (nowC S) - 1) x) ch i c)) → bw_go X 7 8 8 false (some .int) cX8_duel 78 [(5, .int 1), (4, .int (v0)), (3, .int (nI T)), (0, .ref 60), (1, .int (nI x)), (2, .int (nI n))] [] g Q := by
      intro c hc KC g v0 hd
      refine ih (i + 1) (by omega) (bw_up ch i c) (bw_up vl i (accd T (opT (nowC S) (2 ^ cN (nowC S) - 1) x) ch i c)) g v0 hd (fun j hj => ?_) (fun j h1 h2 => ?_) (fun g' hd' => ?_)
      · by_cases z : j = i
        · subst z; rw [bw_up_s]; exact hc
        · rw [bw_up_o z]; exact hch j (by omega)
      · rw [bw_up_o (by omega), bw_up_o (by omega)]; exact hz j (by omega) h2
      rw [show nI (i + 1) - 1 = nI i from by rw [← nI_1]; exact Int32.add_sub_cancel _ _]
      show bw_go _ _ _ _ _ _ _ 99 [(7, .int _), (6, .int _), (4, .int _), (3, .int _), (0, .ref _), (1, .int _), (2, .int _)] ([]) _ _
      refine go_iload dX8_duel_99 rfl ?_
      refine go_if_lt (pc' := 191) dX8_duel_101 rfl (fun c_101 => ?_) (fun c_101 => ?_)
      · -- lt at 101: yes
        exfalso; have t_0 := nI_toInt (n := i) (by omega); rw [i_lt, t_0, show (0 : Int32).toInt = 0 from rfl] at c_101; omega
      · -- lt at 101: no
        show bw_go _ _ _ _ _ _ _ 104 [(7, .int _), (6, .int _), (4, .int _), (3, .int _), (0, .ref _), (1, .int _), (2, .int _)] ([]) _ _
        refine go_iload dX8_duel_104 rfl ?_
        refine go_if_eq (pc' := 191) dX8_duel_106 rfl (fun c => absurd c (by decide)) (fun _ => ?_)
        show bw_go _ _ _ _ _ _ _ 109 [(7, .int _), (6, .int _), (4, .int _), (3, .int _), (0, .ref _), (1, .int _), (2, .int _)] ([]) _ _
        refine go_aload_n dX8_duel_109 rfl ?_
        refine go_iload dX8_duel_110 rfl ?_
        refine go_iload dX8_duel_112 rfl ?_
        refine go_cv (as := [.int _, .int _]) 0 dX8_duel_114 mt_8_238 (Or.inl rfl) rfl rfl (ms_lt hd'.1.1 (by decide)) hd'.1.1.1.2 (Nat.le_of_ble_eq_true rfl) (Nat.le_of_ble_eq_true rfl) (Nat.le_of_ble_eq_true rfl) (Nat.le_of_ble_eq_true rfl) (Nat.le_of_ble_eq_true rfl) ?_
        refine me_X8_weigh hd'.1 (by omega) ?_
        show bw_go _ _ _ _ _ _ _ 117 [(7, .int _), (6, .int _), (4, .int _), (3, .int _), (0, .ref _), (1, .int _), (2, .int _)] ([]) _ _
        refine go_aload_n dX8_duel_117 rfl ?_
        refine go_gfr dX8_duel_118 fl_8_54 rfl (ms_lt hd'.1.1 (by decide)) hd'.1.1.1.2 hd'.1.1.2.1.2.2.2.2.2.2.2.2.2.2.2.2.2.1 ?_
        refine go_iload dX8_duel_121 rfl ?_
        refine go_dup2 dX8_duel_123 ?_
        refine go_ia dX8_duel_124 hd'.1.1.2.2.2.2.2.2.2.2.2.2.2.2.2.2.2.1 (ms_lt hd'.1.1 (by decide)) (n_in (N := 4) (by omega) (by decide)) ?_
        rw [nI_clamp (by omega), i_sa_o (by decide), hd'.2.2.1 i hiT, bw_up_s]
        refine go_iconst (1) dX8_duel_125 rfl ?_
        refine go_iadd dX8_duel_126 ?_
        rw [nI_1]
        refine go_ist dX8_duel_127 hd'.1.1.2.2.2.2.2.2.2.2.2.2.2.2.2.2.2.1 (ms_lt hd'.1.1 (by decide)) (n_in (N := 4) (by omega) (by decide)) ?_
        show bw_go _ _ _ _ _ _ _ 128 [(7, .int _), (6, .int _), (4, .int _), (3, .int _), (0, .ref _), (1, .int _), (2, .int _)] ([]) _ _
        rw [nI_clamp (by omega), si_sa]
        refine go_aload_n dX8_duel_128 rfl ?_
        refine go_gfr dX8_duel_129 fl_8_54 rfl (ms_lt hd'.1.1 (by decide)) hd'.1.1.1.2 hd'.1.1.2.1.2.2.2.2.2.2.2.2.2.2.2.2.2.1 ?_
        refine go_iload dX8_duel_132 rfl ?_
        refine go_ia dX8_duel_134 hd'.1.1.2.2.2.2.2.2.2.2.2.2.2.2.2.2.2.1 (ms_lt hd'.1.1 (by decide)) (n_in (N := 4) (by omega) (by decide)) ?_
        rw [nI_clamp (by omega), i_sa_s, bw_up_s]
        refine go_aload_n dX8_duel_135 rfl ?_
        refine go_gfr dX8_duel_136 fl_8_7 rfl (ms_lt hd'.1.1 (by decide)) hd'.1.1.1.2 hd'.1.1.2.1.1 ?_
        refine go_iconst (0) dX8_duel_139 rfl ?_
        refine go_ia dX8_duel_140 hd'.1.1.2.2.1 (ms_lt hd'.1.1 (by decide)) (by decide) ?_
        rw [show (0 : Int32).toNatClampNeg = 0 from rfl, i_sa_o (by decide), i_sa_o (by decide), (mr_v hd'.1).1]
        refine go_icmp_le (pc' := 148) dX8_duel_141 rfl (fun c_141 => ?_) (fun c_141 => ?_)
        · -- le at 141: yes
          show bw_go _ _ _ _ _ _ _ 148 [(7, .int _), (6, .int _), (4, .int _), (3, .int _), (0, .ref _), (1, .int _), (2, .int _)] ([]) _ _
          refine go_iconst (0) dX8_duel_148 rfl ?_
          refine go_istore dX8_duel_149 (Nat.lt_of_lt_of_le (Nat.lt_succ_self _) (Nat.le_of_ble_eq_true rfl)) ?_
          show bw_go _ _ _ _ _ _ _ 151 [(7, .int _), (6, .int _), (4, .int _), (3, .int _), (0, .ref _), (1, .int _), (2, .int _)] ([]) _ _
          refine go_iload dX8_duel_151 rfl ?_
          refine go_if_eq (pc' := 99) dX8_duel_153 rfl (fun _ => ?_) (fun c => absurd (by decide) c)
          refine go_iload dX8_duel_99 rfl ?_
          refine go_if_lt (pc' := 191) dX8_duel_101 rfl (fun c_101 => ?_) (fun c_101 => ?_)
          · -- lt at 101: yes
            exfalso; have t_0 := nI_toInt (n := i) (by omega); rw [i_lt, t_0, show (0 : Int32).toInt = 0 from rfl] at c_101; omega
          · -- lt at 101: no
            show bw_go _ _ _ _ _ _ _ 104 [(7, .int _), (6, .int _), (4, .int _), (3, .int _), (0, .ref _), (1, .int _), (2, .int _)] ([]) _ _
            refine go_iload dX8_duel_104 rfl ?_
            refine go_if_eq (pc' := 191) dX8_duel_106 rfl (fun _ => ?_) (fun c => absurd (by decide) c)
            refine go_iload dX8_duel_191 rfl ?_
            refine go_if_lt (pc' := 200) dX8_duel_193 rfl (fun c_193 => ?_) (fun c_193 => ?_)
            · -- lt at 193: yes
              exfalso; have t_0 := nI_toInt (n := i) (by omega); rw [i_lt, t_0, show (0 : Int32).toInt = 0 from rfl] at c_193; omega
            · -- lt at 193: no
              show bw_go _ _ _ _ _ _ _ 196 [(7, .int _), (6, .int _), (4, .int _), (3, .int _), (0, .ref _), (1, .int _), (2, .int _)] ([]) _ _
              refine go_iconst (1) dX8_duel_196 rfl ?_
              refine go_goto (pc' := 201) dX8_duel_197 rfl ?_
              show bw_go _ _ _ _ _ _ _ 201 [(7, .int _), (6, .int _), (4, .int _), (3, .int _), (0, .ref _), (1, .int _), (2, .int _)] ((.int _) :: []) _ _
              refine go_istore dX8_duel_201 (Nat.lt_of_lt_of_le (Nat.lt_succ_self _) (Nat.le_of_ble_eq_true rfl)) ?_
              show bw_go _ _ _ _ _ _ _ 203 [(5, .int _), (7, .int _), (6, .int _), (4, .int _), (3, .int _), (0, .ref _), (1, .int _), (2, .int _)] ([]) _ _
              refine go_goto (pc' := 78) dX8_duel_203 rfl ?_
              refine go_ls [(5, .int _), (4, .int _), (3, .int _), (0, .ref _), (1, .int _), (2, .int _)] (by show List.Nodup ([5, 4, 3, 0, 1, 2] : List Nat); decide) (by show List.Nodup ([5, 7, 6, 4, 3, 0, 1, 2] : List Nat); decide) (le_cons rfl (le_cons rfl (le_cons rfl (le_cons rfl (le_cons rfl (le_cons rfl (le_nil _))))))) ?_
              have hcN : c < (cN (nowC S)) := by
                have t1 := nI_toInt (n := c + 1) (by omega)
                have t2 := nI_toInt (n := (cN (nowC S))) (by omega)
                have c9 := c_141
                rw [i_le, t1, t2] at c9
                omega
              refine KC hcN _ _ ⟨(mr_p (mr_p hd'.1 (by decide)).1 (by decide)).1, frX_t hd'.2.1 (frX_t (frX_sa (by decide)) (frX_sa (by decide))), ?_, ?_⟩
              · exact (fun j hj => by
                    rw [i_sa_s]
                    by_cases z : j = i
                    · subst z; rw [bw_up_s, bw_up_s]
                    · rw [bw_up_o z, bw_up_o z, i_sa_o (by decide), hd'.2.2.1 j hj, bw_up_o z])
              · exact (fun j hj => by
                    rw [i_sa_o (by decide), i_sa_s]
                    by_cases z : j = i
                    · subst z; rw [bw_up_s, bw_up_s, hd'.2.2.2 j hj, bw_up_s]; rfl
                    · rw [bw_up_o z, bw_up_o z, hd'.2.2.2 j hj, bw_up_o z])
        · -- le at 141: no
          show bw_go _ _ _ _ _ _ _ 144 [(7, .int _), (6, .int _), (4, .int _), (3, .int _), (0, .ref _), (1, .int _), (2, .int _)] ([]) _ _
          refine go_iconst (1) dX8_duel_144 rfl ?_
          refine go_goto (pc' := 149) dX8_duel_145 rfl ?_
          show bw_go _ _ _ _ _ _ _ 149 [(7, .int _), (6, .int _), (4, .int _), (3, .int _), (0, .ref _), (1, .int _), (2, .int _)] ((.int _) :: []) _ _
          refine go_istore dX8_duel_149 (Nat.lt_of_lt_of_le (Nat.lt_succ_self _) (Nat.le_of_ble_eq_true rfl)) ?_
          show bw_go _ _ _ _ _ _ _ 151 [(7, .int _), (6, .int _), (4, .int _), (3, .int _), (0, .ref _), (1, .int _), (2, .int _)] ([]) _ _
          refine go_iload dX8_duel_151 rfl ?_
          refine go_if_eq (pc' := 99) dX8_duel_153 rfl (fun c => absurd c (by decide)) (fun _ => ?_)
          show bw_go _ _ _ _ _ _ _ 156 [(7, .int _), (6, .int _), (4, .int _), (3, .int _), (0, .ref _), (1, .int _), (2, .int _)] ([]) _ _
          refine go_aload_n dX8_duel_156 rfl ?_
          refine go_gfr dX8_duel_157 fl_8_57 rfl (ms_lt hd'.1.1 (by decide)) hd'.1.1.1.2 hd'.1.1.2.1.2.2.2.2.2.2.2.2.2.2.2.2.2.2 ?_
          refine go_iload dX8_duel_160 rfl ?_
          refine go_ia dX8_duel_162 hd'.1.1.2.2.2.2.2.2.2.2.2.2.2.2.2.2.2.2 (ms_lt hd'.1.1 (by decide)) (n_in (N := 4) (by omega) (by decide)) ?_
          rw [nI_clamp (by omega), i_sa_o (by decide), i_sa_s, bw_up_s, hd'.2.2.2 i hiT, bw_up_s]
          refine go_istore dX8_duel_163 (Nat.lt_of_lt_of_le (Nat.lt_succ_self _) (Nat.le_of_ble_eq_true rfl)) ?_
          show bw_go _ _ _ _ _ _ _ 165 [(4, .int _), (7, .int _), (6, .int _), (3, .int _), (0, .ref _), (1, .int _), (2, .int _)] ([]) _ _
          refine go_aload_n dX8_duel_165 rfl ?_
          refine go_gfr dX8_duel_166 fl_8_54 rfl (ms_lt hd'.1.1 (by decide)) hd'.1.1.1.2 hd'.1.1.2.1.2.2.2.2.2.2.2.2.2.2.2.2.2.1 ?_
          refine go_iload dX8_duel_169 rfl ?_
          refine go_iconst (0) dX8_duel_171 rfl ?_
          refine go_ist dX8_duel_172 hd'.1.1.2.2.2.2.2.2.2.2.2.2.2.2.2.2.2.1 (ms_lt hd'.1.1 (by decide)) (n_in (N := 4) (by omega) (by decide)) ?_
          show bw_go _ _ _ _ _ _ _ 173 [(4, .int _), (7, .int _), (6, .int _), (3, .int _), (0, .ref _), (1, .int _), (2, .int _)] ([]) _ _
          rw [nI_clamp (by omega), si_sa]
          refine go_aload_n dX8_duel_173 rfl ?_
          refine go_gfr dX8_duel_174 fl_8_57 rfl (ms_lt hd'.1.1 (by decide)) hd'.1.1.1.2 hd'.1.1.2.1.2.2.2.2.2.2.2.2.2.2.2.2.2.2 ?_
          refine go_iload dX8_duel_177 rfl ?_
          refine go_iload dX8_duel_179 rfl ?_
          refine go_cs (as := [.int _]) 0 dX8_duel_181 rfl rfl mt_8_232 (Nat.le_of_ble_eq_true rfl) rfl rfl (Nat.le_of_ble_eq_true rfl) (Nat.le_of_ble_eq_true rfl) (Nat.le_of_ble_eq_true rfl) (Nat.le_of_ble_eq_true rfl) ?_
          refine me_X8_startOf (by omega) ?_
          show bw_go _ _ _ _ _ _ _ 184 [(4, .int _), (7, .int _), (6, .int _), (3, .int _), (0, .ref _), (1, .int _), (2, .int _)] ((.int _) :: (.int _) :: (.ref _) :: []) _ _
          refine go_ist dX8_duel_184 hd'.1.1.2.2.2.2.2.2.2.2.2.2.2.2.2.2.2.2 (ms_lt hd'.1.1 (by decide)) (n_in (N := 4) (by omega) (by decide)) ?_
          show bw_go _ _ _ _ _ _ _ 185 [(4, .int _), (7, .int _), (6, .int _), (3, .int _), (0, .ref _), (1, .int _), (2, .int _)] ([]) _ _
          rw [nI_clamp (by omega), si_sa]
          refine go_iinc dX8_duel_185 rfl dec1 (Nat.lt_of_lt_of_le (Nat.lt_succ_self _) (Nat.le_of_ble_eq_true rfl)) ?_
          show bw_go _ _ _ _ _ _ _ 188 [(6, .int _), (4, .int _), (7, .int _), (3, .int _), (0, .ref _), (1, .int _), (2, .int _)] ([]) _ _
          refine go_goto (pc' := 99) dX8_duel_188 rfl ?_
          refine go_ls [(7, .int _), (6, .int _), (4, .int _), (3, .int _), (0, .ref _), (1, .int _), (2, .int _)] (by show List.Nodup ([7, 6, 4, 3, 0, 1, 2] : List Nat); decide) (by show List.Nodup ([6, 4, 7, 3, 0, 1, 2] : List Nat); decide) (le_cons rfl (le_cons rfl (le_cons rfl (le_cons rfl (le_cons rfl (le_cons rfl (le_cons rfl (le_nil _)))))))) ?_
          have hcN : c = (cN (nowC S)) := by
            have t1 := nI_toInt (n := c + 1) (by omega)
            have t2 := nI_toInt (n := (cN (nowC S))) (by omega)
            have c9 := c_141
            rw [i_le, t1, t2] at c9
            omega
          rw [show wg i (accd T (opT (nowC S) (2 ^ cN (nowC S) - 1) x) ch i c) (VV T (opT (nowC S) (2 ^ cN (nowC S) - 1) x) (bw_up ch i c) (i + 1)) = VV T (opT (nowC S) (2 ^ cN (nowC S) - 1) x) ch i from by
            rw [hcN]; exact acc_ok hk0 rfl hTe hiT hch]
          refine K _ ⟨(mr_p (mr_p (mr_p (mr_p hd'.1 (by decide)).1 (by decide)).1 (by decide)).1 (by decide)).1, frX_t hd'.2.1 (frX_t (frX_sa (by decide)) (frX_t (frX_sa (by decide)) (frX_t (frX_sa (by decide)) (frX_sa (by decide))))), ?_, ?_⟩
          · intro j hj
            rw [i_sa_o (by decide), i_sa_s]
            by_cases z : j = i
            · subst z; rw [bw_up_s, (hz j (Nat.le_refl _) hj).1]; rfl
            · rw [bw_up_o z, i_sa_s, bw_up_o z, i_sa_o (by decide), hd'.2.2.1 j hj, bw_up_o z]
          · intro j hj
            rw [i_sa_s]
            by_cases z : j = i
            · subst z; rw [bw_up_s, (hz j (Nat.le_refl _) hj).2]
            · rw [bw_up_o z, i_sa_o (by decide), i_sa_o (by decide), i_sa_s, bw_up_o z, hd'.2.2.2 j hj, bw_up_o z]
    have hall := go_for (P := fun c => ∀ (g : bw_H) (v0 : Int32), DS h g S T (bw_up ch i c) (bw_up vl i (accd T (opT (nowC S) (2 ^ cN (nowC S) - 1) x) ch i c)) → bw_go X 7 8 8 false (some .int) cX8_duel 78 [(5, .int 1), (4, .int (v0)), (3, .int (nI T)), (0, .ref 60), (1, .int (nI x)), (2, .int (nI n))] [] g Q) (N := (cN (nowC S))) (fun c hc K1 => hstep c (Nat.le_of_lt hc) (fun _ => K1)) (hstep (cN (nowC S)) (Nat.le_refl _) (fun z => absurd z (Nat.lt_irrefl _))) 0 (Nat.zero_le _)
    refine hall g v0 ⟨hd.1, hd.2.1, fun j hj => ?_, fun j hj => ?_⟩
    · rw [hd.2.2.1 j hj]
      by_cases z : j = i
      · subst z; rw [bw_up_s, (hz j (Nat.le_refl _) hj).1]
      · rw [bw_up_o z]
    · rw [hd.2.2.2 j hj]
      by_cases z : j = i
      · subst z; rw [bw_up_s, (hz j (Nat.le_refl _) hj).2]; rfl
      · rw [bw_up_o z]
theorem in_02 (n : Int32) : inr n.toInt64 0 2 = decide (0 ≤ n.toInt ∧ n.toInt ≤ 2) := by
  unfold inr
  rw [l_i, show (0 : Int64).toInt = 0 from rfl, show (2 : Int64).toInt = 2 from rfl]
theorem opT_k {C : CT} {s t : Nat} (hk : co_k C) (hs : s < 64) : tt_k (opT C s t) := ⟨hk.1, hs, fun i hi => (hk.2.2.2.2 i hi).2.2.1, fun i _ w _ => opW_b C s t i w⟩
set_option maxRecDepth 100000 in
set_option maxHeartbeats 4000000 in
theorem me_X8_duel {X : Nat × (Nat → Int32)} {Q : Option Value → bw_H → Prop} {h : bw_H} {S : ST} {x n : Int32} (hm : MR h S) (hQ : PM h Q (yDuel x n S)) : bw_me X 7 bm_X8_duel false [.ref 60, .int x, .int n] h Q := by
  have hv := mr_v hm
  have hk := mr_k hm
  have k1 := hk.1
  have hkC := hk
  have h2N := p2N k1
  have hp0 : 0 < 2 ^ cN (nowC S) := Nat.two_pow_pos _
  show bw_go _ 7 8 8 false (some .int) cX8_duel 0 [(0, .ref _), (1, .int _), (2, .int _)] [] _ _
  refine go_iload_n dX8_duel_0 rfl ?_
  refine go_cs (as := [.int _]) 1 dX8_duel_1 rfl rfl mt_8_191 (Nat.le_of_ble_eq_true rfl) rfl rfl (Nat.le_of_ble_eq_true rfl) (Nat.le_of_ble_eq_true rfl) (Nat.le_of_ble_eq_true rfl) (Nat.le_of_ble_eq_true rfl) ?_
  refine me_X8_isThing ?_
  show bw_go _ _ _ _ _ _ _ 4 [(0, .ref _), (1, .int _), (2, .int _)] ((.int _) :: []) _ _
  refine go_ifb_eq (pc' := 19) dX8_duel_4 rfl (fun c_4 => ?_) (fun c_4 => ?_)
  · -- eq at 4: yes
    show bw_go _ _ _ _ _ _ _ 19 [(0, .ref _), (1, .int _), (2, .int _)] ([]) _ _
    refine go_iconst (-1) dX8_duel_19 rfl ?_
    refine go_iret dX8_duel_20 rfl rfl ?_
    refine q_m hQ ?_ hm (frX_r h)
    unfold yDuel
    first
    | (have c : isn x 6 = false := c_4
       rw [if_neg (fun z => Bool.noConfusion (c.symm.trans z.1))])
    | (have c := of_decide_eq_false c_16
       rw [if_neg (fun z => c z.2)])
  · -- eq at 4: no
    show bw_go _ _ _ _ _ _ _ 7 [(0, .ref _), (1, .int _), (2, .int _)] ([]) _ _
    refine go_iload_n dX8_duel_7 rfl ?_
    refine go_i2l dX8_duel_8 ?_
    refine go_lconst (0) dX8_duel_9 rfl ?_
    refine go_ldc2_w dX8_duel_10 kc_8_186 ?_
    refine go_cs (as := [.long _, .long _, .long _]) 0 dX8_duel_13 rfl rfl mt_8_69 (Nat.le_of_ble_eq_true rfl) rfl rfl (Nat.le_of_ble_eq_true rfl) (Nat.le_of_ble_eq_true rfl) (Nat.le_of_ble_eq_true rfl) (Nat.le_of_ble_eq_true rfl) ?_
    refine me_X8_in ?_
    rw [in_02]
    show bw_go _ _ _ _ _ _ _ 16 [(0, .ref _), (1, .int _), (2, .int _)] ((.int _) :: []) _ _
    refine go_ifb_ne (pc' := 21) dX8_duel_16 rfl (fun c_16 => ?_) (fun c_16 => ?_)
    · -- ne at 16: yes
      show bw_go _ _ _ _ _ _ _ 21 [(0, .ref _), (1, .int _), (2, .int _)] ([]) _ _
      obtain ⟨x, hx, rfl⟩ := isn_ex (r := x) (num := 6) c_4 (by decide)
      have hn2 := of_decide_eq_true c_16
      obtain ⟨n, hn, rfl⟩ := isn_ex (r := n) (num := 3) (decide_eq_true (by omega)) (by decide)
      refine go_aload_n dX8_duel_21 rfl ?_
      refine go_gfr dX8_duel_22 fl_8_7 rfl (ms_lt hm.1 (by decide)) hm.1.1.2 hm.1.2.1.1 ?_
      refine go_iconst (0) dX8_duel_25 rfl ?_
      refine go_ia dX8_duel_26 hm.1.2.2.1 (ms_lt hm.1 (by decide)) (by decide) ?_
      rw [show (0 : Int32).toNatClampNeg = 0 from rfl, hv.1]
      refine go_if_ne (pc' := 33) dX8_duel_27 rfl (fun c_27 => ?_) (fun c_27 => ?_)
      · -- ne at 27: yes
        show bw_go _ _ _ _ _ _ _ 33 [(0, .ref _), (1, .int _), (2, .int _)] ([]) _ _
        have h0 : ¬ cN (nowC S) = 0 := fun z => c_27 ((nI_eq (a := cN (nowC S)) (b := 0) (by omega) (by omega)).mpr z)
        refine go_iconst (2) dX8_duel_33 rfl ?_
        refine go_iload_n dX8_duel_34 rfl ?_
        refine go_imul dX8_duel_35 ?_
        rw [show (2 : Int32) = nI 2 from rfl, nmul]
        obtain ⟨T, eT⟩ : ∃ T, T = 2 * n := ⟨_, rfl⟩
        have hT : T ≤ 4 := by omega
        rw [← eT]
        refine go_istore_n dX8_duel_36 (Nat.lt_of_lt_of_le (Nat.lt_succ_self _) (Nat.le_of_ble_eq_true rfl)) ?_
        show bw_go _ _ _ _ _ _ _ 37 [(3, .int _), (0, .ref _), (1, .int _), (2, .int _)] ([]) _ _
        refine go_iconst (0) dX8_duel_37 rfl ?_
        refine go_istore dX8_duel_38 (Nat.lt_of_lt_of_le (Nat.lt_succ_self _) (Nat.le_of_ble_eq_true rfl)) ?_
        show bw_go _ _ _ _ _ _ _ 40 [(4, .int _), (3, .int _), (0, .ref _), (1, .int _), (2, .int _)] ([]) _ _
        refine go_iconst (0) dX8_duel_40 rfl ?_
        refine go_istore dX8_duel_41 (Nat.lt_of_lt_of_le (Nat.lt_succ_self _) (Nat.le_of_ble_eq_true rfl)) ?_
        show bw_go _ _ _ _ _ _ _ 43 [(5, .int _), (4, .int _), (3, .int _), (0, .ref _), (1, .int _), (2, .int _)] ([]) _ _
        refine go_for (P := fun j => ∀ (g : bw_H), (MR g S ∧ frX h g ∧ ∀ i, i < j → bw_i g 74 i = nI 0 ∧ bw_i g 75 i = stV i) → bw_go X 7 8 8 false (some .int) cX8_duel 43 [(5, .int (nI j)), (4, .int (0)), (3, .int (nI T)), (0, .ref (60)), (1, .int (nI x)), (2, .int (nI n))] [] g Q) (N := T) (fun j hj K => ?_) ?_ (0) (Nat.zero_le _) h ⟨hm, frX_r h, fun i hi => absurd hi (Nat.not_lt_zero i)⟩
        · skip
          intro g hv
          obtain ⟨hg, hf, hz⟩ := hv
          show bw_go _ _ _ _ _ _ _ 43 [(5, .int _), (4, .int _), (3, .int _), (0, .ref _), (1, .int _), (2, .int _)] ([]) _ _
          refine go_iload dX8_duel_43 rfl ?_
          refine go_iload_n dX8_duel_45 rfl ?_
          refine go_icmp_ge (pc' := 75) dX8_duel_46 rfl (fun c_46 => ?_) (fun c_46 => ?_)
          · -- ge at 46: yes
            exfalso; have t_0 := nI_toInt (n := j) (by omega); have t_1 := nI_toInt (n := T) (by omega); simp only [i_le, i_lt, i_eq, bi_eq] at c_46; omega
          · -- ge at 46: no
            show bw_go _ _ _ _ _ _ _ 49 [(5, .int _), (4, .int _), (3, .int _), (0, .ref _), (1, .int _), (2, .int _)] ([]) _ _
            refine go_aload_n dX8_duel_49 rfl ?_
            refine go_gfr dX8_duel_50 fl_8_54 rfl (ms_lt hg.1 (by decide)) hg.1.1.2 hg.1.2.1.2.2.2.2.2.2.2.2.2.2.2.2.2.1 ?_
            refine go_iload dX8_duel_53 rfl ?_
            refine go_iconst (0) dX8_duel_55 rfl ?_
            refine go_ist dX8_duel_56 hg.1.2.2.2.2.2.2.2.2.2.2.2.2.2.2.2.1 (ms_lt hg.1 (by decide)) (n_in (N := 4) (by omega) (by decide)) ?_
            show bw_go _ _ _ _ _ _ _ 57 [(5, .int _), (4, .int _), (3, .int _), (0, .ref _), (1, .int _), (2, .int _)] ([]) _ _
            rw [nI_clamp (by omega), si_sa]
            refine go_aload_n dX8_duel_57 rfl ?_
            refine go_gfr dX8_duel_58 fl_8_57 rfl (ms_lt hg.1 (by decide)) hg.1.1.2 hg.1.2.1.2.2.2.2.2.2.2.2.2.2.2.2.2.2 ?_
            refine go_iload dX8_duel_61 rfl ?_
            refine go_iload dX8_duel_63 rfl ?_
            refine go_cs (as := [.int _]) 0 dX8_duel_65 rfl rfl mt_8_232 (Nat.le_of_ble_eq_true rfl) rfl rfl (Nat.le_of_ble_eq_true rfl) (Nat.le_of_ble_eq_true rfl) (Nat.le_of_ble_eq_true rfl) (Nat.le_of_ble_eq_true rfl) ?_
            refine me_X8_startOf (by omega) ?_
            show bw_go _ _ _ _ _ _ _ 68 [(5, .int _), (4, .int _), (3, .int _), (0, .ref _), (1, .int _), (2, .int _)] ((.int _) :: (.int _) :: (.ref _) :: []) _ _
            refine go_ist dX8_duel_68 hg.1.2.2.2.2.2.2.2.2.2.2.2.2.2.2.2.2 (ms_lt hg.1 (by decide)) (n_in (N := 4) (by omega) (by decide)) ?_
            show bw_go _ _ _ _ _ _ _ 69 [(5, .int _), (4, .int _), (3, .int _), (0, .ref _), (1, .int _), (2, .int _)] ([]) _ _
            rw [nI_clamp (by omega), si_sa]
            refine go_iinc dX8_duel_69 rfl (nI_1 j) (Nat.lt_of_lt_of_le (Nat.lt_succ_self _) (Nat.le_of_ble_eq_true rfl)) ?_
            show bw_go _ _ _ _ _ _ _ 72 [(5, .int _), (4, .int _), (3, .int _), (0, .ref _), (1, .int _), (2, .int _)] ([]) _ _
            refine go_goto (pc' := 43) dX8_duel_72 rfl ?_
            refine K _ ⟨(mr_p (mr_p hg (by decide)).1 (by decide)).1, frX_t hf (frX_t (frX_sa (by decide)) (frX_sa (by decide))), fun i hi => ?_⟩
            rw [i_sa_s, i_sa_o (by decide), i_sa_s, i_sa_o (by decide)]
            by_cases z : i = j
            · subst z; rw [bw_up_s, bw_up_s]; exact ⟨rfl, rfl⟩
            · rw [bw_up_o z, bw_up_o z]; exact hz i (by omega)
        · skip
          intro g hv
          obtain ⟨hg, hf, hz⟩ := hv
          show bw_go _ _ _ _ _ _ _ 43 [(5, .int _), (4, .int _), (3, .int _), (0, .ref _), (1, .int _), (2, .int _)] ([]) _ _
          refine go_iload dX8_duel_43 rfl ?_
          refine go_iload_n dX8_duel_45 rfl ?_
          refine go_icmp_ge (pc' := 75) dX8_duel_46 rfl (fun c_46 => ?_) (fun c_46 => ?_)
          · -- ge at 46: yes
            show bw_go _ _ _ _ _ _ _ 75 [(5, .int _), (4, .int _), (3, .int _), (0, .ref _), (1, .int _), (2, .int _)] ([]) _ _
            refine go_iconst (1) dX8_duel_75 rfl ?_
            refine go_istore dX8_duel_76 (Nat.lt_of_lt_of_le (Nat.lt_succ_self _) (Nat.le_of_ble_eq_true rfl)) ?_
            show bw_go _ _ _ _ _ _ _ 78 [(5, .int _), (4, .int _), (3, .int _), (0, .ref _), (1, .int _), (2, .int _)] ([]) _ _
            refine duel_sub hkC hx hT (by omega) (opT_k hkC (by omega)) T 0 (Nat.zero_add T) (fun _ => 0) stV g _ ⟨hg, hf, fun j hj => (hz j hj).1, fun j hj => (hz j hj).2⟩ (fun j hj => absurd hj (Nat.not_lt_zero j)) (fun j _ _ => ⟨rfl, rfl⟩) (fun g' hd' => ?_)
            show bw_go _ _ _ _ _ _ _ 99 [(7, .int _), (6, .int _), (4, .int _), (3, .int _), (0, .ref _), (1, .int _), (2, .int _)] ([]) _ _
            refine go_iload dX8_duel_99 rfl ?_
            refine go_if_lt (pc' := 191) dX8_duel_101 rfl (fun c_101 => ?_) (fun c_101 => ?_)
            · -- lt at 101: yes
              show bw_go _ _ _ _ _ _ _ 191 [(7, .int _), (6, .int _), (4, .int _), (3, .int _), (0, .ref _), (1, .int _), (2, .int _)] ([]) _ _
              refine go_iload dX8_duel_191 rfl ?_
              refine go_if_lt (pc' := 200) dX8_duel_193 rfl (fun c_193 => ?_) (fun c_193 => ?_)
              · -- lt at 193: yes
                show bw_go _ _ _ _ _ _ _ 200 [(7, .int _), (6, .int _), (4, .int _), (3, .int _), (0, .ref _), (1, .int _), (2, .int _)] ([]) _ _
                refine go_iconst (0) dX8_duel_200 rfl ?_
                refine go_istore dX8_duel_201 (Nat.lt_of_lt_of_le (Nat.lt_succ_self _) (Nat.le_of_ble_eq_true rfl)) ?_
                show bw_go _ _ _ _ _ _ _ 203 [(5, .int _), (7, .int _), (6, .int _), (4, .int _), (3, .int _), (0, .ref _), (1, .int _), (2, .int _)] ([]) _ _
                refine go_goto (pc' := 78) dX8_duel_203 rfl ?_
                show bw_go _ _ _ _ _ _ _ 78 [(5, .int _), (7, .int _), (6, .int _), (4, .int _), (3, .int _), (0, .ref _), (1, .int _), (2, .int _)] ([]) _ _
                refine go_iload dX8_duel_78 rfl ?_
                refine go_if_eq (pc' := 206) dX8_duel_80 rfl (fun _ => ?_) (fun c => absurd (by decide) c)
                show bw_go _ _ _ _ _ _ _ 206 [(5, .int _), (7, .int _), (6, .int _), (4, .int _), (3, .int _), (0, .ref _), (1, .int _), (2, .int _)] ([]) _ _
                refine go_aload_n dX8_duel_206 rfl ?_
                refine go_iload dX8_duel_207 rfl ?_
                refine go_cv (as := [.int _]) 0 dX8_duel_209 mt_8_87 (Or.inl rfl) rfl rfl (ms_lt hd'.1.1 (by decide)) hd'.1.1.1.2 (Nat.le_of_ble_eq_true rfl) (Nat.le_of_ble_eq_true rfl) (Nat.le_of_ble_eq_true rfl) (Nat.le_of_ble_eq_true rfl) (Nat.le_of_ble_eq_true rfl) ?_
                refine me_X8_asks hd'.1 (fun g3 hg3 hf3 => ?_)
                show bw_go _ _ _ _ _ _ _ 212 [(5, .int _), (7, .int _), (6, .int _), (4, .int _), (3, .int _), (0, .ref _), (1, .int _), (2, .int _)] ((.int _) :: []) _ _
                refine go_iret dX8_duel_212 rfl rfl ?_
                refine q_m hQ ?_ hg3 (frX_t hd'.2.1 hf3)
                unfold yDuel
                rw [if_pos ⟨show isn (nI x) 6 = true from c_4, of_decide_eq_true (show decide (0 ≤ (nI n).toInt ∧ (nI n).toInt ≤ 2) = true from c_16)⟩, if_neg h0, rn_n (by omega), rn_n (by omega), ← eT]
                rfl
              · -- lt at 193: no
                exact absurd (show nI 0 - 1 < 0 by decide) c_193
            · -- lt at 101: no
              exact absurd (show nI 0 - 1 < 0 by decide) c_101
          · -- ge at 46: no
            exfalso; have t_0 := nI_toInt (n := T) (by omega); simp only [i_le, i_lt, i_eq, bi_eq] at c_46; omega
      · -- ne at 27: no
        show bw_go _ _ _ _ _ _ _ 30 [(0, .ref _), (1, .int _), (2, .int _)] ([]) _ _
        refine go_bipush (-4) dX8_duel_30 rfl ?_
        refine go_iret dX8_duel_32 rfl rfl ?_
        refine q_m hQ ?_ hm (frX_r h)
        unfold yDuel
        rw [if_pos ⟨show isn (nI x) 6 = true from c_4, of_decide_eq_true (show decide (0 ≤ (nI n).toInt ∧ (nI n).toInt ≤ 2) = true from c_16)⟩, if_pos ((nI_eq (a := cN (nowC S)) (b := 0) (by omega) (by omega)).mp (Decidable.of_not_not c_27))]
    · -- ne at 16: no
      show bw_go _ _ _ _ _ _ _ 19 [(0, .ref _), (1, .int _), (2, .int _)] ([]) _ _
      refine go_iconst (-1) dX8_duel_19 rfl ?_
      refine go_iret dX8_duel_20 rfl rfl ?_
      refine q_m hQ ?_ hm (frX_r h)
      unfold yDuel
      first
      | (have c : isn x 6 = false := c_4
         rw [if_neg (fun z => Bool.noConfusion (c.symm.trans z.1))])
      | (have c := of_decide_eq_false c_16
         rw [if_neg (fun z => c z.2)])
