/-! the reference: shake -/
theorem cpy_z {f g : Nat → Int32} {b i : Nat} : bw_up (va_cpy f g 0 b i) (b + i) (f i) = va_cpy f g 0 b (i + 1) := by
  have z := cpy_s (f := f) (g := g) (a := 0) (b := b) (i := i)
  rw [Nat.zero_add] at z
  exact z
theorem gc_none {n : Nat} {A : TT} (h6 : A.1 ≤ 6) (hS : A.2.1 < 2 ^ A.1) (hz : ∀ d, d < 6 ^ n → GC n A 0 d = false) : pon n A 0 = none := by
  have hp := pon_c n A 0 h6 hS (Nat.zero_le _)
  cases e : pon n A 0 with
  | none => rfl
  | some l =>
    obtain ⟨c, c1, c2, c3, c4⟩ := hp.1 l e
    rw [hz c c1] at c3
    cases c3
theorem gc_some {n c : Nat} {A : TT} (h6 : A.1 ≤ 6) (hS : A.2.1 < 2 ^ A.1) (hc : c < 6 ^ n) (hz : ∀ d, d < c → GC n A 0 d = false) (h1 : GC n A 0 c = true) : pon n A 0 = some (dgl n c) := by
  have hp := pon_c n A 0 h6 hS (Nat.zero_le _)
  cases e : pon n A 0 with
  | none =>
    rw [hp.2 e c hc] at h1
    cases h1
  | some l =>
    obtain ⟨c', c1, c2, c3, c4⟩ := hp.1 l e
    have e2 : c' = c := by
      rcases Nat.lt_trichotomy c' c with z | z | z
      · rw [hz c' z] at c3; cases c3
      · exact z
      · rw [c4 c z] at h1; cases h1
    rw [← c2, e2]
theorem mrow_put {h : bw_H} {p q num wid r n : Nat} {s : Nat → Option Nat} {c : Nat → Nat → Int32} {I J f : Nat → Int32} {w : Nat → Int32} (hr : ∀ r, r < num → bw_i h q r = oz (s r) ∧ sok (s r) wid ∧ ∀ m, s r = some m → ∀ i, i < m → bw_i h p (wid * r + i) = c r i) (hn : n ≤ wid) (hw : ∀ i, i < n → f i = w i) :
    ∀ x, x < num → bw_up (bw_i h q) r (nI n) x = oz (bw_up s r (some n) x) ∧ sok (bw_up s r (some n) x) wid ∧ ∀ m, bw_up s r (some n) x = some m → ∀ i, i < m → va_cpy f (bw_i h p) 0 (wid * r) n (wid * x + i) = bw_up c r w x i := by
  intro x hx
  by_cases e : x = r
  · subst e
    rw [bw_up_s, bw_up_s, bw_up_s]
    refine ⟨rfl, (fun m z => by cases z; exact hn), fun m z i hi => ?_⟩
    cases z
    rw [cpy_i (by omega) (by omega), show 0 + (wid * x + i - wid * x) = i by omega]
    exact hw i hi
  · rw [bw_up_o e, bw_up_o e, bw_up_o e]
    obtain ⟨a1, a2, a3⟩ := hr x hx
    refine ⟨a1, a2, fun m z i hi => ?_⟩
    have h1 := a2 m z
    rw [cpy_o ?_]
    · exact a3 m z i hi
    · have h2 : x < r ∨ r < x := by omega
      rcases h2 with h2 | h2
      · have : wid * x + wid ≤ wid * r := by rw [← Nat.mul_succ]; exact Nat.mul_le_mul_left _ h2
        omega
      · have : wid * r + wid ≤ wid * x := by rw [← Nat.mul_succ]; exact Nat.mul_le_mul_left _ h2
        omega
set_option maxRecDepth 100000 in
set_option maxHeartbeats 4000000 in
theorem me_X8_shake {X : Nat × (Nat → Int32)} {Q : Option Value → bw_H → Prop} {h : bw_H} {S : ST} {x s r : Int32} (hm : MR h S) (hQ : PM h Q (yShake x s r S)) : bw_me X 7 bm_X8_shake false [.ref 60, .int x, .int s, .int r] h Q := by
  have hv := mr_v hm
  have hk := mr_k hm
  have k1 := hk.1
  have hkC := hk
  have h2N := p2N k1
  have hp0 : 0 < 2 ^ cN (nowC S) := Nat.two_pow_pos _
  show bw_go _ 7 8 8 false (some .int) cX8_shake 0 [(0, .ref _), (1, .int _), (2, .int _), (3, .int _)] [] _ _
  refine go_iload_n dX8_shake_0 rfl ?_
  refine go_cs (as := [.int _]) 1 dX8_shake_1 rfl rfl mt_8_191 (Nat.le_of_ble_eq_true rfl) rfl rfl (Nat.le_of_ble_eq_true rfl) (Nat.le_of_ble_eq_true rfl) (Nat.le_of_ble_eq_true rfl) (Nat.le_of_ble_eq_true rfl) ?_
  refine me_X8_isThing ?_
  show bw_go _ _ _ _ _ _ _ 4 [(0, .ref _), (1, .int _), (2, .int _), (3, .int _)] ((.int _) :: []) _ _
  refine go_ifb_eq (pc' := 28) dX8_shake_4 rfl (fun c_4 => ?_) (fun c_4 => ?_)
  · -- eq at 4: yes
    show bw_go _ _ _ _ _ _ _ 28 [(0, .ref _), (1, .int _), (2, .int _), (3, .int _)] ([]) _ _
    refine go_iconst (-1) dX8_shake_28 rfl ?_
    refine go_iret dX8_shake_29 rfl rfl ?_
    refine q_m hQ ?_ hm (frX_r h)
    unfold yShake
    first
    | (have c : isn x 6 = false := c_4
       rw [if_neg (fun z => Bool.noConfusion (c.symm.trans z.1))])
    | (have c : isn s (2 ^ cN (nowC S)) = false := c_18
       rw [if_neg (fun z => Bool.noConfusion (c.symm.trans z.2.1))])
    | (have c : isn r 6 = false := c_25
       rw [if_neg (fun z => Bool.noConfusion (c.symm.trans z.2.2))])
  · -- eq at 4: no
    show bw_go _ _ _ _ _ _ _ 7 [(0, .ref _), (1, .int _), (2, .int _), (3, .int _)] ([]) _ _
    refine go_iload_n dX8_shake_7 rfl ?_
    refine go_i2l dX8_shake_8 ?_
    refine go_lconst (0) dX8_shake_9 rfl ?_
    refine go_aload_n dX8_shake_10 rfl ?_
    refine go_cv (as := []) 0 dX8_shake_11 mt_8_194 (Or.inl rfl) rfl rfl (ms_lt hm.1 (by decide)) hm.1.1.2 (Nat.le_of_ble_eq_true rfl) (Nat.le_of_ble_eq_true rfl) (Nat.le_of_ble_eq_true rfl) (Nat.le_of_ble_eq_true rfl) (Nat.le_of_ble_eq_true rfl) ?_
    refine me_X8_allBears hm ?_
    show bw_go _ _ _ _ _ _ _ 14 [(0, .ref _), (1, .int _), (2, .int _), (3, .int _)] ((.int _) :: (.long _) :: (.long _) :: []) _ _
    refine go_i2l dX8_shake_14 ?_
    refine go_cs (as := [.long _, .long _, .long _]) 0 dX8_shake_15 rfl rfl mt_8_69 (Nat.le_of_ble_eq_true rfl) rfl rfl (Nat.le_of_ble_eq_true rfl) (Nat.le_of_ble_eq_true rfl) (Nat.le_of_ble_eq_true rfl) (Nat.le_of_ble_eq_true rfl) ?_
    refine me_X8_in ?_
    rw [in_all k1]
    show bw_go _ _ _ _ _ _ _ 18 [(0, .ref _), (1, .int _), (2, .int _), (3, .int _)] ((.int _) :: []) _ _
    refine go_ifb_eq (pc' := 28) dX8_shake_18 rfl (fun c_18 => ?_) (fun c_18 => ?_)
    · -- eq at 18: yes
      show bw_go _ _ _ _ _ _ _ 28 [(0, .ref _), (1, .int _), (2, .int _), (3, .int _)] ([]) _ _
      refine go_iconst (-1) dX8_shake_28 rfl ?_
      refine go_iret dX8_shake_29 rfl rfl ?_
      refine q_m hQ ?_ hm (frX_r h)
      unfold yShake
      first
      | (have c : isn x 6 = false := c_4
         rw [if_neg (fun z => Bool.noConfusion (c.symm.trans z.1))])
      | (have c : isn s (2 ^ cN (nowC S)) = false := c_18
         rw [if_neg (fun z => Bool.noConfusion (c.symm.trans z.2.1))])
      | (have c : isn r 6 = false := c_25
         rw [if_neg (fun z => Bool.noConfusion (c.symm.trans z.2.2))])
    · -- eq at 18: no
      show bw_go _ _ _ _ _ _ _ 21 [(0, .ref _), (1, .int _), (2, .int _), (3, .int _)] ([]) _ _
      refine go_iload_n dX8_shake_21 rfl ?_
      refine go_cs (as := [.int _]) 1 dX8_shake_22 rfl rfl mt_8_75 (Nat.le_of_ble_eq_true rfl) rfl rfl (Nat.le_of_ble_eq_true rfl) (Nat.le_of_ble_eq_true rfl) (Nat.le_of_ble_eq_true rfl) (Nat.le_of_ble_eq_true rfl) ?_
      refine me_X8_isRow ?_
      show bw_go _ _ _ _ _ _ _ 25 [(0, .ref _), (1, .int _), (2, .int _), (3, .int _)] ((.int _) :: []) _ _
      refine go_ifb_ne (pc' := 30) dX8_shake_25 rfl (fun c_25 => ?_) (fun c_25 => ?_)
      · -- ne at 25: yes
        show bw_go _ _ _ _ _ _ _ 30 [(0, .ref _), (1, .int _), (2, .int _), (3, .int _)] ([]) _ _
        obtain ⟨x, hx, rfl⟩ := isn_ex (r := x) (num := 6) c_4 (by decide)
        obtain ⟨s, hs, rfl⟩ := isn_ex (r := s) (num := 2 ^ cN (nowC S)) c_18 (by omega)
        obtain ⟨r, hr, rfl⟩ := isn_ex (r := r) (num := 6) c_25 (by decide)
        have h6 : (opT (nowC S) s x).1 ≤ 6 := k1
        have hS : (opT (nowC S) s x).2.1 < 2 ^ (opT (nowC S) s x).1 := hs
        refine go_aload_n dX8_shake_30 rfl ?_
        refine go_gfr dX8_shake_31 fl_8_7 rfl (ms_lt hm.1 (by decide)) hm.1.1.2 hm.1.2.1.1 ?_
        refine go_iconst (0) dX8_shake_34 rfl ?_
        refine go_ia dX8_shake_35 hm.1.2.2.1 (ms_lt hm.1 (by decide)) (by decide) ?_
        rw [show (0 : Int32).toNatClampNeg = 0 from rfl, hv.1]
        refine go_if_ne (pc' := 42) dX8_shake_36 rfl (fun c_36 => ?_) (fun c_36 => ?_)
        · -- ne at 36: yes
          show bw_go _ _ _ _ _ _ _ 42 [(0, .ref _), (1, .int _), (2, .int _), (3, .int _)] ([]) _ _
          have h0 : ¬ cN (nowC S) = 0 := fun z => c_36 ((nI_eq (a := cN (nowC S)) (b := 0) (by omega) (by omega)).mpr z)
          refine go_iconst (1) dX8_shake_42 rfl ?_
          refine go_istore dX8_shake_43 (Nat.lt_of_lt_of_le (Nat.lt_succ_self _) (Nat.le_of_ble_eq_true rfl)) ?_
          show bw_go _ _ _ _ _ _ _ 45 [(4, .int _), (0, .ref _), (1, .int _), (2, .int _), (3, .int _)] ([]) _ _
          refine go_iconst (0) dX8_shake_45 rfl ?_
          refine go_istore dX8_shake_46 (Nat.lt_of_lt_of_le (Nat.lt_succ_self _) (Nat.le_of_ble_eq_true rfl)) ?_
          show bw_go _ _ _ _ _ _ _ 48 [(5, .int _), (4, .int _), (0, .ref _), (1, .int _), (2, .int _), (3, .int _)] ([]) _ _
          refine go_for (P := fun n => ∀ (g : bw_H), (MR g S ∧ frX h g ∧ fpr (opT (nowC S) s x) = fs1 (fun n => pon n (opT (nowC S) s x) 0) n (5 - n)) → bw_go X 7 8 8 false (some .int) cX8_shake 48 [(5, .int (nI n)), (4, .int (nI (6 ^ n))), (0, .ref (60)), (1, .int (nI x)), (2, .int (nI s)), (3, .int (nI r))] [] g Q) (N := 5) (fun n hn K => ?_) ?_ (0) (Nat.zero_le _) h ⟨hm, frX_r h, rfl⟩
          · skip
            intro g hv
            obtain ⟨hg, hf, hfp⟩ := hv
            have hn6 : 6 ^ n ≤ 1296 := Nat.pow_le_pow_right (n := 6) (j := 4) (by decide) (by omega)
            show bw_go _ _ _ _ _ _ _ 48 [(5, .int _), (4, .int _), (0, .ref _), (1, .int _), (2, .int _), (3, .int _)] ([]) _ _
            refine go_iload dX8_shake_48 rfl ?_
            refine go_iconst (4) dX8_shake_50 rfl ?_
            refine go_icmp_gt (pc' := 142) dX8_shake_51 rfl (fun c_51 => ?_) (fun c_51 => ?_)
            · -- gt at 51: yes
              exfalso; have t_0 := nI_toInt (n := n) (by omega); have l_0 : (4 : Int32).toInt = 4 := rfl; simp only [i_le, i_lt, i_eq, bi_eq] at c_51; omega
            · -- gt at 51: no
              show bw_go _ _ _ _ _ _ _ 54 [(5, .int _), (4, .int _), (0, .ref _), (1, .int _), (2, .int _), (3, .int _)] ([]) _ _
              refine go_iconst (0) dX8_shake_54 rfl ?_
              refine go_istore dX8_shake_55 (Nat.lt_of_lt_of_le (Nat.lt_succ_self _) (Nat.le_of_ble_eq_true rfl)) ?_
              show bw_go _ _ _ _ _ _ _ 57 [(6, .int _), (5, .int _), (4, .int _), (0, .ref _), (1, .int _), (2, .int _), (3, .int _)] ([]) _ _
              refine go_for (P := fun c => ∀ (g : bw_H), (MR g S ∧ frX h g ∧ ∀ d, d < c → GC n (opT (nowC S) s x) 0 d = false) → bw_go X 7 8 8 false (some .int) cX8_shake 57 [(6, .int (nI c)), (5, .int (nI n)), (4, .int (nI (6 ^ n))), (0, .ref (60)), (1, .int (nI x)), (2, .int (nI s)), (3, .int (nI r))] [] g Q) (N := 6 ^ n) (fun c hc K2 => ?_) ?_ (0) (Nat.zero_le _) g ⟨hg, hf, fun d hd => absurd hd (Nat.not_lt_zero d)⟩
              · skip
                intro g hv
                obtain ⟨hg, hf, hz⟩ := hv
                show bw_go _ _ _ _ _ _ _ 57 [(6, .int _), (5, .int _), (4, .int _), (0, .ref _), (1, .int _), (2, .int _), (3, .int _)] ([]) _ _
                refine go_iload dX8_shake_57 rfl ?_
                refine go_iload dX8_shake_59 rfl ?_
                refine go_icmp_ge (pc' := 129) dX8_shake_61 rfl (fun c_61 => ?_) (fun c_61 => ?_)
                · -- ge at 61: yes
                  exfalso; have h6n := hn6;  have t_0 := nI_toInt (n := c) (by omega); have t_1 := nI_toInt (n := 6 ^ n) (by omega); simp only [i_le, i_lt, i_eq, bi_eq] at c_61; omega
                · -- ge at 61: no
                  show bw_go _ _ _ _ _ _ _ 64 [(6, .int _), (5, .int _), (4, .int _), (0, .ref _), (1, .int _), (2, .int _), (3, .int _)] ([]) _ _
                  refine go_aload_n dX8_shake_64 rfl ?_
                  refine go_iload dX8_shake_65 rfl ?_
                  refine go_iload dX8_shake_67 rfl ?_
                  refine go_iload_n dX8_shake_69 rfl ?_
                  refine go_iload_n dX8_shake_70 rfl ?_
                  refine go_cv (as := [.int _, .int _, .int _, .int _]) 6 dX8_shake_71 mt_8_205 (Or.inl rfl) rfl rfl (ms_lt hg.1 (by decide)) hg.1.1.2 (Nat.le_of_ble_eq_true rfl) (Nat.le_of_ble_eq_true rfl) (Nat.le_of_ble_eq_true rfl) (Nat.le_of_ble_eq_true rfl) (Nat.le_of_ble_eq_true rfl) ?_
                  refine me_X8_goes hg hx hs (by omega) hc (fun g2 hg2 hf2 hd2 => ?_)
                  have hg := hg2
                  show bw_go _ _ _ _ _ _ _ 74 [(6, .int _), (5, .int _), (4, .int _), (0, .ref _), (1, .int _), (2, .int _), (3, .int _)] ((.int _) :: []) _ _
                  refine go_ifb_eq (pc' := 123) dX8_shake_74 rfl (fun c_74 => ?_) (fun c_74 => ?_)
                  · -- eq at 74: yes
                    show bw_go _ _ _ _ _ _ _ 123 [(6, .int _), (5, .int _), (4, .int _), (0, .ref _), (1, .int _), (2, .int _), (3, .int _)] ([]) _ _
                    refine go_iinc dX8_shake_123 rfl (nI_1 c) (Nat.lt_of_lt_of_le (Nat.lt_succ_self _) (Nat.le_of_ble_eq_true rfl)) ?_
                    show bw_go _ _ _ _ _ _ _ 126 [(6, .int _), (5, .int _), (4, .int _), (0, .ref _), (1, .int _), (2, .int _), (3, .int _)] ([]) _ _
                    refine go_goto (pc' := 57) dX8_shake_126 rfl ?_
                    refine K2 g2 ⟨hg2, frX_t hf hf2, fun d hd => ?_⟩
                    by_cases z : d = c
                    · rw [z]; exact c_74
                    · exact hz d (by omega)
                  · -- eq at 74: no
                    show bw_go _ _ _ _ _ _ _ 77 [(6, .int _), (5, .int _), (4, .int _), (0, .ref _), (1, .int _), (2, .int _), (3, .int _)] ([]) _ _
                    refine go_aload_n dX8_shake_77 rfl ?_
                    refine go_gfr dX8_shake_78 fl_8_23 rfl (ms_lt hg.1 (by decide)) hg.1.1.2 hg.1.2.1.2.2.2.2.1 ?_
                    refine go_iload_n dX8_shake_81 rfl ?_
                    refine go_iload dX8_shake_82 rfl ?_
                    refine go_ist dX8_shake_84 hg.1.2.2.2.2.2.2.1 (ms_lt hg.1 (by decide)) (n_in (N := 6) hr (by decide)) ?_
                    show bw_go _ _ _ _ _ _ _ 85 [(6, .int _), (5, .int _), (4, .int _), (0, .ref _), (1, .int _), (2, .int _), (3, .int _)] ([]) _ _
                    rw [nI_clamp (by omega), si_sa]
                    refine go_iconst (0) dX8_shake_85 rfl ?_
                    refine go_istore dX8_shake_86 (Nat.lt_of_lt_of_le (Nat.lt_succ_self _) (Nat.le_of_ble_eq_true rfl)) ?_
                    show bw_go _ _ _ _ _ _ _ 88 [(7, .int _), (6, .int _), (5, .int _), (4, .int _), (0, .ref _), (1, .int _), (2, .int _), (3, .int _)] ([]) _ _
                    have eh0 : (bw_sa (bw_sa g2 65 (bw_up (bw_i g2 65) r (nI n))) 64 (va_cpy (bw_i g2 72) (bw_i g2 64) 0 (40 * r) 0)) = bw_sa g2 65 (bw_up (bw_i g2 65) r (nI n)) := by
                      have e1 : bw_i (bw_sa g2 65 (bw_up (bw_i g2 65) r (nI n))) 64 = bw_i g2 64 := i_sa_o (by decide)
                      rw [cpy_0, ← e1, sa_id]
                    suffices hz0 : bw_go X 7 8 8 false (some .int) cX8_shake 88 [(7, .int (nI 0)), (6, .int (nI c)), (5, .int (nI n)), (4, .int (nI (6 ^ n))), (0, .ref 60), (1, .int (nI x)), (2, .int (nI s)), (3, .int (nI r))] [] (bw_sa (bw_sa g2 65 (bw_up (bw_i g2 65) r (nI n))) 64 (va_cpy (bw_i g2 72) (bw_i g2 64) 0 (40 * r) 0)) Q by rw [eh0] at hz0; exact hz0
                    refine go_for (P := fun k => bw_go X 7 8 8 false (some .int) cX8_shake 88 [(7, .int (nI k)), (6, .int (nI c)), (5, .int (nI n)), (4, .int (nI (6 ^ n))), (0, .ref (60)), (1, .int (nI x)), (2, .int (nI s)), (3, .int (nI r))] [] (bw_sa (bw_sa g2 65 (bw_up (bw_i g2 65) r (nI n))) 64 (va_cpy (bw_i g2 72) (bw_i g2 64) 0 (40 * r) k)) Q) (N := n) (fun k hk K => ?_) ?_ (0) (Nat.zero_le _)
                    · skip
                      show bw_go _ _ _ _ _ _ _ 88 [(7, .int _), (6, .int _), (5, .int _), (4, .int _), (0, .ref _), (1, .int _), (2, .int _), (3, .int _)] ([]) _ _
                      refine go_iload dX8_shake_88 rfl ?_
                      refine go_iload dX8_shake_90 rfl ?_
                      refine go_icmp_ge (pc' := 120) dX8_shake_92 rfl (fun c_92 => ?_) (fun c_92 => ?_)
                      · -- ge at 92: yes
                        exfalso; have t_0 := nI_toInt (n := k) (by omega); have t_1 := nI_toInt (n := n) (by omega); simp only [i_le, i_lt, i_eq, bi_eq] at c_92; omega
                      · -- ge at 92: no
                        show bw_go _ _ _ _ _ _ _ 95 [(7, .int _), (6, .int _), (5, .int _), (4, .int _), (0, .ref _), (1, .int _), (2, .int _), (3, .int _)] ([]) _ _
                        refine go_aload_n dX8_shake_95 rfl ?_
                        refine go_gfr dX8_shake_96 fl_8_20 rfl (ms_lt hg2.1 (by decide)) hg2.1.1.2 hg2.1.2.1.2.2.2.1 ?_
                        refine go_bipush (40) dX8_shake_99 rfl ?_
                        refine go_iload_n dX8_shake_101 rfl ?_
                        refine go_imul dX8_shake_102 ?_
                        rw [show (40 : Int32) = nI 40 from rfl, nmul]
                        refine go_iload dX8_shake_103 rfl ?_
                        refine go_iadd dX8_shake_105 ?_
                        rw [nI_add]
                        refine go_aload_n dX8_shake_106 rfl ?_
                        refine go_gfr dX8_shake_107 fl_8_48 rfl (ms_lt hg2.1 (by decide)) hg2.1.1.2 hg2.1.2.1.2.2.2.2.2.2.2.2.2.2.2.1 ?_
                        refine go_iload dX8_shake_110 rfl ?_
                        refine go_ia dX8_shake_112 hg2.1.2.2.2.2.2.2.2.2.2.2.2.2.2.1 (ms_lt hg2.1 (by decide)) (n_in (N := 4) (by omega) (by decide)) ?_
                        rw [nI_clamp (by omega), i_sa_o (by decide), i_sa_o (by decide)]
                        refine go_ist dX8_shake_113 hg2.1.2.2.2.2.2.1 (ms_lt hg2.1 (by decide)) (n_in (N := 240) (by omega) (by decide)) ?_
                        show bw_go _ _ _ _ _ _ _ 114 [(7, .int _), (6, .int _), (5, .int _), (4, .int _), (0, .ref _), (1, .int _), (2, .int _), (3, .int _)] ([]) _ _
                        rw [nI_clamp (by omega), si_sa, i_sa_s, sa_sa, cpy_z]
                        refine go_iinc dX8_shake_114 rfl (nI_1 k) (Nat.lt_of_lt_of_le (Nat.lt_succ_self _) (Nat.le_of_ble_eq_true rfl)) ?_
                        show bw_go _ _ _ _ _ _ _ 117 [(7, .int _), (6, .int _), (5, .int _), (4, .int _), (0, .ref _), (1, .int _), (2, .int _), (3, .int _)] ([]) _ _
                        refine go_goto (pc' := 88) dX8_shake_117 rfl ?_
                        exact K
                    · skip
                      show bw_go _ _ _ _ _ _ _ 88 [(7, .int _), (6, .int _), (5, .int _), (4, .int _), (0, .ref _), (1, .int _), (2, .int _), (3, .int _)] ([]) _ _
                      refine go_iload dX8_shake_88 rfl ?_
                      refine go_iload dX8_shake_90 rfl ?_
                      refine go_icmp_ge (pc' := 120) dX8_shake_92 rfl (fun c_92 => ?_) (fun c_92 => ?_)
                      · -- ge at 92: yes
                        show bw_go _ _ _ _ _ _ _ 120 [(7, .int _), (6, .int _), (5, .int _), (4, .int _), (0, .ref _), (1, .int _), (2, .int _), (3, .int _)] ([]) _ _
                        refine go_iload dX8_shake_120 rfl ?_
                        refine go_iret dX8_shake_122 rfl rfl ?_
                        have hm2 : MR (bw_sa (bw_sa g2 65 (bw_up (bw_i g2 65) r (nI n))) 64 (va_cpy (bw_i g2 72) (bw_i g2 64) 0 (40 * r) n)) (wR S (bw_up (sR S) r (some n)) (bw_up (sRc S) r (fun i => nI ((dgl n c).getD i 0)))) := by
                          have hf3 : frX g2 (bw_sa (bw_sa g2 65 (bw_up (bw_i g2 65) r (nI n))) 64 (va_cpy (bw_i g2 72) (bw_i g2 64) 0 (40 * r) n)) := frX_t (frX_sa (by decide)) (frX_sa (by decide))
                          refine mr_rows hg2 hf3 (fun q h1 h2 h3 h4 => ?_) (mr_flg hg2 ?_ rfl) (fun y hy => ?_)
                          · rw [i_sa_o (by omega), i_sa_o (by omega)]
                          · rw [i_sa_o (by decide), i_sa_o (by decide)]
                          · have z := mrow_put (r := r) (n := n) (I := bw_i g2 64) (J := bw_i g2 65) (f := bw_i g2 72) (w := fun i => nI ((dgl n c).getD i 0)) hg2.2.2.2.1 (show n ≤ 40 by omega) (fun i hi => by rw [hd2 i hi, dgl_d n c hc i hi]) y hy
                            rw [i_sa_s, i_sa_o (by decide), i_sa_s]
                            exact z
                        refine q_m hQ ?_ hm2 (frX_t hf (frX_t hf2 (frX_t (frX_sa (by decide)) (frX_sa (by decide)))))
                        unfold yShake
                        rw [if_pos ⟨show isn (nI x) 6 = true from c_4, show isn (nI s) (2 ^ cN (nowC S)) = true from c_18, show isn (nI r) 6 = true from c_25⟩, if_neg h0, rn_n (by omega), rn_n (by omega), rn_n (by omega)]
                        have e1 : shk S x s = some (dgl n c) := by
                          show fpr (opT (nowC S) s x) = _
                          rw [hfp, show 5 - n = (4 - n) + 1 by omega]
                          exact fs_yes (g := fun n => pon n (opT (nowC S) s x) 0) (gc_some h6 hS hc hz c_74)
                        rw [e1]
                        show (nI (dgl n c).length, wR S (bw_up (sR S) r (some (dgl n c).length)) (bw_up (sRc S) r (fun i => nI ((dgl n c).getD i 0)))) = _
                        rw [dgl_l]
                      · -- ge at 92: no
                        exfalso; have t_0 := nI_toInt (n := n) (by omega); simp only [i_le, i_lt, i_eq, bi_eq] at c_92; omega
              · skip
                intro g hv
                obtain ⟨hg, hf, hz⟩ := hv
                show bw_go _ _ _ _ _ _ _ 57 [(6, .int _), (5, .int _), (4, .int _), (0, .ref _), (1, .int _), (2, .int _), (3, .int _)] ([]) _ _
                refine go_iload dX8_shake_57 rfl ?_
                refine go_iload dX8_shake_59 rfl ?_
                refine go_icmp_ge (pc' := 129) dX8_shake_61 rfl (fun c_61 => ?_) (fun c_61 => ?_)
                · -- ge at 61: yes
                  show bw_go _ _ _ _ _ _ _ 129 [(6, .int _), (5, .int _), (4, .int _), (0, .ref _), (1, .int _), (2, .int _), (3, .int _)] ([]) _ _
                  refine go_iload dX8_shake_129 rfl ?_
                  refine go_bipush (6) dX8_shake_131 rfl ?_
                  refine go_imul dX8_shake_133 ?_
                  rw [show (6 : Int32) = nI 6 from rfl, nmul, ← Nat.pow_succ]
                  refine go_istore dX8_shake_134 (Nat.lt_of_lt_of_le (Nat.lt_succ_self _) (Nat.le_of_ble_eq_true rfl)) ?_
                  show bw_go _ _ _ _ _ _ _ 136 [(4, .int _), (6, .int _), (5, .int _), (0, .ref _), (1, .int _), (2, .int _), (3, .int _)] ([]) _ _
                  refine go_iinc dX8_shake_136 rfl (nI_1 n) (Nat.lt_of_lt_of_le (Nat.lt_succ_self _) (Nat.le_of_ble_eq_true rfl)) ?_
                  show bw_go _ _ _ _ _ _ _ 139 [(5, .int _), (4, .int _), (6, .int _), (0, .ref _), (1, .int _), (2, .int _), (3, .int _)] ([]) _ _
                  refine go_goto (pc' := 48) dX8_shake_139 rfl ?_
                  refine go_ls [(5, .int _), (4, .int _), (0, .ref _), (1, .int _), (2, .int _), (3, .int _)] (by show List.Nodup ([5, 4, 0, 1, 2, 3] : List Nat); decide) (by show List.Nodup ([5, 4, 6, 0, 1, 2, 3] : List Nat); decide) (le_cons rfl (le_cons rfl (le_cons rfl (le_cons rfl (le_cons rfl (le_cons rfl (le_nil _))))))) ?_
                  refine K g ⟨hg, hf, ?_⟩
                  rw [hfp, show 5 - n = (5 - (n + 1)) + 1 by omega]
                  exact fs_no (g := fun n => pon n (opT (nowC S) s x) 0) (gc_none h6 hS hz)
                · -- ge at 61: no
                  exfalso; have t_0 := nI_toInt (n := 6 ^ n) (by omega); simp only [i_le, i_lt, i_eq, bi_eq] at c_61; omega
          · skip
            intro g hv
            obtain ⟨hg, hf, hfp⟩ := hv
            show bw_go _ _ _ _ _ _ _ 48 [(5, .int _), (4, .int _), (0, .ref _), (1, .int _), (2, .int _), (3, .int _)] ([]) _ _
            refine go_iload dX8_shake_48 rfl ?_
            refine go_iconst (4) dX8_shake_50 rfl ?_
            refine go_icmp_gt (pc' := 142) dX8_shake_51 rfl (fun c_51 => ?_) (fun c_51 => ?_)
            · -- gt at 51: yes
              show bw_go _ _ _ _ _ _ _ 142 [(5, .int _), (4, .int _), (0, .ref _), (1, .int _), (2, .int _), (3, .int _)] ([]) _ _
              refine go_bipush (-9) dX8_shake_142 rfl ?_
              refine go_iret dX8_shake_144 rfl rfl ?_
              refine q_m hQ ?_ hg hf
              unfold yShake
              rw [if_pos ⟨show isn (nI x) 6 = true from c_4, show isn (nI s) (2 ^ cN (nowC S)) = true from c_18, show isn (nI r) 6 = true from c_25⟩, if_neg h0, rn_n (by omega), rn_n (by omega)]
              have e1 : shk S x s = none := hfp
              rw [e1]
            · -- gt at 51: no
              exfalso; have t_0 := nI_toInt (n := 5) (by omega); have l_0 : (4 : Int32).toInt = 4 := rfl; simp only [i_le, i_lt, i_eq, bi_eq] at c_51; omega
        · -- ne at 36: no
          show bw_go _ _ _ _ _ _ _ 39 [(0, .ref _), (1, .int _), (2, .int _), (3, .int _)] ([]) _ _
          refine go_bipush (-4) dX8_shake_39 rfl ?_
          refine go_iret dX8_shake_41 rfl rfl ?_
          refine q_m hQ ?_ hm (frX_r h)
          unfold yShake
          rw [if_pos ⟨show isn (nI x) 6 = true from c_4, show isn (nI s) (2 ^ cN (nowC S)) = true from c_18, show isn (nI r) 6 = true from c_25⟩, if_pos ((nI_eq (a := cN (nowC S)) (b := 0) (by omega) (by omega)).mp (Decidable.of_not_not c_36))]
      · -- ne at 25: no
        show bw_go _ _ _ _ _ _ _ 28 [(0, .ref _), (1, .int _), (2, .int _), (3, .int _)] ([]) _ _
        refine go_iconst (-1) dX8_shake_28 rfl ?_
        refine go_iret dX8_shake_29 rfl rfl ?_
        refine q_m hQ ?_ hm (frX_r h)
        unfold yShake
        first
        | (have c : isn x 6 = false := c_4
           rw [if_neg (fun z => Bool.noConfusion (c.symm.trans z.1))])
        | (have c : isn s (2 ^ cN (nowC S)) = false := c_18
           rw [if_neg (fun z => Bool.noConfusion (c.symm.trans z.2.1))])
        | (have c : isn r 6 = false := c_25
           rw [if_neg (fun z => Bool.noConfusion (c.symm.trans z.2.2))])
