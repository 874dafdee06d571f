/-! BearWitness: lots; copies of rows -/
theorem aol_lt (l : Nat) : aol l < 4 := by
  unfold aol
  repeat' split
  all_goals decide
def lot1 (z : Nat × AC) : Nat × AC := (z.1 * 48271 % 2147483647, acP z.2 (if cbe (hsT z.2 (cT z.2.1)) (aol (z.1 * 48271 % 2147483647 / 8 % 8)) (z.1 * 48271 % 2147483647 % cN z.2.1) = true then aol (z.1 * 48271 % 2147483647 / 8 % 8) else 4) (z.1 * 48271 % 2147483647 % cN z.2.1))
def ltk (s : Nat) (A : AC) : Nat → Nat × AC
  | 0 => (s, A)
  | k + 1 => lot1 (ltk s A k)
theorem ltk_b {s : Nat} {A : AC} (hs : s < 2147483647) : ∀ k, (ltk s A k).1 < 2147483647 ∧ cN (ltk s A k).2.1 = cN A.1 ∧ cT (ltk s A k).2.1 = cT A.1 + k
  | 0 => ⟨hs, rfl, rfl⟩
  | k + 1 => by
    obtain ⟨h1, h2, h3⟩ := ltk_b (A := A) hs k
    refine ⟨Nat.mod_lt _ (by decide), h2, ?_⟩
    show cT (ltk s A k).2.1 + 1 = _
    omega
def yLots (n s : Int32) (S : ST) : Int32 × ST := if 1 ≤ n.toInt ∧ n.toInt ≤ 20 ∧ 1 ≤ s.toInt ∧ s.toInt ≤ 2147483646 then (if cN (nowC S) = 0 then (-4, S) else if 40 < cT (sA S).1 + rn n then (-2, S) else (nI (bc (sho (taC (nowC (wA S (ltk (rn s) (sA S) (rn n)).2))) (2 ^ cN (nowC (wA S (ltk (rn s) (sA S) (rn n)).2)) - 1))), wA S (ltk (rn s) (sA S) (rn n)).2)) else (-1, S)
def yCopy (r i q j n : Int32) (S : ST) : Int32 × ST := if isn r 6 = true ∧ isn q 6 = true then (if n.toInt < 0 then (-3, fnd S 5) else if (sR S (rn r)).isSome = true ∧ (sR S (rn q)).isSome = true then (if spn (sR S (rn r)) i n = true ∧ spn (sR S (rn q)) j n = true then (1, wR S (sR S) (bw_up (sRc S) (rn q) (va_cpy (sRc S (rn r)) (sRc S (rn q)) (rn i) (rn j) (rn n)))) else (-3, fnd S 2)) else (-3, fnd S 1)) else (-1, S)
theorem cpy_i {α : Type} {f g : Nat → α} {a b n x : Nat} (h1 : b ≤ x) (h2 : x < b + n) : va_cpy f g a b n x = f (a + (x - b)) := pk_cpy_in h1 h2
theorem cpy_o {α : Type} {f g : Nat → α} {a b n x : Nat} (h : ¬ (b ≤ x ∧ x < b + n)) : va_cpy f g a b n x = g x := pk_cpy_out (by omega)
theorem shR_cpy {h : bw_H} {p num wid j q a b n : Nat} {s : Nat → Option Nat} {c : Nat → Nat → Int32} (hx : shR h p num wid s c) (hj : j < num) (ha : ∀ m, s j = some m → a + n ≤ m) (hj1 : (s j).isSome = true) (hb : b + n ≤ wid) : shR (bw_sa h (p + 4) (va_cpy (bw_i h (p + 4)) (bw_i h (p + 4)) (j * wid + a) (q * wid + b) n)) p num wid s (bw_up c q (va_cpy (c j) (c q) a b n)) := by
  refine ⟨sf_sa hx.1 (by omega), fun r hr => ?_⟩
  obtain ⟨h1, h2, h3⟩ := hx.2 r hr
  rw [i_sa_o (p := p + 2) (by omega), i_sa_s]
  refine ⟨h1, h2, fun m2 e x hx1 => ?_⟩
  have hw := h2 m2 e
  by_cases hrq : r = q
  · subst hrq
    rw [bw_up_s]
    by_cases hin : b ≤ x ∧ x < b + n
    · rw [cpy_i hin.1 hin.2, cpy_i (by omega) (by omega)]
      obtain ⟨m, em⟩ := Option.isSome_iff_exists.mp hj1
      have h4 := ha m em
      rw [show j * wid + a + (r * wid + x - (r * wid + b)) = j * wid + (a + (x - b)) by omega]
      exact (hx.2 j hj).2.2 m em _ (by omega)
    · rw [cpy_o hin, cpy_o (by omega)]
      exact h3 m2 e x hx1
  · rw [bw_up_o hrq]
    rw [cpy_o (fun z => ?_)]
    · exact h3 m2 e x hx1
    · exact sep_i (i := x) hrq (by omega) hb ⟨by omega, by omega⟩
theorem spn_ex {s : Option Nat} {i n : Int32} {wid : Nat} (h : spn s i n = true) (hs : sok s wid) (hw : wid < 1000) : ∃ a b m, i = nI a ∧ n = nI b ∧ s = some m ∧ a + b ≤ m ∧ m ≤ wid := by
  cases e : s with
  | none => rw [e] at h; cases h
  | some m =>
    rw [e] at h
    have h1 := of_decide_eq_true (show decide (0 ≤ i.toInt ∧ 0 ≤ n.toInt ∧ i.toInt + n.toInt ≤ m) = true from h)
    have h2 := hs m e
    refine ⟨i.toInt.toNat, n.toInt.toNat, m, Int32.toInt_inj.mp ?_, Int32.toInt_inj.mp ?_, rfl, by omega, h2⟩
    · rw [nI_toInt (by omega)]; omega
    · rw [nI_toInt (by omega)]; omega
set_option maxRecDepth 100000 in
set_option maxHeartbeats 4000000 in
theorem me_X7_lots {X : Nat × (Nat → Int32)} {Q : Option Value → bw_H → Prop} {h : bw_H} {S : ST} {n s : Int32} (hx : XR h S) (hQ : PX h Q (yLots n s S)) : bw_me X 5 bm_X7_lots false [.ref 0, .int n, .int s] h Q := by
  have hc : bw_ct h 11 (nowC S) := hx.2.2.2.1.1.1
  have hN := hc.2.2.1
  show bw_go _ 5 7 9 false (some .int) cX7_lots 0 [(0, .ref _), (1, .int _), (2, .int _)] [] _ _
  refine go_iload_n dX7_lots_0 rfl ?_
  refine go_iconst (1) dX7_lots_1 rfl ?_
  refine go_icmp_lt (pc' := 23) dX7_lots_2 rfl (fun c_2 => ?_) (fun c_2 => ?_)
  · -- lt at 2: yes
    show bw_go _ _ _ _ _ _ _ 23 [(0, .ref _), (1, .int _), (2, .int _)] ([]) _ _
    refine go_iconst (-1) dX7_lots_23 rfl ?_
    refine go_iret dX7_lots_24 rfl rfl ?_
    refine q_x hQ ?_ hx (frM_r h)
    unfold yLots
    have l_1 : (1 : Int32).toInt = 1 := rfl
    simp only [i_lt] at c_2
    rw [if_neg (fun z => by omega)]
  · -- lt at 2: no
    show bw_go _ _ _ _ _ _ _ 5 [(0, .ref _), (1, .int _), (2, .int _)] ([]) _ _
    refine go_iload_n dX7_lots_5 rfl ?_
    refine go_bipush (20) dX7_lots_6 rfl ?_
    refine go_icmp_gt (pc' := 23) dX7_lots_8 rfl (fun c_8 => ?_) (fun c_8 => ?_)
    · -- gt at 8: yes
      show bw_go _ _ _ _ _ _ _ 23 [(0, .ref _), (1, .int _), (2, .int _)] ([]) _ _
      refine go_iconst (-1) dX7_lots_23 rfl ?_
      refine go_iret dX7_lots_24 rfl rfl ?_
      refine q_x hQ ?_ hx (frM_r h)
      unfold yLots
      have l_1 : (20 : Int32).toInt = 20 := rfl
      simp only [i_lt] at c_8
      rw [if_neg (fun z => by omega)]
    · -- gt at 8: no
      show bw_go _ _ _ _ _ _ _ 11 [(0, .ref _), (1, .int _), (2, .int _)] ([]) _ _
      refine go_iload_n dX7_lots_11 rfl ?_
      refine go_iconst (1) dX7_lots_12 rfl ?_
      refine go_icmp_lt (pc' := 23) dX7_lots_13 rfl (fun c_13 => ?_) (fun c_13 => ?_)
      · -- lt at 13: yes
        show bw_go _ _ _ _ _ _ _ 23 [(0, .ref _), (1, .int _), (2, .int _)] ([]) _ _
        refine go_iconst (-1) dX7_lots_23 rfl ?_
        refine go_iret dX7_lots_24 rfl rfl ?_
        refine q_x hQ ?_ hx (frM_r h)
        unfold yLots
        have l_1 : (1 : Int32).toInt = 1 := rfl
        simp only [i_lt] at c_13
        rw [if_neg (fun z => by omega)]
      · -- lt at 13: no
        show bw_go _ _ _ _ _ _ _ 16 [(0, .ref _), (1, .int _), (2, .int _)] ([]) _ _
        refine go_iload_n dX7_lots_16 rfl ?_
        refine go_ldc_w dX7_lots_17 kc_7_280 ?_
        refine go_icmp_le (pc' := 25) dX7_lots_20 rfl (fun c_20 => ?_) (fun c_20 => ?_)
        · -- le at 20: yes
          show bw_go _ _ _ _ _ _ _ 25 [(0, .ref _), (1, .int _), (2, .int _)] ([]) _ _
          have hin : 1 ≤ n.toInt ∧ n.toInt ≤ 20 ∧ 1 ≤ s.toInt ∧ s.toInt ≤ 2147483646 := by have l_1 : (1 : Int32).toInt = 1 := rfl; have l_2 : (20 : Int32).toInt = 20 := rfl; have l_3 : (2147483646 : Int32).toInt = 2147483646 := rfl; simp only [i_le, i_lt] at c_2 c_8 c_13 c_20; omega
          obtain ⟨y, hy, rfl⟩ := isn_ex (r := n) (num := 21) (decide_eq_true (by omega)) (by decide)
          obtain ⟨w, hw, rfl⟩ := nn (a := s) (by rw [i_lt, i_0]; omega)
          have hw3 : w < 2147483647 := by have := nI_toInt hw; omega
          have hrw : rn (nI w) = w := nI_clamp hw
          have t40 : cT (sA S).1 ≤ 40 := hx.2.2.2.1.2.2.1
          refine go_aload_n dX7_lots_25 rfl ?_
          refine go_gfr dX7_lots_26 fl_7_24 rfl hx.1.1.1 hx.1.1.2.1 hx.1.1.2.2.2.2.1 ?_
          refine go_gfi dX7_lots_29 fl_7_141 rfl hc.1.1.1 hc.1.1.2.1 ?_
          rw [hc.2.1.1]
          refine go_istore_n dX7_lots_32 (Nat.lt_of_lt_of_le (Nat.lt_succ_self _) (Nat.le_of_ble_eq_true rfl)) ?_
          show bw_go _ _ _ _ _ _ _ 33 [(3, .int _), (0, .ref _), (1, .int _), (2, .int _)] ([]) _ _
          refine go_iload_n dX7_lots_33 rfl ?_
          refine go_if_gt (pc' := 40) dX7_lots_34 rfl (fun c_34 => ?_) (fun c_34 => ?_)
          · -- gt at 34: yes
            show bw_go _ _ _ _ _ _ _ 40 [(3, .int _), (0, .ref _), (1, .int _), (2, .int _)] ([]) _ _
            refine go_aload_n dX7_lots_40 rfl ?_
            refine go_gfr dX7_lots_41 fl_7_24 rfl hx.1.1.1 hx.1.1.2.1 hx.1.1.2.2.2.2.1 ?_
            refine go_gfi dX7_lots_44 fl_7_165 rfl hc.1.1.1 hc.1.1.2.1 ?_
            rw [hc.2.1.2.2.2.1, show cT (nowC S) = cT (sA S).1 from rfl]
            refine go_iload_n dX7_lots_47 rfl ?_
            refine go_iadd dX7_lots_48 ?_
            rw [nI_add]
            refine go_bipush (40) dX7_lots_49 rfl ?_
            refine go_icmp_le (pc' := 57) dX7_lots_51 rfl (fun c_51 => ?_) (fun c_51 => ?_)
            · -- le at 51: yes
              show bw_go _ _ _ _ _ _ _ 57 [(3, .int _), (0, .ref _), (1, .int _), (2, .int _)] ([]) _ _
              have h0 : ¬ cN (nowC S) = 0 := by
                have t_0 := nI_toInt (n := cN (nowC S)) (by omega)
                have l_0 := i_0
                simp only [i_lt] at c_34
                omega
              have h40 : cT (sA S).1 + y ≤ 40 := by
                have t_0 := nI_toInt (n := cT (sA S).1 + y) (by omega)
                have l_0 : (40 : Int32).toInt = 40 := rfl
                simp only [i_le] at c_51
                omega
              refine go_iload_n dX7_lots_57 rfl ?_
              refine go_i2l dX7_lots_58 ?_
              rw [nI_l hw]
              refine go_lstore dX7_lots_59 (Nat.lt_of_lt_of_le (Nat.lt_succ_self _) (Nat.le_of_ble_eq_true rfl)) ?_
              show bw_go _ _ _ _ _ _ _ 61 [(4, .long _), (3, .int _), (0, .ref _), (1, .int _), (2, .int _)] ([]) _ _
              refine go_iconst (0) dX7_lots_61 rfl ?_
              refine go_istore dX7_lots_62 (Nat.lt_of_lt_of_le (Nat.lt_succ_self _) (Nat.le_of_ble_eq_true rfl)) ?_
              show bw_go _ _ _ _ _ _ _ 64 [(6, .int _), (4, .long _), (3, .int _), (0, .ref _), (1, .int _), (2, .int _)] ([]) _ _
              refine go_for (P := fun k => ∀ (g : bw_H), (XR g (wA S (ltk w (sA S) k).2) ∧ frM h g) → bw_go X 5 7 9 false (some .int) cX7_lots 64 [(6, .int (nI k)), (4, .long (lN (ltk w (sA S) k).1)), (3, .int (nI (cN (nowC S)))), (0, .ref (0)), (1, .int (nI y)), (2, .int (nI w))] [] g Q) (N := y) (fun k hk K => ?_) ?_ (0) (Nat.zero_le _) _ ⟨hx, frM_r h⟩
              · -- a turn
                intro g hv
                obtain ⟨hg, hf⟩ := hv
                have hx := hg
                obtain ⟨l1, l2, l3⟩ := ltk_b (A := sA S) hw3 k
                have hc2 : bw_ct g 11 (hsT (ltk w (sA S) k).2 (cT (ltk w (sA S) k).2.1)) := hx.2.2.2.1.1.1
                have hit : (ltk w (sA S) k).1 * 48271 % 2147483647 < 2147483647 := Nat.mod_lt _ (by decide)
                have him : (ltk w (sA S) k).1 * 48271 % 2147483647 % cN (nowC S) < cN (ltk w (sA S) k).2.1 := by rw [l2]; exact Nat.mod_lt _ (show 0 < cN (nowC S) by omega)
                have hal := aol_lt ((ltk w (sA S) k).1 * 48271 % 2147483647 / 8 % 8)
                have hcT : cT (ltk w (sA S) k).2.1 < 40 := by omega
                have hc := hc2
                show bw_go _ _ _ _ _ _ _ 64 [(6, .int _), (4, .long _), (3, .int _), (0, .ref _), (1, .int _), (2, .int _)] ([]) _ _
                refine go_iload dX7_lots_64 rfl ?_
                refine go_iload_n dX7_lots_66 rfl ?_
                refine go_icmp_ge (pc' := 141) dX7_lots_67 rfl (fun c_67 => ?_) (fun c_67 => ?_)
                · -- ge at 67: yes
                  exfalso; have t_0 := nI_toInt (n := k) (by omega); have t_1 := nI_toInt (n := y) (by omega); simp only [i_le, i_lt, i_eq, bi_eq] at c_67; omega
                · -- ge at 67: no
                  show bw_go _ _ _ _ _ _ _ 70 [(6, .int _), (4, .long _), (3, .int _), (0, .ref _), (1, .int _), (2, .int _)] ([]) _ _
                  refine go_lload dX7_lots_70 rfl ?_
                  refine go_ldc2_w dX7_lots_72 kc_7_281 ?_
                  refine go_lmul dX7_lots_75 ?_
                  rw [show (48271 : Int64) = lN 48271 from rfl, lN_mul]
                  refine go_ldc2_w dX7_lots_76 kc_7_283 ?_
                  refine go_lrem dX7_lots_79 (by decide) ?_
                  rw [show (2147483647 : Int64) = lN 2147483647 from rfl, pk_lRem (by omega) (by decide) (by decide)]
                  refine go_lstore dX7_lots_80 (Nat.lt_of_lt_of_le (Nat.lt_succ_self _) (Nat.le_of_ble_eq_true rfl)) ?_
                  show bw_go _ _ _ _ _ _ _ 82 [(4, .long _), (6, .int _), (3, .int _), (0, .ref _), (1, .int _), (2, .int _)] ([]) _ _
                  refine go_lload dX7_lots_82 rfl ?_
                  refine go_iload_n dX7_lots_84 rfl ?_
                  refine go_i2l dX7_lots_85 ?_
                  rw [nI_l (by omega)]
                  refine go_lrem dX7_lots_86 (fun z => h0 ((lz (by omega)).mp z)) ?_
                  rw [pk_lRem (by omega) (by omega) (by omega)]
                  refine go_l2i dX7_lots_87 ?_
                  rw [lN_i]
                  refine go_istore dX7_lots_88 (Nat.lt_of_lt_of_le (Nat.lt_succ_self _) (Nat.le_of_ble_eq_true rfl)) ?_
                  show bw_go _ _ _ _ _ _ _ 90 [(7, .int _), (4, .long _), (6, .int _), (3, .int _), (0, .ref _), (1, .int _), (2, .int _)] ([]) _ _
                  refine go_lload dX7_lots_90 rfl ?_
                  refine go_ldc2_w dX7_lots_92 kc_7_285 ?_
                  refine go_ldiv dX7_lots_95 (by decide) ?_
                  rw [show (8 : Int64) = lN 8 from rfl, pk_lDiv (by omega) (by decide) (by decide)]
                  refine go_ldc2_w dX7_lots_96 kc_7_285 ?_
                  refine go_lrem dX7_lots_99 (by decide) ?_
                  rw [show (8 : Int64) = lN 8 from rfl, pk_lRem (by omega) (by decide) (by decide)]
                  refine go_l2i dX7_lots_100 ?_
                  rw [lN_i]
                  refine go_cs (as := [.int _]) 0 dX7_lots_101 rfl rfl mt_7_287 (Nat.le_of_ble_eq_true rfl) rfl rfl (Nat.le_of_ble_eq_true rfl) (Nat.le_of_ble_eq_true rfl) (Nat.le_of_ble_eq_true rfl) (Nat.le_of_ble_eq_true rfl) ?_
                  refine me_X7_actOfLot (by omega) ?_
                  show bw_go _ _ _ _ _ _ _ 104 [(7, .int _), (4, .long _), (6, .int _), (3, .int _), (0, .ref _), (1, .int _), (2, .int _)] ((.int _) :: []) _ _
                  refine go_istore dX7_lots_104 (Nat.lt_of_lt_of_le (Nat.lt_succ_self _) (Nat.le_of_ble_eq_true rfl)) ?_
                  show bw_go _ _ _ _ _ _ _ 106 [(8, .int _), (7, .int _), (4, .long _), (6, .int _), (3, .int _), (0, .ref _), (1, .int _), (2, .int _)] ([]) _ _
                  refine go_aload_n dX7_lots_106 rfl ?_
                  refine go_gfr dX7_lots_107 fl_7_24 rfl hx.1.1.1 hx.1.1.2.1 hx.1.1.2.2.2.2.1 ?_
                  refine go_aload_n dX7_lots_110 rfl ?_
                  refine go_gfr dX7_lots_111 fl_7_24 rfl hx.1.1.1 hx.1.1.2.1 hx.1.1.2.2.2.2.1 ?_
                  refine go_iload dX7_lots_114 rfl ?_
                  refine go_iload dX7_lots_116 rfl ?_
                  refine go_cv (as := [.int _, .int _]) 1 dX7_lots_118 mt_7_290 (Or.inr rfl) rfl rfl hc.1.1.1 hc.1.1.2.1 (Nat.le_of_ble_eq_true rfl) (Nat.le_of_ble_eq_true rfl) (Nat.le_of_ble_eq_true rfl) (Nat.le_of_ble_eq_true rfl) (Nat.le_of_ble_eq_true rfl) ?_
                  refine me_X1_canBe hc2 (by omega) (show _ < cN (hsT (ltk w (sA S) k).2 (cT (ltk w (sA S) k).2.1)) from him) ?_
                  show bw_go _ _ _ _ _ _ _ 121 [(8, .int _), (7, .int _), (4, .long _), (6, .int _), (3, .int _), (0, .ref _), (1, .int _), (2, .int _)] ((.int _) :: (.ref _) :: []) _ _
                  refine go_ifb_eq (pc' := 129) dX7_lots_121 rfl (fun c_121 => ?_) (fun c_121 => ?_)
                  · -- eq at 121: yes
                    show bw_go _ _ _ _ _ _ _ 129 [(8, .int _), (7, .int _), (4, .long _), (6, .int _), (3, .int _), (0, .ref _), (1, .int _), (2, .int _)] ((.ref _) :: []) _ _
                    refine go_iconst (4) dX7_lots_129 rfl ?_
                    refine go_iload dX7_lots_130 rfl ?_
                    refine go_cv (as := [.int _, .int _]) 2 dX7_lots_132 mt_7_293 (Or.inr rfl) rfl rfl hc.1.1.1 hc.1.1.2.1 (Nat.le_of_ble_eq_true rfl) (Nat.le_of_ble_eq_true rfl) (Nat.le_of_ble_eq_true rfl) (Nat.le_of_ble_eq_true rfl) (Nat.le_of_ble_eq_true rfl) ?_
                    rw [show (4 : Int32) = nI 4 from rfl]
                    refine me_X1_commit hx.2.2.2.1.1 (A := (ltk w (sA S) k).2) (by omega) (a := 4) (i := (ltk w (sA S) k).1 * 48271 % 2147483647 % cN (nowC S)) (by omega) (by omega) rfl (fun I hI => ?_)
                    have e3 : (ltk w (sA S) (k + 1)).2 = acP (ltk w (sA S) k).2 (4) ((ltk w (sA S) k).1 * 48271 % 2147483647 % cN (nowC S)) := by
                      show acP _ (if cbe (hsT (ltk w (sA S) k).2 (cT (ltk w (sA S) k).2.1)) (aol ((ltk w (sA S) k).1 * 48271 % 2147483647 / 8 % 8)) ((ltk w (sA S) k).1 * 48271 % 2147483647 % cN (ltk w (sA S) k).2.1) = true then aol ((ltk w (sA S) k).1 * 48271 % 2147483647 / 8 % 8) else 4) ((ltk w (sA S) k).1 * 48271 % 2147483647 % cN (ltk w (sA S) k).2.1) = _
                      rw [show cN (ltk w (sA S) k).2.1 = cN (nowC S) from l2, if_neg (show ¬ cbe (hsT (ltk w (sA S) k).2 (cT (ltk w (sA S) k).2.1)) (aol ((ltk w (sA S) k).1 * 48271 % 2147483647 / 8 % 8)) ((ltk w (sA S) k).1 * 48271 % 2147483647 % cN (nowC S)) = true from fun z => Bool.noConfusion (c_121.symm.trans z))]
                    have hx2 : XR (bw_wi g I) (wA (wA S (ltk w (sA S) k).2) (acP (ltk w (sA S) k).2 (4) ((ltk w (sA S) k).1 * 48271 % 2147483647 % cN (nowC S)))) := xr_now hx hI.2 hI.1 (ac_acP hx.2.2.2.1.2 (by show cT (ltk w (sA S) k).2.1 < 40; omega) (by omega) (show _ < cN (ltk w (sA S) k).2.1 by omega) rfl)
                    have hf2 : frM h (bw_wi g I) := frM_t hf (frM_wi rfl (fun q h1 h2 => hI.2 q (by unfold co_pl; omega)))
                    show bw_go _ _ _ _ _ _ _ 135 [(8, .int _), (7, .int _), (4, .long _), (6, .int _), (3, .int _), (0, .ref _), (1, .int _), (2, .int _)] ([]) _ _
                    refine go_iinc dX7_lots_135 rfl (nI_1 k) (Nat.lt_of_lt_of_le (Nat.lt_succ_self _) (Nat.le_of_ble_eq_true rfl)) ?_
                    show bw_go _ _ _ _ _ _ _ 138 [(6, .int _), (8, .int _), (7, .int _), (4, .long _), (3, .int _), (0, .ref _), (1, .int _), (2, .int _)] ([]) _ _
                    refine go_goto (pc' := 64) dX7_lots_138 rfl ?_
                    refine go_ls [(6, .int _), (4, .long _), (3, .int _), (0, .ref _), (1, .int _), (2, .int _)] (by show List.Nodup ([6, 4, 3, 0, 1, 2] : List Nat); decide) (by show List.Nodup ([6, 8, 7, 4, 3, 0, 1, 2] : List Nat); decide) (le_cons rfl (le_cons rfl (le_cons rfl (le_cons rfl (le_cons rfl (le_cons rfl (le_nil _))))))) ?_
                    rw [← e3] at hx2
                    exact K _ ⟨hx2, hf2⟩
                  · -- eq at 121: no
                    show bw_go _ _ _ _ _ _ _ 124 [(8, .int _), (7, .int _), (4, .long _), (6, .int _), (3, .int _), (0, .ref _), (1, .int _), (2, .int _)] ((.ref _) :: []) _ _
                    refine go_iload dX7_lots_124 rfl ?_
                    refine go_goto (pc' := 130) dX7_lots_126 rfl ?_
                    show bw_go _ _ _ _ _ _ _ 130 [(8, .int _), (7, .int _), (4, .long _), (6, .int _), (3, .int _), (0, .ref _), (1, .int _), (2, .int _)] ((.int _) :: (.ref _) :: []) _ _
                    refine go_iload dX7_lots_130 rfl ?_
                    refine go_cv (as := [.int _, .int _]) 2 dX7_lots_132 mt_7_293 (Or.inr rfl) rfl rfl hc.1.1.1 hc.1.1.2.1 (Nat.le_of_ble_eq_true rfl) (Nat.le_of_ble_eq_true rfl) (Nat.le_of_ble_eq_true rfl) (Nat.le_of_ble_eq_true rfl) (Nat.le_of_ble_eq_true rfl) ?_
                    refine me_X1_commit hx.2.2.2.1.1 (A := (ltk w (sA S) k).2) (by omega) (a := aol ((ltk w (sA S) k).1 * 48271 % 2147483647 / 8 % 8)) (i := (ltk w (sA S) k).1 * 48271 % 2147483647 % cN (nowC S)) (by omega) (by omega) c_121 (fun I hI => ?_)
                    have e3 : (ltk w (sA S) (k + 1)).2 = acP (ltk w (sA S) k).2 (aol ((ltk w (sA S) k).1 * 48271 % 2147483647 / 8 % 8)) ((ltk w (sA S) k).1 * 48271 % 2147483647 % cN (nowC S)) := by
                      show acP _ (if cbe (hsT (ltk w (sA S) k).2 (cT (ltk w (sA S) k).2.1)) (aol ((ltk w (sA S) k).1 * 48271 % 2147483647 / 8 % 8)) ((ltk w (sA S) k).1 * 48271 % 2147483647 % cN (ltk w (sA S) k).2.1) = true then aol ((ltk w (sA S) k).1 * 48271 % 2147483647 / 8 % 8) else 4) ((ltk w (sA S) k).1 * 48271 % 2147483647 % cN (ltk w (sA S) k).2.1) = _
                      rw [show cN (ltk w (sA S) k).2.1 = cN (nowC S) from l2, if_pos (show cbe (hsT (ltk w (sA S) k).2 (cT (ltk w (sA S) k).2.1)) (aol ((ltk w (sA S) k).1 * 48271 % 2147483647 / 8 % 8)) ((ltk w (sA S) k).1 * 48271 % 2147483647 % cN (nowC S)) = true from c_121)]
                    have hx2 : XR (bw_wi g I) (wA (wA S (ltk w (sA S) k).2) (acP (ltk w (sA S) k).2 (aol ((ltk w (sA S) k).1 * 48271 % 2147483647 / 8 % 8)) ((ltk w (sA S) k).1 * 48271 % 2147483647 % cN (nowC S)))) := xr_now hx hI.2 hI.1 (ac_acP hx.2.2.2.1.2 (by show cT (ltk w (sA S) k).2.1 < 40; omega) (by omega) (show _ < cN (ltk w (sA S) k).2.1 by omega) c_121)
                    have hf2 : frM h (bw_wi g I) := frM_t hf (frM_wi rfl (fun q h1 h2 => hI.2 q (by unfold co_pl; omega)))
                    show bw_go _ _ _ _ _ _ _ 135 [(8, .int _), (7, .int _), (4, .long _), (6, .int _), (3, .int _), (0, .ref _), (1, .int _), (2, .int _)] ([]) _ _
                    refine go_iinc dX7_lots_135 rfl (nI_1 k) (Nat.lt_of_lt_of_le (Nat.lt_succ_self _) (Nat.le_of_ble_eq_true rfl)) ?_
                    show bw_go _ _ _ _ _ _ _ 138 [(6, .int _), (8, .int _), (7, .int _), (4, .long _), (3, .int _), (0, .ref _), (1, .int _), (2, .int _)] ([]) _ _
                    refine go_goto (pc' := 64) dX7_lots_138 rfl ?_
                    refine go_ls [(6, .int _), (4, .long _), (3, .int _), (0, .ref _), (1, .int _), (2, .int _)] (by show List.Nodup ([6, 4, 3, 0, 1, 2] : List Nat); decide) (by show List.Nodup ([6, 8, 7, 4, 3, 0, 1, 2] : List Nat); decide) (le_cons rfl (le_cons rfl (le_cons rfl (le_cons rfl (le_cons rfl (le_cons rfl (le_nil _))))))) ?_
                    rw [← e3] at hx2
                    exact K _ ⟨hx2, hf2⟩
              · -- behind the last
                intro g hv
                obtain ⟨hg, hf⟩ := hv
                have hx := hg
                show bw_go _ _ _ _ _ _ _ 64 [(6, .int _), (4, .long _), (3, .int _), (0, .ref _), (1, .int _), (2, .int _)] ([]) _ _
                refine go_iload dX7_lots_64 rfl ?_
                refine go_iload_n dX7_lots_66 rfl ?_
                refine go_icmp_ge (pc' := 141) dX7_lots_67 rfl (fun c_67 => ?_) (fun c_67 => ?_)
                · -- ge at 67: yes
                  show bw_go _ _ _ _ _ _ _ 141 [(6, .int _), (4, .long _), (3, .int _), (0, .ref _), (1, .int _), (2, .int _)] ([]) _ _
                  refine go_aload_n dX7_lots_141 rfl ?_
                  refine go_cv (as := []) 4 dX7_lots_142 mt_7_296 (Or.inl rfl) rfl rfl hx.1.1.1 hx.1.1.2.1 (Nat.le_of_ble_eq_true rfl) (Nat.le_of_ble_eq_true rfl) (Nat.le_of_ble_eq_true rfl) (Nat.le_of_ble_eq_true rfl) (Nat.le_of_ble_eq_true rfl) ?_
                  refine me_X7_shownByAll hx (fun g2 hg2 hf2 => ?_)
                  show bw_go _ _ _ _ _ _ _ 145 [(6, .int _), (4, .long _), (3, .int _), (0, .ref _), (1, .int _), (2, .int _)] ((.int _) :: []) _ _
                  refine go_cs (as := [.int _]) 0 dX7_lots_145 rfl rfl mt_7_197 (Nat.le_of_ble_eq_true rfl) rfl rfl (Nat.le_of_ble_eq_true rfl) (Nat.le_of_ble_eq_true rfl) (Nat.le_of_ble_eq_true rfl) (Nat.le_of_ble_eq_true rfl) ?_
                  refine me_bitCount (sho_lt _ _) ?_
                  show bw_go _ _ _ _ _ _ _ 148 [(6, .int _), (4, .long _), (3, .int _), (0, .ref _), (1, .int _), (2, .int _)] ((.int _) :: []) _ _
                  refine go_iret dX7_lots_148 rfl rfl ?_
                  refine q_x hQ ?_ hg2 (frM_t hf hf2)
                  unfold yLots
                  rw [if_pos hin, if_neg h0, rn_n (by omega), hrw, if_neg (by omega)]
                · -- ge at 67: no
                  exfalso; have t_0 := nI_toInt (n := y) (by omega); simp only [i_le, i_lt, i_eq, bi_eq] at c_67; omega
            · -- le at 51: no
              show bw_go _ _ _ _ _ _ _ 54 [(3, .int _), (0, .ref _), (1, .int _), (2, .int _)] ([]) _ _
              refine go_bipush (-2) dX7_lots_54 rfl ?_
              refine go_iret dX7_lots_56 rfl rfl ?_
              refine q_x hQ ?_ hx (frM_r h)
              have h0 : ¬ cN (nowC S) = 0 := by
                have t_0 := nI_toInt (n := cN (nowC S)) (by omega)
                have l_0 := i_0
                simp only [i_lt] at c_34
                omega
              have h40 : 40 < cT (sA S).1 + y := by
                have t_0 := nI_toInt (n := cT (sA S).1 + y) (by omega)
                have l_0 : (40 : Int32).toInt = 40 := rfl
                simp only [i_le] at c_51
                omega
              unfold yLots
              rw [if_pos hin, if_neg h0, rn_n (by omega), if_pos h40]
          · -- gt at 34: no
            show bw_go _ _ _ _ _ _ _ 37 [(3, .int _), (0, .ref _), (1, .int _), (2, .int _)] ([]) _ _
            refine go_bipush (-4) dX7_lots_37 rfl ?_
            refine go_iret dX7_lots_39 rfl rfl ?_
            refine q_x hQ ?_ hx (frM_r h)
            have h0 : cN (nowC S) = 0 := by
              have t_0 := nI_toInt (n := cN (nowC S)) (by omega)
              have l_0 := i_0
              simp only [i_lt] at c_34
              omega
            unfold yLots
            rw [if_pos hin, if_pos h0]
        · -- le at 20: no
          show bw_go _ _ _ _ _ _ _ 23 [(0, .ref _), (1, .int _), (2, .int _)] ([]) _ _
          refine go_iconst (-1) dX7_lots_23 rfl ?_
          refine go_iret dX7_lots_24 rfl rfl ?_
          refine q_x hQ ?_ hx (frM_r h)
          unfold yLots
          have l_1 : (2147483646 : Int32).toInt = 2147483646 := rfl
          simp only [i_le] at c_20
          rw [if_neg (fun z => by omega)]
