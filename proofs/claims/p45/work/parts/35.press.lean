/-! Trial: presses tried, first things first -/
def fs1 {α : Type} (g : Nat → Option α) (i : Nat) : Nat → Option α
  | 0 => none
  | m + 1 => match g i with
    | some x => some x
    | none => fs1 g (i + 1) m
def pon : Nat → TT → Nat → Option (List Nat)
  | 0, A, _ => if mor A.1 A.2.2.1 A.2.2.2 ≤ 0 then some [] else none
  | k + 1, A, f => fs1 (fun i => if (A.2.1.testBit i && decide (A.2.2.1 i < 9)) = true then (pon k (ttU A i (A.2.2.1 i + 1)) i).map (fun l => i :: l) else none) f (A.1 - f)
theorem pon_len : ∀ (k : Nat) (A : TT) (f : Nat) (l : List Nat), pon k A f = some l → l.length = k
  | 0, A, f, l, h => by
    unfold pon at h
    split at h
    · cases h; rfl
    · cases h
  | k + 1, A, f, l, h => by
    unfold pon at h
    generalize A.1 - f = m at h
    induction m generalizing f with
    | zero => cases h
    | succ m ih =>
      unfold fs1 at h
      split at h
      · rename_i x hx
        cases h
        split at hx
        · cases hp : pon k (ttU A f (A.2.2.1 f + 1)) f with
          | none => rw [hp] at hx; cases hx
          | some y =>
            rw [hp] at hx
            cases hx
            show y.length + 1 = k + 1
            rw [pon_len k _ _ y hp]
        · cases hx
      · exact ih (f + 1) h
theorem tt_sa6 {h : bw_H} {p : Nat} {A : TT} {F : Nat → Int32} (hc : bw_tt h p A) : bw_tt (bw_sa h (p + 6) F) p A := by
  obtain ⟨hs, ⟨v0, v1, v2, v3, v4⟩, hk⟩ := hc
  refine ⟨hs, ⟨?_, ?_, ?_, ?_, ?_⟩, hk⟩
  · rw [i_sa_o (by omega)]; exact v0
  · rw [i_sa_o (by omega)]; exact v1
  · rw [i_sa_o (by omega)]; exact v2
  · rw [i_sa_o (by omega)]; exact v3
  · rw [i_sa_o (by omega)]; exact v4
theorem ttU_U (A : TT) (i w : Nat) : ttU (ttU A i w) i (A.2.2.1 i) = A := by
  show (A.1, A.2.1, bw_up (bw_up A.2.2.1 i w) i (A.2.2.1 i), A.2.2.2) = A
  have e : bw_up (bw_up A.2.2.1 i w) i (A.2.2.1 i) = A.2.2.1 := by
    funext j
    unfold bw_up
    split
    · rename_i e; subst e; rfl
    · rfl
  rw [e]
/-- what pressOn leaves -/
def po_i (h : bw_H) (p dp : Nat) (A : TT) (I : Nat → Nat → Int32) : Prop := bw_tt (bw_wi h I) p A ∧ (∀ q, q ≠ p → q ≠ p + 2 → q ≠ p + 6 → I q = bw_i h q) ∧ ∀ j, j < dp → I (p + 6) j = bw_i h (p + 6) j
def po_g (A : TT) (k : Nat) (i : Nat) : Option (List Nat) := if (A.2.1.testBit i && decide (A.2.2.1 i < 9)) = true then (pon k (ttU A i (A.2.2.1 i + 1)) i).map (fun l => i :: l) else none
theorem pon_s (k : Nat) (A : TT) (f : Nat) : pon (k + 1) A f = fs1 (po_g A k) f (A.1 - f) := rfl
theorem fs_no {α : Type} {g : Nat → Option α} {i m : Nat} (h : g i = none) : fs1 g i (m + 1) = fs1 g (i + 1) m := by
  show (match g i with | some x => some x | none => fs1 g (i + 1) m) = _
  rw [h]
theorem fs_yes {α : Type} {g : Nat → Option α} {i m : Nat} {x : α} (h : g i = some x) : fs1 g i (m + 1) = some x := by
  show (match g i with | some x => some x | none => fs1 g (i + 1) m) = _
  rw [h]
set_option maxRecDepth 100000 in
set_option maxHeartbeats 4000000 in
theorem press_rec {X : Nat × (Nat → Int32)} : ∀ (k : Nat) {Q : Option Value → bw_H → Prop} {h : bw_H} {p dp f : Nat} {A : TT} (hc : bw_tt h p A) (hd : dp + k ≤ 4) (hf : f ≤ A.1) (hQ : ∀ I : Nat → Nat → Int32, (po_i h p dp A I ∧ ∀ l, pon k A f = some l → ∀ j, j < k → I (p + 6) (dp + j) = nI (l.getD j 0)) → Q (some (.int (bi (pon k A f).isSome))) (bw_wi h I)), bw_me X (3 + k) bm_X6_pressOn false [.ref p, .int (nI dp), .int (nI (dp + k)), .int (nI f)] h Q := by
  intro k
  induction k with
  | zero =>
    intro Q h p dp f A hc hd hf hQ
    show bw_go _ (3) 6 6 false (some .boolean) cX6_pressOn 0 [(0, .ref _), (1, .int _), (2, .int _), (3, .int _)] [] _ _
    refine go_iload_n dX6_pressOn_0 rfl ?_
    refine go_iload_n dX6_pressOn_1 rfl ?_
    refine go_icmp_ge (pc' := 10) dX6_pressOn_2 rfl (fun c_2 => ?_) (fun c_2 => ?_)
    · -- ge at 2: yes
      show bw_go _ _ _ _ _ _ _ 10 [(0, .ref _), (1, .int _), (2, .int _), (3, .int _)] ([]) _ _
      refine go_aload_n dX6_pressOn_10 rfl ?_
      refine go_gfi dX6_pressOn_11 fl_6_18 rfl hc.1.1.1 hc.1.1.2.1 ?_
      rw [hc.2.1.2.2.1]
      refine go_if_gt (pc' := 21) dX6_pressOn_14 rfl (fun c_14 => ?_) (fun c_14 => ?_)
      · -- gt at 14: yes
        show bw_go _ _ _ _ _ _ _ 21 [(0, .ref _), (1, .int _), (2, .int _), (3, .int _)] ([]) _ _
        refine go_iconst (0) dX6_pressOn_21 rfl ?_
        refine go_iret dX6_pressOn_22 rfl rfl ?_
        have k6 := tt_b hc.2.2
        have t_0 := ofI_t (z := mor A.1 A.2.2.1 A.2.2.2) (by omega) (by omega)
        have l_0 := i_0
        simp only [i_lt] at c_14
        have hq := hQ (bw_i h) ⟨⟨hc, fun _ _ _ _ => rfl, fun _ _ => rfl⟩, fun l hl j hj => absurd hj (Nat.not_lt_zero _)⟩
        unfold pon at hq
        rw [if_neg (by omega)] at hq
        exact hq
      · -- gt at 14: no
        show bw_go _ _ _ _ _ _ _ 17 [(0, .ref _), (1, .int _), (2, .int _), (3, .int _)] ([]) _ _
        refine go_iconst (1) dX6_pressOn_17 rfl ?_
        refine go_goto (pc' := 22) dX6_pressOn_18 rfl ?_
        show bw_go _ _ _ _ _ _ _ 22 [(0, .ref _), (1, .int _), (2, .int _), (3, .int _)] ((.int _) :: []) _ _
        refine go_iret dX6_pressOn_22 rfl rfl ?_
        have k6 := tt_b hc.2.2
        have t_0 := ofI_t (z := mor A.1 A.2.2.1 A.2.2.2) (by omega) (by omega)
        have l_0 := i_0
        simp only [i_lt] at c_14
        have hq := hQ (bw_i h) ⟨⟨hc, fun _ _ _ _ => rfl, fun _ _ => rfl⟩, fun l hl j hj => absurd hj (Nat.not_lt_zero _)⟩
        unfold pon at hq
        rw [if_pos (by omega)] at hq
        exact hq
    · -- ge at 2: no
      exact absurd (nI_le (Nat.le_refl dp) (by omega)) c_2
  | succ k ih =>
    intro Q h p dp f A hc hd hf hQ
    show bw_go _ (3 + k + 1) 6 6 false (some .boolean) cX6_pressOn 0 [(0, .ref _), (1, .int _), (2, .int _), (3, .int _)] [] _ _
    refine go_iload_n dX6_pressOn_0 rfl ?_
    refine go_iload_n dX6_pressOn_1 rfl ?_
    refine go_icmp_ge (pc' := 10) dX6_pressOn_2 rfl (fun c_2 => ?_) (fun c_2 => ?_)
    · -- ge at 2: yes
      exact absurd c_2 (nI_ge (by omega) (by omega))
    · -- ge at 2: no
      show bw_go _ _ _ _ _ _ _ 5 [(0, .ref _), (1, .int _), (2, .int _), (3, .int _)] ([]) _ _
      refine go_iload_n dX6_pressOn_5 rfl ?_
      refine go_iconst (4) dX6_pressOn_6 rfl ?_
      refine go_icmp_lt (pc' := 23) dX6_pressOn_7 rfl (fun c_7 => ?_) (fun c_7 => ?_)
      · -- lt at 7: yes
        show bw_go _ _ _ _ _ _ _ 23 [(0, .ref _), (1, .int _), (2, .int _), (3, .int _)] ([]) _ _
        refine go_iload_n dX6_pressOn_23 rfl ?_
        refine go_istore dX6_pressOn_24 (Nat.lt_of_lt_of_le (Nat.lt_succ_self _) (Nat.le_of_ble_eq_true rfl)) ?_
        show bw_go _ _ _ _ _ _ _ 26 [(4, .int _), (0, .ref _), (1, .int _), (2, .int _), (3, .int _)] ([]) _ _
        have hv0 : (h = bw_wi h (bw_i h) ∧ po_i h p dp A (bw_i h)) ∧ pon (k + 1) A f = fs1 (po_g A k) f (A.1 - f) := ⟨⟨rfl, hc, fun _ _ _ _ => rfl, fun _ _ => rfl⟩, rfl⟩
        refine go_for (P := fun i => ∀ g : bw_H, ((g = bw_wi h (bw_i g) ∧ po_i h p dp A (bw_i g)) ∧ pon (k + 1) A f = fs1 (po_g A k) i (A.1 - i)) → bw_go X (3 + k + 1) 6 6 false (some .boolean) cX6_pressOn 26 [(4, .int (nI i)), (0, .ref (p)), (1, .int (nI dp)), (2, .int (nI (dp + (k + 1)))), (3, .int (nI f))] [] g Q) (N := A.1) (fun i hi K => ?_) ?_ (f) hf h hv0
        · -- a turn
          intro g hv
          obtain ⟨⟨hg, hp1, hp2, hp3⟩, hv4⟩ := hv
          have hc : bw_tt g p A := by rw [hg]; exact hp1
          have k6 := hc.2.2.1
          rw [show A.1 - i = (A.1 - (i + 1)) + 1 by omega] at hv4
          show bw_go _ _ _ _ _ _ _ 26 [(4, .int _), (0, .ref _), (1, .int _), (2, .int _), (3, .int _)] ([]) _ _
          refine go_iload dX6_pressOn_26 rfl ?_
          refine go_aload_n dX6_pressOn_28 rfl ?_
          
          refine go_gfi dX6_pressOn_29 fl_6_9 rfl hc.1.1.1 hc.1.1.2.1 ?_
          rw [hc.2.1.1]
          refine go_icmp_ge (pc' := 97) dX6_pressOn_32 rfl (fun c_32 => ?_) (fun c_32 => ?_)
          · -- ge at 32: yes
            exfalso; have t_0 := nI_toInt (n := A.1) (by omega); have t_1 := nI_toInt (n := i) (by omega); simp only [i_le, i_lt, i_eq, bi_eq] at c_32; omega
          · -- ge at 32: no
            show bw_go _ _ _ _ _ _ _ 35 [(4, .int _), (0, .ref _), (1, .int _), (2, .int _), (3, .int _)] ([]) _ _
            refine go_aload_n dX6_pressOn_35 rfl ?_
            refine go_iload dX6_pressOn_36 rfl ?_
            refine go_iconst (1) dX6_pressOn_38 rfl ?_
            refine go_cv (as := [.int _, .int _]) 1 dX6_pressOn_39 mt_6_77 (Or.inl rfl) rfl rfl hc.1.1.1 hc.1.1.2.1 (Nat.le_of_ble_eq_true rfl) (Nat.le_of_ble_eq_true rfl) (Nat.le_of_ble_eq_true rfl) (Nat.le_of_ble_eq_true rfl) (by omega) ?_
            refine me_canWearP hc hi ?_
            show bw_go _ _ _ _ _ _ _ 42 [(4, .int _), (0, .ref _), (1, .int _), (2, .int _), (3, .int _)] ((.int _) :: []) _ _
            refine go_ifb_ne (pc' := 48) dX6_pressOn_42 rfl (fun c_42 => ?_) (fun c_42 => ?_)
            · -- ne at 42: yes
              show bw_go _ _ _ _ _ _ _ 48 [(4, .int _), (0, .ref _), (1, .int _), (2, .int _), (3, .int _)] ([]) _ _
              refine go_aload_n dX6_pressOn_48 rfl ?_
              refine go_gfr dX6_pressOn_49 fl_6_33 rfl hc.1.1.1 hc.1.1.2.1 hc.1.1.2.2.2.2 ?_
              refine go_iload_n dX6_pressOn_52 rfl ?_
              refine go_iload dX6_pressOn_53 rfl ?_
              refine go_cv (as := [.int _, .int _]) 0 dX6_pressOn_55 mt_6_44 (Or.inr rfl) rfl rfl hc.1.2.2.2.1 hc.1.2.2.2.2.1 (Nat.le_of_ble_eq_true rfl) (Nat.le_of_ble_eq_true rfl) (Nat.le_of_ble_eq_true rfl) (Nat.le_of_ble_eq_true rfl) (by omega) ?_
              refine me_X0_set hc.1.2.2.2 ?_
              rw [cs_n (N := 4) (by omega) (by decide)]
              show bw_go _ _ _ _ _ _ _ 58 [(4, .int _), (0, .ref _), (1, .int _), (2, .int _), (3, .int _)] ([]) _ _
              refine go_aload_n dX6_pressOn_58 rfl ?_
              refine go_iload dX6_pressOn_59 rfl ?_
              refine go_iconst (1) dX6_pressOn_61 rfl ?_
              refine go_cv (as := [.int _, .int _]) 2 dX6_pressOn_62 mt_6_80 (Or.inl rfl) rfl rfl hc.1.1.1 hc.1.1.2.1 (Nat.le_of_ble_eq_true rfl) (Nat.le_of_ble_eq_true rfl) (Nat.le_of_ble_eq_true rfl) (Nat.le_of_ble_eq_true rfl) (by omega) ?_
              rw [Bool.and_eq_true] at c_42
              have hw9 := of_decide_eq_true c_42.2
              refine me_wearByP (tt_sa6 hc) hi hw9 (fun I1 hI1 => ?_)
              show bw_go _ _ _ _ _ _ _ 65 [(4, .int _), (0, .ref _), (1, .int _), (2, .int _), (3, .int _)] ([]) _ _
              refine go_aload_n dX6_pressOn_65 rfl ?_
              refine go_iload_n dX6_pressOn_66 rfl ?_
              refine go_iconst (1) dX6_pressOn_67 rfl ?_
              refine go_iadd dX6_pressOn_68 ?_
              refine go_iload_n dX6_pressOn_69 rfl ?_
              refine go_iload dX6_pressOn_70 rfl ?_
              refine go_cv (as := [.int _, .int _, .int _]) (3 + k) dX6_pressOn_72 mt_6_73 (Or.inl rfl) rfl rfl hc.1.1.1 hc.1.1.2.1 (Nat.le_of_ble_eq_true rfl) (Nat.le_of_ble_eq_true rfl) (Nat.le_of_ble_eq_true rfl) (Nat.le_of_ble_eq_true rfl) (by omega) ?_
              rw [show (nI dp + 1) = nI (dp + 1) from nI_1 dp, show dp + (k + 1) = dp + 1 + k by omega]
              refine ih (A := ttU A i (A.2.2.1 i + 1)) hI1.1 (by omega) (by show i ≤ A.1; omega) (fun I2 hI2 => ?_)
              show bw_go _ _ _ _ _ _ _ 75 [(4, .int _), (0, .ref _), (1, .int _), (2, .int _), (3, .int _)] ((.int _) :: []) _ _
              refine go_istore dX6_pressOn_75 (Nat.lt_of_lt_of_le (Nat.lt_succ_self _) (Nat.le_of_ble_eq_true rfl)) ?_
              show bw_go _ _ _ _ _ _ _ 77 [(5, .int _), (4, .int _), (0, .ref _), (1, .int _), (2, .int _), (3, .int _)] ([]) _ _
              refine go_aload_n dX6_pressOn_77 rfl ?_
              refine go_iload dX6_pressOn_78 rfl ?_
              refine go_iconst (-1) dX6_pressOn_80 rfl ?_
              refine go_cv (as := [.int _, .int _]) 2 dX6_pressOn_81 mt_6_80 (Or.inl rfl) rfl rfl hc.1.1.1 hc.1.1.2.1 (Nat.le_of_ble_eq_true rfl) (Nat.le_of_ble_eq_true rfl) (Nat.le_of_ble_eq_true rfl) (Nat.le_of_ble_eq_true rfl) (by omega) ?_
              have e9 : (ttU A i (A.2.2.1 i + 1)).2.2.1 i = A.2.2.1 i + 1 := bw_up_s _ _ _
              refine me_wearByM (A := ttU A i (A.2.2.1 i + 1)) hI2.1.1 hi (by rw [e9]; omega) (fun I3 hI3 => ?_)
              rw [e9, Nat.add_sub_cancel, ttU_U] at hI3
              have f1 : ∀ q, q ≠ p → q ≠ p + 2 → q ≠ p + 6 → I3 q = bw_i h q := fun q h1 h2 h3 => by
                rw [hI3.2 q h1 h2, i_wi, hI2.1.2.1 q h1 h2 h3, i_wi, hI1.2 q h1 h2, i_sa_o h3, hp2 q h1 h2 h3]
              have f2 : ∀ j, j < dp + 1 → I3 (p + 6) j = bw_up (bw_i g (p + 6)) dp (nI i) j := fun j hj => by
                rw [hI3.2 _ (by omega) (by omega), i_wi, hI2.1.2.2 j hj, i_wi, hI1.2 _ (by omega) (by omega), i_sa_s]
              have f3 : ∀ j, j < dp → I3 (p + 6) j = bw_i h (p + 6) j := fun j hj => by
                rw [f2 j (by omega), bw_up_o (by omega), hp3 j hj]
              have hpo : po_i h p dp A I3 := ⟨by have := hI3.1; rw [hg] at this; exact this, f1, f3⟩
              show bw_go _ _ _ _ _ _ _ 84 [(5, .int _), (4, .int _), (0, .ref _), (1, .int _), (2, .int _), (3, .int _)] ([]) _ _
              refine go_iload dX6_pressOn_84 rfl ?_
              refine go_ifb_eq (pc' := 91) dX6_pressOn_86 rfl (fun c_86 => ?_) (fun c_86 => ?_)
              · -- eq at 86: yes
                show bw_go _ _ _ _ _ _ _ 91 [(5, .int _), (4, .int _), (0, .ref _), (1, .int _), (2, .int _), (3, .int _)] ([]) _ _
                refine go_iinc dX6_pressOn_91 rfl (nI_1 i) (Nat.lt_of_lt_of_le (Nat.lt_succ_self _) (Nat.le_of_ble_eq_true rfl)) ?_
                show bw_go _ _ _ _ _ _ _ 94 [(4, .int _), (5, .int _), (0, .ref _), (1, .int _), (2, .int _), (3, .int _)] ([]) _ _
                refine go_goto (pc' := 26) dX6_pressOn_94 rfl ?_
                refine go_ls [(4, .int _), (0, .ref _), (1, .int _), (2, .int _), (3, .int _)] (by show List.Nodup ([4, 0, 1, 2, 3] : List Nat); decide) (by show List.Nodup ([4, 5, 0, 1, 2, 3] : List Nat); decide) (le_cons rfl (le_cons rfl (le_cons rfl (le_cons rfl (le_cons rfl (le_nil _)))))) ?_
                rw [show dp + 1 + k = dp + (k + 1) by omega]
                refine K _ ⟨⟨by rw [hg]; rfl, hpo⟩, ?_⟩
                have hgi : po_g A k i = (pon k (ttU A i (A.2.2.1 i + 1)) i).map (fun l => i :: l) := if_pos (by rw [Bool.and_eq_true]; exact c_42)
                rw [Option.isSome_eq_false_iff.mp c_86 |> Option.isNone_iff_eq_none.mp] at hgi
                rw [hv4, fs_no hgi]
              · -- eq at 86: no
                show bw_go _ _ _ _ _ _ _ 89 [(5, .int _), (4, .int _), (0, .ref _), (1, .int _), (2, .int _), (3, .int _)] ([]) _ _
                refine go_iconst (1) dX6_pressOn_89 rfl ?_
                refine go_iret dX6_pressOn_90 rfl rfl ?_
                have hgi : po_g A k i = (pon k (ttU A i (A.2.2.1 i + 1)) i).map (fun l => i :: l) := if_pos (by rw [Bool.and_eq_true]; exact c_42)
                obtain ⟨l, hl⟩ := Option.isSome_iff_exists.mp c_86
                rw [hl] at hgi
                rw [fs_yes hgi] at hv4
                have hq := hQ I3 ⟨hpo, fun l' hl' j hj => ?_⟩
                · rw [hv4] at hq
                  rw [hg]; exact hq
                · rw [hv4] at hl'
                  cases hl'
                  by_cases h0 : j = 0
                  · subst h0
                    show I3 (p + 6) dp = nI i
                    rw [f2 dp (Nat.lt_succ_self _), bw_up_s]
                  · obtain ⟨j', rfl⟩ : ∃ j', j = j' + 1 := ⟨j - 1, by omega⟩
                    rw [hI3.2 _ (by omega) (by omega), i_wi, show dp + (j' + 1) = dp + 1 + j' by omega, hI2.2 l hl j' (by omega)]
                    rfl
            · -- ne at 42: no
              show bw_go _ _ _ _ _ _ _ 45 [(4, .int _), (0, .ref _), (1, .int _), (2, .int _), (3, .int _)] ([]) _ _
              refine go_goto (pc' := 91) dX6_pressOn_45 rfl ?_
              show bw_go _ _ _ _ _ _ _ 91 [(4, .int _), (0, .ref _), (1, .int _), (2, .int _), (3, .int _)] ([]) _ _
              refine go_iinc dX6_pressOn_91 rfl (nI_1 i) (Nat.lt_of_lt_of_le (Nat.lt_succ_self _) (Nat.le_of_ble_eq_true rfl)) ?_
              show bw_go _ _ _ _ _ _ _ 94 [(4, .int _), (0, .ref _), (1, .int _), (2, .int _), (3, .int _)] ([]) _ _
              refine go_goto (pc' := 26) dX6_pressOn_94 rfl ?_
              refine K g ⟨⟨hg, hp1, hp2, hp3⟩, ?_⟩
              rw [hv4, fs_no (show po_g A k i = none from if_neg (by rw [c_42]; decide))]
        · -- behind the last
          intro g hv
          obtain ⟨⟨hg, hp1, hp2, hp3⟩, hv4⟩ := hv
          have hc : bw_tt g p A := by rw [hg]; exact hp1
          show bw_go _ _ _ _ _ _ _ 26 [(4, .int _), (0, .ref _), (1, .int _), (2, .int _), (3, .int _)] ([]) _ _
          refine go_iload dX6_pressOn_26 rfl ?_
          refine go_aload_n dX6_pressOn_28 rfl ?_
          refine go_gfi dX6_pressOn_29 fl_6_9 rfl hc.1.1.1 hc.1.1.2.1 ?_
          rw [hc.2.1.1]
          refine go_icmp_ge (pc' := 97) dX6_pressOn_32 rfl (fun c_32 => ?_) (fun c_32 => ?_)
          · -- ge at 32: yes
            show bw_go _ _ _ _ _ _ _ 97 [(4, .int _), (0, .ref _), (1, .int _), (2, .int _), (3, .int _)] ([]) _ _
            refine go_iconst (0) dX6_pressOn_97 rfl ?_
            refine go_iret dX6_pressOn_98 rfl rfl ?_
            rw [Nat.sub_self] at hv4
            have hv4 : pon (k + 1) A f = none := hv4
            have hq := hQ (bw_i g) ⟨⟨hp1, hp2, hp3⟩, fun l hl => by rw [hv4] at hl; cases hl⟩
            rw [hv4] at hq
            rw [hg]; exact hq
          · -- ge at 32: no
            exfalso; have k6 := hc.2.2.1; have t_0 := nI_toInt (n := A.1) (by omega); simp only [i_le, i_lt, i_eq, bi_eq] at c_32; omega
      · -- lt at 7: no
        exfalso; have t_0 := nI_toInt (n := dp) (by omega); have l_4 : (4 : Int32).toInt = 4 := rfl; simp only [i_lt] at c_7; omega
