/-! BearWitness: who must go -/
def riv (A : TA) (s : Nat) : Bool := decide (orf (fun i => if s.testBit i = true then A.2.1 i else 0) A.1 &&& orf (fun i => if s.testBit i = true then A.2.2 i else 0) A.1 ≠ 0)
def apP (S : ST) : Nat → Bool := fun s => !riv (taC (nowC S)) ((2 ^ cN (nowC S) - 1) &&& (63 ^^^ s))
def yApart (S : ST) : Int32 × ST := if cN (nowC S) = 0 then (-4, S) else (match bst (apP S) (2 ^ cN (nowC S)) with
    | none => (-9, S)
    | some b => (nI (bc b), wQ S (nI b)))
theorem bst_s {P : Nat → Bool} {j : Nat} (hj : P j = true) : ∀ {k : Nat}, j < k → bst P k ≠ none
  | 0, h => absurd h (Nat.not_lt_zero _)
  | k + 1, h => by
    show (if P k = true ∧ fw k (bst P k) = true then some k else bst P k) ≠ none
    by_cases e : bst P k = none
    · have hjk : j = k := by
        rcases Nat.lt_succ_iff_lt_or_eq.mp h with h1 | h1
        · exact absurd e (bst_s hj h1)
        · exact h1
      rw [e, if_pos ⟨by rw [← hjk]; exact hj, rfl⟩]
      exact fun z => by cases z
    · split
      · exact fun z => by cases z
      · exact e
theorem orf_0 {f : Nat → Nat} (h : ∀ i, f i = 0) : ∀ k, orf f k = 0
  | 0 => rfl
  | k + 1 => by
    show orf f k ||| f k = 0
    rw [orf_0 h k, h k]; rfl
theorem riv_0 (A : TA) : riv A 0 = false := by
  unfold riv
  rw [orf_0 (fun i => by rw [Nat.zero_testBit]; rfl)]
  exact decide_eq_false (fun z => z (Nat.zero_and _))
theorem ap_last : ∀ n, n ≤ 6 → (2 ^ n - 1) &&& (63 ^^^ (2 ^ n - 1)) = 0 := by decide
set_option maxRecDepth 100000 in
set_option maxHeartbeats 4000000 in
theorem me_X7_apart {X : Nat × (Nat → Int32)} {Q : Option Value → bw_H → Prop} {h : bw_H} {S : ST} (hx : XR h S) (hQ : PX h Q (yApart S)) : bw_me X 4 bm_X7_apart false [.ref 0] h Q := by
  have hc : bw_ct h 11 (nowC S) := hx.2.2.2.1.1.1
  have hN := hc.2.2.1
  show bw_go _ 4 7 4 false (some .int) cX7_apart 0 [(0, .ref _)] [] _ _
  refine go_aload_n dX7_apart_0 rfl ?_
  refine go_gfr dX7_apart_1 fl_7_24 rfl hx.1.1.1 hx.1.1.2.1 hx.1.1.2.2.2.2.1 ?_
  refine go_gfi dX7_apart_4 fl_7_141 rfl hc.1.1.1 hc.1.1.2.1 ?_
  rw [hc.2.1.1]
  refine go_if_ne (pc' := 13) dX7_apart_7 rfl (fun c_7 => ?_) (fun c_7 => ?_)
  · -- ne at 7: yes
    show bw_go _ _ _ _ _ _ _ 13 [(0, .ref _)] ([]) _ _
    refine go_aload_n dX7_apart_13 rfl ?_
    refine go_gfr dX7_apart_14 fl_7_52 rfl hx.1.1.1 hx.1.1.2.1 hx.1.1.2.2.2.2.2.2.2.2.2.1 ?_
    refine go_aload_n dX7_apart_17 rfl ?_
    refine go_gfr dX7_apart_18 fl_7_24 rfl hx.1.1.1 hx.1.1.2.1 hx.1.1.2.2.2.2.1 ?_
    refine go_cv (as := [.ref _]) 3 dX7_apart_21 mt_7_184 (Or.inr rfl) rfl rfl hx.1.2.2.2.2.2.1.1.1 hx.1.2.2.2.2.2.1.1.2.1 (Nat.le_of_ble_eq_true rfl) (Nat.le_of_ble_eq_true rfl) (Nat.le_of_ble_eq_true rfl) (Nat.le_of_ble_eq_true rfl) (Nat.le_of_ble_eq_true rfl) ?_
    refine me_X5_hear hx.1.2.2.2.2.2.1 hc (Or.inr (by decide)) (fun I hI => ?_)
    have hx2 : XR (bw_wi h I) S := xr_sc hx (fun q hq => hI.2 q (by omega) (by omega) (by omega))
    have hf2 : frM h (bw_wi h I) := frM_wi rfl (fun q h1 h2 => hI.2 q (by omega) (by omega) (by omega))
    have ht : bw_ta (bw_wi h I) 46 (taC (nowC S)) := hI.1
    have h2N := p2N hN
    have hc2 : bw_ct (bw_wi h I) 11 (nowC S) := hx2.2.2.2.1.1.1
    have h0 : ¬ cN (nowC S) = 0 := fun z => c_7 ((nI_eq (a := cN (nowC S)) (b := 0) (by omega) (by omega)).mpr z)
    show bw_go _ _ _ _ _ _ _ 24 [(0, .ref _)] ([]) _ _
    refine go_bipush (-9) dX7_apart_24 rfl ?_
    refine go_istore_n dX7_apart_26 (Nat.lt_of_lt_of_le (Nat.lt_succ_self _) (Nat.le_of_ble_eq_true rfl)) ?_
    show bw_go _ _ _ _ _ _ _ 27 [(1, .int _), (0, .ref _)] ([]) _ _
    refine go_iconst (0) dX7_apart_27 rfl ?_
    refine go_istore_n dX7_apart_28 (Nat.lt_of_lt_of_le (Nat.lt_succ_self _) (Nat.le_of_ble_eq_true rfl)) ?_
    show bw_go _ _ _ _ _ _ _ 29 [(2, .int _), (1, .int _), (0, .ref _)] ([]) _ _
    refine go_for (P := fun k => bw_go X 4 7 4 false (some .int) cX7_apart 29 [(2, .int (nI k)), (1, .int (mtI (bst (apP S) k))), (0, .ref (0))] [] (bw_wi h I) Q) (N := 2 ^ cN (nowC S)) (fun k hk K => ?_) ?_ (0) (Nat.zero_le _)
    · -- a turn
      show bw_go _ _ _ _ _ _ _ 29 [(2, .int _), (1, .int _), (0, .ref _)] ([]) _ _
      refine go_iload_n dX7_apart_29 rfl ?_
      refine go_aload_n dX7_apart_30 rfl ?_
      refine go_gfr dX7_apart_31 fl_7_24 rfl hx.1.1.1 hx.1.1.2.1 hx.1.1.2.2.2.2.1 ?_
      refine go_cv (as := []) 0 dX7_apart_34 mt_7_193 (Or.inr rfl) rfl rfl hc.1.1.1 hc.1.1.2.1 (Nat.le_of_ble_eq_true rfl) (Nat.le_of_ble_eq_true rfl) (Nat.le_of_ble_eq_true rfl) (Nat.le_of_ble_eq_true rfl) (Nat.le_of_ble_eq_true rfl) ?_
      refine me_X1_allBears hc2 ?_
      show bw_go _ _ _ _ _ _ _ 37 [(2, .int _), (1, .int _), (0, .ref _)] ((.int _) :: (.int _) :: []) _ _
      refine go_icmp_gt (pc' := 87) dX7_apart_37 rfl (fun c_37 => ?_) (fun c_37 => ?_)
      · -- gt at 37: yes
        exfalso; have t_0 := nI_toInt (n := k) (by omega); have t_1 := nI_toInt (n := 2 ^ cN (nowC S) - 1) (by omega); simp only [i_le, i_lt, i_eq, bi_eq] at c_37; omega
      · -- gt at 37: no
        show bw_go _ _ _ _ _ _ _ 40 [(2, .int _), (1, .int _), (0, .ref _)] ([]) _ _
        refine go_aload_n dX7_apart_40 rfl ?_
        refine go_gfr dX7_apart_41 fl_7_52 rfl hx.1.1.1 hx.1.1.2.1 hx.1.1.2.2.2.2.2.2.2.2.2.1 ?_
        refine go_aload_n dX7_apart_44 rfl ?_
        refine go_gfr dX7_apart_45 fl_7_24 rfl hx.1.1.1 hx.1.1.2.1 hx.1.1.2.2.2.2.1 ?_
        refine go_cv (as := []) 0 dX7_apart_48 mt_7_193 (Or.inr rfl) rfl rfl hc.1.1.1 hc.1.1.2.1 (Nat.le_of_ble_eq_true rfl) (Nat.le_of_ble_eq_true rfl) (Nat.le_of_ble_eq_true rfl) (Nat.le_of_ble_eq_true rfl) (Nat.le_of_ble_eq_true rfl) ?_
        refine me_X1_allBears hc2 ?_
        show bw_go _ _ _ _ _ _ _ 51 [(2, .int _), (1, .int _), (0, .ref _)] ((.int _) :: (.ref _) :: []) _ _
        refine go_iload_n dX7_apart_51 rfl ?_
        refine go_iconst (-1) dX7_apart_52 rfl ?_
        refine go_ixor dX7_apart_53 ?_
        refine go_iand dX7_apart_54 ?_
        rw [not_n k (by omega) (2 ^ cN (nowC S) - 1) (by omega)]
        refine go_cv (as := [.int _]) 1 dX7_apart_55 mt_7_224 (Or.inr rfl) rfl rfl hx.1.2.2.2.2.2.1.1.1 hx.1.2.2.2.2.2.1.1.2.1 (Nat.le_of_ble_eq_true rfl) (Nat.le_of_ble_eq_true rfl) (Nat.le_of_ble_eq_true rfl) (Nat.le_of_ble_eq_true rfl) (Nat.le_of_ble_eq_true rfl) ?_
        refine me_X5_hasRivals ht (Nat.lt_of_le_of_lt Nat.and_le_left (by omega)) ?_
        show bw_go _ _ _ _ _ _ _ 58 [(2, .int _), (1, .int _), (0, .ref _)] ((.int _) :: []) _ _
        refine go_ifb_ne (pc' := 65) dX7_apart_58 rfl (fun c_58 => ?_) (fun c_58 => ?_)
        · -- ne at 58: yes
          show bw_go _ _ _ _ _ _ _ 65 [(2, .int _), (1, .int _), (0, .ref _)] ([]) _ _
          refine go_iconst (0) dX7_apart_65 rfl ?_
          refine go_istore_n dX7_apart_66 (Nat.lt_of_lt_of_le (Nat.lt_succ_self _) (Nat.le_of_ble_eq_true rfl)) ?_
          show bw_go _ _ _ _ _ _ _ 67 [(3, .int _), (2, .int _), (1, .int _), (0, .ref _)] ([]) _ _
          refine go_iload_n dX7_apart_67 rfl ?_
          refine go_if_eq (pc' := 81) dX7_apart_68 rfl (fun _ => ?_) (fun c => absurd (by decide) c)
          show bw_go _ _ _ _ _ _ _ 81 [(3, .int _), (2, .int _), (1, .int _), (0, .ref _)] ([]) _ _
          refine go_iinc dX7_apart_81 rfl (nI_1 k) (Nat.lt_of_lt_of_le (Nat.lt_succ_self _) (Nat.le_of_ble_eq_true rfl)) ?_
          show bw_go _ _ _ _ _ _ _ 84 [(2, .int _), (3, .int _), (1, .int _), (0, .ref _)] ([]) _ _
          refine go_goto (pc' := 29) dX7_apart_84 rfl ?_
          refine go_ls [(2, .int _), (1, .int _), (0, .ref _)] (by show List.Nodup ([2, 1, 0] : List Nat); decide) (by show List.Nodup ([2, 3, 1, 0] : List Nat); decide) (le_cons rfl (le_cons rfl (le_cons rfl (le_nil _)))) ?_
          have e0 : bst (apP S) (k + 1) = if (apP S) k = true ∧ fw k (bst (apP S) k) = true then some k else bst (apP S) k := rfl
          have e1 : bst (apP S) (k + 1) = bst (apP S) k := by
            rw [e0]
            have c58 : riv (taC (nowC S)) ((2 ^ cN (nowC S) - 1) &&& (63 ^^^ k)) = true := c_58
            have hp1 : apP S k = false := by show (!riv (taC (nowC S)) ((2 ^ cN (nowC S) - 1) &&& (63 ^^^ k))) = false; rw [c58]; rfl
            exact if_neg (fun z => Bool.noConfusion (hp1.symm.trans z.1))
          rw [e1] at K
          exact K
        · -- ne at 58: no
          show bw_go _ _ _ _ _ _ _ 61 [(2, .int _), (1, .int _), (0, .ref _)] ([]) _ _
          refine go_iconst (1) dX7_apart_61 rfl ?_
          refine go_goto (pc' := 66) dX7_apart_62 rfl ?_
          show bw_go _ _ _ _ _ _ _ 66 [(2, .int _), (1, .int _), (0, .ref _)] ((.int _) :: []) _ _
          refine go_istore_n dX7_apart_66 (Nat.lt_of_lt_of_le (Nat.lt_succ_self _) (Nat.le_of_ble_eq_true rfl)) ?_
          show bw_go _ _ _ _ _ _ _ 67 [(3, .int _), (2, .int _), (1, .int _), (0, .ref _)] ([]) _ _
          refine go_iload_n dX7_apart_67 rfl ?_
          refine go_if_eq (pc' := 81) dX7_apart_68 rfl (fun c => absurd c (by decide)) (fun _ => ?_)
          show bw_go _ _ _ _ _ _ _ 71 [(3, .int _), (2, .int _), (1, .int _), (0, .ref _)] ([]) _ _
          refine go_iload_n dX7_apart_71 rfl ?_
          refine go_iload_n dX7_apart_72 rfl ?_
          refine go_cs (as := [.int _, .int _]) 1 dX7_apart_73 rfl rfl mt_7_218 (Nat.le_of_ble_eq_true rfl) rfl rfl (Nat.le_of_ble_eq_true rfl) (Nat.le_of_ble_eq_true rfl) (Nat.le_of_ble_eq_true rfl) (Nat.le_of_ble_eq_true rfl) ?_
          refine me_X7_isFewer (by omega) (fun x hx1 => by have := bst_lt hx1; omega) ?_
          show bw_go _ _ _ _ _ _ _ 76 [(3, .int _), (2, .int _), (1, .int _), (0, .ref _)] ((.int _) :: []) _ _
          refine go_ifb_eq (pc' := 81) dX7_apart_76 rfl (fun c_76 => ?_) (fun c_76 => ?_)
          · -- eq at 76: yes
            show bw_go _ _ _ _ _ _ _ 81 [(3, .int _), (2, .int _), (1, .int _), (0, .ref _)] ([]) _ _
            refine go_iinc dX7_apart_81 rfl (nI_1 k) (Nat.lt_of_lt_of_le (Nat.lt_succ_self _) (Nat.le_of_ble_eq_true rfl)) ?_
            show bw_go _ _ _ _ _ _ _ 84 [(2, .int _), (3, .int _), (1, .int _), (0, .ref _)] ([]) _ _
            refine go_goto (pc' := 29) dX7_apart_84 rfl ?_
            refine go_ls [(2, .int _), (1, .int _), (0, .ref _)] (by show List.Nodup ([2, 1, 0] : List Nat); decide) (by show List.Nodup ([2, 3, 1, 0] : List Nat); decide) (le_cons rfl (le_cons rfl (le_cons rfl (le_nil _)))) ?_
            have e0 : bst (apP S) (k + 1) = if (apP S) k = true ∧ fw k (bst (apP S) k) = true then some k else bst (apP S) k := rfl
            have e1 : bst (apP S) (k + 1) = bst (apP S) k := by
              rw [e0]
              exact if_neg (fun z => Bool.noConfusion (c_76.symm.trans z.2))
            rw [e1] at K
            exact K
          · -- eq at 76: no
            show bw_go _ _ _ _ _ _ _ 79 [(3, .int _), (2, .int _), (1, .int _), (0, .ref _)] ([]) _ _
            refine go_iload_n dX7_apart_79 rfl ?_
            refine go_istore_n dX7_apart_80 (Nat.lt_of_lt_of_le (Nat.lt_succ_self _) (Nat.le_of_ble_eq_true rfl)) ?_
            show bw_go _ _ _ _ _ _ _ 81 [(1, .int _), (3, .int _), (2, .int _), (0, .ref _)] ([]) _ _
            refine go_iinc dX7_apart_81 rfl (nI_1 k) (Nat.lt_of_lt_of_le (Nat.lt_succ_self _) (Nat.le_of_ble_eq_true rfl)) ?_
            show bw_go _ _ _ _ _ _ _ 84 [(2, .int _), (1, .int _), (3, .int _), (0, .ref _)] ([]) _ _
            refine go_goto (pc' := 29) dX7_apart_84 rfl ?_
            refine go_ls [(2, .int _), (1, .int _), (0, .ref _)] (by show List.Nodup ([2, 1, 0] : List Nat); decide) (by show List.Nodup ([2, 1, 3, 0] : List Nat); decide) (le_cons rfl (le_cons rfl (le_cons rfl (le_nil _)))) ?_
            have e0 : bst (apP S) (k + 1) = if (apP S) k = true ∧ fw k (bst (apP S) k) = true then some k else bst (apP S) k := rfl
            have e1 : bst (apP S) (k + 1) = some k := by
              rw [e0]
              have c58 : riv (taC (nowC S)) ((2 ^ cN (nowC S) - 1) &&& (63 ^^^ k)) = false := c_58
              have hp1 : apP S k = true := by show (!riv (taC (nowC S)) ((2 ^ cN (nowC S) - 1) &&& (63 ^^^ k))) = true; rw [c58]; rfl
              exact if_pos ⟨hp1, c_76⟩
            rw [e1] at K
            exact K
    · -- behind the last
      show bw_go _ _ _ _ _ _ _ 29 [(2, .int _), (1, .int _), (0, .ref _)] ([]) _ _
      refine go_iload_n dX7_apart_29 rfl ?_
      refine go_aload_n dX7_apart_30 rfl ?_
      refine go_gfr dX7_apart_31 fl_7_24 rfl hx.1.1.1 hx.1.1.2.1 hx.1.1.2.2.2.2.1 ?_
      refine go_cv (as := []) 0 dX7_apart_34 mt_7_193 (Or.inr rfl) rfl rfl hc.1.1.1 hc.1.1.2.1 (Nat.le_of_ble_eq_true rfl) (Nat.le_of_ble_eq_true rfl) (Nat.le_of_ble_eq_true rfl) (Nat.le_of_ble_eq_true rfl) (Nat.le_of_ble_eq_true rfl) ?_
      refine me_X1_allBears hc2 ?_
      show bw_go _ _ _ _ _ _ _ 37 [(2, .int _), (1, .int _), (0, .ref _)] ((.int _) :: (.int _) :: []) _ _
      refine go_icmp_gt (pc' := 87) dX7_apart_37 rfl (fun c_37 => ?_) (fun c_37 => ?_)
      · -- gt at 37: yes
        show bw_go _ _ _ _ _ _ _ 87 [(2, .int _), (1, .int _), (0, .ref _)] ([]) _ _
        have hP : apP S (2 ^ cN (nowC S) - 1) = true := by
          show (!riv (taC (nowC S)) ((2 ^ cN (nowC S) - 1) &&& (63 ^^^ (2 ^ cN (nowC S) - 1)))) = true
          rw [ap_last _ hN, riv_0]; rfl
        have hp0 : 0 < 2 ^ cN (nowC S) := Nat.two_pow_pos _
        obtain ⟨x, hx1⟩ : ∃ x, bst (apP S) (2 ^ cN (nowC S)) = some x := by
          cases e : bst (apP S) (2 ^ cN (nowC S)) with
          | none => exact absurd e (bst_s hP (by omega))
          | some x => exact ⟨x, rfl⟩
        have hxl := bst_lt hx1
        rw [hx1, show mtI (some x) = nI x from rfl]
        refine go_aload_n dX7_apart_87 rfl ?_
        refine go_iload_n dX7_apart_88 rfl ?_
        refine go_pfi dX7_apart_89 fl_7_76 rfl hx.1.1.1 hx.1.1.2.1 (Nat.le_of_ble_eq_true rfl) (Or.inl rfl) ?_
        show bw_go _ _ _ _ _ _ _ 92 [(2, .int _), (1, .int _), (0, .ref _)] ([]) _ _
        refine go_iload_n dX7_apart_92 rfl ?_
        refine go_cs (as := [.int _]) 0 dX7_apart_93 rfl rfl mt_7_197 (Nat.le_of_ble_eq_true rfl) rfl rfl (Nat.le_of_ble_eq_true rfl) (Nat.le_of_ble_eq_true rfl) (Nat.le_of_ble_eq_true rfl) (Nat.le_of_ble_eq_true rfl) ?_
        refine me_bitCount (by omega) ?_
        show bw_go _ _ _ _ _ _ _ 96 [(2, .int _), (1, .int _), (0, .ref _)] ((.int _) :: []) _ _
        refine go_iret dX7_apart_96 rfl rfl ?_
        refine q_x hQ ?_ (xr_la hx2 _) (frM_t hf2 (frM_wi rfl (fun q h1 h2 => ?_)))
        · unfold yApart
          rw [if_neg h0, hx1]
        · rw [i_si_o (by omega)]
      · -- gt at 37: no
        exfalso; have hp0 : 0 < 2 ^ cN (nowC S) := Nat.two_pow_pos _; have t_0 := nI_toInt (n := 2 ^ cN (nowC S)) (by omega); have t_1 := nI_toInt (n := 2 ^ cN (nowC S) - 1) (by omega); simp only [i_le, i_lt, i_eq, bi_eq] at c_37; omega
  · -- ne at 7: no
    show bw_go _ _ _ _ _ _ _ 10 [(0, .ref _)] ([]) _ _
    refine go_bipush (-4) dX7_apart_10 rfl ?_
    refine go_iret dX7_apart_12 rfl rfl ?_
    refine q_x hQ ?_ hx (frM_r h)
    unfold yApart
    rw [if_pos ((nI_eq (a := cN (nowC S)) (b := 0) (by omega) (by omega)).mp (Decidable.of_not_not c_7))]
