/-! BearWitness: the fewest that do -/
def fw (s : Nat) (b : Option Nat) : Bool := match b with
  | none => true
  | some x => decide (bc s < bc x)
def bst (P : Nat → Bool) : Nat → Option Nat
  | 0 => none
  | k + 1 => if P k = true ∧ fw k (bst P k) = true then some k else bst P k
theorem bst_lt {P : Nat → Bool} : ∀ {k x : Nat}, bst P k = some x → x < k
  | 0, x, h => by cases h
  | k + 1, x, h => by
    have h2 : (if P k = true ∧ fw k (bst P k) = true then some k else bst P k) = some x := h
    split at h2
    · cases h2; omega
    · exact Nat.lt_succ_of_lt (bst_lt h2)
theorem cnt_le6 (f : Nat → Bool) : ∀ k, cnt f k ≤ k
  | 0 => Nat.le_refl _
  | k + 1 => by
    have h1 := cnt_le6 f k
    show cnt f k + _ ≤ k + 1
    split <;> omega
theorem bc_lt (s : Nat) : bc s < 7 := Nat.lt_succ_of_le (cnt_le6 _ 6)
def cvP (S : ST) (y : Nat) : Nat → Bool := fun s => decide (tld (taC (nowC S)) s &&& y = y)
def yCover (x : Int32) (S : ST) : Int32 × ST := if 0 ≤ x.toInt ∧ x.toInt ≤ 63 then (if cN (nowC S) = 0 then (-4, S) else (match bst (cvP S (rn x)) (2 ^ cN (nowC S)) with
    | none => (-9, S)
    | some b => (nI (bc b), wQ S (nI b)))) else (-1, S)
set_option maxRecDepth 100000 in
set_option maxHeartbeats 4000000 in
theorem me_X7_isFewer {X : Nat × (Nat → Int32)} {Q : Option Value → bw_H → Prop} {h : bw_H} {s : Nat} {b : Option Nat} (hs : s < 64) (hb : ∀ x, b = some x → x < 64) (hQ : Q (some (.int (bi (fw s b)))) h) : bw_me X 1 bm_X7_isFewer false [.int (nI s), .int (mtI b)] h Q := by
  show bw_go _ 1 7 2 false (some .boolean) cX7_isFewer 0 [(0, .int _), (1, .int _)] [] _ _
  refine go_iload_n dX7_isFewer_0 rfl ?_
  refine go_bipush (-9) dX7_isFewer_1 rfl ?_
  refine go_icmp_eq (pc' := 17) dX7_isFewer_3 rfl (fun c_3 => ?_) (fun c_3 => ?_)
  · -- eq at 3: yes
    show bw_go _ _ _ _ _ _ _ 17 [(0, .int _), (1, .int _)] ([]) _ _
    refine go_iconst (1) dX7_isFewer_17 rfl ?_
    refine go_goto (pc' := 22) dX7_isFewer_18 rfl ?_
    show bw_go _ _ _ _ _ _ _ 22 [(0, .int _), (1, .int _)] ((.int _) :: []) _ _
    refine go_iret dX7_isFewer_22 rfl rfl ?_
    have e1 := (mtI_9 (fun p hp => by have := hb p hp; omega)).mp c_3
    subst e1
    exact hQ
  · -- eq at 3: no
    show bw_go _ _ _ _ _ _ _ 6 [(0, .int _), (1, .int _)] ([]) _ _
    obtain ⟨x, rfl⟩ : ∃ x, b = some x := by
      cases b with
      | none => exact absurd rfl c_3
      | some x => exact ⟨x, rfl⟩
    have hx := hb x rfl
    have b1 := bc_lt s
    have b2 := bc_lt x
    have t_0 := nI_toInt (n := bc s) (by omega)
    have t_1 := nI_toInt (n := bc x) (by omega)
    refine go_iload_n dX7_isFewer_6 rfl ?_
    refine go_cs (as := [.int _]) 0 dX7_isFewer_7 rfl rfl mt_7_197 (Nat.le_of_ble_eq_true rfl) rfl rfl (Nat.le_of_ble_eq_true rfl) (Nat.le_of_ble_eq_true rfl) (Nat.le_of_ble_eq_true rfl) (Nat.le_of_ble_eq_true rfl) ?_
    refine me_bitCount hs ?_
    show bw_go _ _ _ _ _ _ _ 10 [(0, .int _), (1, .int _)] ((.int _) :: []) _ _
    refine go_iload_n dX7_isFewer_10 rfl ?_
    refine go_cs (as := [.int _]) 0 dX7_isFewer_11 rfl rfl mt_7_197 (Nat.le_of_ble_eq_true rfl) rfl rfl (Nat.le_of_ble_eq_true rfl) (Nat.le_of_ble_eq_true rfl) (Nat.le_of_ble_eq_true rfl) (Nat.le_of_ble_eq_true rfl) ?_
    rw [show mtI (some x) = nI x from rfl]
    refine me_bitCount hx ?_
    show bw_go _ _ _ _ _ _ _ 14 [(0, .int _), (1, .int _)] ((.int _) :: (.int _) :: []) _ _
    refine go_icmp_ge (pc' := 21) dX7_isFewer_14 rfl (fun c_14 => ?_) (fun c_14 => ?_)
    · -- ge at 14: yes
      show bw_go _ _ _ _ _ _ _ 21 [(0, .int _), (1, .int _)] ([]) _ _
      refine go_iconst (0) dX7_isFewer_21 rfl ?_
      refine go_iret dX7_isFewer_22 rfl rfl ?_
      simp only [i_le] at c_14
      exact bi_0 (decide_eq_false (by omega)) hQ
    · -- ge at 14: no
      show bw_go _ _ _ _ _ _ _ 17 [(0, .int _), (1, .int _)] ([]) _ _
      refine go_iconst (1) dX7_isFewer_17 rfl ?_
      refine go_goto (pc' := 22) dX7_isFewer_18 rfl ?_
      show bw_go _ _ _ _ _ _ _ 22 [(0, .int _), (1, .int _)] ((.int _) :: []) _ _
      refine go_iret dX7_isFewer_22 rfl rfl ?_
      simp only [i_le] at c_14
      exact bi_1 (decide_eq_true (by omega)) hQ
set_option maxRecDepth 100000 in
set_option maxHeartbeats 4000000 in
theorem me_X7_cover {X : Nat × (Nat → Int32)} {Q : Option Value → bw_H → Prop} {h : bw_H} {S : ST} {x : Int32} (hx : XR h S) (hQ : PX h Q (yCover x S)) : bw_me X 4 bm_X7_cover false [.ref 0, .int x] h Q := by
  have hc : bw_ct h 11 (nowC S) := hx.2.2.2.1.1.1
  have hN := hc.2.2.1
  show bw_go _ 4 7 5 false (some .int) cX7_cover 0 [(0, .ref _), (1, .int _)] [] _ _
  refine go_iload_n dX7_cover_0 rfl ?_
  refine go_if_lt (pc' := 10) dX7_cover_1 rfl (fun c_1 => ?_) (fun c_1 => ?_)
  · -- lt at 1: yes
    show bw_go _ _ _ _ _ _ _ 10 [(0, .ref _), (1, .int _)] ([]) _ _
    refine go_iconst (-1) dX7_cover_10 rfl ?_
    refine go_iret dX7_cover_11 rfl rfl ?_
    refine q_x hQ ?_ hx (frM_r h)
    unfold yCover
    have l_0 := i_0
    simp only [i_lt] at c_1
    rw [if_neg (by omega)]
  · -- lt at 1: no
    show bw_go _ _ _ _ _ _ _ 4 [(0, .ref _), (1, .int _)] ([]) _ _
    refine go_iload_n dX7_cover_4 rfl ?_
    refine go_bipush (63) dX7_cover_5 rfl ?_
    refine go_icmp_le (pc' := 12) dX7_cover_7 rfl (fun c_7 => ?_) (fun c_7 => ?_)
    · -- le at 7: yes
      show bw_go _ _ _ _ _ _ _ 12 [(0, .ref _), (1, .int _)] ([]) _ _
      have hxr : 0 ≤ x.toInt ∧ x.toInt ≤ 63 := by have l_0 := i_0; have l_63 : (63 : Int32).toInt = 63 := rfl; simp only [i_lt] at c_1; simp only [i_le] at c_7; omega
      obtain ⟨y, hy, rfl⟩ := isn_ex (r := x) (num := 64) (decide_eq_true (by omega)) (by decide)
      refine go_aload_n dX7_cover_12 rfl ?_
      refine go_gfr dX7_cover_13 fl_7_24 rfl hx.1.1.1 hx.1.1.2.1 hx.1.1.2.2.2.2.1 ?_
      refine go_gfi dX7_cover_16 fl_7_141 rfl hc.1.1.1 hc.1.1.2.1 ?_
      rw [hc.2.1.1]
      refine go_if_ne (pc' := 25) dX7_cover_19 rfl (fun c_19 => ?_) (fun c_19 => ?_)
      · -- ne at 19: yes
        show bw_go _ _ _ _ _ _ _ 25 [(0, .ref _), (1, .int _)] ([]) _ _
        refine go_aload_n dX7_cover_25 rfl ?_
        refine go_gfr dX7_cover_26 fl_7_52 rfl hx.1.1.1 hx.1.1.2.1 hx.1.1.2.2.2.2.2.2.2.2.2.1 ?_
        refine go_aload_n dX7_cover_29 rfl ?_
        refine go_gfr dX7_cover_30 fl_7_24 rfl hx.1.1.1 hx.1.1.2.1 hx.1.1.2.2.2.2.1 ?_
        refine go_cv (as := [.ref _]) 3 dX7_cover_33 mt_7_184 (Or.inr rfl) rfl rfl hx.1.2.2.2.2.2.1.1.1 hx.1.2.2.2.2.2.1.1.2.1 (Nat.le_of_ble_eq_true rfl) (Nat.le_of_ble_eq_true rfl) (Nat.le_of_ble_eq_true rfl) (Nat.le_of_ble_eq_true rfl) (Nat.le_of_ble_eq_true rfl) ?_
        refine me_X5_hear hx.1.2.2.2.2.2.1 hc (Or.inr (by decide)) (fun I hI => ?_)
        have hx2 : XR (bw_wi h I) S := xr_sc hx (fun q hq => hI.2 q (by omega) (by omega) (by omega))
        have hf2 : frM h (bw_wi h I) := frM_wi rfl (fun q h1 h2 => hI.2 q (by omega) (by omega) (by omega))
        have ht : bw_ta (bw_wi h I) 46 (taC (nowC S)) := hI.1
        have h2N := p2N hN
        have hc2 : bw_ct (bw_wi h I) 11 (nowC S) := hx2.2.2.2.1.1.1
        have h0 : ¬ cN (nowC S) = 0 := fun z => c_19 ((nI_eq (a := cN (nowC S)) (b := 0) (by omega) (by omega)).mpr z)
        show bw_go _ _ _ _ _ _ _ 36 [(0, .ref _), (1, .int _)] ([]) _ _
        refine go_bipush (-9) dX7_cover_36 rfl ?_
        refine go_istore_n dX7_cover_38 (Nat.lt_of_lt_of_le (Nat.lt_succ_self _) (Nat.le_of_ble_eq_true rfl)) ?_
        show bw_go _ _ _ _ _ _ _ 39 [(2, .int _), (0, .ref _), (1, .int _)] ([]) _ _
        refine go_iconst (0) dX7_cover_39 rfl ?_
        refine go_istore_n dX7_cover_40 (Nat.lt_of_lt_of_le (Nat.lt_succ_self _) (Nat.le_of_ble_eq_true rfl)) ?_
        show bw_go _ _ _ _ _ _ _ 41 [(3, .int _), (2, .int _), (0, .ref _), (1, .int _)] ([]) _ _
        refine go_for (P := fun k => bw_go X 4 7 5 false (some .int) cX7_cover 41 [(3, .int (nI k)), (2, .int (mtI (bst (cvP S y) k))), (0, .ref (0)), (1, .int (nI y))] [] (bw_wi h I) Q) (N := 2 ^ cN (nowC S)) (fun k hk K => ?_) ?_ (0) (Nat.zero_le _)
        · -- a turn
          show bw_go _ _ _ _ _ _ _ 41 [(3, .int _), (2, .int _), (0, .ref _), (1, .int _)] ([]) _ _
          refine go_iload_n dX7_cover_41 rfl ?_
          refine go_aload_n dX7_cover_42 rfl ?_
          refine go_gfr dX7_cover_43 fl_7_24 rfl hx.1.1.1 hx.1.1.2.1 hx.1.1.2.2.2.2.1 ?_
          refine go_cv (as := []) 0 dX7_cover_46 mt_7_193 (Or.inr rfl) rfl rfl hc.1.1.1 hc.1.1.2.1 (Nat.le_of_ble_eq_true rfl) (Nat.le_of_ble_eq_true rfl) (Nat.le_of_ble_eq_true rfl) (Nat.le_of_ble_eq_true rfl) (Nat.le_of_ble_eq_true rfl) ?_
          refine me_X1_allBears hc2 ?_
          show bw_go _ _ _ _ _ _ _ 49 [(3, .int _), (2, .int _), (0, .ref _), (1, .int _)] ((.int _) :: (.int _) :: []) _ _
          refine go_icmp_gt (pc' := 94) dX7_cover_49 rfl (fun c_49 => ?_) (fun c_49 => ?_)
          · -- gt at 49: yes
            exfalso; have t_0 := nI_toInt (n := k) (by omega); have t_1 := nI_toInt (n := 2 ^ cN (nowC S) - 1) (by omega); simp only [i_le, i_lt, i_eq, bi_eq] at c_49; omega
          · -- gt at 49: no
            show bw_go _ _ _ _ _ _ _ 52 [(3, .int _), (2, .int _), (0, .ref _), (1, .int _)] ([]) _ _
            refine go_aload_n dX7_cover_52 rfl ?_
            refine go_gfr dX7_cover_53 fl_7_52 rfl hx.1.1.1 hx.1.1.2.1 hx.1.1.2.2.2.2.2.2.2.2.2.1 ?_
            refine go_iload_n dX7_cover_56 rfl ?_
            refine go_cv (as := [.int _]) 1 dX7_cover_57 mt_7_215 (Or.inr rfl) rfl rfl hx.1.2.2.2.2.2.1.1.1 hx.1.2.2.2.2.2.1.1.2.1 (Nat.le_of_ble_eq_true rfl) (Nat.le_of_ble_eq_true rfl) (Nat.le_of_ble_eq_true rfl) (Nat.le_of_ble_eq_true rfl) (Nat.le_of_ble_eq_true rfl) ?_
            refine me_X5_toldBy ht (by omega) ?_
            show bw_go _ _ _ _ _ _ _ 60 [(3, .int _), (2, .int _), (0, .ref _), (1, .int _)] ((.int _) :: []) _ _
            refine go_iload_n dX7_cover_60 rfl ?_
            refine go_iand dX7_cover_61 ?_
            rw [and_n]
            refine go_iload_n dX7_cover_62 rfl ?_
            refine go_icmp_ne (pc' := 70) dX7_cover_63 rfl (fun c_63 => ?_) (fun c_63 => ?_)
            · -- ne at 63: yes
              show bw_go _ _ _ _ _ _ _ 70 [(3, .int _), (2, .int _), (0, .ref _), (1, .int _)] ([]) _ _
              refine go_iconst (0) dX7_cover_70 rfl ?_
              refine go_istore dX7_cover_71 (Nat.lt_of_lt_of_le (Nat.lt_succ_self _) (Nat.le_of_ble_eq_true rfl)) ?_
              show bw_go _ _ _ _ _ _ _ 73 [(4, .int _), (3, .int _), (2, .int _), (0, .ref _), (1, .int _)] ([]) _ _
              refine go_iload dX7_cover_73 rfl ?_
              refine go_if_eq (pc' := 88) dX7_cover_75 rfl (fun _ => ?_) (fun c => absurd (by decide) c)
              show bw_go _ _ _ _ _ _ _ 88 [(4, .int _), (3, .int _), (2, .int _), (0, .ref _), (1, .int _)] ([]) _ _
              refine go_iinc dX7_cover_88 rfl (nI_1 k) (Nat.lt_of_lt_of_le (Nat.lt_succ_self _) (Nat.le_of_ble_eq_true rfl)) ?_
              show bw_go _ _ _ _ _ _ _ 91 [(3, .int _), (4, .int _), (2, .int _), (0, .ref _), (1, .int _)] ([]) _ _
              refine go_goto (pc' := 41) dX7_cover_91 rfl ?_
              refine go_ls [(3, .int _), (2, .int _), (0, .ref _), (1, .int _)] (by show List.Nodup ([3, 2, 0, 1] : List Nat); decide) (by show List.Nodup ([3, 4, 2, 0, 1] : List Nat); decide) (le_cons rfl (le_cons rfl (le_cons rfl (le_cons rfl (le_nil _))))) ?_
              have e0 : bst (cvP S y) (k + 1) = if (cvP S y) k = true ∧ fw k (bst (cvP S y) k) = true then some k else bst (cvP S y) k := rfl
              have htl : tld (taC (nowC S)) k &&& y < 64 := Nat.lt_of_le_of_lt Nat.and_le_right (by omega)
              have hiff : (nI (tld (taC (nowC S)) k &&& y) = nI y) ↔ tld (taC (nowC S)) k &&& y = y := nI_eq (by omega) (by omega)
              have e1 : bst (cvP S y) (k + 1) = bst (cvP S y) k := by
                rw [e0]
                exact if_neg (fun z => c_63 (hiff.mpr (of_decide_eq_true z.1)))
              rw [e1] at K
              exact K
            · -- ne at 63: no
              show bw_go _ _ _ _ _ _ _ 66 [(3, .int _), (2, .int _), (0, .ref _), (1, .int _)] ([]) _ _
              refine go_iconst (1) dX7_cover_66 rfl ?_
              refine go_goto (pc' := 71) dX7_cover_67 rfl ?_
              show bw_go _ _ _ _ _ _ _ 71 [(3, .int _), (2, .int _), (0, .ref _), (1, .int _)] ((.int _) :: []) _ _
              refine go_istore dX7_cover_71 (Nat.lt_of_lt_of_le (Nat.lt_succ_self _) (Nat.le_of_ble_eq_true rfl)) ?_
              show bw_go _ _ _ _ _ _ _ 73 [(4, .int _), (3, .int _), (2, .int _), (0, .ref _), (1, .int _)] ([]) _ _
              refine go_iload dX7_cover_73 rfl ?_
              refine go_if_eq (pc' := 88) dX7_cover_75 rfl (fun c => absurd c (by decide)) (fun _ => ?_)
              show bw_go _ _ _ _ _ _ _ 78 [(4, .int _), (3, .int _), (2, .int _), (0, .ref _), (1, .int _)] ([]) _ _
              refine go_iload_n dX7_cover_78 rfl ?_
              refine go_iload_n dX7_cover_79 rfl ?_
              refine go_cs (as := [.int _, .int _]) 1 dX7_cover_80 rfl rfl mt_7_218 (Nat.le_of_ble_eq_true rfl) rfl rfl (Nat.le_of_ble_eq_true rfl) (Nat.le_of_ble_eq_true rfl) (Nat.le_of_ble_eq_true rfl) (Nat.le_of_ble_eq_true rfl) ?_
              refine me_X7_isFewer (by omega) (fun x hx1 => by have := bst_lt hx1; omega) ?_
              show bw_go _ _ _ _ _ _ _ 83 [(4, .int _), (3, .int _), (2, .int _), (0, .ref _), (1, .int _)] ((.int _) :: []) _ _
              refine go_ifb_eq (pc' := 88) dX7_cover_83 rfl (fun c_83 => ?_) (fun c_83 => ?_)
              · -- eq at 83: yes
                show bw_go _ _ _ _ _ _ _ 88 [(4, .int _), (3, .int _), (2, .int _), (0, .ref _), (1, .int _)] ([]) _ _
                refine go_iinc dX7_cover_88 rfl (nI_1 k) (Nat.lt_of_lt_of_le (Nat.lt_succ_self _) (Nat.le_of_ble_eq_true rfl)) ?_
                show bw_go _ _ _ _ _ _ _ 91 [(3, .int _), (4, .int _), (2, .int _), (0, .ref _), (1, .int _)] ([]) _ _
                refine go_goto (pc' := 41) dX7_cover_91 rfl ?_
                refine go_ls [(3, .int _), (2, .int _), (0, .ref _), (1, .int _)] (by show List.Nodup ([3, 2, 0, 1] : List Nat); decide) (by show List.Nodup ([3, 4, 2, 0, 1] : List Nat); decide) (le_cons rfl (le_cons rfl (le_cons rfl (le_cons rfl (le_nil _))))) ?_
                have e0 : bst (cvP S y) (k + 1) = if (cvP S y) k = true ∧ fw k (bst (cvP S y) k) = true then some k else bst (cvP S y) k := rfl
                have htl : tld (taC (nowC S)) k &&& y < 64 := Nat.lt_of_le_of_lt Nat.and_le_right (by omega)
                have hiff : (nI (tld (taC (nowC S)) k &&& y) = nI y) ↔ tld (taC (nowC S)) k &&& y = y := nI_eq (by omega) (by omega)
                have e1 : bst (cvP S y) (k + 1) = bst (cvP S y) k := by
                  rw [e0]
                  exact if_neg (fun z => Bool.noConfusion (c_83.symm.trans z.2))
                rw [e1] at K
                exact K
              · -- eq at 83: no
                show bw_go _ _ _ _ _ _ _ 86 [(4, .int _), (3, .int _), (2, .int _), (0, .ref _), (1, .int _)] ([]) _ _
                refine go_iload_n dX7_cover_86 rfl ?_
                refine go_istore_n dX7_cover_87 (Nat.lt_of_lt_of_le (Nat.lt_succ_self _) (Nat.le_of_ble_eq_true rfl)) ?_
                show bw_go _ _ _ _ _ _ _ 88 [(2, .int _), (4, .int _), (3, .int _), (0, .ref _), (1, .int _)] ([]) _ _
                refine go_iinc dX7_cover_88 rfl (nI_1 k) (Nat.lt_of_lt_of_le (Nat.lt_succ_self _) (Nat.le_of_ble_eq_true rfl)) ?_
                show bw_go _ _ _ _ _ _ _ 91 [(3, .int _), (2, .int _), (4, .int _), (0, .ref _), (1, .int _)] ([]) _ _
                refine go_goto (pc' := 41) dX7_cover_91 rfl ?_
                refine go_ls [(3, .int _), (2, .int _), (0, .ref _), (1, .int _)] (by show List.Nodup ([3, 2, 0, 1] : List Nat); decide) (by show List.Nodup ([3, 2, 4, 0, 1] : List Nat); decide) (le_cons rfl (le_cons rfl (le_cons rfl (le_cons rfl (le_nil _))))) ?_
                have e0 : bst (cvP S y) (k + 1) = if (cvP S y) k = true ∧ fw k (bst (cvP S y) k) = true then some k else bst (cvP S y) k := rfl
                have htl : tld (taC (nowC S)) k &&& y < 64 := Nat.lt_of_le_of_lt Nat.and_le_right (by omega)
                have hiff : (nI (tld (taC (nowC S)) k &&& y) = nI y) ↔ tld (taC (nowC S)) k &&& y = y := nI_eq (by omega) (by omega)
                have e1 : bst (cvP S y) (k + 1) = some k := by
                  rw [e0]
                  exact if_pos ⟨decide_eq_true (hiff.mp (Decidable.of_not_not c_63)), c_83⟩
                rw [e1] at K
                exact K
        · -- behind the last
          show bw_go _ _ _ _ _ _ _ 41 [(3, .int _), (2, .int _), (0, .ref _), (1, .int _)] ([]) _ _
          refine go_iload_n dX7_cover_41 rfl ?_
          refine go_aload_n dX7_cover_42 rfl ?_
          refine go_gfr dX7_cover_43 fl_7_24 rfl hx.1.1.1 hx.1.1.2.1 hx.1.1.2.2.2.2.1 ?_
          refine go_cv (as := []) 0 dX7_cover_46 mt_7_193 (Or.inr rfl) rfl rfl hc.1.1.1 hc.1.1.2.1 (Nat.le_of_ble_eq_true rfl) (Nat.le_of_ble_eq_true rfl) (Nat.le_of_ble_eq_true rfl) (Nat.le_of_ble_eq_true rfl) (Nat.le_of_ble_eq_true rfl) ?_
          refine me_X1_allBears hc2 ?_
          show bw_go _ _ _ _ _ _ _ 49 [(3, .int _), (2, .int _), (0, .ref _), (1, .int _)] ((.int _) :: (.int _) :: []) _ _
          refine go_icmp_gt (pc' := 94) dX7_cover_49 rfl (fun c_49 => ?_) (fun c_49 => ?_)
          · -- gt at 49: yes
            show bw_go _ _ _ _ _ _ _ 94 [(3, .int _), (2, .int _), (0, .ref _), (1, .int _)] ([]) _ _
            refine go_iload_n dX7_cover_94 rfl ?_
            refine go_bipush (-9) dX7_cover_95 rfl ?_
            refine go_icmp_ne (pc' := 103) dX7_cover_97 rfl (fun c_97 => ?_) (fun c_97 => ?_)
            · -- ne at 97: yes
              show bw_go _ _ _ _ _ _ _ 103 [(3, .int _), (2, .int _), (0, .ref _), (1, .int _)] ([]) _ _
              refine go_aload_n dX7_cover_103 rfl ?_
              refine go_iload_n dX7_cover_104 rfl ?_
              refine go_pfi dX7_cover_105 fl_7_76 rfl hx.1.1.1 hx.1.1.2.1 (Nat.le_of_ble_eq_true rfl) (Or.inl rfl) ?_
              show bw_go _ _ _ _ _ _ _ 108 [(3, .int _), (2, .int _), (0, .ref _), (1, .int _)] ([]) _ _
              refine go_iload_n dX7_cover_108 rfl ?_
              refine go_cs (as := [.int _]) 0 dX7_cover_109 rfl rfl mt_7_197 (Nat.le_of_ble_eq_true rfl) rfl rfl (Nat.le_of_ble_eq_true rfl) (Nat.le_of_ble_eq_true rfl) (Nat.le_of_ble_eq_true rfl) (Nat.le_of_ble_eq_true rfl) ?_
              obtain ⟨x, hx1⟩ : ∃ x, bst (cvP S y) (2 ^ cN (nowC S)) = some x := by
                cases e : bst (cvP S y) (2 ^ cN (nowC S)) with
                | none => rw [e] at c_97; exact absurd rfl c_97
                | some x => exact ⟨x, rfl⟩
              have hxl := bst_lt hx1
              rw [hx1, show mtI (some x) = nI x from rfl]
              refine me_bitCount (by omega) ?_
              show bw_go _ _ _ _ _ _ _ 112 [(3, .int _), (2, .int _), (0, .ref _), (1, .int _)] ((.int _) :: []) _ _
              refine go_iret dX7_cover_112 rfl rfl ?_
              refine q_x hQ ?_ (xr_la hx2 _) (frM_t hf2 (frM_wi rfl (fun q h1 h2 => ?_)))
              · unfold yCover
                rw [if_pos hxr, if_neg h0, rn_n (by omega), hx1]
              · rw [i_si_o (by omega)]
            · -- ne at 97: no
              show bw_go _ _ _ _ _ _ _ 100 [(3, .int _), (2, .int _), (0, .ref _), (1, .int _)] ([]) _ _
              refine go_bipush (-9) dX7_cover_100 rfl ?_
              refine go_iret dX7_cover_102 rfl rfl ?_
              have hnone := (mtI_9 (fun p hp => by have := bst_lt hp; omega)).mp (Decidable.of_not_not c_97)
              refine q_x hQ ?_ hx2 hf2
              unfold yCover
              rw [if_pos hxr, if_neg h0, rn_n (by omega), hnone]
          · -- gt at 49: no
            exfalso; have hp0 : 0 < 2 ^ cN (nowC S) := Nat.two_pow_pos _; have t_0 := nI_toInt (n := 2 ^ cN (nowC S)) (by omega); have t_1 := nI_toInt (n := 2 ^ cN (nowC S) - 1) (by omega); simp only [i_le, i_lt, i_eq, bi_eq] at c_49; omega
      · -- ne at 19: no
        show bw_go _ _ _ _ _ _ _ 22 [(0, .ref _), (1, .int _)] ([]) _ _
        refine go_bipush (-4) dX7_cover_22 rfl ?_
        refine go_iret dX7_cover_24 rfl rfl ?_
        refine q_x hQ ?_ hx (frM_r h)
        unfold yCover
        rw [if_pos hxr, if_pos ((nI_eq (a := cN (nowC S)) (b := 0) (by omega) (by omega)).mp (Decidable.of_not_not c_19))]
    · -- le at 7: no
      show bw_go _ _ _ _ _ _ _ 10 [(0, .ref _), (1, .int _)] ([]) _ _
      refine go_iconst (-1) dX7_cover_10 rfl ?_
      refine go_iret dX7_cover_11 rfl rfl ?_
      refine q_x hQ ?_ hx (frM_r h)
      unfold yCover
      have l_0 := i_0
      have l_3 : (63 : Int32).toInt = 63 := rfl
      simp only [i_le] at c_7
      rw [if_neg (by omega)]
