/-! Trial: fewest presses; by turns -/
def fpr (A : TT) : Option (List Nat) := fs1 (fun n => pon n A 0) 0 5
def fpv (o : Option (List Nat)) : Int32 := match o with
  | some l => nI l.length
  | none => -9
theorem fs_len {A : TT} : ∀ (m i : Nat) (l : List Nat), fs1 (fun n => pon n A 0) i m = some l → i ≤ l.length ∧ l.length < i + m
  | 0, i, l, h => by cases h
  | m + 1, i, l, h => by
    cases hp : pon i A 0 with
    | none => rw [fs_no (g := fun n => pon n A 0) hp] at h; have := fs_len m (i + 1) l h; omega
    | some x => rw [fs_yes (g := fun n => pon n A 0) hp] at h; cases h; have := pon_len _ _ _ _ hp; omega
set_option maxRecDepth 100000 in
set_option maxHeartbeats 4000000 in
theorem me_X6_fewestPresses {X : Nat × (Nat → Int32)} {Q : Option Value → bw_H → Prop} {h : bw_H} {p : Nat} {A : TT} (hc : bw_tt h p A) (hQ : ∀ I : Nat → Nat → Int32, po_i h p 0 A I → (∀ l, fpr A = some l → ∀ j, j < l.length → I (p + 6) j = nI (l.getD j 0)) → Q (some (.int (fpv (fpr A)))) (bw_wi h I)) : bw_me X 8 bm_X6_fewestPresses false [.ref p] h Q := by
  show bw_go _ 8 6 2 false (some .int) cX6_fewestPresses 0 [(0, .ref _)] [] _ _
  refine go_iconst (0) dX6_fewestPresses_0 rfl ?_
  refine go_istore_n dX6_fewestPresses_1 (Nat.lt_of_lt_of_le (Nat.lt_succ_self _) (Nat.le_of_ble_eq_true rfl)) ?_
  show bw_go _ _ _ _ _ _ _ 2 [(1, .int _), (0, .ref _)] ([]) _ _
  have hv0 : (h = bw_wi h (bw_i h) ∧ po_i h p 0 A (bw_i h)) ∧ fpr A = fs1 (fun n => pon n A 0) 0 (5 - 0) := ⟨⟨rfl, hc, fun _ _ _ _ => rfl, fun _ _ => rfl⟩, rfl⟩
  refine go_for (P := fun i => ∀ g : bw_H, ((g = bw_wi h (bw_i g) ∧ po_i h p 0 A (bw_i g)) ∧ fpr A = fs1 (fun n => pon n A 0) i (5 - i)) → bw_go X 8 6 2 false (some .int) cX6_fewestPresses 2 [(1, .int (nI i)), (0, .ref (p))] [] g Q) (N := 5) (fun i hi K => ?_) ?_ (0) (Nat.zero_le _) h hv0
  · -- a turn
    intro g hv
    obtain ⟨⟨hg, hp1, hp2, hp3⟩, hv4⟩ := hv
    have hc : bw_tt g p A := by rw [hg]; exact hp1
    rw [show 5 - i = (5 - (i + 1)) + 1 by omega] at hv4
    show bw_go _ _ _ _ _ _ _ 2 [(1, .int _), (0, .ref _)] ([]) _ _
    refine go_iload_n dX6_fewestPresses_2 rfl ?_
    refine go_iconst (4) dX6_fewestPresses_3 rfl ?_
    refine go_icmp_gt (pc' := 25) dX6_fewestPresses_4 rfl (fun c_4 => ?_) (fun c_4 => ?_)
    · -- gt at 4: yes
      exfalso; have t_0 := nI_toInt (n := i) (by omega); have l_0 : (4 : Int32).toInt = 4 := rfl; simp only [i_le, i_lt, i_eq, bi_eq] at c_4; omega
    · -- gt at 4: no
      show bw_go _ _ _ _ _ _ _ 7 [(1, .int _), (0, .ref _)] ([]) _ _
      refine go_aload_n dX6_fewestPresses_7 rfl ?_
      refine go_iconst (0) dX6_fewestPresses_8 rfl ?_
      refine go_iload_n dX6_fewestPresses_9 rfl ?_
      refine go_iconst (0) dX6_fewestPresses_10 rfl ?_
      refine go_cv (as := [.int _, .int _, .int _]) 7 dX6_fewestPresses_11 mt_6_73 (Or.inl rfl) rfl rfl hc.1.1.1 hc.1.1.2.1 (Nat.le_of_ble_eq_true rfl) (Nat.le_of_ble_eq_true rfl) (Nat.le_of_ble_eq_true rfl) (Nat.le_of_ble_eq_true rfl) (Nat.le_of_ble_eq_true rfl) ?_
      rw [show nI i = nI (0 + i) by rw [Nat.zero_add]]
      refine bw_me_mono (d := 3 + i) (by omega) (press_rec i (dp := 0) (f := 0) hc (by omega) (Nat.zero_le _) (fun I1 hI1 => ?_))
      rw [Nat.zero_add]
      have hpo : po_i h p 0 A I1 := ⟨by have := hI1.1.1; rw [hg] at this; exact this, fun q h1 h2 h3 => by rw [hI1.1.2.1 q h1 h2 h3]; exact hp2 q h1 h2 h3, fun j hj => absurd hj (Nat.not_lt_zero j)⟩
      show bw_go _ _ _ _ _ _ _ 14 [(1, .int _), (0, .ref _)] ((.int _) :: []) _ _
      refine go_ifb_eq (pc' := 19) dX6_fewestPresses_14 rfl (fun c_14 => ?_) (fun c_14 => ?_)
      · -- eq at 14: yes
        show bw_go _ _ _ _ _ _ _ 19 [(1, .int _), (0, .ref _)] ([]) _ _
        refine go_iinc dX6_fewestPresses_19 rfl (nI_1 i) (Nat.lt_of_lt_of_le (Nat.lt_succ_self _) (Nat.le_of_ble_eq_true rfl)) ?_
        show bw_go _ _ _ _ _ _ _ 22 [(1, .int _), (0, .ref _)] ([]) _ _
        refine go_goto (pc' := 2) dX6_fewestPresses_22 rfl ?_
        refine K _ ⟨⟨by rw [hg]; rfl, hpo⟩, ?_⟩
        rw [hv4, fs_no (g := fun n => pon n A 0) (show pon i A 0 = none from Option.isNone_iff_eq_none.mp (Option.isSome_eq_false_iff.mp c_14))]
      · -- eq at 14: no
        show bw_go _ _ _ _ _ _ _ 17 [(1, .int _), (0, .ref _)] ([]) _ _
        refine go_iload_n dX6_fewestPresses_17 rfl ?_
        refine go_iret dX6_fewestPresses_18 rfl rfl ?_
        obtain ⟨l, hl⟩ := Option.isSome_iff_exists.mp c_14
        rw [fs_yes (g := fun n => pon n A 0) hl] at hv4
        have hlen := pon_len _ _ _ _ hl
        have hq := hQ I1 hpo (fun l' hl' j hj => ?_)
        · rw [hv4] at hq
          subst hlen
          rw [hg]; exact hq
        · rw [hv4] at hl'
          cases hl'
          have := hI1.2 l hl j (by omega)
          rw [Nat.zero_add] at this
          exact this
  · -- behind the last
    intro g hv
    obtain ⟨⟨hg, hp1, hp2, hp3⟩, hv4⟩ := hv
    show bw_go _ _ _ _ _ _ _ 2 [(1, .int _), (0, .ref _)] ([]) _ _
    refine go_iload_n dX6_fewestPresses_2 rfl ?_
    refine go_iconst (4) dX6_fewestPresses_3 rfl ?_
    refine go_icmp_gt (pc' := 25) dX6_fewestPresses_4 rfl (fun c_4 => ?_) (fun c_4 => ?_)
    · -- gt at 4: yes
      show bw_go _ _ _ _ _ _ _ 25 [(1, .int _), (0, .ref _)] ([]) _ _
      refine go_bipush (-9) dX6_fewestPresses_25 rfl ?_
      refine go_iret dX6_fewestPresses_27 rfl rfl ?_
      have hv4 : fpr A = none := hv4
      have hq := hQ (bw_i g) ⟨hp1, hp2, hp3⟩ (fun l hl => by rw [hv4] at hl; cases hl)
      rw [hv4] at hq
      rw [hg]; exact hq
    · -- gt at 4: no
      exfalso; have t_0 := nI_toInt (n := 5) (by omega); have l_0 : (4 : Int32).toInt = 4 := rfl; simp only [i_le, i_lt, i_eq, bi_eq] at c_4; omega
/-- what 'more' comes to by best play, so many turns left -/
def plv : Nat → TT → Int
  | 0, A => mor A.1 A.2.2.1 A.2.2.2
  | t + 1, A => Nat.rec (plv t A) (fun k b => if (t + 1) % 2 = 0 then (if (A.2.1.testBit k && decide (0 < A.2.2.1 k)) = true then max b (plv t (ttU A k (A.2.2.1 k - 1))) else b) else (if (A.2.1.testBit k && decide (A.2.2.1 k < 9)) = true then min b (plv t (ttU A k (A.2.2.1 k + 1))) else b)) A.1
def plk (t : Nat) (A : TT) (n : Nat) : Int := Nat.rec (plv t A) (fun k b => if (t + 1) % 2 = 0 then (if (A.2.1.testBit k && decide (0 < A.2.2.1 k)) = true then max b (plv t (ttU A k (A.2.2.1 k - 1))) else b) else (if (A.2.1.testBit k && decide (A.2.2.1 k < 9)) = true then min b (plv t (ttU A k (A.2.2.1 k + 1))) else b)) n
theorem plk_s (t : Nat) (A : TT) (k : Nat) : plk t A (k + 1) = if (t + 1) % 2 = 0 then (if (A.2.1.testBit k && decide (0 < A.2.2.1 k)) = true then max (plk t A k) (plv t (ttU A k (A.2.2.1 k - 1))) else plk t A k) else (if (A.2.1.testBit k && decide (A.2.2.1 k < 9)) = true then min (plk t A k) (plv t (ttU A k (A.2.2.1 k + 1))) else plk t A k) := rfl
theorem plv_b : ∀ (t : Nat) (A : TT), tt_k A → -6 ≤ plv t A ∧ plv t A ≤ 6
  | 0, A, hk => tt_b hk
  | t + 1, A, hk => by
    have hh : ∀ n, n ≤ A.1 → -6 ≤ plk t A n ∧ plk t A n ≤ 6 := by
      intro n
      induction n with
      | zero => intro _; exact plv_b t A hk
      | succ k ih =>
        intro hn
        have ih := ih (by omega)
        rw [plk_s]
        have h9 := hk.2.2.1 k (by omega)
        repeat' split
        · have := plv_b t (ttU A k (A.2.2.1 k - 1)) (ttU_k hk (by omega)); omega
        · exact ih
        · rename_i hb
          rw [Bool.and_eq_true] at hb
          have := of_decide_eq_true hb.2
          have := plv_b t (ttU A k (A.2.2.1 k + 1)) (ttU_k hk (by omega)); omega
        · exact ih
    exact hh A.1 (Nat.le_refl _)
theorem max_ofI {a b : Int} (ha : -6 ≤ a ∧ a ≤ 6) (hb : -6 ≤ b ∧ b ≤ 6) : (if Int32.ofInt a < Int32.ofInt b then Int32.ofInt b else Int32.ofInt a) = Int32.ofInt (max a b) := by
  have t0 := ofI_t (z := a) (by omega) (by omega)
  have t1 := ofI_t (z := b) (by omega) (by omega)
  split <;> rename_i hh <;> rw [i_lt, t0, t1] at hh
  · rw [Int.max_eq_right (by omega)]
  · rw [Int.max_eq_left (by omega)]
theorem min_ofI {a b : Int} (ha : -6 ≤ a ∧ a ≤ 6) (hb : -6 ≤ b ∧ b ≤ 6) : (if Int32.ofInt b < Int32.ofInt a then Int32.ofInt b else Int32.ofInt a) = Int32.ofInt (min a b) := by
  have t0 := ofI_t (z := a) (by omega) (by omega)
  have t1 := ofI_t (z := b) (by omega) (by omega)
  split <;> rename_i hh <;> rw [i_lt, t0, t1] at hh
  · rw [Int.min_eq_right (by omega)]
  · rw [Int.min_eq_left (by omega)]
def pl_i (h : bw_H) (p : Nat) (A : TT) (I : Nat → Nat → Int32) : Prop := bw_tt (bw_wi h I) p A ∧ ∀ q, q ≠ p → q ≠ p + 2 → I q = bw_i h q
theorem plk_b (t : Nat) (A : TT) (hk : tt_k A) : ∀ n, n ≤ A.1 → -6 ≤ plk t A n ∧ plk t A n ≤ 6 := by
  intro n
  induction n with
  | zero => intro _; exact plv_b t A hk
  | succ k ih =>
    intro hn
    have ih := ih (by omega)
    rw [plk_s]
    have h9 := hk.2.2.1 k (by omega)
    repeat' split
    · have := plv_b t (ttU A k (A.2.2.1 k - 1)) (ttU_k hk (by omega)); omega
    · exact ih
    · rename_i hb
      rw [Bool.and_eq_true] at hb
      have := of_decide_eq_true hb.2
      have := plv_b t (ttU A k (A.2.2.1 k + 1)) (ttU_k hk (by omega)); omega
    · exact ih
set_option maxRecDepth 100000 in
set_option maxHeartbeats 4000000 in
theorem play_rec {X : Nat × (Nat → Int32)} : ∀ (t : Nat) {Q : Option Value → bw_H → Prop} {h : bw_H} {p : Nat} {A : TT} (hc : bw_tt h p A) (ht : t ≤ 4) (hQ : ∀ I : Nat → Nat → Int32, pl_i h p A I → Q (some (.int (Int32.ofInt (plv t A)))) (bw_wi h I)), bw_me X (3 + t) bm_X6_playOut false [.ref p, .int (nI t)] h Q := by
  intro t
  induction t with
  | zero =>
    intro Q h p A hc ht hQ
    show bw_go _ (3) 6 7 false (some .int) cX6_playOut 0 [(0, .ref _), (1, .int _)] [] _ _
    refine go_iload_n dX6_playOut_0 rfl ?_
    refine go_if_le (pc' := 9) dX6_playOut_1 rfl (fun c_1 => ?_) (fun c_1 => ?_)
    · -- le at 1: yes
      show bw_go _ _ _ _ _ _ _ 9 [(0, .ref _), (1, .int _)] ([]) _ _
      refine go_aload_n dX6_playOut_9 rfl ?_
      refine go_gfi dX6_playOut_10 fl_6_18 rfl hc.1.1.1 hc.1.1.2.1 ?_
      rw [hc.2.1.2.2.1]
      refine go_iret dX6_playOut_13 rfl rfl ?_
      exact hQ (bw_i h) ⟨hc, fun _ _ _ => rfl⟩
    · -- le at 1: no
      exact absurd (by decide) c_1
  | succ t ih =>
    intro Q h p A hc ht hQ
    by_cases hpar : (t + 1) % 2 = 0
    · show bw_go _ (3 + t + 1) 6 7 false (some .int) cX6_playOut 0 [(0, .ref _), (1, .int _)] [] _ _
      refine go_iload_n dX6_playOut_0 rfl ?_
      refine go_if_le (pc' := 9) dX6_playOut_1 rfl (fun c_1 => ?_) (fun c_1 => ?_)
      · -- le at 1: yes
        exfalso; have t_0 := nI_toInt (n := t + 1) (by omega); have l_0 := i_0; simp only [i_le] at c_1; omega
      · -- le at 1: no
        show bw_go _ _ _ _ _ _ _ 4 [(0, .ref _), (1, .int _)] ([]) _ _
        refine go_iload_n dX6_playOut_4 rfl ?_
        refine go_iconst (4) dX6_playOut_5 rfl ?_
        refine go_icmp_le (pc' := 14) dX6_playOut_6 rfl (fun c_6 => ?_) (fun c_6 => ?_)
        · -- le at 6: yes
          show bw_go _ _ _ _ _ _ _ 14 [(0, .ref _), (1, .int _)] ([]) _ _
          refine go_iload_n dX6_playOut_14 rfl ?_
          refine go_iconst (2) dX6_playOut_15 rfl ?_
          refine go_irem dX6_playOut_16 (by decide) ?_
          rw [show (2 : Int32) = nI 2 from rfl, pk_rem (by omega) (by omega) (by omega)]
          refine go_if_ne (pc' := 24) dX6_playOut_17 rfl (fun c_17 => ?_) (fun c_17 => ?_)
          · -- ne at 17: yes
            exact absurd (show nI ((t + 1) % 2) = 0 by rw [hpar]; rfl) c_17
          · -- ne at 17: no
            show bw_go _ _ _ _ _ _ _ 20 [(0, .ref _), (1, .int _)] ([]) _ _
            refine go_iconst (1) dX6_playOut_20 rfl ?_
            refine go_goto (pc' := 25) dX6_playOut_21 rfl ?_
            show bw_go _ _ _ _ _ _ _ 25 [(0, .ref _), (1, .int _)] ((.int _) :: []) _ _
            refine go_istore_n dX6_playOut_25 (Nat.lt_of_lt_of_le (Nat.lt_succ_self _) (Nat.le_of_ble_eq_true rfl)) ?_
            show bw_go _ _ _ _ _ _ _ 26 [(2, .int _), (0, .ref _), (1, .int _)] ([]) _ _
            refine go_iload_n dX6_playOut_26 rfl ?_
            refine go_if_eq (pc' := 34) dX6_playOut_27 rfl (fun c => absurd c (by decide)) (fun _ => ?_)
            show bw_go _ _ _ _ _ _ _ 30 [(2, .int _), (0, .ref _), (1, .int _)] ([]) _ _
            refine go_iconst (-1) dX6_playOut_30 rfl ?_
            refine go_goto (pc' := 35) dX6_playOut_31 rfl ?_
            show bw_go _ _ _ _ _ _ _ 35 [(2, .int _), (0, .ref _), (1, .int _)] ((.int _) :: []) _ _
            refine go_istore_n dX6_playOut_35 (Nat.lt_of_lt_of_le (Nat.lt_succ_self _) (Nat.le_of_ble_eq_true rfl)) ?_
            show bw_go _ _ _ _ _ _ _ 36 [(3, .int _), (2, .int _), (0, .ref _), (1, .int _)] ([]) _ _
            refine go_aload_n dX6_playOut_36 rfl ?_
            refine go_iload_n dX6_playOut_37 rfl ?_
            refine go_iconst (1) dX6_playOut_38 rfl ?_
            refine go_isub dX6_playOut_39 ?_
            refine go_cv (as := [.int _]) (3 + t) dX6_playOut_40 mt_6_83 (Or.inl rfl) rfl rfl hc.1.1.1 hc.1.1.2.1 (Nat.le_of_ble_eq_true rfl) (Nat.le_of_ble_eq_true rfl) (Nat.le_of_ble_eq_true rfl) (Nat.le_of_ble_eq_true rfl) (by omega) ?_
            rw [show nI (t + 1) - 1 = nI t from nI_pred t]
            refine ih hc (by omega) (fun I0 hI0 => ?_)
            show bw_go _ _ _ _ _ _ _ 43 [(3, .int _), (2, .int _), (0, .ref _), (1, .int _)] ((.int _) :: []) _ _
            refine go_istore dX6_playOut_43 (Nat.lt_of_lt_of_le (Nat.lt_succ_self _) (Nat.le_of_ble_eq_true rfl)) ?_
            show bw_go _ _ _ _ _ _ _ 45 [(4, .int _), (3, .int _), (2, .int _), (0, .ref _), (1, .int _)] ([]) _ _
            refine go_iconst (0) dX6_playOut_45 rfl ?_
            refine go_istore dX6_playOut_46 (Nat.lt_of_lt_of_le (Nat.lt_succ_self _) (Nat.le_of_ble_eq_true rfl)) ?_
            show bw_go _ _ _ _ _ _ _ 48 [(5, .int _), (4, .int _), (3, .int _), (2, .int _), (0, .ref _), (1, .int _)] ([]) _ _
            have hv0 : bw_wi h I0 = bw_wi h (bw_i (bw_wi h I0)) ∧ pl_i h p A (bw_i (bw_wi h I0)) := ⟨rfl, hI0⟩
            refine go_for (P := fun i => ∀ g : bw_H, (g = bw_wi h (bw_i g) ∧ pl_i h p A (bw_i g)) → bw_go X (3 + t + 1) 6 7 false (some .int) cX6_playOut 48 [(5, .int (nI i)), (4, .int (Int32.ofInt (plk t A i))), (3, .int (-1)), (2, .int (1)), (0, .ref (p)), (1, .int (nI (t + 1)))] [] g Q) (N := A.1) (fun i hi K => ?_) ?_ (0) (Nat.zero_le _) _ hv0
            · -- a turn
              intro g hv
              obtain ⟨hg, hp1, hp2⟩ := hv
              have hc : bw_tt g p A := by rw [hg]; exact hp1
              have k6 := hc.2.2.1
              have k9 := hc.2.2.2.2.1 i hi
              show bw_go _ _ _ _ _ _ _ 48 [(5, .int _), (4, .int _), (3, .int _), (2, .int _), (0, .ref _), (1, .int _)] ([]) _ _
              refine go_iload dX6_playOut_48 rfl ?_
              refine go_aload_n dX6_playOut_50 rfl ?_
              refine go_gfi dX6_playOut_51 fl_6_9 rfl hc.1.1.1 hc.1.1.2.1 ?_
              rw [hc.2.1.1]
              refine go_icmp_ge (pc' := 123) dX6_playOut_54 rfl (fun c_54 => ?_) (fun c_54 => ?_)
              · -- ge at 54: yes
                exfalso; have t_0 := nI_toInt (n := A.1) (by omega); have t_1 := nI_toInt (n := i) (by omega); simp only [i_le, i_lt, i_eq, bi_eq] at c_54; omega
              · -- ge at 54: no
                show bw_go _ _ _ _ _ _ _ 57 [(5, .int _), (4, .int _), (3, .int _), (2, .int _), (0, .ref _), (1, .int _)] ([]) _ _
                refine go_aload_n dX6_playOut_57 rfl ?_
                refine go_iload dX6_playOut_58 rfl ?_
                refine go_iload_n dX6_playOut_60 rfl ?_
                refine go_cv (as := [.int _, .int _]) 1 dX6_playOut_61 mt_6_77 (Or.inl rfl) rfl rfl hc.1.1.1 hc.1.1.2.1 (Nat.le_of_ble_eq_true rfl) (Nat.le_of_ble_eq_true rfl) (Nat.le_of_ble_eq_true rfl) (Nat.le_of_ble_eq_true rfl) (by omega) ?_
                refine me_canWearM hc hi ?_
                show bw_go _ _ _ _ _ _ _ 64 [(5, .int _), (4, .int _), (3, .int _), (2, .int _), (0, .ref _), (1, .int _)] ((.int _) :: []) _ _
                refine go_ifb_ne (pc' := 70) dX6_playOut_64 rfl (fun c_64 => ?_) (fun c_64 => ?_)
                · -- ne at 64: yes
                  show bw_go _ _ _ _ _ _ _ 70 [(5, .int _), (4, .int _), (3, .int _), (2, .int _), (0, .ref _), (1, .int _)] ([]) _ _
                  refine go_aload_n dX6_playOut_70 rfl ?_
                  refine go_iload dX6_playOut_71 rfl ?_
                  refine go_iload_n dX6_playOut_73 rfl ?_
                  refine go_cv (as := [.int _, .int _]) 2 dX6_playOut_74 mt_6_80 (Or.inl rfl) rfl rfl hc.1.1.1 hc.1.1.2.1 (Nat.le_of_ble_eq_true rfl) (Nat.le_of_ble_eq_true rfl) (Nat.le_of_ble_eq_true rfl) (Nat.le_of_ble_eq_true rfl) (by omega) ?_
                  rw [Bool.and_eq_true] at c_64
                  have hw9 := of_decide_eq_true c_64.2
                  refine me_wearByM hc hi hw9 (fun I1 hI1 => ?_)
                  show bw_go _ _ _ _ _ _ _ 77 [(5, .int _), (4, .int _), (3, .int _), (2, .int _), (0, .ref _), (1, .int _)] ([]) _ _
                  refine go_aload_n dX6_playOut_77 rfl ?_
                  refine go_iload_n dX6_playOut_78 rfl ?_
                  refine go_iconst (1) dX6_playOut_79 rfl ?_
                  refine go_isub dX6_playOut_80 ?_
                  refine go_cv (as := [.int _]) (3 + t) dX6_playOut_81 mt_6_83 (Or.inl rfl) rfl rfl hc.1.1.1 hc.1.1.2.1 (Nat.le_of_ble_eq_true rfl) (Nat.le_of_ble_eq_true rfl) (Nat.le_of_ble_eq_true rfl) (Nat.le_of_ble_eq_true rfl) (by omega) ?_
                  rw [show nI (t + 1) - 1 = nI t from nI_pred t]
                  refine ih (A := ttU A i (A.2.2.1 i - 1)) hI1.1 (by omega) (fun I2 hI2 => ?_)
                  show bw_go _ _ _ _ _ _ _ 84 [(5, .int _), (4, .int _), (3, .int _), (2, .int _), (0, .ref _), (1, .int _)] ((.int _) :: []) _ _
                  refine go_istore dX6_playOut_84 (Nat.lt_of_lt_of_le (Nat.lt_succ_self _) (Nat.le_of_ble_eq_true rfl)) ?_
                  show bw_go _ _ _ _ _ _ _ 86 [(6, .int _), (5, .int _), (4, .int _), (3, .int _), (2, .int _), (0, .ref _), (1, .int _)] ([]) _ _
                  refine go_aload_n dX6_playOut_86 rfl ?_
                  refine go_iload dX6_playOut_87 rfl ?_
                  refine go_iload_n dX6_playOut_89 rfl ?_
                  refine go_ineg dX6_playOut_90 ?_
                  refine go_cv (as := [.int _, .int _]) 2 dX6_playOut_91 mt_6_80 (Or.inl rfl) rfl rfl hc.1.1.1 hc.1.1.2.1 (Nat.le_of_ble_eq_true rfl) (Nat.le_of_ble_eq_true rfl) (Nat.le_of_ble_eq_true rfl) (Nat.le_of_ble_eq_true rfl) (by omega) ?_
                  have e9 : (ttU A i (A.2.2.1 i - 1)).2.2.1 i = A.2.2.1 i - 1 := bw_up_s _ _ _
                  refine me_wearByP (A := ttU A i (A.2.2.1 i - 1)) hI2.1 hi (by rw [e9]; omega) (fun I3 hI3 => ?_)
                  rw [e9, Nat.sub_add_cancel hw9, ttU_U] at hI3
                  have hpl : pl_i h p A I3 := ⟨by have := hI3.1; rw [hg] at this; exact this, fun q h1 h2 => by rw [hI3.2 q h1 h2, i_wi, hI2.2 q h1 h2, i_wi, hI1.2 q h1 h2, hp2 q h1 h2]⟩
                  have b1 : -6 ≤ plk t A i ∧ plk t A i ≤ 6 := plk_b t A hc.2.2 i (by omega)
                  have b2 := plv_b t (ttU A i (A.2.2.1 i - 1)) (ttU_k hc.2.2 (by omega))
                  have e1 := plk_s t A i
                  rw [if_pos hpar, if_pos (by rw [Bool.and_eq_true]; exact c_64)] at e1
                  show bw_go _ _ _ _ _ _ _ 94 [(6, .int _), (5, .int _), (4, .int _), (3, .int _), (2, .int _), (0, .ref _), (1, .int _)] ([]) _ _
                  refine go_iload_n dX6_playOut_94 rfl ?_
                  refine go_if_eq (pc' := 108) dX6_playOut_95 rfl (fun c => absurd c (by decide)) (fun _ => ?_)
                  show bw_go _ _ _ _ _ _ _ 98 [(6, .int _), (5, .int _), (4, .int _), (3, .int _), (2, .int _), (0, .ref _), (1, .int _)] ([]) _ _
                  refine go_iload dX6_playOut_98 rfl ?_
                  refine go_iload dX6_playOut_100 rfl ?_
                  refine go_max dX6_playOut_102 rfl (Nat.le_of_ble_eq_true rfl) ?_
                  refine go_goto (pc' := 115) dX6_playOut_105 rfl ?_
                  show bw_go _ _ _ _ _ _ _ 115 [(6, .int _), (5, .int _), (4, .int _), (3, .int _), (2, .int _), (0, .ref _), (1, .int _)] ((.int _) :: []) _ _
                  refine go_istore dX6_playOut_115 (Nat.lt_of_lt_of_le (Nat.lt_succ_self _) (Nat.le_of_ble_eq_true rfl)) ?_
                  show bw_go _ _ _ _ _ _ _ 117 [(4, .int _), (6, .int _), (5, .int _), (3, .int _), (2, .int _), (0, .ref _), (1, .int _)] ([]) _ _
                  refine go_iinc dX6_playOut_117 rfl (nI_1 i) (Nat.lt_of_lt_of_le (Nat.lt_succ_self _) (Nat.le_of_ble_eq_true rfl)) ?_
                  show bw_go _ _ _ _ _ _ _ 120 [(5, .int _), (4, .int _), (6, .int _), (3, .int _), (2, .int _), (0, .ref _), (1, .int _)] ([]) _ _
                  refine go_goto (pc' := 48) dX6_playOut_120 rfl ?_
                  refine go_ls [(5, .int _), (4, .int _), (3, .int _), (2, .int _), (0, .ref _), (1, .int _)] (by show List.Nodup ([5, 4, 3, 2, 0, 1] : List Nat); decide) (by show List.Nodup ([5, 4, 6, 3, 2, 0, 1] : List Nat); decide) (le_cons rfl (le_cons rfl (le_cons rfl (le_cons rfl (le_cons rfl (le_cons rfl (le_nil _))))))) ?_
                  rw [max_ofI b1 b2, ← e1]
                  exact K _ ⟨by rw [hg]; rfl, hpl⟩
                · -- ne at 64: no
                  show bw_go _ _ _ _ _ _ _ 67 [(5, .int _), (4, .int _), (3, .int _), (2, .int _), (0, .ref _), (1, .int _)] ([]) _ _
                  refine go_goto (pc' := 117) dX6_playOut_67 rfl ?_
                  show bw_go _ _ _ _ _ _ _ 117 [(5, .int _), (4, .int _), (3, .int _), (2, .int _), (0, .ref _), (1, .int _)] ([]) _ _
                  refine go_iinc dX6_playOut_117 rfl (nI_1 i) (Nat.lt_of_lt_of_le (Nat.lt_succ_self _) (Nat.le_of_ble_eq_true rfl)) ?_
                  show bw_go _ _ _ _ _ _ _ 120 [(5, .int _), (4, .int _), (3, .int _), (2, .int _), (0, .ref _), (1, .int _)] ([]) _ _
                  refine go_goto (pc' := 48) dX6_playOut_120 rfl ?_
                  have e1 := plk_s t A i
                  rw [if_pos hpar, if_neg (by rw [c_64]; decide)] at e1
                  have K1 := K g ⟨hg, hp1, hp2⟩
                  rw [e1] at K1
                  exact K1
            · -- behind the last
              intro g hv
              obtain ⟨hg, hp1, hp2⟩ := hv
              have hc : bw_tt g p A := by rw [hg]; exact hp1
              show bw_go _ _ _ _ _ _ _ 48 [(5, .int _), (4, .int _), (3, .int _), (2, .int _), (0, .ref _), (1, .int _)] ([]) _ _
              refine go_iload dX6_playOut_48 rfl ?_
              refine go_aload_n dX6_playOut_50 rfl ?_
              refine go_gfi dX6_playOut_51 fl_6_9 rfl hc.1.1.1 hc.1.1.2.1 ?_
              rw [hc.2.1.1]
              refine go_icmp_ge (pc' := 123) dX6_playOut_54 rfl (fun c_54 => ?_) (fun c_54 => ?_)
              · -- ge at 54: yes
                show bw_go _ _ _ _ _ _ _ 123 [(5, .int _), (4, .int _), (3, .int _), (2, .int _), (0, .ref _), (1, .int _)] ([]) _ _
                refine go_iload dX6_playOut_123 rfl ?_
                refine go_iret dX6_playOut_125 rfl rfl ?_
                rw [hg]; exact hQ (bw_i g) ⟨hp1, hp2⟩
              · -- ge at 54: no
                exfalso; have k6 := hc.2.2.1; have t_0 := nI_toInt (n := A.1) (by omega); simp only [i_le, i_lt, i_eq, bi_eq] at c_54; omega
        · -- le at 6: no
          exfalso; have t_0 := nI_toInt (n := t + 1) (by omega); have l_4 : (4 : Int32).toInt = 4 := rfl; simp only [i_le] at c_6; omega
    · show bw_go _ (3 + t + 1) 6 7 false (some .int) cX6_playOut 0 [(0, .ref _), (1, .int _)] [] _ _
      refine go_iload_n dX6_playOut_0 rfl ?_
      refine go_if_le (pc' := 9) dX6_playOut_1 rfl (fun c_1 => ?_) (fun c_1 => ?_)
      · -- le at 1: yes
        exfalso; have t_0 := nI_toInt (n := t + 1) (by omega); have l_0 := i_0; simp only [i_le] at c_1; omega
      · -- le at 1: no
        show bw_go _ _ _ _ _ _ _ 4 [(0, .ref _), (1, .int _)] ([]) _ _
        refine go_iload_n dX6_playOut_4 rfl ?_
        refine go_iconst (4) dX6_playOut_5 rfl ?_
        refine go_icmp_le (pc' := 14) dX6_playOut_6 rfl (fun c_6 => ?_) (fun c_6 => ?_)
        · -- le at 6: yes
          show bw_go _ _ _ _ _ _ _ 14 [(0, .ref _), (1, .int _)] ([]) _ _
          refine go_iload_n dX6_playOut_14 rfl ?_
          refine go_iconst (2) dX6_playOut_15 rfl ?_
          refine go_irem dX6_playOut_16 (by decide) ?_
          rw [show (2 : Int32) = nI 2 from rfl, pk_rem (by omega) (by omega) (by omega)]
          refine go_if_ne (pc' := 24) dX6_playOut_17 rfl (fun c_17 => ?_) (fun c_17 => ?_)
          · -- ne at 17: yes
            show bw_go _ _ _ _ _ _ _ 24 [(0, .ref _), (1, .int _)] ([]) _ _
            refine go_iconst (0) dX6_playOut_24 rfl ?_
            refine go_istore_n dX6_playOut_25 (Nat.lt_of_lt_of_le (Nat.lt_succ_self _) (Nat.le_of_ble_eq_true rfl)) ?_
            show bw_go _ _ _ _ _ _ _ 26 [(2, .int _), (0, .ref _), (1, .int _)] ([]) _ _
            refine go_iload_n dX6_playOut_26 rfl ?_
            refine go_if_eq (pc' := 34) dX6_playOut_27 rfl (fun _ => ?_) (fun c => absurd (by decide) c)
            show bw_go _ _ _ _ _ _ _ 34 [(2, .int _), (0, .ref _), (1, .int _)] ([]) _ _
            refine go_iconst (1) dX6_playOut_34 rfl ?_
            refine go_istore_n dX6_playOut_35 (Nat.lt_of_lt_of_le (Nat.lt_succ_self _) (Nat.le_of_ble_eq_true rfl)) ?_
            show bw_go _ _ _ _ _ _ _ 36 [(3, .int _), (2, .int _), (0, .ref _), (1, .int _)] ([]) _ _
            refine go_aload_n dX6_playOut_36 rfl ?_
            refine go_iload_n dX6_playOut_37 rfl ?_
            refine go_iconst (1) dX6_playOut_38 rfl ?_
            refine go_isub dX6_playOut_39 ?_
            refine go_cv (as := [.int _]) (3 + t) dX6_playOut_40 mt_6_83 (Or.inl rfl) rfl rfl hc.1.1.1 hc.1.1.2.1 (Nat.le_of_ble_eq_true rfl) (Nat.le_of_ble_eq_true rfl) (Nat.le_of_ble_eq_true rfl) (Nat.le_of_ble_eq_true rfl) (by omega) ?_
            rw [show nI (t + 1) - 1 = nI t from nI_pred t]
            refine ih hc (by omega) (fun I0 hI0 => ?_)
            show bw_go _ _ _ _ _ _ _ 43 [(3, .int _), (2, .int _), (0, .ref _), (1, .int _)] ((.int _) :: []) _ _
            refine go_istore dX6_playOut_43 (Nat.lt_of_lt_of_le (Nat.lt_succ_self _) (Nat.le_of_ble_eq_true rfl)) ?_
            show bw_go _ _ _ _ _ _ _ 45 [(4, .int _), (3, .int _), (2, .int _), (0, .ref _), (1, .int _)] ([]) _ _
            refine go_iconst (0) dX6_playOut_45 rfl ?_
            refine go_istore dX6_playOut_46 (Nat.lt_of_lt_of_le (Nat.lt_succ_self _) (Nat.le_of_ble_eq_true rfl)) ?_
            show bw_go _ _ _ _ _ _ _ 48 [(5, .int _), (4, .int _), (3, .int _), (2, .int _), (0, .ref _), (1, .int _)] ([]) _ _
            have hv0 : bw_wi h I0 = bw_wi h (bw_i (bw_wi h I0)) ∧ pl_i h p A (bw_i (bw_wi h I0)) := ⟨rfl, hI0⟩
            refine go_for (P := fun i => ∀ g : bw_H, (g = bw_wi h (bw_i g) ∧ pl_i h p A (bw_i g)) → bw_go X (3 + t + 1) 6 7 false (some .int) cX6_playOut 48 [(5, .int (nI i)), (4, .int (Int32.ofInt (plk t A i))), (3, .int (1)), (2, .int (0)), (0, .ref (p)), (1, .int (nI (t + 1)))] [] g Q) (N := A.1) (fun i hi K => ?_) ?_ (0) (Nat.zero_le _) _ hv0
            · -- a turn
              intro g hv
              obtain ⟨hg, hp1, hp2⟩ := hv
              have hc : bw_tt g p A := by rw [hg]; exact hp1
              have k6 := hc.2.2.1
              have k9 := hc.2.2.2.2.1 i hi
              show bw_go _ _ _ _ _ _ _ 48 [(5, .int _), (4, .int _), (3, .int _), (2, .int _), (0, .ref _), (1, .int _)] ([]) _ _
              refine go_iload dX6_playOut_48 rfl ?_
              refine go_aload_n dX6_playOut_50 rfl ?_
              refine go_gfi dX6_playOut_51 fl_6_9 rfl hc.1.1.1 hc.1.1.2.1 ?_
              rw [hc.2.1.1]
              refine go_icmp_ge (pc' := 123) dX6_playOut_54 rfl (fun c_54 => ?_) (fun c_54 => ?_)
              · -- ge at 54: yes
                exfalso; have t_0 := nI_toInt (n := A.1) (by omega); have t_1 := nI_toInt (n := i) (by omega); simp only [i_le, i_lt, i_eq, bi_eq] at c_54; omega
              · -- ge at 54: no
                show bw_go _ _ _ _ _ _ _ 57 [(5, .int _), (4, .int _), (3, .int _), (2, .int _), (0, .ref _), (1, .int _)] ([]) _ _
                refine go_aload_n dX6_playOut_57 rfl ?_
                refine go_iload dX6_playOut_58 rfl ?_
                refine go_iload_n dX6_playOut_60 rfl ?_
                refine go_cv (as := [.int _, .int _]) 1 dX6_playOut_61 mt_6_77 (Or.inl rfl) rfl rfl hc.1.1.1 hc.1.1.2.1 (Nat.le_of_ble_eq_true rfl) (Nat.le_of_ble_eq_true rfl) (Nat.le_of_ble_eq_true rfl) (Nat.le_of_ble_eq_true rfl) (by omega) ?_
                refine me_canWearP hc hi ?_
                show bw_go _ _ _ _ _ _ _ 64 [(5, .int _), (4, .int _), (3, .int _), (2, .int _), (0, .ref _), (1, .int _)] ((.int _) :: []) _ _
                refine go_ifb_ne (pc' := 70) dX6_playOut_64 rfl (fun c_64 => ?_) (fun c_64 => ?_)
                · -- ne at 64: yes
                  show bw_go _ _ _ _ _ _ _ 70 [(5, .int _), (4, .int _), (3, .int _), (2, .int _), (0, .ref _), (1, .int _)] ([]) _ _
                  refine go_aload_n dX6_playOut_70 rfl ?_
                  refine go_iload dX6_playOut_71 rfl ?_
                  refine go_iload_n dX6_playOut_73 rfl ?_
                  refine go_cv (as := [.int _, .int _]) 2 dX6_playOut_74 mt_6_80 (Or.inl rfl) rfl rfl hc.1.1.1 hc.1.1.2.1 (Nat.le_of_ble_eq_true rfl) (Nat.le_of_ble_eq_true rfl) (Nat.le_of_ble_eq_true rfl) (Nat.le_of_ble_eq_true rfl) (by omega) ?_
                  rw [Bool.and_eq_true] at c_64
                  have hw9 := of_decide_eq_true c_64.2
                  refine me_wearByP hc hi hw9 (fun I1 hI1 => ?_)
                  show bw_go _ _ _ _ _ _ _ 77 [(5, .int _), (4, .int _), (3, .int _), (2, .int _), (0, .ref _), (1, .int _)] ([]) _ _
                  refine go_aload_n dX6_playOut_77 rfl ?_
                  refine go_iload_n dX6_playOut_78 rfl ?_
                  refine go_iconst (1) dX6_playOut_79 rfl ?_
                  refine go_isub dX6_playOut_80 ?_
                  refine go_cv (as := [.int _]) (3 + t) dX6_playOut_81 mt_6_83 (Or.inl rfl) rfl rfl hc.1.1.1 hc.1.1.2.1 (Nat.le_of_ble_eq_true rfl) (Nat.le_of_ble_eq_true rfl) (Nat.le_of_ble_eq_true rfl) (Nat.le_of_ble_eq_true rfl) (by omega) ?_
                  rw [show nI (t + 1) - 1 = nI t from nI_pred t]
                  refine ih (A := ttU A i (A.2.2.1 i + 1)) hI1.1 (by omega) (fun I2 hI2 => ?_)
                  show bw_go _ _ _ _ _ _ _ 84 [(5, .int _), (4, .int _), (3, .int _), (2, .int _), (0, .ref _), (1, .int _)] ((.int _) :: []) _ _
                  refine go_istore dX6_playOut_84 (Nat.lt_of_lt_of_le (Nat.lt_succ_self _) (Nat.le_of_ble_eq_true rfl)) ?_
                  show bw_go _ _ _ _ _ _ _ 86 [(6, .int _), (5, .int _), (4, .int _), (3, .int _), (2, .int _), (0, .ref _), (1, .int _)] ([]) _ _
                  refine go_aload_n dX6_playOut_86 rfl ?_
                  refine go_iload dX6_playOut_87 rfl ?_
                  refine go_iload_n dX6_playOut_89 rfl ?_
                  refine go_ineg dX6_playOut_90 ?_
                  refine go_cv (as := [.int _, .int _]) 2 dX6_playOut_91 mt_6_80 (Or.inl rfl) rfl rfl hc.1.1.1 hc.1.1.2.1 (Nat.le_of_ble_eq_true rfl) (Nat.le_of_ble_eq_true rfl) (Nat.le_of_ble_eq_true rfl) (Nat.le_of_ble_eq_true rfl) (by omega) ?_
                  have e9 : (ttU A i (A.2.2.1 i + 1)).2.2.1 i = A.2.2.1 i + 1 := bw_up_s _ _ _
                  refine me_wearByM (A := ttU A i (A.2.2.1 i + 1)) hI2.1 hi (by rw [e9]; omega) (fun I3 hI3 => ?_)
                  rw [e9, Nat.add_sub_cancel, ttU_U] at hI3
                  have hpl : pl_i h p A I3 := ⟨by have := hI3.1; rw [hg] at this; exact this, fun q h1 h2 => by rw [hI3.2 q h1 h2, i_wi, hI2.2 q h1 h2, i_wi, hI1.2 q h1 h2, hp2 q h1 h2]⟩
                  have b1 : -6 ≤ plk t A i ∧ plk t A i ≤ 6 := plk_b t A hc.2.2 i (by omega)
                  have b2 := plv_b t (ttU A i (A.2.2.1 i + 1)) (ttU_k hc.2.2 (by omega))
                  have e1 := plk_s t A i
                  rw [if_neg hpar, if_pos (by rw [Bool.and_eq_true]; exact c_64)] at e1
                  show bw_go _ _ _ _ _ _ _ 94 [(6, .int _), (5, .int _), (4, .int _), (3, .int _), (2, .int _), (0, .ref _), (1, .int _)] ([]) _ _
                  refine go_iload_n dX6_playOut_94 rfl ?_
                  refine go_if_eq (pc' := 108) dX6_playOut_95 rfl (fun _ => ?_) (fun c => absurd (by decide) c)
                  show bw_go _ _ _ _ _ _ _ 108 [(6, .int _), (5, .int _), (4, .int _), (3, .int _), (2, .int _), (0, .ref _), (1, .int _)] ([]) _ _
                  refine go_iload dX6_playOut_108 rfl ?_
                  refine go_iload dX6_playOut_110 rfl ?_
                  refine go_min dX6_playOut_112 rfl (Nat.le_of_ble_eq_true rfl) ?_
                  refine go_istore dX6_playOut_115 (Nat.lt_of_lt_of_le (Nat.lt_succ_self _) (Nat.le_of_ble_eq_true rfl)) ?_
                  show bw_go _ _ _ _ _ _ _ 117 [(4, .int _), (6, .int _), (5, .int _), (3, .int _), (2, .int _), (0, .ref _), (1, .int _)] ([]) _ _
                  refine go_iinc dX6_playOut_117 rfl (nI_1 i) (Nat.lt_of_lt_of_le (Nat.lt_succ_self _) (Nat.le_of_ble_eq_true rfl)) ?_
                  show bw_go _ _ _ _ _ _ _ 120 [(5, .int _), (4, .int _), (6, .int _), (3, .int _), (2, .int _), (0, .ref _), (1, .int _)] ([]) _ _
                  refine go_goto (pc' := 48) dX6_playOut_120 rfl ?_
                  refine go_ls [(5, .int _), (4, .int _), (3, .int _), (2, .int _), (0, .ref _), (1, .int _)] (by show List.Nodup ([5, 4, 3, 2, 0, 1] : List Nat); decide) (by show List.Nodup ([5, 4, 6, 3, 2, 0, 1] : List Nat); decide) (le_cons rfl (le_cons rfl (le_cons rfl (le_cons rfl (le_cons rfl (le_cons rfl (le_nil _))))))) ?_
                  rw [min_ofI b1 b2, ← e1]
                  exact K _ ⟨by rw [hg]; rfl, hpl⟩
                · -- ne at 64: no
                  show bw_go _ _ _ _ _ _ _ 67 [(5, .int _), (4, .int _), (3, .int _), (2, .int _), (0, .ref _), (1, .int _)] ([]) _ _
                  refine go_goto (pc' := 117) dX6_playOut_67 rfl ?_
                  show bw_go _ _ _ _ _ _ _ 117 [(5, .int _), (4, .int _), (3, .int _), (2, .int _), (0, .ref _), (1, .int _)] ([]) _ _
                  refine go_iinc dX6_playOut_117 rfl (nI_1 i) (Nat.lt_of_lt_of_le (Nat.lt_succ_self _) (Nat.le_of_ble_eq_true rfl)) ?_
                  show bw_go _ _ _ _ _ _ _ 120 [(5, .int _), (4, .int _), (3, .int _), (2, .int _), (0, .ref _), (1, .int _)] ([]) _ _
                  refine go_goto (pc' := 48) dX6_playOut_120 rfl ?_
                  have e1 := plk_s t A i
                  rw [if_neg hpar, if_neg (by rw [c_64]; decide)] at e1
                  have K1 := K g ⟨hg, hp1, hp2⟩
                  rw [e1] at K1
                  exact K1
            · -- behind the last
              intro g hv
              obtain ⟨hg, hp1, hp2⟩ := hv
              have hc : bw_tt g p A := by rw [hg]; exact hp1
              show bw_go _ _ _ _ _ _ _ 48 [(5, .int _), (4, .int _), (3, .int _), (2, .int _), (0, .ref _), (1, .int _)] ([]) _ _
              refine go_iload dX6_playOut_48 rfl ?_
              refine go_aload_n dX6_playOut_50 rfl ?_
              refine go_gfi dX6_playOut_51 fl_6_9 rfl hc.1.1.1 hc.1.1.2.1 ?_
              rw [hc.2.1.1]
              refine go_icmp_ge (pc' := 123) dX6_playOut_54 rfl (fun c_54 => ?_) (fun c_54 => ?_)
              · -- ge at 54: yes
                show bw_go _ _ _ _ _ _ _ 123 [(5, .int _), (4, .int _), (3, .int _), (2, .int _), (0, .ref _), (1, .int _)] ([]) _ _
                refine go_iload dX6_playOut_123 rfl ?_
                refine go_iret dX6_playOut_125 rfl rfl ?_
                rw [hg]; exact hQ (bw_i g) ⟨hp1, hp2⟩
              · -- ge at 54: no
                exfalso; have k6 := hc.2.2.1; have t_0 := nI_toInt (n := A.1) (by omega); simp only [i_le, i_lt, i_eq, bi_eq] at c_54; omega
          · -- ne at 17: no
            exact absurd c_17 (by rw [show ¬ nI ((t + 1) % 2) = 0 ↔ ¬ nI 1 = 0 by rw [show (t + 1) % 2 = 1 by omega]]; decide)
        · -- le at 6: no
          exfalso; have t_0 := nI_toInt (n := t + 1) (by omega); have l_4 : (4 : Int32).toInt = 4 := rfl; simp only [i_le] at c_6; omega
