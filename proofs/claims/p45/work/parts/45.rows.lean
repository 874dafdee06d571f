/-! BearWitness: rows by numbers -/
/-- shelves of courts not yet made -/
def pot1 (h : bw_H) (k : Nat) : Nat := if bw_r h 37 k = none then 1 else 0
def pot (h : bw_H) : Nat := pot1 h 0 + pot1 h 1 + pot1 h 2
def frM (h g : bw_H) : Prop := bw_n g = bw_n h
theorem frM_t {h g f : bw_H} (a : frM h g) (b : frM g f) : frM h f := b.trans a
theorem frM_r (h : bw_H) : frM h h := rfl
theorem frM_wi {h g : bw_H} (e : g = bw_wi h (bw_i g)) (_f : ∀ q, 60 ≤ q → q < 60 → bw_i g q = bw_i h q) : frM h g := by
  rw [e]; rfl
abbrev PX (h : bw_H) (Q : Option Value → bw_H → Prop) (y : Int32 × ST) : Prop := ∀ g, XR g y.2 → frM h g → Q (some (.int y.1)) g
theorem q_x {y : Int32 × ST} {Q : Option Value → bw_H → Prop} {h : bw_H} {res : Int32} {S' : ST} (hQ : PX h Q y) (e : y = (res, S')) {g : bw_H} (hg : XR g S') (hf : frM h g) : Q (some (.int res)) g := by
  subst e; exact hQ g hg hf
def isn (r : Int32) (num : Nat) : Bool := decide (0 ≤ r.toInt ∧ r.toInt < num)
def rn (r : Int32) : Nat := r.toNatClampNeg
theorem isn_ex {r : Int32} {num : Nat} (h : isn r num = true) (hn : num < 1000) : ∃ j, j < num ∧ r = nI j := by
  have h1 := of_decide_eq_true h
  refine ⟨r.toInt.toNat, by omega, Int32.toInt_inj.mp ?_⟩
  rw [nI_toInt (by omega)]; omega
theorem rn_n {j : Nat} (h : j < 1000) : rn (nI j) = j := nI_clamp (by omega)
def mis (s : Option Nat) (i : Int32) : Nat := match s with
  | none => 1
  | some _ => if pin s i = true then 0 else 2
def yRow (r n : Int32) (S : ST) : Int32 × ST := if isn r 6 = true ∧ n.toInt ≤ 40 then (if n.toInt < 0 then (-3, fnd S 5) else (n, wR S (bw_up (sR S) (rn r) (some (rn n))) (bw_up (sRc S) (rn r) (fun _ => 0)))) else (-1, S)
def yTear (r : Int32) (S : ST) : Int32 × ST := if isn r 6 = true then (if (sR S (rn r)).isSome = true then (1, wR S (bw_up (sR S) (rn r) none) (sRc S)) else (-3, fnd S 1)) else (-1, S)
theorem sep_i {r j i m wid : Nat} (hne : r ≠ j) (hi : i < wid) (hm : m ≤ wid) : ¬ (j * wid ≤ r * wid + i ∧ r * wid + i < j * wid + m) := by
  rcases Nat.lt_or_gt_of_ne hne with h1 | h1
  · have h2 : (r + 1) * wid ≤ j * wid := Nat.mul_le_mul_right wid h1
    rw [Nat.add_mul, Nat.one_mul] at h2; omega
  · have h2 : (j + 1) * wid ≤ r * wid := Nat.mul_le_mul_right wid h1
    rw [Nat.add_mul, Nat.one_mul] at h2; omega
theorem shR_make {h : bw_H} {p num wid j m : Nat} {s : Nat → Option Nat} {c : Nat → Nat → Int32} {v : Int32} (hx : shR h p num wid s c) (hm : m ≤ wid) : shR (bw_sa (bw_sa h (p + 2) (bw_up (bw_i h (p + 2)) j (nI m))) (p + 4) (fl (bw_i h (p + 4)) (j * wid) m v)) p num wid (bw_up s j (some m)) (bw_up c j (fun _ => v)) := by
  refine ⟨sf_sa (sf_sa hx.1 (by omega)) (by omega), fun r hr => ?_⟩
  obtain ⟨h1, h2, h3⟩ := hx.2 r hr
  rw [i_sa_o (p := p + 2) (by omega), i_sa_s, i_sa_s]
  by_cases hrj : r = j
  · subst hrj
    rw [bw_up_s, bw_up_s, bw_up_s]
    refine ⟨rfl, fun m2 e => by cases e; exact hm, fun m2 e i hi => ?_⟩
    cases e
    unfold fl; rw [if_pos (by omega)]
  · rw [bw_up_o hrj, bw_up_o hrj, bw_up_o hrj]
    refine ⟨h1, h2, fun m2 e i hi => ?_⟩
    unfold fl
    rw [if_neg (sep_i hrj (Nat.lt_of_lt_of_le hi (h2 m2 e)) hm)]
    exact h3 m2 e i hi
theorem shR_drop {h : bw_H} {p num wid j : Nat} {s : Nat → Option Nat} {c : Nat → Nat → Int32} (hx : shR h p num wid s c) : shR (bw_sa h (p + 2) (bw_up (bw_i h (p + 2)) j (-1))) p num wid (bw_up s j none) c := by
  refine ⟨sf_sa hx.1 (by omega), fun r hr => ?_⟩
  obtain ⟨h1, h2, h3⟩ := hx.2 r hr
  rw [i_sa_s, i_sa_o (p := p + 4) (by omega)]
  by_cases hrj : r = j
  · subst hrj
    rw [bw_up_s, bw_up_s]
    refine ⟨rfl, fun m2 e => ?_, fun m2 e => ?_⟩
    · cases e
    · cases e
  · rw [bw_up_o hrj, bw_up_o hrj]; exact ⟨h1, h2, h3⟩
theorem shR_set {h : bw_H} {p num wid j k : Nat} {s : Nat → Option Nat} {c : Nat → Nat → Int32} {v : Int32} (hx : shR h p num wid s c) (hk : k < wid) : shR (bw_sa h (p + 4) (bw_up (bw_i h (p + 4)) (j * wid + k) v)) p num wid s (bw_up c j (bw_up (c j) k v)) := by
  refine ⟨sf_sa hx.1 (by omega), fun r hr => ?_⟩
  obtain ⟨h1, h2, h3⟩ := hx.2 r hr
  rw [i_sa_o (p := p + 2) (by omega), i_sa_s]
  refine ⟨h1, h2, fun m2 e i hi => ?_⟩
  by_cases hrj : r = j
  · subst hrj
    rw [bw_up_s]
    by_cases hik : i = k
    · subst hik; rw [bw_up_s, bw_up_s]
    · rw [bw_up_o (by omega), bw_up_o hik]; exact h3 m2 e i hi
  · rw [bw_up_o hrj, bw_up_o (fun z => sep_i hrj (Nat.lt_of_lt_of_le hi (h2 m2 e)) (Nat.succ_le_of_lt hk) ⟨by omega, by omega⟩)]
    exact h3 m2 e i hi
set_option maxRecDepth 100000 in
set_option maxHeartbeats 4000000 in
theorem me_X7_found {X : Nat × (Nat → Int32)} {Q : Option Value → bw_H → Prop} {h : bw_H} {S : ST} {f : Nat} (hx : XR h S) (hf : f < 6) (hQ : ∀ g, XR g (fnd S f) → frM h g → Q (some (.int (-3))) g) : bw_me X 1 bm_X7_found false [.ref 0, .int (nI f)] h Q := by
  show bw_go _ 1 7 2 false (some .int) cX7_found 0 [(0, .ref _), (1, .int _)] [] _ _
  refine go_aload_n dX7_found_0 rfl ?_
  refine go_iload_n dX7_found_1 rfl ?_
  refine go_pfi dX7_found_2 fl_7_72 rfl hx.1.1.1 hx.1.1.2.1 (Nat.le_of_ble_eq_true rfl) (Or.inl rfl) ?_
  show bw_go _ _ _ _ _ _ _ 5 [(0, .ref _), (1, .int _)] ([]) _ _
  refine go_aload_n dX7_found_5 rfl ?_
  refine go_gfr dX7_found_6 fl_7_68 rfl hx.1.1.1 hx.1.1.2.1 hx.1.1.2.2.2.2.2.2.2.2.2.2.2 ?_
  refine go_iload_n dX7_found_9 rfl ?_
  refine go_aload_n dX7_found_10 rfl ?_
  refine go_gfr dX7_found_11 fl_7_68 rfl hx.1.1.1 hx.1.1.2.1 hx.1.1.2.2.2.2.2.2.2.2.2.2.2 ?_
  refine go_iload_n dX7_found_14 rfl ?_
  refine go_cv (as := [.int _]) 0 dX7_found_15 mt_7_153 (Or.inr rfl) rfl rfl hx.1.2.2.2.2.2.2.2.1.1 hx.1.2.2.2.2.2.2.2.1.2.1 (Nat.le_of_ble_eq_true rfl) (Nat.le_of_ble_eq_true rfl) (Nat.le_of_ble_eq_true rfl) (Nat.le_of_ble_eq_true rfl) (Nat.le_of_ble_eq_true rfl) ?_
  refine me_X0_get hx.1.2.2.2.2.2.2.2.1 ?_
  rw [cg_b hf, i_si_o (by decide)]
  show bw_go _ _ _ _ _ _ _ 18 [(0, .ref _), (1, .int _)] ((.int _) :: (.int _) :: (.ref _) :: []) _ _
  refine go_iconst (1) dX7_found_18 rfl ?_
  refine go_iadd dX7_found_19 ?_
  refine go_cv (as := [.int _, .int _]) 0 dX7_found_20 mt_7_334 (Or.inr rfl) rfl rfl hx.1.2.2.2.2.2.2.2.1.1 hx.1.2.2.2.2.2.2.2.1.2.1 (Nat.le_of_ble_eq_true rfl) (Nat.le_of_ble_eq_true rfl) (Nat.le_of_ble_eq_true rfl) (Nat.le_of_ble_eq_true rfl) (Nat.le_of_ble_eq_true rfl) ?_
  refine me_X0_set hx.1.2.2.2.2.2.2.2.1 ?_
  rw [cs_b hf, i_si_o (by decide)]
  show bw_go _ _ _ _ _ _ _ 23 [(0, .ref _), (1, .int _)] ([]) _ _
  refine go_bipush (-3) dX7_found_23 rfl ?_
  refine go_iret dX7_found_25 rfl rfl ?_
  refine hQ _ (xr_fnd hx hf) (frM_wi rfl (fun q h1 h2 => ?_))
  rw [i_sa_o (by omega), i_si_o (by omega)]
set_option maxRecDepth 100000 in
set_option maxHeartbeats 4000000 in
theorem me_X7_missingPlace {X : Nat × (Nat → Int32)} {Q : Option Value → bw_H → Prop} {h : bw_H} {p num wid j : Nat} {s : Option Nat} {i : Int32} (hc : bw_sf h p num wid) (hj : j < num) (hS : bw_i h (p + 2) j = oz s) (hs : sok s wid) (hQ : Q (some (.int (nI (mis s i)))) h) : bw_me X 3 bm_X7_missingPlace false [.ref p, .int (nI j), .int i] h Q := by
  show bw_go _ 3 7 3 false (some .int) cX7_missingPlace 0 [(0, .ref _), (1, .int _), (2, .int _)] [] _ _
  refine go_aload_n dX7_missingPlace_0 rfl ?_
  refine go_iload_n dX7_missingPlace_1 rfl ?_
  refine go_cv (as := [.int _]) 2 dX7_missingPlace_2 mt_7_109 (Or.inr rfl) rfl rfl hc.1.1 hc.1.2.1 (Nat.le_of_ble_eq_true rfl) (Nat.le_of_ble_eq_true rfl) (Nat.le_of_ble_eq_true rfl) (Nat.le_of_ble_eq_true rfl) (Nat.le_of_ble_eq_true rfl) ?_
  refine me_X4_has hc hj hS hs ?_
  show bw_go _ _ _ _ _ _ _ 5 [(0, .ref _), (1, .int _), (2, .int _)] ((.int _) :: []) _ _
  refine go_ifb_ne (pc' := 10) dX7_missingPlace_5 rfl (fun c_5 => ?_) (fun c_5 => ?_)
  · -- ne at 5: yes
    show bw_go _ _ _ _ _ _ _ 10 [(0, .ref _), (1, .int _), (2, .int _)] ([]) _ _
    refine go_aload_n dX7_missingPlace_10 rfl ?_
    refine go_iload_n dX7_missingPlace_11 rfl ?_
    refine go_iload_n dX7_missingPlace_12 rfl ?_
    refine go_cv (as := [.int _, .int _]) 2 dX7_missingPlace_13 mt_7_336 (Or.inr rfl) rfl rfl hc.1.1 hc.1.2.1 (Nat.le_of_ble_eq_true rfl) (Nat.le_of_ble_eq_true rfl) (Nat.le_of_ble_eq_true rfl) (Nat.le_of_ble_eq_true rfl) (Nat.le_of_ble_eq_true rfl) ?_
    refine me_X4_hasPlace hc hj hS hs ?_
    show bw_go _ _ _ _ _ _ _ 16 [(0, .ref _), (1, .int _), (2, .int _)] ((.int _) :: []) _ _
    refine go_ifb_eq (pc' := 23) dX7_missingPlace_16 rfl (fun c_16 => ?_) (fun c_16 => ?_)
    · -- eq at 16: yes
      show bw_go _ _ _ _ _ _ _ 23 [(0, .ref _), (1, .int _), (2, .int _)] ([]) _ _
      refine go_iconst (2) dX7_missingPlace_23 rfl ?_
      refine go_iret dX7_missingPlace_24 rfl rfl ?_
      obtain ⟨m, rfl⟩ := Option.isSome_iff_exists.mp c_5
      unfold mis at hQ; simp only at hQ; rw [if_neg (by rw [c_16]; decide)] at hQ; exact hQ
    · -- eq at 16: no
      show bw_go _ _ _ _ _ _ _ 19 [(0, .ref _), (1, .int _), (2, .int _)] ([]) _ _
      refine go_iconst (0) dX7_missingPlace_19 rfl ?_
      refine go_goto (pc' := 24) dX7_missingPlace_20 rfl ?_
      show bw_go _ _ _ _ _ _ _ 24 [(0, .ref _), (1, .int _), (2, .int _)] ((.int _) :: []) _ _
      refine go_iret dX7_missingPlace_24 rfl rfl ?_
      obtain ⟨m, rfl⟩ := Option.isSome_iff_exists.mp c_5
      unfold mis at hQ; simp only at hQ; rw [if_pos c_16] at hQ; exact hQ
  · -- ne at 5: no
    show bw_go _ _ _ _ _ _ _ 8 [(0, .ref _), (1, .int _), (2, .int _)] ([]) _ _
    refine go_iconst (1) dX7_missingPlace_8 rfl ?_
    refine go_iret dX7_missingPlace_9 rfl rfl ?_
    have e1 : s = none := by cases s with
      | none => rfl
      | some _ => cases c_5
    subst e1; exact hQ
set_option maxRecDepth 100000 in
set_option maxHeartbeats 4000000 in
theorem me_X7_row {X : Nat × (Nat → Int32)} {Q : Option Value → bw_H → Prop} {h : bw_H} {S : ST} {r n : Int32} (hx : XR h S) (hQ : PX h Q (yRow r n S)) : bw_me X 2 bm_X7_row false [.ref 0, .int r, .int n] h Q := by
  show bw_go _ 2 7 3 false (some .int) cX7_row 0 [(0, .ref _), (1, .int _), (2, .int _)] [] _ _
  refine go_aload_n dX7_row_0 rfl ?_
  refine go_gfr dX7_row_1 fl_7_14 rfl hx.1.1.1 hx.1.1.2.1 hx.1.1.2.2.1 ?_
  refine go_iload_n dX7_row_4 rfl ?_
  refine go_cv (as := [.int _]) 0 dX7_row_5 mt_7_86 (Or.inr rfl) rfl rfl hx.2.1.1.1.1 hx.2.1.1.1.2.1 (Nat.le_of_ble_eq_true rfl) (Nat.le_of_ble_eq_true rfl) (Nat.le_of_ble_eq_true rfl) (Nat.le_of_ble_eq_true rfl) (Nat.le_of_ble_eq_true rfl) ?_
  refine me_X4_isNumber hx.2.1.1 ?_
  show bw_go _ _ _ _ _ _ _ 8 [(0, .ref _), (1, .int _), (2, .int _)] ((.int _) :: []) _ _
  refine go_ifb_eq (pc' := 17) dX7_row_8 rfl (fun c_8 => ?_) (fun c_8 => ?_)
  · -- eq at 8: yes
    show bw_go _ _ _ _ _ _ _ 17 [(0, .ref _), (1, .int _), (2, .int _)] ([]) _ _
    refine go_iconst (-1) dX7_row_17 rfl ?_
    refine go_iret dX7_row_18 rfl rfl ?_
    refine q_x hQ ?_ hx (frM_r h)
    unfold yRow
    rw [if_neg (fun z => Bool.noConfusion ((show isn r 6 = false from c_8).symm.trans z.1))]
  · -- eq at 8: no
    show bw_go _ _ _ _ _ _ _ 11 [(0, .ref _), (1, .int _), (2, .int _)] ([]) _ _
    refine go_iload_n dX7_row_11 rfl ?_
    refine go_bipush (40) dX7_row_12 rfl ?_
    refine go_icmp_le (pc' := 19) dX7_row_14 rfl (fun c_14 => ?_) (fun c_14 => ?_)
    · -- le at 14: yes
      show bw_go _ _ _ _ _ _ _ 19 [(0, .ref _), (1, .int _), (2, .int _)] ([]) _ _
      refine go_iload_n dX7_row_19 rfl ?_
      refine go_if_ge (pc' := 29) dX7_row_20 rfl (fun c_20 => ?_) (fun c_20 => ?_)
      · -- ge at 20: yes
        show bw_go _ _ _ _ _ _ _ 29 [(0, .ref _), (1, .int _), (2, .int _)] ([]) _ _
        refine go_aload_n dX7_row_29 rfl ?_
        refine go_gfr dX7_row_30 fl_7_14 rfl hx.1.1.1 hx.1.1.2.1 hx.1.1.2.2.1 ?_
        refine go_iload_n dX7_row_33 rfl ?_
        refine go_iload_n dX7_row_34 rfl ?_
        refine go_iconst (0) dX7_row_35 rfl ?_
        refine go_cv (as := [.int _, .int _, .int _]) 1 dX7_row_36 mt_7_94 (Or.inr rfl) rfl rfl hx.2.1.1.1.1 hx.2.1.1.1.2.1 (Nat.le_of_ble_eq_true rfl) (Nat.le_of_ble_eq_true rfl) (Nat.le_of_ble_eq_true rfl) (Nat.le_of_ble_eq_true rfl) (Nat.le_of_ble_eq_true rfl) ?_
        obtain ⟨j, hj, rfl⟩ := isn_ex c_8 (by decide)
        obtain ⟨k, hk, rfl⟩ := nn (fun z => (by rw [i_le, i_0] at c_20; rw [i_lt, i_0] at z; omega) : ¬ n < 0)
        have hk2 : k ≤ 40 := by have t_0 := nI_toInt hk; have l_0 : (40 : Int32).toInt = 40 := rfl; simp only [i_le] at c_14; omega
        refine me_X4_make hx.2.1.1 hj hk2 ?_
        show bw_go _ _ _ _ _ _ _ 39 [(0, .ref _), (1, .int _), (2, .int _)] ([]) _ _
        refine go_iload_n dX7_row_39 rfl ?_
        refine go_iret dX7_row_40 rfl rfl ?_
        refine q_x hQ ?_ (xr_rows (h := h) (I := bw_i (bw_sa (bw_sa h (1 + 2) (bw_up (bw_i h (1 + 2)) j (nI k))) (1 + 4) (fl (bw_i h (1 + 4)) (j * 40) k 0))) hx (fun q h1 h2 => ?_) (shR_make hx.2.1 hk2)) (frM_wi rfl (fun q h1 h2 => ?_))
        · unfold yRow
          have t_0 := nI_toInt hk
          rw [if_pos ⟨(show isn (nI j) 6 = true from c_8), by omega⟩, if_neg (by omega), rn_n (by omega), rn_n (by omega)]
        · rw [i_sa_o (by omega), i_sa_o (by omega)]
        · rw [i_sa_o (by omega), i_sa_o (by omega)]
      · -- ge at 20: no
        show bw_go _ _ _ _ _ _ _ 23 [(0, .ref _), (1, .int _), (2, .int _)] ([]) _ _
        refine go_aload_n dX7_row_23 rfl ?_
        refine go_iconst (5) dX7_row_24 rfl ?_
        refine go_cv (as := [.int _]) 1 dX7_row_25 mt_7_90 (Or.inl rfl) rfl rfl hx.1.1.1 hx.1.1.2.1 (Nat.le_of_ble_eq_true rfl) (Nat.le_of_ble_eq_true rfl) (Nat.le_of_ble_eq_true rfl) (Nat.le_of_ble_eq_true rfl) (Nat.le_of_ble_eq_true rfl) ?_
        rw [show (5 : Int32) = nI 5 from rfl]
        refine me_X7_found hx (f := 5) (by decide) (fun g hg hf => ?_)
        show bw_go _ _ _ _ _ _ _ 28 [(0, .ref _), (1, .int _), (2, .int _)] ((.int _) :: []) _ _
        refine go_iret dX7_row_28 rfl rfl ?_
        refine q_x hQ ?_ hg hf
        unfold yRow
        have l_0 : (40 : Int32).toInt = 40 := rfl
        have l_1 := i_0
        simp only [i_le] at c_14
        simp only [i_le] at c_20
        rw [if_pos ⟨(show isn r 6 = true from c_8), by omega⟩, if_pos (by omega)]
    · -- le at 14: no
      show bw_go _ _ _ _ _ _ _ 17 [(0, .ref _), (1, .int _), (2, .int _)] ([]) _ _
      refine go_iconst (-1) dX7_row_17 rfl ?_
      refine go_iret dX7_row_18 rfl rfl ?_
      refine q_x hQ ?_ hx (frM_r h)
      unfold yRow
      have l_0 : (40 : Int32).toInt = 40 := rfl
      simp only [i_le] at c_14
      rw [if_neg (by omega)]
