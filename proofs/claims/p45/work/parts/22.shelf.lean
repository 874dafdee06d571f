/-! Shelf: rows by numbers, each of its own size, or missing -/
def bw_sf (h : bw_H) (p num wid : Nat) : Prop := (p < bw_n h ∧ bw_k h p = .inl 4 ∧ bw_r h p 2 = some (p + 1) ∧ bw_r h p 3 = some (p + 3)) ∧ bw_ce h (p + 1) (p + 2) num ∧ bw_ce h (p + 3) (p + 4) (num * wid) ∧ bw_i h p 0 = nI num ∧ bw_i h p 1 = nI wid ∧ num < 100 ∧ wid < 100
def oz (s : Option Nat) : Int32 := match s with
  | none => -1
  | some m => nI m
def pin (s : Option Nat) (i : Int32) : Bool := match s with
  | none => false
  | some m => decide (0 ≤ i.toInt ∧ i.toInt < m)
def spn (s : Option Nat) (i n : Int32) : Bool := match s with
  | none => false
  | some m => decide (0 ≤ i.toInt ∧ 0 ≤ n.toInt ∧ i.toInt + n.toInt ≤ m)
def sok (s : Option Nat) (wid : Nat) : Prop := ∀ m, s = some m → m ≤ wid
def fl (F : Nat → Int32) (b m : Nat) (v : Int32) : Nat → Int32 := fun x => if b ≤ x ∧ x < b + m then v else F x
theorem sf_sa {h : bw_H} {p num wid a : Nat} {F : Nat → Int32} (hc : bw_sf h p num wid) (hne : p ≠ a) : bw_sf (bw_sa h a F) p num wid := by
  obtain ⟨h1, h2, h3, h4, h5, h6⟩ := hc
  exact ⟨h1, h2, h3, by rw [i_sa_o hne]; exact h4, by rw [i_sa_o hne]; exact h5, h6⟩
theorem isn_n {j num : Nat} (hj : j < num) (hn : num < 100) : decide (0 ≤ (nI j).toInt ∧ (nI j).toInt < num) = true := decide_eq_true (n_in hj (by omega))
theorem oz_t {s : Option Nat} {wid : Nat} (hs : sok s wid) (hw : wid < 100) : (s = none ∧ (oz s).toInt = -1) ∨ ∃ m, s = some m ∧ m ≤ wid ∧ (oz s).toInt = m := by
  cases s with
  | none => exact Or.inl ⟨rfl, rfl⟩
  | some m => exact Or.inr ⟨m, rfl, hs m rfl, nI_toInt (by have := hs m rfl; omega)⟩
theorem i_m1 : (-1 : Int32).toInt = -1 := rfl
theorem nmul {a b : Nat} : nI a * nI b = nI (a * b) := pk_mul a b
theorem up_fl (F : Nat → Int32) (b m : Nat) (v : Int32) : bw_up (fl F b m v) (b + m) v = fl F b (m + 1) v := by
  funext x
  unfold bw_up fl
  by_cases h : x = b + m
  · rw [if_pos h, if_pos (by omega)]
  · rw [if_neg h]
    by_cases h2 : b ≤ x ∧ x < b + m
    · rw [if_pos h2, if_pos (by omega)]
    · rw [if_neg h2, if_neg (by omega)]
theorem fl_0 (F : Nat → Int32) (b : Nat) (v : Int32) : fl F b 0 v = F := by funext x; unfold fl; rw [if_neg (by omega)]
theorem mulb {j num wid x : Nat} (hj : j < num) (hx : x < wid) : j * wid + x < num * wid := by
  have h1 : (j + 1) * wid ≤ num * wid := Nat.mul_le_mul_right wid hj
  rw [Nat.add_mul, Nat.one_mul] at h1
  omega
set_option maxRecDepth 100000 in
set_option maxHeartbeats 4000000 in
theorem me_X4_isNumber {X : Nat × (Nat → Int32)} {Q : Option Value → bw_H → Prop} {h : bw_H} {p num wid : Nat} {i : Int32} (hc : bw_sf h p num wid) (hQ : Q (some (.int (bi (decide (0 ≤ i.toInt ∧ i.toInt < num))))) h) : bw_me X 0 bm_X4_isNumber false [.ref p, .int i] h Q := by
  show bw_go _ 0 4 2 false (some .boolean) cX4_isNumber 0 [(0, .ref _), (1, .int _)] [] _ _
  refine go_iload_n dX4_isNumber_0 rfl ?_
  refine go_if_lt (pc' := 16) dX4_isNumber_1 rfl (fun c_1 => ?_) (fun c_1 => ?_)
  · -- lt at 1: yes
    show bw_go _ _ _ _ _ _ _ 16 [(0, .ref _), (1, .int _)] ([]) _ _
    refine go_iconst (0) dX4_isNumber_16 rfl ?_
    refine go_iret dX4_isNumber_17 rfl rfl ?_
    exact bi_0 (decide_eq_false (by have h1 := hc.2.2.2.2.2.1; have t_0 := nI_toInt (n := num) (by omega); have l_0 := i_0; simp only [i_le, i_lt] at *; omega)) hQ
  · -- lt at 1: no
    show bw_go _ _ _ _ _ _ _ 4 [(0, .ref _), (1, .int _)] ([]) _ _
    refine go_iload_n dX4_isNumber_4 rfl ?_
    refine go_aload_n dX4_isNumber_5 rfl ?_
    refine go_gfi dX4_isNumber_6 fl_4_7 rfl hc.1.1 hc.1.2.1 ?_
    rw [hc.2.2.2.1]
    refine go_icmp_ge (pc' := 16) dX4_isNumber_9 rfl (fun c_9 => ?_) (fun c_9 => ?_)
    · -- ge at 9: yes
      show bw_go _ _ _ _ _ _ _ 16 [(0, .ref _), (1, .int _)] ([]) _ _
      refine go_iconst (0) dX4_isNumber_16 rfl ?_
      refine go_iret dX4_isNumber_17 rfl rfl ?_
      exact bi_0 (decide_eq_false (by have h1 := hc.2.2.2.2.2.1; have t_0 := nI_toInt (n := num) (by omega); have l_0 := i_0; simp only [i_le, i_lt] at *; omega)) hQ
    · -- ge at 9: no
      show bw_go _ _ _ _ _ _ _ 12 [(0, .ref _), (1, .int _)] ([]) _ _
      refine go_iconst (1) dX4_isNumber_12 rfl ?_
      refine go_goto (pc' := 17) dX4_isNumber_13 rfl ?_
      show bw_go _ _ _ _ _ _ _ 17 [(0, .ref _), (1, .int _)] ((.int _) :: []) _ _
      refine go_iret dX4_isNumber_17 rfl rfl ?_
      exact bi_1 (decide_eq_true (by have h1 := hc.2.2.2.2.2.1; have t_0 := nI_toInt (n := num) (by omega); have l_0 := i_0; simp only [i_le, i_lt] at *; omega)) hQ
set_option maxRecDepth 100000 in
set_option maxHeartbeats 4000000 in
theorem me_X4_sizeOf {X : Nat × (Nat → Int32)} {Q : Option Value → bw_H → Prop} {h : bw_H} {p num wid j : Nat} {s : Option Nat} (hc : bw_sf h p num wid) (hj : j < num) (hS : bw_i h (p + 2) j = oz s) (hQ : Q (some (.int (oz s))) h) : bw_me X 1 bm_X4_sizeOf false [.ref p, .int (nI j)] h Q := by
  show bw_go _ 1 4 2 false (some .int) cX4_sizeOf 0 [(0, .ref _), (1, .int _)] [] _ _
  refine go_aload_n dX4_sizeOf_0 rfl ?_
  refine go_iload_n dX4_sizeOf_1 rfl ?_
  refine go_cv (as := [.int _]) 0 dX4_sizeOf_2 mt_4_32 (Or.inl rfl) rfl rfl hc.1.1 hc.1.2.1 (Nat.le_of_ble_eq_true rfl) (Nat.le_of_ble_eq_true rfl) (Nat.le_of_ble_eq_true rfl) (Nat.le_of_ble_eq_true rfl) (Nat.le_of_ble_eq_true rfl) ?_
  refine me_X4_isNumber hc ?_
  rw [isn_n hj hc.2.2.2.2.2.1]
  show bw_go _ _ _ _ _ _ _ 5 [(0, .ref _), (1, .int _)] ((.int _) :: []) _ _
  refine go_ifb_eq (pc' := 19) dX4_sizeOf_5 rfl (fun c_5 => ?_) (fun c_5 => ?_)
  · -- eq at 5: yes
    exact Bool.noConfusion c_5
  · -- eq at 5: no
    show bw_go _ _ _ _ _ _ _ 8 [(0, .ref _), (1, .int _)] ([]) _ _
    refine go_aload_n dX4_sizeOf_8 rfl ?_
    refine go_gfr dX4_sizeOf_9 fl_4_21 rfl hc.1.1 hc.1.2.1 hc.1.2.2.1 ?_
    refine go_iload_n dX4_sizeOf_12 rfl ?_
    refine go_cv (as := [.int _]) 0 dX4_sizeOf_13 mt_4_36 (Or.inr rfl) rfl rfl hc.2.1.1 hc.2.1.2.1 (Nat.le_of_ble_eq_true rfl) (Nat.le_of_ble_eq_true rfl) (Nat.le_of_ble_eq_true rfl) (Nat.le_of_ble_eq_true rfl) (Nat.le_of_ble_eq_true rfl) ?_
    refine me_X0_get hc.2.1 ?_
    rw [cg_n hj hc.2.1.2.2.2.2.2, hS]
    show bw_go _ _ _ _ _ _ _ 16 [(0, .ref _), (1, .int _)] ((.int _) :: []) _ _
    refine go_goto (pc' := 20) dX4_sizeOf_16 rfl ?_
    show bw_go _ _ _ _ _ _ _ 20 [(0, .ref _), (1, .int _)] ((.int _) :: []) _ _
    refine go_iret dX4_sizeOf_20 rfl rfl ?_
    exact hQ
set_option maxRecDepth 100000 in
set_option maxHeartbeats 4000000 in
theorem me_X4_has {X : Nat × (Nat → Int32)} {Q : Option Value → bw_H → Prop} {h : bw_H} {p num wid j : Nat} {s : Option Nat} (hc : bw_sf h p num wid) (hj : j < num) (hS : bw_i h (p + 2) j = oz s) (hs : sok s wid) (hQ : Q (some (.int (bi s.isSome))) h) : bw_me X 2 bm_X4_has false [.ref p, .int (nI j)] h Q := by
  show bw_go _ 2 4 2 false (some .boolean) cX4_has 0 [(0, .ref _), (1, .int _)] [] _ _
  refine go_aload_n dX4_has_0 rfl ?_
  refine go_iload_n dX4_has_1 rfl ?_
  refine go_cv (as := [.int _]) 1 dX4_has_2 mt_4_40 (Or.inl rfl) rfl rfl hc.1.1 hc.1.2.1 (Nat.le_of_ble_eq_true rfl) (Nat.le_of_ble_eq_true rfl) (Nat.le_of_ble_eq_true rfl) (Nat.le_of_ble_eq_true rfl) (Nat.le_of_ble_eq_true rfl) ?_
  refine me_X4_sizeOf hc hj hS ?_
  show bw_go _ _ _ _ _ _ _ 5 [(0, .ref _), (1, .int _)] ((.int _) :: []) _ _
  refine go_iconst (-1) dX4_has_5 rfl ?_
  refine go_icmp_eq (pc' := 13) dX4_has_6 rfl (fun c_6 => ?_) (fun c_6 => ?_)
  · -- eq at 6: yes
    show bw_go _ _ _ _ _ _ _ 13 [(0, .ref _), (1, .int _)] ([]) _ _
    refine go_iconst (0) dX4_has_13 rfl ?_
    refine go_iret dX4_has_14 rfl rfl ?_
    exact bi_0 (by have h2 := hc.2.2.2.2.2.2; have l_0 := i_0; have l_1 := i_m1; simp only [i_le, i_lt, i_eq] at *; rcases oz_t hs h2 with ⟨rfl, z⟩ | ⟨m0, rfl, z1, z2⟩ <;> first | rfl | omega) hQ
  · -- eq at 6: no
    show bw_go _ _ _ _ _ _ _ 9 [(0, .ref _), (1, .int _)] ([]) _ _
    refine go_iconst (1) dX4_has_9 rfl ?_
    refine go_goto (pc' := 14) dX4_has_10 rfl ?_
    show bw_go _ _ _ _ _ _ _ 14 [(0, .ref _), (1, .int _)] ((.int _) :: []) _ _
    refine go_iret dX4_has_14 rfl rfl ?_
    exact bi_1 (by have h2 := hc.2.2.2.2.2.2; have l_0 := i_0; have l_1 := i_m1; simp only [i_le, i_lt, i_eq] at *; rcases oz_t hs h2 with ⟨rfl, z⟩ | ⟨m0, rfl, z1, z2⟩ <;> first | rfl | omega) hQ
set_option maxRecDepth 100000 in
set_option maxHeartbeats 4000000 in
theorem me_X4_hasPlace {X : Nat × (Nat → Int32)} {Q : Option Value → bw_H → Prop} {h : bw_H} {p num wid j : Nat} {s : Option Nat} (hc : bw_sf h p num wid) (hj : j < num) (hS : bw_i h (p + 2) j = oz s) (hs : sok s wid) {i : Int32} (hQ : Q (some (.int (bi (pin s i)))) h) : bw_me X 2 bm_X4_hasPlace false [.ref p, .int (nI j), .int i] h Q := by
  show bw_go _ 2 4 3 false (some .boolean) cX4_hasPlace 0 [(0, .ref _), (1, .int _), (2, .int _)] [] _ _
  refine go_iload_n dX4_hasPlace_0 rfl ?_
  refine go_if_lt (pc' := 17) dX4_hasPlace_1 rfl (fun c_1 => ?_) (fun c_1 => ?_)
  · -- lt at 1: yes
    show bw_go _ _ _ _ _ _ _ 17 [(0, .ref _), (1, .int _), (2, .int _)] ([]) _ _
    refine go_iconst (0) dX4_hasPlace_17 rfl ?_
    refine go_iret dX4_hasPlace_18 rfl rfl ?_
    exact bi_0 (by
      have h2 := hc.2.2.2.2.2.2
      have l_0 := i_0
      have l_1 := i_m1
      simp only [i_le, i_lt, i_eq] at *
      rcases oz_t hs h2 with ⟨rfl, z⟩ | ⟨m0, rfl, z1, z2⟩
      · first | rfl | omega
      · exact decide_eq_false (by omega)) hQ
  · -- lt at 1: no
    show bw_go _ _ _ _ _ _ _ 4 [(0, .ref _), (1, .int _), (2, .int _)] ([]) _ _
    refine go_iload_n dX4_hasPlace_4 rfl ?_
    refine go_aload_n dX4_hasPlace_5 rfl ?_
    refine go_iload_n dX4_hasPlace_6 rfl ?_
    refine go_cv (as := [.int _]) 1 dX4_hasPlace_7 mt_4_40 (Or.inl rfl) rfl rfl hc.1.1 hc.1.2.1 (Nat.le_of_ble_eq_true rfl) (Nat.le_of_ble_eq_true rfl) (Nat.le_of_ble_eq_true rfl) (Nat.le_of_ble_eq_true rfl) (Nat.le_of_ble_eq_true rfl) ?_
    refine me_X4_sizeOf hc hj hS ?_
    show bw_go _ _ _ _ _ _ _ 10 [(0, .ref _), (1, .int _), (2, .int _)] ((.int _) :: (.int _) :: []) _ _
    refine go_icmp_ge (pc' := 17) dX4_hasPlace_10 rfl (fun c_10 => ?_) (fun c_10 => ?_)
    · -- ge at 10: yes
      show bw_go _ _ _ _ _ _ _ 17 [(0, .ref _), (1, .int _), (2, .int _)] ([]) _ _
      refine go_iconst (0) dX4_hasPlace_17 rfl ?_
      refine go_iret dX4_hasPlace_18 rfl rfl ?_
      exact bi_0 (by
        have h2 := hc.2.2.2.2.2.2
        have l_0 := i_0
        have l_1 := i_m1
        simp only [i_le, i_lt, i_eq] at *
        rcases oz_t hs h2 with ⟨rfl, z⟩ | ⟨m0, rfl, z1, z2⟩
        · first | rfl | omega
        · exact decide_eq_false (by omega)) hQ
    · -- ge at 10: no
      show bw_go _ _ _ _ _ _ _ 13 [(0, .ref _), (1, .int _), (2, .int _)] ([]) _ _
      refine go_iconst (1) dX4_hasPlace_13 rfl ?_
      refine go_goto (pc' := 18) dX4_hasPlace_14 rfl ?_
      show bw_go _ _ _ _ _ _ _ 18 [(0, .ref _), (1, .int _), (2, .int _)] ((.int _) :: []) _ _
      refine go_iret dX4_hasPlace_18 rfl rfl ?_
      exact bi_1 (by
        have h2 := hc.2.2.2.2.2.2
        have l_0 := i_0
        have l_1 := i_m1
        simp only [i_le, i_lt, i_eq] at *
        rcases oz_t hs h2 with ⟨rfl, z⟩ | ⟨m0, rfl, z1, z2⟩
        · first | rfl | omega
        · exact decide_eq_true (by omega)) hQ
theorem fb_rng' (x : Int32) : -2147483648 ≤ x.toInt ∧ x.toInt < 2147483648 := ⟨Int32.le_toInt x, Int32.toInt_lt x⟩
theorem lcmp_t {a b n : Int32} : (0 < lg_cmp (a.toInt64 + b.toInt64) n.toInt64) ↔ n.toInt < a.toInt + b.toInt := by
  have r1 := fb_rng' a
  have r2 := fb_rng' b
  have e : (a.toInt64 + b.toInt64).toInt = a.toInt + b.toInt := by
    rw [Int64.toInt_add, Int32.toInt_toInt64, Int32.toInt_toInt64]
    exact Int.bmod_eq_of_le (by omega) (by omega)
  rw [lg_cmp_gt, Int64.lt_iff_toInt_lt, e, Int32.toInt_toInt64]
theorem pin_t {s : Option Nat} {i : Int32} {wid : Nat} (hs : sok s wid) (h : pin s i = true) (hw : wid < 100) : ∃ k, k < wid ∧ i = nI k ∧ s ≠ none := by
  unfold pin at h
  cases s with
  | none => exact Bool.noConfusion h
  | some m =>
    have h1 := of_decide_eq_true h
    have h2 := hs m rfl
    obtain ⟨k, hk, rfl⟩ := vp_in_of (vp_in_iff.mpr h1) (by omega)
    exact ⟨k, by omega, rfl, fun z => by cases z⟩
set_option maxRecDepth 100000 in
set_option maxHeartbeats 4000000 in
theorem me_X4_get {X : Nat × (Nat → Int32)} {Q : Option Value → bw_H → Prop} {h : bw_H} {p num wid j : Nat} {s : Option Nat} (hc : bw_sf h p num wid) (hj : j < num) (hS : bw_i h (p + 2) j = oz s) (hs : sok s wid) {i : Int32} (hQ : Q (some (.int (if pin s i = true then bw_i h (p + 4) (j * wid + i.toNatClampNeg) else 0))) h) : bw_me X 3 bm_X4_get false [.ref p, .int (nI j), .int i] h Q := by
  show bw_go _ 3 4 3 false (some .int) cX4_get 0 [(0, .ref _), (1, .int _), (2, .int _)] [] _ _
  refine go_aload_n dX4_get_0 rfl ?_
  refine go_iload_n dX4_get_1 rfl ?_
  refine go_iload_n dX4_get_2 rfl ?_
  refine go_cv (as := [.int _, .int _]) 2 dX4_get_3 mt_4_43 (Or.inl rfl) rfl rfl hc.1.1 hc.1.2.1 (Nat.le_of_ble_eq_true rfl) (Nat.le_of_ble_eq_true rfl) (Nat.le_of_ble_eq_true rfl) (Nat.le_of_ble_eq_true rfl) (Nat.le_of_ble_eq_true rfl) ?_
  refine me_X4_hasPlace hc hj hS hs ?_
  show bw_go _ _ _ _ _ _ _ 6 [(0, .ref _), (1, .int _), (2, .int _)] ((.int _) :: []) _ _
  refine go_ifb_eq (pc' := 27) dX4_get_6 rfl (fun c_6 => ?_) (fun c_6 => ?_)
  · -- eq at 6: yes
    show bw_go _ _ _ _ _ _ _ 27 [(0, .ref _), (1, .int _), (2, .int _)] ([]) _ _
    refine go_iconst (0) dX4_get_27 rfl ?_
    refine go_iret dX4_get_28 rfl rfl ?_
    rw [c_6] at hQ; first | exact hQ | (rw [nI_clamp (by omega)] at hQ; exact hQ)
  · -- eq at 6: no
    show bw_go _ _ _ _ _ _ _ 9 [(0, .ref _), (1, .int _), (2, .int _)] ([]) _ _
    refine go_aload_n dX4_get_9 rfl ?_
    refine go_gfr dX4_get_10 fl_4_25 rfl hc.1.1 hc.1.2.1 hc.1.2.2.2 ?_
    refine go_iload_n dX4_get_13 rfl ?_
    refine go_aload_n dX4_get_14 rfl ?_
    refine go_gfi dX4_get_15 fl_4_13 rfl hc.1.1 hc.1.2.1 ?_
    rw [hc.2.2.2.2.1]
    refine go_imul dX4_get_18 ?_
    refine go_iload_n dX4_get_19 rfl ?_
    refine go_iadd dX4_get_20 ?_
    refine go_cv (as := [.int _]) 0 dX4_get_21 mt_4_36 (Or.inr rfl) rfl rfl hc.2.2.1.1 hc.2.2.1.2.1 (Nat.le_of_ble_eq_true rfl) (Nat.le_of_ble_eq_true rfl) (Nat.le_of_ble_eq_true rfl) (Nat.le_of_ble_eq_true rfl) (Nat.le_of_ble_eq_true rfl) ?_
    refine me_X0_get hc.2.2.1 ?_
    have h2 := hc.2.2.2.2.2.2
    have h1 := hc.2.2.2.2.2.1
    obtain ⟨k, hk, rfl, -⟩ := pin_t hs c_6 h2
    rw [nmul, nI_add, cg_n (mulb hj hk) hc.2.2.1.2.2.2.2.2]
    show bw_go _ _ _ _ _ _ _ 24 [(0, .ref _), (1, .int _), (2, .int _)] ((.int _) :: []) _ _
    refine go_goto (pc' := 28) dX4_get_24 rfl ?_
    show bw_go _ _ _ _ _ _ _ 28 [(0, .ref _), (1, .int _), (2, .int _)] ((.int _) :: []) _ _
    refine go_iret dX4_get_28 rfl rfl ?_
    rw [c_6] at hQ; first | exact hQ | (rw [nI_clamp (by omega)] at hQ; exact hQ)
set_option maxRecDepth 100000 in
set_option maxHeartbeats 4000000 in
theorem me_X4_set {X : Nat × (Nat → Int32)} {Q : Option Value → bw_H → Prop} {h : bw_H} {p num wid j : Nat} {s : Option Nat} (hc : bw_sf h p num wid) (hj : j < num) (hS : bw_i h (p + 2) j = oz s) (hs : sok s wid) {i v : Int32} (hQ : Q none (bw_sa h (p + 4) (if pin s i = true then bw_up (bw_i h (p + 4)) (j * wid + i.toNatClampNeg) v else bw_i h (p + 4)))) : bw_me X 3 bm_X4_set false [.ref p, .int (nI j), .int i, .int v] h Q := by
  show bw_go _ 3 4 4 false none cX4_set 0 [(0, .ref _), (1, .int _), (2, .int _), (3, .int _)] [] _ _
  refine go_aload_n dX4_set_0 rfl ?_
  refine go_iload_n dX4_set_1 rfl ?_
  refine go_iload_n dX4_set_2 rfl ?_
  refine go_cv (as := [.int _, .int _]) 2 dX4_set_3 mt_4_43 (Or.inl rfl) rfl rfl hc.1.1 hc.1.2.1 (Nat.le_of_ble_eq_true rfl) (Nat.le_of_ble_eq_true rfl) (Nat.le_of_ble_eq_true rfl) (Nat.le_of_ble_eq_true rfl) (Nat.le_of_ble_eq_true rfl) ?_
  refine me_X4_hasPlace hc hj hS hs ?_
  show bw_go _ _ _ _ _ _ _ 6 [(0, .ref _), (1, .int _), (2, .int _), (3, .int _)] ((.int _) :: []) _ _
  refine go_ifb_eq (pc' := 25) dX4_set_6 rfl (fun c_6 => ?_) (fun c_6 => ?_)
  · -- eq at 6: yes
    show bw_go _ _ _ _ _ _ _ 25 [(0, .ref _), (1, .int _), (2, .int _), (3, .int _)] ([]) _ _
    refine go_vret dX4_set_25 rfl ?_
    simp only [c_6, if_true, if_false, Bool.false_eq_true] at hQ; first | exact hQ | (rw [nI_clamp (by omega)] at hQ; exact hQ) | (rw [sa_id] at hQ; exact hQ)
  · -- eq at 6: no
    show bw_go _ _ _ _ _ _ _ 9 [(0, .ref _), (1, .int _), (2, .int _), (3, .int _)] ([]) _ _
    refine go_aload_n dX4_set_9 rfl ?_
    refine go_gfr dX4_set_10 fl_4_25 rfl hc.1.1 hc.1.2.1 hc.1.2.2.2 ?_
    refine go_iload_n dX4_set_13 rfl ?_
    refine go_aload_n dX4_set_14 rfl ?_
    refine go_gfi dX4_set_15 fl_4_13 rfl hc.1.1 hc.1.2.1 ?_
    rw [hc.2.2.2.2.1]
    refine go_imul dX4_set_18 ?_
    refine go_iload_n dX4_set_19 rfl ?_
    refine go_iadd dX4_set_20 ?_
    refine go_iload_n dX4_set_21 rfl ?_
    refine go_cv (as := [.int _, .int _]) 0 dX4_set_22 mt_4_28 (Or.inr rfl) rfl rfl hc.2.2.1.1 hc.2.2.1.2.1 (Nat.le_of_ble_eq_true rfl) (Nat.le_of_ble_eq_true rfl) (Nat.le_of_ble_eq_true rfl) (Nat.le_of_ble_eq_true rfl) (Nat.le_of_ble_eq_true rfl) ?_
    refine me_X0_set hc.2.2.1 ?_
    have h2 := hc.2.2.2.2.2.2
    have h1 := hc.2.2.2.2.2.1
    obtain ⟨k, hk, rfl, -⟩ := pin_t hs c_6 h2
    rw [nmul, nI_add, cs_n (mulb hj hk) hc.2.2.1.2.2.2.2.2]
    show bw_go _ _ _ _ _ _ _ 25 [(0, .ref _), (1, .int _), (2, .int _), (3, .int _)] ([]) _ _
    refine go_vret dX4_set_25 rfl ?_
    simp only [c_6, if_true, if_false, Bool.false_eq_true] at hQ; first | exact hQ | (rw [nI_clamp (by omega)] at hQ; exact hQ) | (rw [sa_id] at hQ; exact hQ)
theorem spn_t {s : Option Nat} {a n wid : Nat} (hs : sok s wid) (h : spn s (nI a) (nI n) = true) (ha : a < 1000) (hn : n < 1000) : a + n ≤ wid := by
  unfold spn at h
  cases s with
  | none => exact Bool.noConfusion h
  | some m =>
    have h1 := of_decide_eq_true h
    have h2 := hs m rfl
    rw [nI_toInt (by omega), nI_toInt (by omega)] at h1
    omega
theorem mulb2 {j num wid a n : Nat} (hj : j < num) (hx : a + n ≤ wid) : j * wid + a + n ≤ num * wid := by
  have h1 : (j + 1) * wid ≤ num * wid := Nat.mul_le_mul_right wid hj
  rw [Nat.add_mul, Nat.one_mul] at h1
  omega
