/-! Shelf: making, sums, digest -/
set_option maxRecDepth 100000 in
set_option maxHeartbeats 4000000 in
theorem me_X4_make {X : Nat × (Nat → Int32)} {Q : Option Value → bw_H → Prop} {h : bw_H} {p num wid j m : Nat} {v : Int32} (hc : bw_sf h p num wid) (hj : j < num) (hm : m ≤ wid) (hQ : Q none (bw_sa (bw_sa h (p + 2) (bw_up (bw_i h (p + 2)) j (nI m))) (p + 4) (fl (bw_i h (p + 4)) (j * wid) m v))) : bw_me X 1 bm_X4_make false [.ref p, .int (nI j), .int (nI m), .int v] h Q := by
  show bw_go _ 1 4 5 false none cX4_make 0 [(0, .ref _), (1, .int _), (2, .int _), (3, .int _)] [] _ _
  refine go_aload_n dX4_make_0 rfl ?_
  refine go_iload_n dX4_make_1 rfl ?_
  refine go_cv (as := [.int _]) 0 dX4_make_2 mt_4_32 (Or.inl rfl) rfl rfl hc.1.1 hc.1.2.1 (Nat.le_of_ble_eq_true rfl) (Nat.le_of_ble_eq_true rfl) (Nat.le_of_ble_eq_true rfl) (Nat.le_of_ble_eq_true rfl) (Nat.le_of_ble_eq_true rfl) ?_
  refine me_X4_isNumber hc ?_
  rw [isn_n hj hc.2.2.2.2.2.1]
  show bw_go _ _ _ _ _ _ _ 5 [(0, .ref _), (1, .int _), (2, .int _), (3, .int _)] ((.int _) :: []) _ _
  refine go_ifb_eq (pc' := 20) dX4_make_5 rfl (fun c_5 => ?_) (fun c_5 => ?_)
  · -- eq at 5: yes
    have h2 := hc.2.2.2.2.2.2; first | exact Bool.noConfusion c_5 | (have t_0 := nI_toInt (n := m) (by omega); have t_1 := nI_toInt (n := wid) (by omega); have l_0 := i_0; simp only [i_le, i_lt] at *; omega)
  · -- eq at 5: no
    show bw_go _ _ _ _ _ _ _ 8 [(0, .ref _), (1, .int _), (2, .int _), (3, .int _)] ([]) _ _
    refine go_iload_n dX4_make_8 rfl ?_
    refine go_if_lt (pc' := 20) dX4_make_9 rfl (fun c_9 => ?_) (fun c_9 => ?_)
    · -- lt at 9: yes
      have h2 := hc.2.2.2.2.2.2; first | exact Bool.noConfusion c_5 | (have t_0 := nI_toInt (n := m) (by omega); have t_1 := nI_toInt (n := wid) (by omega); have l_0 := i_0; simp only [i_le, i_lt] at *; omega)
    · -- lt at 9: no
      show bw_go _ _ _ _ _ _ _ 12 [(0, .ref _), (1, .int _), (2, .int _), (3, .int _)] ([]) _ _
      refine go_iload_n dX4_make_12 rfl ?_
      refine go_aload_n dX4_make_13 rfl ?_
      refine go_gfi dX4_make_14 fl_4_13 rfl hc.1.1 hc.1.2.1 ?_
      rw [hc.2.2.2.2.1]
      refine go_icmp_le (pc' := 21) dX4_make_17 rfl (fun c_17 => ?_) (fun c_17 => ?_)
      · -- le at 17: yes
        show bw_go _ _ _ _ _ _ _ 21 [(0, .ref _), (1, .int _), (2, .int _), (3, .int _)] ([]) _ _
        refine go_aload_n dX4_make_21 rfl ?_
        refine go_gfr dX4_make_22 fl_4_21 rfl hc.1.1 hc.1.2.1 hc.1.2.2.1 ?_
        refine go_iload_n dX4_make_25 rfl ?_
        refine go_iload_n dX4_make_26 rfl ?_
        refine go_cv (as := [.int _, .int _]) 0 dX4_make_27 mt_4_28 (Or.inr rfl) rfl rfl hc.2.1.1 hc.2.1.2.1 (Nat.le_of_ble_eq_true rfl) (Nat.le_of_ble_eq_true rfl) (Nat.le_of_ble_eq_true rfl) (Nat.le_of_ble_eq_true rfl) (Nat.le_of_ble_eq_true rfl) ?_
        refine me_X0_set hc.2.1 ?_
        rw [cs_n hj hc.2.1.2.2.2.2.2]
        show bw_go _ _ _ _ _ _ _ 30 [(0, .ref _), (1, .int _), (2, .int _), (3, .int _)] ([]) _ _
        refine go_iconst (0) dX4_make_30 rfl ?_
        refine go_istore dX4_make_31 (Nat.lt_of_lt_of_le (Nat.lt_succ_self _) (Nat.le_of_ble_eq_true rfl)) ?_
        show bw_go _ _ _ _ _ _ _ 33 [(4, .int _), (0, .ref _), (1, .int _), (2, .int _), (3, .int _)] ([]) _ _
        have e0 : bw_sa h (p + 2) (bw_up (bw_i h (p + 2)) j (nI m)) = (bw_sa (bw_sa h (p + 2) (bw_up (bw_i h (p + 2)) j (nI m))) (p + 4) (fl (bw_i h (p + 4)) (j * wid) 0 v)) := by
          have e1 : bw_i (bw_sa h (p + 2) (bw_up (bw_i h (p + 2)) j (nI m))) (p + 4) = bw_i h (p + 4) := i_sa_o (by omega)
          rw [fl_0, ← e1, sa_id]
        rw [e0]
        refine go_for (P := fun k => bw_go X 1 4 5 false none cX4_make 33 [(4, .int (nI k)), (0, .ref (p)), (1, .int (nI j)), (2, .int (nI m)), (3, .int (v))] [] (bw_sa (bw_sa h (p + 2) (bw_up (bw_i h (p + 2)) j (nI m))) (p + 4) (fl (bw_i h (p + 4)) (j * wid) k v)) Q) (N := m) (fun k hk K => ?_) ?_ (0) (Nat.zero_le _)
        · -- a turn
          have h2 := hc.2.2.2.2.2.2
          have h1 := hc.2.2.2.2.2.1
          have hc : bw_sf (bw_sa (bw_sa h (p + 2) (bw_up (bw_i h (p + 2)) j (nI m))) (p + 4) (fl (bw_i h (p + 4)) (j * wid) k v)) p num wid := sf_sa (sf_sa hc (by omega)) (by omega)
          show bw_go _ _ _ _ _ _ _ 33 [(4, .int _), (0, .ref _), (1, .int _), (2, .int _), (3, .int _)] ([]) _ _
          refine go_iload dX4_make_33 rfl ?_
          refine go_iload_n dX4_make_35 rfl ?_
          refine go_icmp_ge (pc' := 62) dX4_make_36 rfl (fun c_36 => ?_) (fun c_36 => ?_)
          · -- ge at 36: yes
            exfalso; have t_0 := nI_toInt (n := m) (by omega); have t_1 := nI_toInt (n := k) (by omega); simp only [i_le, i_lt, i_eq, bi_eq] at c_36; omega
          · -- ge at 36: no
            show bw_go _ _ _ _ _ _ _ 39 [(4, .int _), (0, .ref _), (1, .int _), (2, .int _), (3, .int _)] ([]) _ _
            refine go_aload_n dX4_make_39 rfl ?_
            refine go_gfr dX4_make_40 fl_4_25 rfl hc.1.1 hc.1.2.1 hc.1.2.2.2 ?_
            refine go_iload_n dX4_make_43 rfl ?_
            refine go_aload_n dX4_make_44 rfl ?_
            refine go_gfi dX4_make_45 fl_4_13 rfl hc.1.1 hc.1.2.1 ?_
            rw [hc.2.2.2.2.1]
            refine go_imul dX4_make_48 ?_
            refine go_iload dX4_make_49 rfl ?_
            refine go_iadd dX4_make_51 ?_
            refine go_iload_n dX4_make_52 rfl ?_
            refine go_cv (as := [.int _, .int _]) 0 dX4_make_53 mt_4_28 (Or.inr rfl) rfl rfl hc.2.2.1.1 hc.2.2.1.2.1 (Nat.le_of_ble_eq_true rfl) (Nat.le_of_ble_eq_true rfl) (Nat.le_of_ble_eq_true rfl) (Nat.le_of_ble_eq_true rfl) (Nat.le_of_ble_eq_true rfl) ?_
            refine me_X0_set hc.2.2.1 ?_
            rw [nmul, nI_add, cs_n (mulb hj (by omega)) hc.2.2.1.2.2.2.2.2, i_sa_s, sa_sa, up_fl]
            show bw_go _ _ _ _ _ _ _ 56 [(4, .int _), (0, .ref _), (1, .int _), (2, .int _), (3, .int _)] ([]) _ _
            refine go_iinc dX4_make_56 rfl (nI_1 k) (Nat.lt_of_lt_of_le (Nat.lt_succ_self _) (Nat.le_of_ble_eq_true rfl)) ?_
            show bw_go _ _ _ _ _ _ _ 59 [(4, .int _), (0, .ref _), (1, .int _), (2, .int _), (3, .int _)] ([]) _ _
            refine go_goto (pc' := 33) dX4_make_59 rfl ?_
            exact K
        · -- behind the last
          have h2 := hc.2.2.2.2.2.2
          show bw_go _ _ _ _ _ _ _ 33 [(4, .int _), (0, .ref _), (1, .int _), (2, .int _), (3, .int _)] ([]) _ _
          refine go_iload dX4_make_33 rfl ?_
          refine go_iload_n dX4_make_35 rfl ?_
          refine go_icmp_ge (pc' := 62) dX4_make_36 rfl (fun c_36 => ?_) (fun c_36 => ?_)
          · -- ge at 36: yes
            show bw_go _ _ _ _ _ _ _ 62 [(4, .int _), (0, .ref _), (1, .int _), (2, .int _), (3, .int _)] ([]) _ _
            refine go_vret dX4_make_62 rfl ?_
            exact hQ
          · -- ge at 36: no
            exfalso; have t_0 := nI_toInt (n := m) (by omega); simp only [i_le, i_lt, i_eq, bi_eq] at c_36; omega
      · -- le at 17: no
        have h2 := hc.2.2.2.2.2.2; first | exact Bool.noConfusion c_5 | (have t_0 := nI_toInt (n := m) (by omega); have t_1 := nI_toInt (n := wid) (by omega); have l_0 := i_0; simp only [i_le, i_lt] at *; omega)
def sml (F : Nat → Int32) (b : Nat) : Nat → Int64
  | 0 => 0
  | k + 1 => sml F b k + (F (b + k)).toInt64
def osz (s : Option Nat) : Nat := match s with
  | none => 0
  | some m => m
theorem oz_lt {s : Option Nat} {wid k : Nat} (hs : sok s wid) (hw : wid < 100) (hk : k < 100) : oz s ≤ nI k ↔ osz s ≤ k := by
  rw [i_le, nI_toInt (by omega)]
  rcases oz_t hs hw with ⟨rfl, z⟩ | ⟨m, rfl, z1, z2⟩
  · rw [z]; show _ ↔ 0 ≤ k; omega
  · rw [z2]; show _ ↔ m ≤ k; omega
theorem osz_le {s : Option Nat} {wid : Nat} (hs : sok s wid) : osz s ≤ wid := by
  cases s with
  | none => exact Nat.zero_le _
  | some m => exact hs m rfl
theorem pin_n {s : Option Nat} {k : Nat} (h : k < osz s) (hk : k < 100) : pin s (nI k) = true := by
  cases s with
  | none => exact absurd h (Nat.not_lt_zero _)
  | some m => exact decide_eq_true (by rw [nI_toInt (by omega)]; unfold osz at h; simp only at h; omega)
def cnt (P : Nat → Bool) : Nat → Nat
  | 0 => 0
  | k + 1 => cnt P k + (if P k = true then 1 else 0)
theorem cnt_t {P : Nat → Bool} {k : Nat} (h : P k = true) : nI (cnt P k) + 1 = nI (cnt P (k + 1)) := by rw [nI_1]; show _ = nI (cnt P k + (if P k = true then 1 else 0)); rw [if_pos h]
theorem cnt_f {P : Nat → Bool} {k : Nat} (h : P k = false) : cnt P k = cnt P (k + 1) := by show _ = cnt P k + (if P k = true then 1 else 0); rw [h]; rfl
set_option maxRecDepth 100000 in
set_option maxHeartbeats 4000000 in
theorem me_X4_thoseThere {X : Nat × (Nat → Int32)} {Q : Option Value → bw_H → Prop} {h : bw_H} {p num wid : Nat} {S : Nat → Option Nat} (hc : bw_sf h p num wid) (hS : ∀ r, r < num → bw_i h (p + 2) r = oz (S r)) (hs : ∀ r, r < num → sok (S r) wid) (hQ : Q (some (.int (nI (cnt (fun r => (S r).isSome) num)))) h) : bw_me X 3 bm_X4_thoseThere false [.ref p] h Q := by
  show bw_go _ 3 4 3 false (some .int) cX4_thoseThere 0 [(0, .ref _)] [] _ _
  refine go_iconst (0) dX4_thoseThere_0 rfl ?_
  refine go_istore_n dX4_thoseThere_1 (Nat.lt_of_lt_of_le (Nat.lt_succ_self _) (Nat.le_of_ble_eq_true rfl)) ?_
  show bw_go _ _ _ _ _ _ _ 2 [(1, .int _), (0, .ref _)] ([]) _ _
  refine go_iconst (0) dX4_thoseThere_2 rfl ?_
  refine go_istore_n dX4_thoseThere_3 (Nat.lt_of_lt_of_le (Nat.lt_succ_self _) (Nat.le_of_ble_eq_true rfl)) ?_
  show bw_go _ _ _ _ _ _ _ 4 [(2, .int _), (1, .int _), (0, .ref _)] ([]) _ _
  refine go_for (P := fun k => bw_go X 3 4 3 false (some .int) cX4_thoseThere 4 [(2, .int (nI k)), (1, .int (nI (cnt (fun r => (S r).isSome) k))), (0, .ref (p))] [] h Q) (N := num) (fun k hk K => ?_) ?_ (0) (Nat.zero_le _)
  · -- a turn
    show bw_go _ _ _ _ _ _ _ 4 [(2, .int _), (1, .int _), (0, .ref _)] ([]) _ _
    refine go_iload_n dX4_thoseThere_4 rfl ?_
    refine go_aload_n dX4_thoseThere_5 rfl ?_
    refine go_gfi dX4_thoseThere_6 fl_4_7 rfl hc.1.1 hc.1.2.1 ?_
    rw [hc.2.2.2.1]
    refine go_icmp_ge (pc' := 29) dX4_thoseThere_9 rfl (fun c_9 => ?_) (fun c_9 => ?_)
    · -- ge at 9: yes
      exfalso; have h1 := hc.2.2.2.2.2.1; have t_0 := nI_toInt (n := num) (by omega); have t_1 := nI_toInt (n := k) (by omega); simp only [i_le, i_lt, i_eq, bi_eq] at c_9; omega
    · -- ge at 9: no
      show bw_go _ _ _ _ _ _ _ 12 [(2, .int _), (1, .int _), (0, .ref _)] ([]) _ _
      refine go_aload_n dX4_thoseThere_12 rfl ?_
      refine go_iload_n dX4_thoseThere_13 rfl ?_
      refine go_cv (as := [.int _]) 2 dX4_thoseThere_14 mt_4_58 (Or.inl rfl) rfl rfl hc.1.1 hc.1.2.1 (Nat.le_of_ble_eq_true rfl) (Nat.le_of_ble_eq_true rfl) (Nat.le_of_ble_eq_true rfl) (Nat.le_of_ble_eq_true rfl) (Nat.le_of_ble_eq_true rfl) ?_
      refine me_X4_has hc hk (hS k hk) (hs k hk) ?_
      show bw_go _ _ _ _ _ _ _ 17 [(2, .int _), (1, .int _), (0, .ref _)] ((.int _) :: []) _ _
      refine go_ifb_eq (pc' := 23) dX4_thoseThere_17 rfl (fun c_17 => ?_) (fun c_17 => ?_)
      · -- eq at 17: yes
        show bw_go _ _ _ _ _ _ _ 23 [(2, .int _), (1, .int _), (0, .ref _)] ([]) _ _
        refine go_iinc dX4_thoseThere_23 rfl (nI_1 k) (Nat.lt_of_lt_of_le (Nat.lt_succ_self _) (Nat.le_of_ble_eq_true rfl)) ?_
        show bw_go _ _ _ _ _ _ _ 26 [(2, .int _), (1, .int _), (0, .ref _)] ([]) _ _
        refine go_goto (pc' := 4) dX4_thoseThere_26 rfl ?_
        first | exact K | (rw [← cnt_f (P := fun r => (S r).isSome) c_17] at K; exact K)
      · -- eq at 17: no
        show bw_go _ _ _ _ _ _ _ 20 [(2, .int _), (1, .int _), (0, .ref _)] ([]) _ _
        refine go_iinc dX4_thoseThere_20 rfl (cnt_t (P := fun r => (S r).isSome) c_17) (Nat.lt_of_lt_of_le (Nat.lt_succ_self _) (Nat.le_of_ble_eq_true rfl)) ?_
        show bw_go _ _ _ _ _ _ _ 23 [(1, .int _), (2, .int _), (0, .ref _)] ([]) _ _
        refine go_iinc dX4_thoseThere_23 rfl (nI_1 k) (Nat.lt_of_lt_of_le (Nat.lt_succ_self _) (Nat.le_of_ble_eq_true rfl)) ?_
        show bw_go _ _ _ _ _ _ _ 26 [(2, .int _), (1, .int _), (0, .ref _)] ([]) _ _
        refine go_goto (pc' := 4) dX4_thoseThere_26 rfl ?_
        first | exact K | (rw [← cnt_f (P := fun r => (S r).isSome) c_17] at K; exact K)
  · -- behind the last
    show bw_go _ _ _ _ _ _ _ 4 [(2, .int _), (1, .int _), (0, .ref _)] ([]) _ _
    refine go_iload_n dX4_thoseThere_4 rfl ?_
    refine go_aload_n dX4_thoseThere_5 rfl ?_
    refine go_gfi dX4_thoseThere_6 fl_4_7 rfl hc.1.1 hc.1.2.1 ?_
    rw [hc.2.2.2.1]
    refine go_icmp_ge (pc' := 29) dX4_thoseThere_9 rfl (fun c_9 => ?_) (fun c_9 => ?_)
    · -- ge at 9: yes
      show bw_go _ _ _ _ _ _ _ 29 [(2, .int _), (1, .int _), (0, .ref _)] ([]) _ _
      refine go_iload_n dX4_thoseThere_29 rfl ?_
      refine go_iret dX4_thoseThere_30 rfl rfl ?_
      exact hQ
    · -- ge at 9: no
      exfalso; have h1 := hc.2.2.2.2.2.1; have t_0 := nI_toInt (n := num) (by omega); simp only [i_le, i_lt, i_eq, bi_eq] at c_9; omega
/-- 31 h + v over m places from b on -/
def dg (F : Nat → Int32) (b : Nat) (g : Int64) : Nat → Int64
  | 0 => g
  | k + 1 => 31 * dg F b g k + (F (b + k)).toInt64
/-- over rows: the size, then the places -/
def dgs (S : Nat → Option Nat) (F : Nat → Int32) (wid : Nat) (g : Int64) : Nat → Int64
  | 0 => g
  | r + 1 => dg F (r * wid) (31 * dgs S F wid g r + (oz (S r)).toInt64) (osz (S r))
set_option maxRecDepth 100000 in
set_option maxHeartbeats 4000000 in
theorem me_X4_digestFrom {X : Nat × (Nat → Int32)} {Q : Option Value → bw_H → Prop} {h : bw_H} {p num wid : Nat} {g0 : Int64} {S : Nat → Option Nat} (hc : bw_sf h p num wid) (hS : ∀ r, r < num → bw_i h (p + 2) r = oz (S r)) (hs : ∀ r, r < num → sok (S r) wid) (hQ : Q (some (.long (dgs S (bw_i h (p + 4)) wid g0 num))) h) : bw_me X 4 bm_X4_digestFrom false [.ref p, .long g0] h Q := by
  show bw_go _ 4 4 5 false (some .long) cX4_digestFrom 0 [(0, .ref _), (1, .long _)] [] _ _
  refine go_iconst (0) dX4_digestFrom_0 rfl ?_
  refine go_istore_n dX4_digestFrom_1 (Nat.lt_of_lt_of_le (Nat.lt_succ_self _) (Nat.le_of_ble_eq_true rfl)) ?_
  show bw_go _ _ _ _ _ _ _ 2 [(3, .int _), (0, .ref _), (1, .long _)] ([]) _ _
  refine go_ls [(3, .int _), (1, .long _), (0, .ref _)] (by show List.Nodup ([3, 1, 0] : List Nat); decide) (by show List.Nodup ([3, 0, 1] : List Nat); decide) (le_cons rfl (le_cons rfl (le_cons rfl (le_nil _)))) ?_
  refine go_for (P := fun r => bw_go X 4 4 5 false (some .long) cX4_digestFrom 2 [(3, .int (nI r)), (1, .long (dgs S (bw_i h (p + 4)) wid g0 r)), (0, .ref (p))] [] h Q) (N := num) (fun r hr K => ?_) ?_ (0) (Nat.zero_le _)
  · -- a turn
    show bw_go _ _ _ _ _ _ _ 2 [(3, .int _), (1, .long _), (0, .ref _)] ([]) _ _
    refine go_iload_n dX4_digestFrom_2 rfl ?_
    refine go_aload_n dX4_digestFrom_3 rfl ?_
    refine go_gfi dX4_digestFrom_4 fl_4_7 rfl hc.1.1 hc.1.2.1 ?_
    rw [hc.2.2.2.1]
    refine go_icmp_ge (pc' := 63) dX4_digestFrom_7 rfl (fun c_7 => ?_) (fun c_7 => ?_)
    · -- ge at 7: yes
      exfalso; have h1 := hc.2.2.2.2.2.1; have t_0 := nI_toInt (n := num) (by omega); have t_1 := nI_toInt (n := r) (by omega); simp only [i_le, i_lt, i_eq, bi_eq] at c_7; omega
    · -- ge at 7: no
      show bw_go _ _ _ _ _ _ _ 10 [(3, .int _), (1, .long _), (0, .ref _)] ([]) _ _
      refine go_ldc2_w dX4_digestFrom_10 kc_4_61 ?_
      refine go_lload_n dX4_digestFrom_13 rfl ?_
      refine go_lmul dX4_digestFrom_14 ?_
      refine go_aload_n dX4_digestFrom_15 rfl ?_
      refine go_iload_n dX4_digestFrom_16 rfl ?_
      refine go_cv (as := [.int _]) 1 dX4_digestFrom_17 mt_4_40 (Or.inl rfl) rfl rfl hc.1.1 hc.1.2.1 (Nat.le_of_ble_eq_true rfl) (Nat.le_of_ble_eq_true rfl) (Nat.le_of_ble_eq_true rfl) (Nat.le_of_ble_eq_true rfl) (Nat.le_of_ble_eq_true rfl) ?_
      refine me_X4_sizeOf hc hr (hS r hr) ?_
      show bw_go _ _ _ _ _ _ _ 20 [(3, .int _), (1, .long _), (0, .ref _)] ((.int _) :: (.long _) :: []) _ _
      refine go_i2l dX4_digestFrom_20 ?_
      refine go_ladd dX4_digestFrom_21 ?_
      refine go_lstore_n dX4_digestFrom_22 (Nat.lt_of_lt_of_le (Nat.lt_succ_self _) (Nat.le_of_ble_eq_true rfl)) ?_
      show bw_go _ _ _ _ _ _ _ 23 [(1, .long _), (3, .int _), (0, .ref _)] ([]) _ _
      refine go_iconst (0) dX4_digestFrom_23 rfl ?_
      refine go_istore dX4_digestFrom_24 (Nat.lt_of_lt_of_le (Nat.lt_succ_self _) (Nat.le_of_ble_eq_true rfl)) ?_
      show bw_go _ _ _ _ _ _ _ 26 [(4, .int _), (1, .long _), (3, .int _), (0, .ref _)] ([]) _ _
      have KK := K
      refine go_for (P := fun i => bw_go X 4 4 5 false (some .long) cX4_digestFrom 26 [(4, .int (nI i)), (1, .long (dg (bw_i h (p + 4)) (r * wid) (31 * dgs S (bw_i h (p + 4)) wid g0 r + (oz (S r)).toInt64) i)), (3, .int (nI r)), (0, .ref (p))] [] h Q) (N := osz (S r)) (fun i hi K => ?_) ?_ (0) (Nat.zero_le _)
      · -- a turn
        have h2 := hc.2.2.2.2.2.2
        have hz := osz_le (hs r hr)
        show bw_go _ _ _ _ _ _ _ 26 [(4, .int _), (1, .long _), (3, .int _), (0, .ref _)] ([]) _ _
        refine go_iload dX4_digestFrom_26 rfl ?_
        refine go_aload_n dX4_digestFrom_28 rfl ?_
        refine go_iload_n dX4_digestFrom_29 rfl ?_
        refine go_cv (as := [.int _]) 1 dX4_digestFrom_30 mt_4_40 (Or.inl rfl) rfl rfl hc.1.1 hc.1.2.1 (Nat.le_of_ble_eq_true rfl) (Nat.le_of_ble_eq_true rfl) (Nat.le_of_ble_eq_true rfl) (Nat.le_of_ble_eq_true rfl) (Nat.le_of_ble_eq_true rfl) ?_
        refine me_X4_sizeOf hc hr (hS r hr) ?_
        show bw_go _ _ _ _ _ _ _ 33 [(4, .int _), (1, .long _), (3, .int _), (0, .ref _)] ((.int _) :: (.int _) :: []) _ _
        refine go_icmp_ge (pc' := 57) dX4_digestFrom_33 rfl (fun c_33 => ?_) (fun c_33 => ?_)
        · -- ge at 33: yes
          exact absurd ((oz_lt (hs r hr) h2 (by omega)).mp c_33) (by omega)
        · -- ge at 33: no
          show bw_go _ _ _ _ _ _ _ 36 [(4, .int _), (1, .long _), (3, .int _), (0, .ref _)] ([]) _ _
          refine go_ldc2_w dX4_digestFrom_36 kc_4_61 ?_
          refine go_lload_n dX4_digestFrom_39 rfl ?_
          refine go_lmul dX4_digestFrom_40 ?_
          refine go_aload_n dX4_digestFrom_41 rfl ?_
          refine go_iload_n dX4_digestFrom_42 rfl ?_
          refine go_iload dX4_digestFrom_43 rfl ?_
          refine go_cv (as := [.int _, .int _]) 3 dX4_digestFrom_45 mt_4_55 (Or.inl rfl) rfl rfl hc.1.1 hc.1.2.1 (Nat.le_of_ble_eq_true rfl) (Nat.le_of_ble_eq_true rfl) (Nat.le_of_ble_eq_true rfl) (Nat.le_of_ble_eq_true rfl) (Nat.le_of_ble_eq_true rfl) ?_
          refine me_X4_get hc hr (hS r hr) (hs r hr) ?_
          rw [if_pos (pin_n hi (by omega)), nI_clamp (by omega)]
          show bw_go _ _ _ _ _ _ _ 48 [(4, .int _), (1, .long _), (3, .int _), (0, .ref _)] ((.int _) :: (.long _) :: []) _ _
          refine go_i2l dX4_digestFrom_48 ?_
          refine go_ladd dX4_digestFrom_49 ?_
          refine go_lstore_n dX4_digestFrom_50 (Nat.lt_of_lt_of_le (Nat.lt_succ_self _) (Nat.le_of_ble_eq_true rfl)) ?_
          show bw_go _ _ _ _ _ _ _ 51 [(1, .long _), (4, .int _), (3, .int _), (0, .ref _)] ([]) _ _
          refine go_iinc dX4_digestFrom_51 rfl (nI_1 i) (Nat.lt_of_lt_of_le (Nat.lt_succ_self _) (Nat.le_of_ble_eq_true rfl)) ?_
          show bw_go _ _ _ _ _ _ _ 54 [(4, .int _), (1, .long _), (3, .int _), (0, .ref _)] ([]) _ _
          refine go_goto (pc' := 26) dX4_digestFrom_54 rfl ?_
          exact K
      · -- behind the last
        have h2 := hc.2.2.2.2.2.2
        have hz := osz_le (hs r hr)
        show bw_go _ _ _ _ _ _ _ 26 [(4, .int _), (1, .long _), (3, .int _), (0, .ref _)] ([]) _ _
        refine go_iload dX4_digestFrom_26 rfl ?_
        refine go_aload_n dX4_digestFrom_28 rfl ?_
        refine go_iload_n dX4_digestFrom_29 rfl ?_
        refine go_cv (as := [.int _]) 1 dX4_digestFrom_30 mt_4_40 (Or.inl rfl) rfl rfl hc.1.1 hc.1.2.1 (Nat.le_of_ble_eq_true rfl) (Nat.le_of_ble_eq_true rfl) (Nat.le_of_ble_eq_true rfl) (Nat.le_of_ble_eq_true rfl) (Nat.le_of_ble_eq_true rfl) ?_
        refine me_X4_sizeOf hc hr (hS r hr) ?_
        show bw_go _ _ _ _ _ _ _ 33 [(4, .int _), (1, .long _), (3, .int _), (0, .ref _)] ((.int _) :: (.int _) :: []) _ _
        refine go_icmp_ge (pc' := 57) dX4_digestFrom_33 rfl (fun c_33 => ?_) (fun c_33 => ?_)
        · -- ge at 33: yes
          show bw_go _ _ _ _ _ _ _ 57 [(4, .int _), (1, .long _), (3, .int _), (0, .ref _)] ([]) _ _
          refine go_iinc dX4_digestFrom_57 rfl (nI_1 r) (Nat.lt_of_lt_of_le (Nat.lt_succ_self _) (Nat.le_of_ble_eq_true rfl)) ?_
          show bw_go _ _ _ _ _ _ _ 60 [(3, .int _), (4, .int _), (1, .long _), (0, .ref _)] ([]) _ _
          refine go_goto (pc' := 2) dX4_digestFrom_60 rfl ?_
          refine go_ls [(3, .int _), (1, .long _), (0, .ref _)] (by show List.Nodup ([3, 1, 0] : List Nat); decide) (by show List.Nodup ([3, 4, 1, 0] : List Nat); decide) (le_cons rfl (le_cons rfl (le_cons rfl (le_nil _)))) ?_
          exact KK
        · -- ge at 33: no
          exact absurd ((oz_lt (hs r hr) h2 (by omega)).mpr (Nat.le_refl _)) c_33
  · -- behind the last
    show bw_go _ _ _ _ _ _ _ 2 [(3, .int _), (1, .long _), (0, .ref _)] ([]) _ _
    refine go_iload_n dX4_digestFrom_2 rfl ?_
    refine go_aload_n dX4_digestFrom_3 rfl ?_
    refine go_gfi dX4_digestFrom_4 fl_4_7 rfl hc.1.1 hc.1.2.1 ?_
    rw [hc.2.2.2.1]
    refine go_icmp_ge (pc' := 63) dX4_digestFrom_7 rfl (fun c_7 => ?_) (fun c_7 => ?_)
    · -- ge at 7: yes
      show bw_go _ _ _ _ _ _ _ 63 [(3, .int _), (1, .long _), (0, .ref _)] ([]) _ _
      refine go_lload_n dX4_digestFrom_63 rfl ?_
      refine go_lret dX4_digestFrom_64 rfl ?_
      exact hQ
    · -- ge at 7: no
      exfalso; have h1 := hc.2.2.2.2.2.1; have t_0 := nI_toInt (n := num) (by omega); simp only [i_le, i_lt, i_eq, bi_eq] at c_7; omega
