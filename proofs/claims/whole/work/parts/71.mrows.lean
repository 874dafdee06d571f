/-! the reference: rows and texts -/
theorem sep_i2 {r j i m wid : Nat} (hne : r ≠ j) (hi : i < wid) (hm : m ≤ wid) : ¬ (wid * j ≤ wid * r + i ∧ wid * r + i < wid * j + m) := by
  rw [Nat.mul_comm wid j, Nat.mul_comm wid r]
  exact sep_i hne hi hm
theorem mrow_make {h g : bw_H} {p q num wid j m : Nat} {s : Nat → Option Nat} {c : Nat → Nat → Int32} {v : Int32} (hx : mRow h p q num wid s c) (hm : m ≤ wid) (e1 : bw_i g q = bw_up (bw_i h q) j (nI m)) (e2 : bw_i g p = fl (bw_i h p) (wid * j) m v) : mRow g p q num wid (bw_up s j (some m)) (bw_up c j (fun _ => v)) := by
  intro r hr
  obtain ⟨h1, h2, h3⟩ := hx r hr
  rw [e1, e2]
  by_cases hrj : r = j
  · subst hrj
    rw [bw_up_s, bw_up_s, bw_up_s]
    refine ⟨rfl, fun m2 e => by cases e; exact hm, fun m2 e i hi => ?_⟩
    cases e
    unfold fl; rw [if_pos (by omega)]
  · rw [bw_up_o hrj, bw_up_o hrj, bw_up_o hrj]
    refine ⟨h1, h2, fun m2 e i hi => ?_⟩
    unfold fl
    rw [if_neg (sep_i2 hrj (Nat.lt_of_lt_of_le hi (h2 m2 e)) hm)]
    exact h3 m2 e i hi
theorem mrow_drop {h g : bw_H} {p q num wid j : Nat} {s : Nat → Option Nat} {c : Nat → Nat → Int32} (hx : mRow h p q num wid s c) (e1 : bw_i g q = bw_up (bw_i h q) j (-1)) (e2 : bw_i g p = bw_i h p) : mRow g p q num wid (bw_up s j none) c := by
  intro r hr
  obtain ⟨h1, h2, h3⟩ := hx r hr
  rw [e1, e2]
  by_cases hrj : r = j
  · subst hrj
    rw [bw_up_s, bw_up_s]
    refine ⟨rfl, fun m2 e => ?_, fun m2 e => ?_⟩
    · cases e
    · cases e
  · rw [bw_up_o hrj, bw_up_o hrj]; exact ⟨h1, h2, h3⟩
theorem mrow_set {h g : bw_H} {p q num wid j k : Nat} {s : Nat → Option Nat} {c : Nat → Nat → Int32} {v : Int32} (hx : mRow h p q num wid s c) (hk : k < wid) (e1 : bw_i g q = bw_i h q) (e2 : bw_i g p = bw_up (bw_i h p) (wid * j + k) v) : mRow g p q num wid s (bw_up c j (bw_up (c j) k v)) := by
  intro r hr
  obtain ⟨h1, h2, h3⟩ := hx r hr
  rw [e1, e2]
  refine ⟨h1, h2, fun m2 e i hi => ?_⟩
  by_cases hrj : r = j
  · subst hrj
    rw [bw_up_s]
    by_cases hik : i = k
    · subst hik; rw [bw_up_s, bw_up_s]
    · rw [bw_up_o (by omega), bw_up_o hik]; exact h3 m2 e i hi
  · rw [bw_up_o hrj, bw_up_o (fun z => sep_i2 hrj (Nat.lt_of_lt_of_le hi (h2 m2 e)) (Nat.succ_le_of_lt hk) ⟨by omega, by omega⟩)]
    exact h3 m2 e i hi
theorem mrow_cpy {h g : bw_H} {p q num wid j r2 a b n : Nat} {s : Nat → Option Nat} {c : Nat → Nat → Int32} (hx : mRow h p q num wid s c) (hj : j < num) (hb : b + n ≤ wid) (e1 : bw_i g q = bw_i h q) (e2 : bw_i g p = va_cpy (c j) (bw_i h p) a (wid * r2 + b) n) : mRow g p q num wid s (bw_up c r2 (va_cpy (c j) (c r2) a b n)) := by
  intro r hr
  obtain ⟨h1, h2, h3⟩ := hx r hr
  rw [e1, e2]
  refine ⟨h1, h2, fun m2 e i hi => ?_⟩
  have hw := h2 m2 e
  by_cases hrj : r = r2
  · subst hrj
    rw [bw_up_s]
    by_cases hin : b ≤ i ∧ i < b + n
    · rw [cpy_i hin.1 hin.2, cpy_i (by omega) (by omega)]
      rw [show wid * r + i - (wid * r + b) = i - b by omega]
    · rw [cpy_o hin, cpy_o (by omega)]; exact h3 m2 e i hi
  · rw [bw_up_o hrj, cpy_o (fun z => ?_)]
    · exact h3 m2 e i hi
    · exact sep_i2 (i := i) hrj (by omega) hb ⟨by omega, by omega⟩
theorem sa_fl_s (H : bw_H) (p : Nat) (F : Nat → Int32) (b i : Nat) (v : Int32) : bw_si (bw_sa H p (fl F b i v)) p (b + i) v = bw_sa H p (fl F b (i + 1) v) := by rw [si_sa, sa_sa, i_sa_s, up_fl]
theorem sa_fl_0 {H : bw_H} {p : Nat} {F : Nat → Int32} (b : Nat) (v : Int32) (e : bw_i H p = F) : H = bw_sa H p (fl F b 0 v) := by rw [fl_0, ← e]; exact (sa_id _ _).symm
theorem oz_0 {s : Option Nat} {wid : Nat} (hs : sok s wid) (hw : wid < 100) : 0 ≤ oz s ↔ s.isSome = true := by
  rw [i_le, i_0]
  rcases oz_t hs hw with ⟨rfl, z⟩ | ⟨m, rfl, z1, z2⟩
  · rw [z]; exact ⟨fun z => by omega, fun z => by cases z⟩
  · rw [z2]; exact ⟨fun _ => rfl, fun _ => by omega⟩
theorem oz_some {s : Option Nat} {wid : Nat} (hs : sok s wid) (hw : wid < 100) (h : 0 ≤ oz s) : ∃ m, s = some m ∧ m ≤ wid := by
  obtain ⟨m, em⟩ := Option.isSome_iff_exists.mp ((oz_0 hs hw).mp h)
  exact ⟨m, em, hs m em⟩
theorem oz_none {s : Option Nat} {wid : Nat} (hs : sok s wid) (hw : wid < 100) (h : ¬ 0 ≤ oz s) : s = none := by
  cases s with
  | none => rfl
  | some m => exact absurd ((oz_0 hs hw).mpr rfl) h
theorem in_pin {m : Nat} {i : Int32} (hm : m < 1000) : inr i.toInt64 0 (nI m - 1).toInt64 = isn i m := by
  unfold inr isn
  have e : (nI m - 1).toInt = (m : Int) - 1 := pk_sub_toInt (b := 1) (by omega) (by decide)
  rw [l_i, l_i, e, show (0 : Int64).toInt = 0 from rfl]
  exact decide_eq_decide.mpr (by omega)
theorem in_spn {m : Nat} {i n : Int32} (hm : m < 1000) (hn : ¬ n.toInt < 0) : inr i.toInt64 0 ((nI m).toInt64 - n.toInt64) = spn (some m) i n := by
  have r1 := fb_rng' n
  have e : ((nI m).toInt64 - n.toInt64).toInt = (m : Int) - n.toInt := by
    rw [Int64.toInt_sub, Int32.toInt_toInt64, Int32.toInt_toInt64, nI_toInt (by omega)]
    exact Int.bmod_eq_of_le (by omega) (by omega)
  show decide _ = decide _
  rw [l_i, e, show (0 : Int64).toInt = 0 from rfl]
  exact decide_eq_decide.mpr (by omega)
theorem mis_s {s : Option Nat} {m : Nat} {i : Int32} (e : s = some m) : mis s i = if isn i m = true then 0 else 2 := by subst e; rfl
set_option maxRecDepth 100000 in
set_option maxHeartbeats 4000000 in
theorem me_X8_row {X : Nat × (Nat → Int32)} {Q : Option Value → bw_H → Prop} {h : bw_H} {S : ST} {r n : Int32} (hm : MR h S) (hQ : PM h Q (yRow r n S)) : bw_me X 2 bm_X8_row false [.ref 60, .int r, .int n] h Q := by
  show bw_go _ 2 8 4 false (some .int) cX8_row 0 [(0, .ref _), (1, .int _), (2, .int _)] [] _ _
  refine go_iload_n dX8_row_0 rfl ?_
  refine go_cs (as := [.int _]) 1 dX8_row_1 rfl rfl mt_8_75 (Nat.le_of_ble_eq_true rfl) rfl rfl (Nat.le_of_ble_eq_true rfl) (Nat.le_of_ble_eq_true rfl) (Nat.le_of_ble_eq_true rfl) (Nat.le_of_ble_eq_true rfl) ?_
  refine me_X8_isRow ?_
  show bw_go _ _ _ _ _ _ _ 4 [(0, .ref _), (1, .int _), (2, .int _)] ((.int _) :: []) _ _
  refine go_ifb_eq (pc' := 13) dX8_row_4 rfl (fun c_4 => ?_) (fun c_4 => ?_)
  · -- eq at 4: yes
    show bw_go _ _ _ _ _ _ _ 13 [(0, .ref _), (1, .int _), (2, .int _)] ([]) _ _
    refine go_iconst (-1) dX8_row_13 rfl ?_
    refine go_iret dX8_row_14 rfl rfl ?_
    refine q_m hQ ?_ hm (frX_r h)
    unfold yRow
    rw [if_neg (fun z => Bool.noConfusion ((show isn r 6 = false from c_4).symm.trans z.1))]
  · -- eq at 4: no
    show bw_go _ _ _ _ _ _ _ 7 [(0, .ref _), (1, .int _), (2, .int _)] ([]) _ _
    refine go_iload_n dX8_row_7 rfl ?_
    refine go_bipush (40) dX8_row_8 rfl ?_
    refine go_icmp_le (pc' := 15) dX8_row_10 rfl (fun c_10 => ?_) (fun c_10 => ?_)
    · -- le at 10: yes
      show bw_go _ _ _ _ _ _ _ 15 [(0, .ref _), (1, .int _), (2, .int _)] ([]) _ _
      refine go_iload_n dX8_row_15 rfl ?_
      refine go_if_ge (pc' := 25) dX8_row_16 rfl (fun c_16 => ?_) (fun c_16 => ?_)
      · -- ge at 16: yes
        show bw_go _ _ _ _ _ _ _ 25 [(0, .ref _), (1, .int _), (2, .int _)] ([]) _ _
        have hn0 : ¬ n.toInt < 0 := by have l_0 := i_0; simp only [i_le] at c_16; omega
        have hn4 : n.toInt ≤ 40 := by have l_0 : (40 : Int32).toInt = 40 := rfl; simp only [i_le] at c_10; omega
        obtain ⟨j, hj, rfl⟩ := isn_ex (r := r) (num := 6) c_4 (by decide)
        obtain ⟨k, hk, rfl⟩ := isn_ex (r := n) (num := 41) (decide_eq_true (by omega)) (by decide)
        have hk2 : k ≤ 40 := by omega
        refine go_aload_n dX8_row_25 rfl ?_
        refine go_gfr dX8_row_26 fl_8_23 rfl (ms_lt hm.1 (by decide)) hm.1.1.2 hm.1.2.1.2.2.2.2.1 ?_
        refine go_iload_n dX8_row_29 rfl ?_
        refine go_iload_n dX8_row_30 rfl ?_
        refine go_ist dX8_row_31 hm.1.2.2.2.2.2.2.1 (ms_lt hm.1 (by decide)) (n_in (N := 6) hj (by decide)) ?_
        show bw_go _ _ _ _ _ _ _ 32 [(0, .ref _), (1, .int _), (2, .int _)] ([]) _ _
        rw [nI_clamp (by omega)]
        refine go_iconst (0) dX8_row_32 rfl ?_
        refine go_istore_n dX8_row_33 (Nat.lt_of_lt_of_le (Nat.lt_succ_self _) (Nat.le_of_ble_eq_true rfl)) ?_
        show bw_go _ _ _ _ _ _ _ 34 [(3, .int _), (0, .ref _), (1, .int _), (2, .int _)] ([]) _ _
        rw [sa_fl_0 (H := (bw_si h 65 j (nI k))) (p := 64) (F := bw_i h 64) (40 * j) 0 (i_si_o (by decide))]
        refine go_for (P := fun i => bw_go X 2 8 4 false (some .int) cX8_row 34 [(3, .int (nI i)), (0, .ref (60)), (1, .int (nI j)), (2, .int (nI k))] [] (bw_sa (bw_si h 65 j (nI k)) 64 (fl (bw_i h 64) (40 * j) i 0)) Q) (N := k) (fun i hi K => ?_) ?_ (0) (Nat.zero_le _)
        · -- a turn
          show bw_go _ _ _ _ _ _ _ 34 [(3, .int _), (0, .ref _), (1, .int _), (2, .int _)] ([]) _ _
          refine go_iload_n dX8_row_34 rfl ?_
          refine go_iload_n dX8_row_35 rfl ?_
          refine go_icmp_ge (pc' := 57) dX8_row_36 rfl (fun c_36 => ?_) (fun c_36 => ?_)
          · -- ge at 36: yes
            exfalso; have t_0 := nI_toInt (n := i) (by omega); have t_1 := nI_toInt (n := k) (by omega); simp only [i_le, i_lt, i_eq, bi_eq] at c_36; omega
          · -- ge at 36: no
            show bw_go _ _ _ _ _ _ _ 39 [(3, .int _), (0, .ref _), (1, .int _), (2, .int _)] ([]) _ _
            refine go_aload_n dX8_row_39 rfl ?_
            refine go_gfr dX8_row_40 fl_8_20 rfl (ms_lt hm.1 (by decide)) hm.1.1.2 hm.1.2.1.2.2.2.1 ?_
            refine go_bipush (40) dX8_row_43 rfl ?_
            refine go_iload_n dX8_row_45 rfl ?_
            refine go_imul dX8_row_46 ?_
            refine go_iload_n dX8_row_47 rfl ?_
            rw [show (40 : Int32) = nI 40 from rfl, nmul]
            refine go_iadd dX8_row_48 ?_
            rw [nI_add]
            refine go_iconst (0) dX8_row_49 rfl ?_
            refine go_ist dX8_row_50 hm.1.2.2.2.2.2.1 (ms_lt hm.1 (by decide)) (n_in (N := 240) (by omega) (by decide)) ?_
            show bw_go _ _ _ _ _ _ _ 51 [(3, .int _), (0, .ref _), (1, .int _), (2, .int _)] ([]) _ _
            rw [nI_clamp (by omega), sa_fl_s]
            refine go_iinc dX8_row_51 rfl (nI_1 i) (Nat.lt_of_lt_of_le (Nat.lt_succ_self _) (Nat.le_of_ble_eq_true rfl)) ?_
            show bw_go _ _ _ _ _ _ _ 54 [(3, .int _), (0, .ref _), (1, .int _), (2, .int _)] ([]) _ _
            refine go_goto (pc' := 34) dX8_row_54 rfl ?_
            exact K
        · -- behind the last
          show bw_go _ _ _ _ _ _ _ 34 [(3, .int _), (0, .ref _), (1, .int _), (2, .int _)] ([]) _ _
          refine go_iload_n dX8_row_34 rfl ?_
          refine go_iload_n dX8_row_35 rfl ?_
          refine go_icmp_ge (pc' := 57) dX8_row_36 rfl (fun c_36 => ?_) (fun c_36 => ?_)
          · -- ge at 36: yes
            show bw_go _ _ _ _ _ _ _ 57 [(3, .int _), (0, .ref _), (1, .int _), (2, .int _)] ([]) _ _
            refine go_iload_n dX8_row_57 rfl ?_
            refine go_iret dX8_row_58 rfl rfl ?_
            refine q_m hQ ?_ (mr_rows hm (frX_t (frX_si (by decide)) (frX_sa (by decide))) (fun q h1 h2 h3 h4 => ?_) ?_ (mrow_make (j := j) (v := 0) hm.2.2.2.1 hk2 ?_ ?_)) (frX_t (frX_si (by decide)) (frX_sa (by decide)))
            · unfold yRow
              have t_0 := nI_toInt (n := k) (by omega)
              rw [if_pos ⟨(show isn (nI j) 6 = true from c_4), by omega⟩, if_neg (by omega), rn_n (by omega), rn_n (by omega)]
            · rw [i_sa_o (by omega), i_si_o (by omega)]
            · unfold mFlg; rw [i_sa_o (by decide), i_si_o (by decide)]; exact hm.2.2.2.2.2.2.1
            · rw [i_sa_o (by decide), i_si_s]
            · rw [i_sa_s]
          · -- ge at 36: no
            exfalso; have t_0 := nI_toInt (n := k) (by omega); simp only [i_le, i_lt, i_eq, bi_eq] at c_36; omega
      · -- ge at 16: no
        show bw_go _ _ _ _ _ _ _ 19 [(0, .ref _), (1, .int _), (2, .int _)] ([]) _ _
        refine go_aload_n dX8_row_19 rfl ?_
        refine go_iconst (5) dX8_row_20 rfl ?_
        refine go_cv (as := [.int _]) 0 dX8_row_21 mt_8_79 (Or.inl rfl) rfl rfl (ms_lt hm.1 (by decide)) hm.1.1.2 (Nat.le_of_ble_eq_true rfl) (Nat.le_of_ble_eq_true rfl) (Nat.le_of_ble_eq_true rfl) (Nat.le_of_ble_eq_true rfl) (Nat.le_of_ble_eq_true rfl) ?_
        rw [show (5 : Int32) = nI 5 from rfl]
        refine me_X8_finds hm (f := 5) (by decide) (fun g hg hf => ?_)
        show bw_go _ _ _ _ _ _ _ 24 [(0, .ref _), (1, .int _), (2, .int _)] ((.int _) :: []) _ _
        refine go_iret dX8_row_24 rfl rfl ?_
        refine q_m hQ ?_ hg hf
        unfold yRow
        have l_0 : (40 : Int32).toInt = 40 := rfl
        have l_1 := i_0
        simp only [i_le] at c_10 c_16
        rw [if_pos ⟨(show isn r 6 = true from c_4), by omega⟩, if_pos (by omega)]
    · -- le at 10: no
      show bw_go _ _ _ _ _ _ _ 13 [(0, .ref _), (1, .int _), (2, .int _)] ([]) _ _
      refine go_iconst (-1) dX8_row_13 rfl ?_
      refine go_iret dX8_row_14 rfl rfl ?_
      refine q_m hQ ?_ hm (frX_r h)
      unfold yRow
      have l_0 : (40 : Int32).toInt = 40 := rfl
      simp only [i_le] at c_10
      rw [if_neg (fun z => by omega)]
set_option maxRecDepth 100000 in
set_option maxHeartbeats 4000000 in
theorem me_X8_text {X : Nat × (Nat → Int32)} {Q : Option Value → bw_H → Prop} {h : bw_H} {S : ST} {r n : Int32} (hm : MR h S) (hQ : PM h Q (yText r n S)) : bw_me X 2 bm_X8_text false [.ref 60, .int r, .int n] h Q := by
  show bw_go _ 2 8 4 false (some .int) cX8_text 0 [(0, .ref _), (1, .int _), (2, .int _)] [] _ _
  refine go_iload_n dX8_text_0 rfl ?_
  refine go_cs (as := [.int _]) 1 dX8_text_1 rfl rfl mt_8_90 (Nat.le_of_ble_eq_true rfl) rfl rfl (Nat.le_of_ble_eq_true rfl) (Nat.le_of_ble_eq_true rfl) (Nat.le_of_ble_eq_true rfl) (Nat.le_of_ble_eq_true rfl) ?_
  refine me_X8_isText ?_
  show bw_go _ _ _ _ _ _ _ 4 [(0, .ref _), (1, .int _), (2, .int _)] ((.int _) :: []) _ _
  refine go_ifb_eq (pc' := 13) dX8_text_4 rfl (fun c_4 => ?_) (fun c_4 => ?_)
  · -- eq at 4: yes
    show bw_go _ _ _ _ _ _ _ 13 [(0, .ref _), (1, .int _), (2, .int _)] ([]) _ _
    refine go_iconst (-1) dX8_text_13 rfl ?_
    refine go_iret dX8_text_14 rfl rfl ?_
    refine q_m hQ ?_ hm (frX_r h)
    unfold yText
    rw [if_neg (fun z => Bool.noConfusion ((show isn r 4 = false from c_4).symm.trans z.1))]
  · -- eq at 4: no
    show bw_go _ _ _ _ _ _ _ 7 [(0, .ref _), (1, .int _), (2, .int _)] ([]) _ _
    refine go_iload_n dX8_text_7 rfl ?_
    refine go_bipush (60) dX8_text_8 rfl ?_
    refine go_icmp_le (pc' := 15) dX8_text_10 rfl (fun c_10 => ?_) (fun c_10 => ?_)
    · -- le at 10: yes
      show bw_go _ _ _ _ _ _ _ 15 [(0, .ref _), (1, .int _), (2, .int _)] ([]) _ _
      refine go_iload_n dX8_text_15 rfl ?_
      refine go_if_ge (pc' := 25) dX8_text_16 rfl (fun c_16 => ?_) (fun c_16 => ?_)
      · -- ge at 16: yes
        show bw_go _ _ _ _ _ _ _ 25 [(0, .ref _), (1, .int _), (2, .int _)] ([]) _ _
        have hn0 : ¬ n.toInt < 0 := by have l_0 := i_0; simp only [i_le] at c_16; omega
        have hn4 : n.toInt ≤ 60 := by have l_0 : (60 : Int32).toInt = 60 := rfl; simp only [i_le] at c_10; omega
        obtain ⟨j, hj, rfl⟩ := isn_ex (r := r) (num := 4) c_4 (by decide)
        obtain ⟨k, hk, rfl⟩ := isn_ex (r := n) (num := 61) (decide_eq_true (by omega)) (by decide)
        have hk2 : k ≤ 60 := by omega
        refine go_aload_n dX8_text_25 rfl ?_
        refine go_gfr dX8_text_26 fl_8_29 rfl (ms_lt hm.1 (by decide)) hm.1.1.2 hm.1.2.1.2.2.2.2.2.2.1 ?_
        refine go_iload_n dX8_text_29 rfl ?_
        refine go_iload_n dX8_text_30 rfl ?_
        refine go_ist dX8_text_31 hm.1.2.2.2.2.2.2.2.2.1 (ms_lt hm.1 (by decide)) (n_in (N := 4) hj (by decide)) ?_
        show bw_go _ _ _ _ _ _ _ 32 [(0, .ref _), (1, .int _), (2, .int _)] ([]) _ _
        rw [nI_clamp (by omega)]
        refine go_iconst (0) dX8_text_32 rfl ?_
        refine go_istore_n dX8_text_33 (Nat.lt_of_lt_of_le (Nat.lt_succ_self _) (Nat.le_of_ble_eq_true rfl)) ?_
        show bw_go _ _ _ _ _ _ _ 34 [(3, .int _), (0, .ref _), (1, .int _), (2, .int _)] ([]) _ _
        rw [sa_fl_0 (H := (bw_si h 67 j (nI k))) (p := 66) (F := bw_i h 66) (60 * j) 32 (i_si_o (by decide))]
        refine go_for (P := fun i => bw_go X 2 8 4 false (some .int) cX8_text 34 [(3, .int (nI i)), (0, .ref (60)), (1, .int (nI j)), (2, .int (nI k))] [] (bw_sa (bw_si h 67 j (nI k)) 66 (fl (bw_i h 66) (60 * j) i 32)) Q) (N := k) (fun i hi K => ?_) ?_ (0) (Nat.zero_le _)
        · -- a turn
          show bw_go _ _ _ _ _ _ _ 34 [(3, .int _), (0, .ref _), (1, .int _), (2, .int _)] ([]) _ _
          refine go_iload_n dX8_text_34 rfl ?_
          refine go_iload_n dX8_text_35 rfl ?_
          refine go_icmp_ge (pc' := 58) dX8_text_36 rfl (fun c_36 => ?_) (fun c_36 => ?_)
          · -- ge at 36: yes
            exfalso; have t_0 := nI_toInt (n := i) (by omega); have t_1 := nI_toInt (n := k) (by omega); simp only [i_le, i_lt, i_eq, bi_eq] at c_36; omega
          · -- ge at 36: no
            show bw_go _ _ _ _ _ _ _ 39 [(3, .int _), (0, .ref _), (1, .int _), (2, .int _)] ([]) _ _
            refine go_aload_n dX8_text_39 rfl ?_
            refine go_gfr dX8_text_40 fl_8_26 rfl (ms_lt hm.1 (by decide)) hm.1.1.2 hm.1.2.1.2.2.2.2.2.1 ?_
            refine go_bipush (60) dX8_text_43 rfl ?_
            refine go_iload_n dX8_text_45 rfl ?_
            refine go_imul dX8_text_46 ?_
            refine go_iload_n dX8_text_47 rfl ?_
            rw [show (60 : Int32) = nI 60 from rfl, nmul]
            refine go_iadd dX8_text_48 ?_
            rw [nI_add]
            refine go_bipush (32) dX8_text_49 rfl ?_
            refine go_ist dX8_text_51 hm.1.2.2.2.2.2.2.2.1 (ms_lt hm.1 (by decide)) (n_in (N := 240) (by omega) (by decide)) ?_
            show bw_go _ _ _ _ _ _ _ 52 [(3, .int _), (0, .ref _), (1, .int _), (2, .int _)] ([]) _ _
            rw [nI_clamp (by omega), sa_fl_s]
            refine go_iinc dX8_text_52 rfl (nI_1 i) (Nat.lt_of_lt_of_le (Nat.lt_succ_self _) (Nat.le_of_ble_eq_true rfl)) ?_
            show bw_go _ _ _ _ _ _ _ 55 [(3, .int _), (0, .ref _), (1, .int _), (2, .int _)] ([]) _ _
            refine go_goto (pc' := 34) dX8_text_55 rfl ?_
            exact K
        · -- behind the last
          show bw_go _ _ _ _ _ _ _ 34 [(3, .int _), (0, .ref _), (1, .int _), (2, .int _)] ([]) _ _
          refine go_iload_n dX8_text_34 rfl ?_
          refine go_iload_n dX8_text_35 rfl ?_
          refine go_icmp_ge (pc' := 58) dX8_text_36 rfl (fun c_36 => ?_) (fun c_36 => ?_)
          · -- ge at 36: yes
            show bw_go _ _ _ _ _ _ _ 58 [(3, .int _), (0, .ref _), (1, .int _), (2, .int _)] ([]) _ _
            refine go_iload_n dX8_text_58 rfl ?_
            refine go_iret dX8_text_59 rfl rfl ?_
            refine q_m hQ ?_ (mr_txts hm (frX_t (frX_si (by decide)) (frX_sa (by decide))) (fun q h1 h2 h3 h4 => ?_) ?_ (mrow_make (j := j) (v := 32) hm.2.2.2.2.1 hk2 ?_ ?_)) (frX_t (frX_si (by decide)) (frX_sa (by decide)))
            · unfold yText
              have t_0 := nI_toInt (n := k) (by omega)
              rw [if_pos ⟨(show isn (nI j) 4 = true from c_4), by omega⟩, if_neg (by omega), rn_n (by omega), rn_n (by omega)]
            · rw [i_sa_o (by omega), i_si_o (by omega)]
            · unfold mFlg; rw [i_sa_o (by decide), i_si_o (by decide)]; exact hm.2.2.2.2.2.2.1
            · rw [i_sa_o (by decide), i_si_s]
            · rw [i_sa_s]
          · -- ge at 36: no
            exfalso; have t_0 := nI_toInt (n := k) (by omega); simp only [i_le, i_lt, i_eq, bi_eq] at c_36; omega
      · -- ge at 16: no
        show bw_go _ _ _ _ _ _ _ 19 [(0, .ref _), (1, .int _), (2, .int _)] ([]) _ _
        refine go_aload_n dX8_text_19 rfl ?_
        refine go_iconst (5) dX8_text_20 rfl ?_
        refine go_cv (as := [.int _]) 0 dX8_text_21 mt_8_79 (Or.inl rfl) rfl rfl (ms_lt hm.1 (by decide)) hm.1.1.2 (Nat.le_of_ble_eq_true rfl) (Nat.le_of_ble_eq_true rfl) (Nat.le_of_ble_eq_true rfl) (Nat.le_of_ble_eq_true rfl) (Nat.le_of_ble_eq_true rfl) ?_
        rw [show (5 : Int32) = nI 5 from rfl]
        refine me_X8_finds hm (f := 5) (by decide) (fun g hg hf => ?_)
        show bw_go _ _ _ _ _ _ _ 24 [(0, .ref _), (1, .int _), (2, .int _)] ((.int _) :: []) _ _
        refine go_iret dX8_text_24 rfl rfl ?_
        refine q_m hQ ?_ hg hf
        unfold yText
        have l_0 : (60 : Int32).toInt = 60 := rfl
        have l_1 := i_0
        simp only [i_le] at c_10 c_16
        rw [if_pos ⟨(show isn r 4 = true from c_4), by omega⟩, if_pos (by omega)]
    · -- le at 10: no
      show bw_go _ _ _ _ _ _ _ 13 [(0, .ref _), (1, .int _), (2, .int _)] ([]) _ _
      refine go_iconst (-1) dX8_text_13 rfl ?_
      refine go_iret dX8_text_14 rfl rfl ?_
      refine q_m hQ ?_ hm (frX_r h)
      unfold yText
      have l_0 : (60 : Int32).toInt = 60 := rfl
      simp only [i_le] at c_10
      rw [if_neg (fun z => by omega)]
set_option maxRecDepth 100000 in
set_option maxHeartbeats 4000000 in
theorem me_X8_at {X : Nat × (Nat → Int32)} {Q : Option Value → bw_H → Prop} {h : bw_H} {S : ST} {r i : Int32} (hm : MR h S) (hQ : PM h Q (yAt r i S)) : bw_me X 2 bm_X8_at false [.ref 60, .int r, .int i] h Q := by
  show bw_go _ 2 8 3 false (some .int) cX8_at 0 [(0, .ref _), (1, .int _), (2, .int _)] [] _ _
  refine go_iload_n dX8_at_0 rfl ?_
  refine go_cs (as := [.int _]) 1 dX8_at_1 rfl rfl mt_8_75 (Nat.le_of_ble_eq_true rfl) rfl rfl (Nat.le_of_ble_eq_true rfl) (Nat.le_of_ble_eq_true rfl) (Nat.le_of_ble_eq_true rfl) (Nat.le_of_ble_eq_true rfl) ?_
  refine me_X8_isRow ?_
  show bw_go _ _ _ _ _ _ _ 4 [(0, .ref _), (1, .int _), (2, .int _)] ((.int _) :: []) _ _
  refine go_ifb_ne (pc' := 9) dX8_at_4 rfl (fun c_4 => ?_) (fun c_4 => ?_)
  · -- ne at 4: yes
    show bw_go _ _ _ _ _ _ _ 9 [(0, .ref _), (1, .int _), (2, .int _)] ([]) _ _
    obtain ⟨j, hj, rfl⟩ := isn_ex (r := r) (num := 6) c_4 (by decide)
    refine go_aload_n dX8_at_9 rfl ?_
    refine go_gfr dX8_at_10 fl_8_23 rfl (ms_lt hm.1 (by decide)) hm.1.1.2 hm.1.2.1.2.2.2.2.1 ?_
    refine go_iload_n dX8_at_13 rfl ?_
    refine go_ia dX8_at_14 hm.1.2.2.2.2.2.2.1 (ms_lt hm.1 (by decide)) (n_in (N := 6) hj (by decide)) ?_
    rw [nI_clamp (by omega), (hm.2.2.2.1 j hj).1]
    refine go_if_ge (pc' := 24) dX8_at_15 rfl (fun c_15 => ?_) (fun c_15 => ?_)
    · -- ge at 15: yes
      show bw_go _ _ _ _ _ _ _ 24 [(0, .ref _), (1, .int _), (2, .int _)] ([]) _ _
      obtain ⟨m, em, hml⟩ := oz_some (hm.2.2.2.1 j hj).2.1 (by decide) c_15
      have em2 : bw_i h 65 j = nI m := by rw [(hm.2.2.2.1 j hj).1, em]; rfl
      refine go_iload_n dX8_at_24 rfl ?_
      refine go_i2l dX8_at_25 ?_
      refine go_lconst (0) dX8_at_26 rfl ?_
      refine go_aload_n dX8_at_27 rfl ?_
      refine go_gfr dX8_at_28 fl_8_23 rfl (ms_lt hm.1 (by decide)) hm.1.1.2 hm.1.2.1.2.2.2.2.1 ?_
      refine go_iload_n dX8_at_31 rfl ?_
      refine go_ia dX8_at_32 hm.1.2.2.2.2.2.2.1 (ms_lt hm.1 (by decide)) (n_in (N := 6) hj (by decide)) ?_
      rw [nI_clamp (by omega), em2]
      refine go_iconst (1) dX8_at_33 rfl ?_
      refine go_isub dX8_at_34 ?_
      refine go_i2l dX8_at_35 ?_
      refine go_cs (as := [.long _, .long _, .long _]) 0 dX8_at_36 rfl rfl mt_8_69 (Nat.le_of_ble_eq_true rfl) rfl rfl (Nat.le_of_ble_eq_true rfl) (Nat.le_of_ble_eq_true rfl) (Nat.le_of_ble_eq_true rfl) (Nat.le_of_ble_eq_true rfl) ?_
      refine me_X8_in ?_
      rw [in_pin (by omega)]
      show bw_go _ _ _ _ _ _ _ 39 [(0, .ref _), (1, .int _), (2, .int _)] ((.int _) :: []) _ _
      refine go_ifb_eq (pc' := 60) dX8_at_39 rfl (fun c_39 => ?_) (fun c_39 => ?_)
      · -- eq at 39: yes
        show bw_go _ _ _ _ _ _ _ 60 [(0, .ref _), (1, .int _), (2, .int _)] ([]) _ _
        refine go_aload_n dX8_at_60 rfl ?_
        refine go_iconst (2) dX8_at_61 rfl ?_
        refine go_cv (as := [.int _]) 0 dX8_at_62 mt_8_79 (Or.inl rfl) rfl rfl (ms_lt hm.1 (by decide)) hm.1.1.2 (Nat.le_of_ble_eq_true rfl) (Nat.le_of_ble_eq_true rfl) (Nat.le_of_ble_eq_true rfl) (Nat.le_of_ble_eq_true rfl) (Nat.le_of_ble_eq_true rfl) ?_
        rw [show (2 : Int32) = nI 2 from rfl]
        refine me_X8_finds hm (f := 2) (by decide) (fun g hg hf => ?_)
        show bw_go _ _ _ _ _ _ _ 65 [(0, .ref _), (1, .int _), (2, .int _)] ((.int _) :: []) _ _
        refine go_iret dX8_at_65 rfl rfl ?_
        have e5 : mis (sR S j) i = 2 := by rw [mis_s em]; exact if_neg (by rw [c_39]; decide)
        refine q_m hQ ?_ hg hf
        unfold yAt
        rw [if_pos (show isn (nI j) 6 = true from c_4), rn_n (by omega), if_neg (by rw [e5]; decide), e5]
      · -- eq at 39: no
        show bw_go _ _ _ _ _ _ _ 42 [(0, .ref _), (1, .int _), (2, .int _)] ([]) _ _
        obtain ⟨b, hb, rfl⟩ := isn_ex (r := i) (num := m) c_39 (by omega)
        refine go_aload_n dX8_at_42 rfl ?_
        refine go_aload_n dX8_at_43 rfl ?_
        refine go_gfr dX8_at_44 fl_8_20 rfl (ms_lt hm.1 (by decide)) hm.1.1.2 hm.1.2.1.2.2.2.1 ?_
        refine go_bipush (40) dX8_at_47 rfl ?_
        refine go_iload_n dX8_at_49 rfl ?_
        refine go_imul dX8_at_50 ?_
        rw [show (40 : Int32) = nI 40 from rfl, nmul]
        refine go_iload_n dX8_at_51 rfl ?_
        refine go_iadd dX8_at_52 ?_
        rw [nI_add]
        refine go_ia dX8_at_53 hm.1.2.2.2.2.2.1 (ms_lt hm.1 (by decide)) (n_in (N := 240) (by omega) (by decide)) ?_
        rw [nI_clamp (by omega), (hm.2.2.2.1 j hj).2.2 m em b hb]
        refine go_cv (as := [.int _]) 0 dX8_at_54 mt_8_87 (Or.inl rfl) rfl rfl (ms_lt hm.1 (by decide)) hm.1.1.2 (Nat.le_of_ble_eq_true rfl) (Nat.le_of_ble_eq_true rfl) (Nat.le_of_ble_eq_true rfl) (Nat.le_of_ble_eq_true rfl) (Nat.le_of_ble_eq_true rfl) ?_
        refine me_X8_asks hm (fun g hg hf => ?_)
        show bw_go _ _ _ _ _ _ _ 57 [(0, .ref _), (1, .int _), (2, .int _)] ((.int _) :: []) _ _
        refine go_goto (pc' := 65) dX8_at_57 rfl ?_
        show bw_go _ _ _ _ _ _ _ 65 [(0, .ref _), (1, .int _), (2, .int _)] ((.int _) :: []) _ _
        refine go_iret dX8_at_65 rfl rfl ?_
        have e5 : mis (sR S j) (nI b) = 0 := by rw [mis_s em]; exact if_pos c_39
        refine q_m hQ ?_ hg hf
        unfold yAt
        rw [if_pos (show isn (nI j) 6 = true from c_4), rn_n (by omega), if_pos e5, rn_n (by omega)]
    · -- ge at 15: no
      show bw_go _ _ _ _ _ _ _ 18 [(0, .ref _), (1, .int _), (2, .int _)] ([]) _ _
      refine go_aload_n dX8_at_18 rfl ?_
      refine go_iconst (1) dX8_at_19 rfl ?_
      refine go_cv (as := [.int _]) 0 dX8_at_20 mt_8_79 (Or.inl rfl) rfl rfl (ms_lt hm.1 (by decide)) hm.1.1.2 (Nat.le_of_ble_eq_true rfl) (Nat.le_of_ble_eq_true rfl) (Nat.le_of_ble_eq_true rfl) (Nat.le_of_ble_eq_true rfl) (Nat.le_of_ble_eq_true rfl) ?_
      rw [show (1 : Int32) = nI 1 from rfl]
      refine me_X8_finds hm (f := 1) (by decide) (fun g hg hf => ?_)
      show bw_go _ _ _ _ _ _ _ 23 [(0, .ref _), (1, .int _), (2, .int _)] ((.int _) :: []) _ _
      refine go_iret dX8_at_23 rfl rfl ?_
      refine q_m hQ ?_ hg hf
      unfold yAt
      rw [if_pos (show isn (nI j) 6 = true from c_4), rn_n (by omega), oz_none (hm.2.2.2.1 j hj).2.1 (by decide) c_15]
      rfl
  · -- ne at 4: no
    show bw_go _ _ _ _ _ _ _ 7 [(0, .ref _), (1, .int _), (2, .int _)] ([]) _ _
    refine go_iconst (-1) dX8_at_7 rfl ?_
    refine go_iret dX8_at_8 rfl rfl ?_
    refine q_m hQ ?_ hm (frX_r h)
    unfold yAt
    rw [if_neg (fun z => Bool.noConfusion ((show isn r 6 = false from c_4).symm.trans z))]
theorem yAt_1 {r i : Int32} {S : ST} (h : (yAt r i S).1 = 1) : isn r 6 = true ∧ mis (sR S (rn r)) i = 0 := by
  unfold yAt at h
  split at h
  · rename_i h1
    split at h
    · rename_i h2; exact ⟨h1, h2⟩
    · exact absurd (show (-3 : Int32) = 1 from h) (by decide)
  · exact absurd (show (-1 : Int32) = 1 from h) (by decide)
theorem yLay_n {r i v : Int32} {S : ST} (h : ¬ (yAt r i S).1 = 1) : yLay r i v S = yAt r i S := by
  unfold yLay yAt
  unfold yAt at h
  split
  · rename_i h1
    rw [if_pos h1] at h
    split
    · rename_i h2; rw [if_pos h2] at h; exact absurd rfl h
    · rfl
  · rfl
set_option maxRecDepth 100000 in
set_option maxHeartbeats 4000000 in
theorem me_X8_lay {X : Nat × (Nat → Int32)} {Q : Option Value → bw_H → Prop} {h : bw_H} {S : ST} {r i v : Int32} (hm : MR h S) (hQ : PM h Q (yLay r i v S)) : bw_me X 3 bm_X8_lay false [.ref 60, .int r, .int i, .int v] h Q := by
  show bw_go _ 3 8 5 false (some .int) cX8_lay 0 [(0, .ref _), (1, .int _), (2, .int _), (3, .int _)] [] _ _
  refine go_aload_n dX8_lay_0 rfl ?_
  refine go_iload_n dX8_lay_1 rfl ?_
  refine go_iload_n dX8_lay_2 rfl ?_
  refine go_cv (as := [.int _, .int _]) 2 dX8_lay_3 mt_8_83 (Or.inl rfl) rfl rfl (ms_lt hm.1 (by decide)) hm.1.1.2 (Nat.le_of_ble_eq_true rfl) (Nat.le_of_ble_eq_true rfl) (Nat.le_of_ble_eq_true rfl) (Nat.le_of_ble_eq_true rfl) (Nat.le_of_ble_eq_true rfl) ?_
  refine me_X8_at hm (fun g hg hf => ?_)
  have hm0 := hm
  have hm := hg
  show bw_go _ _ _ _ _ _ _ 6 [(0, .ref _), (1, .int _), (2, .int _), (3, .int _)] ((.int _) :: []) _ _
  refine go_istore dX8_lay_6 (Nat.lt_of_lt_of_le (Nat.lt_succ_self _) (Nat.le_of_ble_eq_true rfl)) ?_
  show bw_go _ _ _ _ _ _ _ 8 [(4, .int _), (0, .ref _), (1, .int _), (2, .int _), (3, .int _)] ([]) _ _
  refine go_iload dX8_lay_8 rfl ?_
  refine go_iconst (1) dX8_lay_10 rfl ?_
  refine go_icmp_ne (pc' := 26) dX8_lay_11 rfl (fun c_11 => ?_) (fun c_11 => ?_)
  · -- ne at 11: yes
    show bw_go _ _ _ _ _ _ _ 26 [(4, .int _), (0, .ref _), (1, .int _), (2, .int _), (3, .int _)] ([]) _ _
    refine go_iload dX8_lay_26 rfl ?_
    refine go_iret dX8_lay_28 rfl rfl ?_
    refine q_m hQ ?_ hg hf
    rw [yLay_n c_11]
  · -- ne at 11: no
    show bw_go _ _ _ _ _ _ _ 14 [(4, .int _), (0, .ref _), (1, .int _), (2, .int _), (3, .int _)] ([]) _ _
    obtain ⟨z1, z2⟩ := yAt_1 (Decidable.of_not_not c_11)
    obtain ⟨j, hj, rfl⟩ := isn_ex z1 (by decide)
    rw [rn_n (by omega)] at z2
    obtain ⟨m, em⟩ : ∃ m, sR S j = some m := by
      cases e : sR S j with
      | none => rw [e] at z2; cases z2
      | some m => exact ⟨m, rfl⟩
    have hml := (hm0.2.2.2.1 j hj).2.1 m em
    have z3 : isn i m = true := by
      rw [mis_s em] at z2
      by_cases z : isn i m = true
      · exact z
      · rw [if_neg z] at z2; cases z2
    obtain ⟨b, hb, rfl⟩ := isn_ex z3 (by omega)
    have e1 : yAt (nI j) (nI b) S = (1, wQ S (sRc S j b)) := by
      unfold yAt
      rw [if_pos z1, rn_n (by omega), mis_s em, if_pos z3, if_pos rfl, rn_n (by omega)]
    rw [e1] at hg
    refine go_aload_n dX8_lay_14 rfl ?_
    refine go_gfr dX8_lay_15 fl_8_20 rfl (ms_lt hm.1 (by decide)) hm.1.1.2 hm.1.2.1.2.2.2.1 ?_
    refine go_bipush (40) dX8_lay_18 rfl ?_
    refine go_iload_n dX8_lay_20 rfl ?_
    refine go_imul dX8_lay_21 ?_
    rw [show (40 : Int32) = nI 40 from rfl, nmul]
    refine go_iload_n dX8_lay_22 rfl ?_
    refine go_iadd dX8_lay_23 ?_
    rw [nI_add]
    refine go_iload_n dX8_lay_24 rfl ?_
    refine go_ist dX8_lay_25 hm.1.2.2.2.2.2.1 (ms_lt hm.1 (by decide)) (n_in (N := 240) (by omega) (by decide)) ?_
    show bw_go _ _ _ _ _ _ _ 26 [(4, .int _), (0, .ref _), (1, .int _), (2, .int _), (3, .int _)] ([]) _ _
    refine go_iload dX8_lay_26 rfl ?_
    refine go_iret dX8_lay_28 rfl rfl ?_
    rw [nI_clamp (by omega), e1]
    refine q_m hQ ?_ (mr_rows hg (frX_si (by decide)) (fun q h1 h2 h3 h4 => i_si_o h3) ?_ (mrow_set (j := j) (k := b) (v := v) hg.2.2.2.1 (by omega) (i_si_o (by decide)) (i_si_s _ _ _ _))) (frX_t hf (frX_si (by decide)))
    · unfold yLay
      rw [if_pos z1, rn_n (by omega), mis_s em, if_pos z3, if_pos rfl, rn_n (by omega)]
      rfl
    · unfold mFlg; rw [i_si_o (by decide)]; exact hg.2.2.2.2.2.2.1
set_option maxRecDepth 100000 in
set_option maxHeartbeats 4000000 in
theorem me_X8_tear {X : Nat × (Nat → Int32)} {Q : Option Value → bw_H → Prop} {h : bw_H} {S : ST} {r : Int32} (hm : MR h S) (hQ : PM h Q (yTear r S)) : bw_me X 2 bm_X8_tear false [.ref 60, .int r] h Q := by
  show bw_go _ 2 8 2 false (some .int) cX8_tear 0 [(0, .ref _), (1, .int _)] [] _ _
  refine go_iload_n dX8_tear_0 rfl ?_
  refine go_cs (as := [.int _]) 1 dX8_tear_1 rfl rfl mt_8_75 (Nat.le_of_ble_eq_true rfl) rfl rfl (Nat.le_of_ble_eq_true rfl) (Nat.le_of_ble_eq_true rfl) (Nat.le_of_ble_eq_true rfl) (Nat.le_of_ble_eq_true rfl) ?_
  refine me_X8_isRow ?_
  show bw_go _ _ _ _ _ _ _ 4 [(0, .ref _), (1, .int _)] ((.int _) :: []) _ _
  refine go_ifb_ne (pc' := 9) dX8_tear_4 rfl (fun c_4 => ?_) (fun c_4 => ?_)
  · -- ne at 4: yes
    show bw_go _ _ _ _ _ _ _ 9 [(0, .ref _), (1, .int _)] ([]) _ _
    obtain ⟨j, hj, rfl⟩ := isn_ex (r := r) (num := 6) c_4 (by decide)
    refine go_aload_n dX8_tear_9 rfl ?_
    refine go_gfr dX8_tear_10 fl_8_23 rfl (ms_lt hm.1 (by decide)) hm.1.1.2 hm.1.2.1.2.2.2.2.1 ?_
    refine go_iload_n dX8_tear_13 rfl ?_
    refine go_ia dX8_tear_14 hm.1.2.2.2.2.2.2.1 (ms_lt hm.1 (by decide)) (n_in (N := 6) hj (by decide)) ?_
    rw [nI_clamp (by omega), (hm.2.2.2.1 j hj).1]
    refine go_if_ge (pc' := 24) dX8_tear_15 rfl (fun c_15 => ?_) (fun c_15 => ?_)
    · -- ge at 15: yes
      show bw_go _ _ _ _ _ _ _ 24 [(0, .ref _), (1, .int _)] ([]) _ _
      obtain ⟨m, em, hml⟩ := oz_some (hm.2.2.2.1 j hj).2.1 (by decide) c_15
      refine go_aload_n dX8_tear_24 rfl ?_
      refine go_gfr dX8_tear_25 fl_8_23 rfl (ms_lt hm.1 (by decide)) hm.1.1.2 hm.1.2.1.2.2.2.2.1 ?_
      refine go_iload_n dX8_tear_28 rfl ?_
      refine go_iconst (-1) dX8_tear_29 rfl ?_
      refine go_ist dX8_tear_30 hm.1.2.2.2.2.2.2.1 (ms_lt hm.1 (by decide)) (n_in (N := 6) hj (by decide)) ?_
      show bw_go _ _ _ _ _ _ _ 31 [(0, .ref _), (1, .int _)] ([]) _ _
      rw [nI_clamp (by omega)]
      refine go_iconst (1) dX8_tear_31 rfl ?_
      refine go_iret dX8_tear_32 rfl rfl ?_
      refine q_m hQ ?_ (mr_rows hm (frX_si (by decide)) (fun q h1 h2 h3 h4 => i_si_o h4) ?_ (mrow_drop (j := j) hm.2.2.2.1 (i_si_s _ _ _ _) (i_si_o (by decide)))) (frX_si (by decide))
      · unfold yTear
        rw [if_pos (show isn (nI j) 6 = true from c_4), rn_n (by omega), if_pos (by rw [em]; rfl)]
      · unfold mFlg; rw [i_si_o (by decide)]; exact hm.2.2.2.2.2.2.1
    · -- ge at 15: no
      show bw_go _ _ _ _ _ _ _ 18 [(0, .ref _), (1, .int _)] ([]) _ _
      refine go_aload_n dX8_tear_18 rfl ?_
      refine go_iconst (1) dX8_tear_19 rfl ?_
      refine go_cv (as := [.int _]) 0 dX8_tear_20 mt_8_79 (Or.inl rfl) rfl rfl (ms_lt hm.1 (by decide)) hm.1.1.2 (Nat.le_of_ble_eq_true rfl) (Nat.le_of_ble_eq_true rfl) (Nat.le_of_ble_eq_true rfl) (Nat.le_of_ble_eq_true rfl) (Nat.le_of_ble_eq_true rfl) ?_
      rw [show (1 : Int32) = nI 1 from rfl]
      refine me_X8_finds hm (f := 1) (by decide) (fun g hg hf => ?_)
      show bw_go _ _ _ _ _ _ _ 23 [(0, .ref _), (1, .int _)] ((.int _) :: []) _ _
      refine go_iret dX8_tear_23 rfl rfl ?_
      refine q_m hQ ?_ hg hf
      unfold yTear
      rw [if_pos (show isn (nI j) 6 = true from c_4), rn_n (by omega), oz_none (hm.2.2.2.1 j hj).2.1 (by decide) c_15]
      rfl
  · -- ne at 4: no
    show bw_go _ _ _ _ _ _ _ 7 [(0, .ref _), (1, .int _)] ([]) _ _
    refine go_iconst (-1) dX8_tear_7 rfl ?_
    refine go_iret dX8_tear_8 rfl rfl ?_
    refine q_m hQ ?_ hm (frX_r h)
    unfold yTear
    rw [if_neg (fun z => Bool.noConfusion ((show isn r 6 = false from c_4).symm.trans z))]
