/-! the reference: figures of a text -/
def pst (h : bw_H) (a : Nat) (F : Nat → Int32) : bw_H := bw_sa (bw_si h 60 14 (nI a)) 70 F
theorem pst_p (h : bw_H) (a b : Nat) (F : Nat → Int32) : bw_si (pst h a F) 60 14 (nI b) = pst h b F := by
  have e : bw_up2 (bw_up (bw_up2 h.2.2.1 60 14 (nI a)) 70 F) 60 14 (nI b) = bw_up (bw_up2 h.2.2.1 60 14 (nI b)) 70 F := by
    funext q
    by_cases h0 : q = 60
    · subst h0
      rw [bw_up2_s, bw_up_o (by decide), bw_up_o (by decide), bw_up2_s, bw_up2_s]
      funext k
      unfold bw_up
      split <;> rfl
    · rw [bw_up2_o h0]
      by_cases h1 : q = 70
      · subst h1; rw [bw_up_s, bw_up_s]
      · rw [bw_up_o h1, bw_up_o h1, bw_up2_o h0, bw_up2_o h0]
  show (h.1, h.2.1, bw_up2 (bw_up (bw_up2 h.2.2.1 60 14 (nI a)) 70 F) 60 14 (nI b), h.2.2.2) = (h.1, h.2.1, bw_up (bw_up2 h.2.2.1 60 14 (nI b)) 70 F, h.2.2.2)
  rw [e]
theorem pst_a (h : bw_H) (a k : Nat) (F : Nat → Int32) (v : Int32) : bw_si (pst h a F) 70 k v = pst h a (bw_up F k v) := by
  unfold pst; rw [si_sa, i_sa_s, sa_sa]
theorem pst_i {h : bw_H} {a : Nat} {F : Nat → Int32} : bw_i (pst h a F) 60 14 = nI a := by unfold pst; rw [i_sa_o (by decide), i_si_s, bw_up_s]
theorem pst_f {h : bw_H} {a : Nat} {F : Nat → Int32} : bw_i (pst h a F) 70 = F := i_sa_s _ _ _
theorem pst_o {h : bw_H} {a q : Nat} {F : Nat → Int32} (h1 : q ≠ 60) (h2 : q ≠ 70) : bw_i (pst h a F) q = bw_i h q := by unfold pst; rw [i_sa_o h2, i_si_o h1]
theorem pst_fr (h : bw_H) (a : Nat) (F : Nat → Int32) : frX h (pst h a F) := frX_t (frX_si (by decide)) (frX_sa (by decide))
theorem pst_mr {h : bw_H} {S : ST} (hm : MR h S) (a : Nat) (F : Nat → Int32) : MR (pst h a F) S := by
  refine mr_sc hm (pst_fr h a F) (fun q h1 h2 => pst_o (by omega) (by omega)) ?_
  unfold mFlg pst
  rw [i_sa_o (by decide), i_si_s, bw_up_o (by decide), bw_up_o (by decide)]
  exact hm.2.2.2.2.2.2.1
def hr8 (T : TX) (i : Nat) : Int32 := if i < T.1 then T.2 i else -9
theorem hr_i {T : TX} {i : Nat} (h : i < T.1) : hr8 T i = by8 T i := by unfold hr8 by8; rw [if_pos h, if_pos h]
theorem hr_o {T : TX} {i : Nat} (h : ¬ i < T.1) : hr8 T i = -9 ∧ by8 T i = 256 := by unfold hr8 by8; rw [if_neg h, if_neg h]; exact ⟨rfl, rfl⟩
theorem hr_kol (T : TX) (i : Nat) : kol (hr8 T i) = kol (by8 T i) := by
  by_cases h : i < T.1
  · rw [hr_i h]
  · obtain ⟨e1, e2⟩ := hr_o h; rw [e1, e2]; rfl
theorem hr_107 (T : TX) (i : Nat) : hr8 T i = 107 ↔ by8 T i = 107 := by
  by_cases h : i < T.1
  · rw [hr_i h]
  · obtain ⟨e1, e2⟩ := hr_o h; rw [e1, e2]; decide
theorem hr_32 (T : TX) (i : Nat) : hr8 T i = 32 ↔ (i < T.1 ∧ T.2 i = 32) := by
  unfold hr8
  by_cases h : i < T.1
  · rw [if_pos h]; exact ⟨fun z => ⟨h, z⟩, fun z => z.2⟩
  · rw [if_neg h]; exact ⟨fun z => absurd z (by decide), fun z => absurd z.1 h⟩
theorem hr_fg {T : TX} {hi i : Nat} (hh : hi ≤ 9) : inr (hr8 T i).toInt64 48 (nI (48 + hi)).toInt64 = (fg T hi i).isSome := by
  unfold inr
  rw [l_i, l_i, nI_toInt (by omega), show (48 : Int64).toInt = 48 from rfl]
  by_cases h : i < T.1
  · rw [hr_i h]
    unfold fg
    by_cases z : 48 ≤ (by8 T i).toInt ∧ (by8 T i).toInt ≤ 48 + hi
    · rw [if_pos z]; exact decide_eq_true ⟨z.1, by omega⟩
    · rw [if_neg z]; exact decide_eq_false (fun z2 => z ⟨z2.1, by omega⟩)
  · obtain ⟨e1, e2⟩ := hr_o h
    unfold fg
    rw [e1, e2, show (-9 : Int32).toInt = -9 from rfl, show (256 : Int32).toInt = 256 from rfl, if_neg (by omega)]
    exact decide_eq_false (by omega)
theorem fg_hr {T : TX} {hi i v : Nat} (hh : hi ≤ 9) (h : fg T hi i = some v) : i < T.1 ∧ v ≤ hi ∧ hr8 T i = nI (48 + v) := by
  obtain ⟨h1, h2⟩ := fg_e h
  have h3 : i < T.1 := fg_lt (hi := hi) hh (by rw [h2, nI_toInt (by omega)]; omega)
  exact ⟨h3, h1, by rw [hr_i h3]; exact h2⟩
/-- what holds of a text that is read -/
def mtx (h : bw_H) (j : Nat) (T : TX) : Prop := j < 4 ∧ bw_i h 67 j = nI T.1 ∧ T.1 ≤ 60 ∧ ∀ i, i < T.1 → bw_i h 66 (60 * j + i) = T.2 i
def tsv (T : TX) (p : Nat) : Option Nat := match fg T 9 p with
  | none => none
  | some a => match fg T 9 (p + 1) with
    | none => none
    | some b => if 10 * a + b ≤ 63 then some (10 * a + b) else none
def tsp (T : TX) (p : Nat) : Nat := match fg T 9 p with
  | none => p
  | some _ => match fg T 9 (p + 1) with
    | none => p + 1
    | some _ => p
set_option maxRecDepth 100000 in
set_option maxHeartbeats 4000000 in
theorem me_X8_here {X : Nat × (Nat → Int32)} {Q : Option Value → bw_H → Prop} {h : bw_H} {j a : Nat} {F : Nat → Int32} {T : TX} (hm : MS h) (ht : mtx h j T) (ha : a < 1000) (hQ : Q (some (.int (hr8 T a))) (pst h a F)) : bw_me X 0 bm_X8_here false [.ref 60, .int (nI j)] (pst h a F) Q := by
  have hj := ht.1
  have hT := ht.2.2.1
  show bw_go _ 0 8 2 false (some .int) cX8_here 0 [(0, .ref _), (1, .int _)] [] _ _
  refine go_aload_n dX8_here_0 rfl ?_
  refine go_gfi dX8_here_1 fl_8_93 rfl (ms_lt hm (by decide)) hm.1.2 ?_
  rw [pst_i]
  refine go_aload_n dX8_here_4 rfl ?_
  refine go_gfr dX8_here_5 fl_8_29 rfl (ms_lt hm (by decide)) hm.1.2 hm.2.1.2.2.2.2.2.2.1 ?_
  refine go_iload_n dX8_here_8 rfl ?_
  refine go_ia dX8_here_9 hm.2.2.2.2.2.2.2.2.1 (ms_lt hm (by decide)) (n_in (N := 4) ht.1 (by decide)) ?_
  rw [nI_clamp (by omega), pst_o (by decide) (by decide), ht.2.1]
  refine go_icmp_ge (pc' := 30) dX8_here_10 rfl (fun c_10 => ?_) (fun c_10 => ?_)
  · -- ge at 10: yes
    show bw_go _ _ _ _ _ _ _ 30 [(0, .ref _), (1, .int _)] ([]) _ _
    refine go_bipush (-9) dX8_here_30 rfl ?_
    refine go_iret dX8_here_32 rfl rfl ?_
    have hlt : ¬ a < T.1 := by have t_0 := nI_toInt (n := T.1) (by omega); have t_1 := nI_toInt (n := a) (by omega); simp only [i_le] at c_10; omega
    exact qi hQ (hr_o hlt).1.symm
  · -- ge at 10: no
    show bw_go _ _ _ _ _ _ _ 13 [(0, .ref _), (1, .int _)] ([]) _ _
    have hlt : a < T.1 := by have t_0 := nI_toInt (n := T.1) (by omega); have t_1 := nI_toInt (n := a) (by omega); simp only [i_le] at c_10; omega
    refine go_aload_n dX8_here_13 rfl ?_
    refine go_gfr dX8_here_14 fl_8_26 rfl (ms_lt hm (by decide)) hm.1.2 hm.2.1.2.2.2.2.2.1 ?_
    refine go_bipush (60) dX8_here_17 rfl ?_
    refine go_iload_n dX8_here_19 rfl ?_
    refine go_imul dX8_here_20 ?_
    rw [show (60 : Int32) = nI 60 from rfl, nmul]
    refine go_aload_n dX8_here_21 rfl ?_
    refine go_gfi dX8_here_22 fl_8_93 rfl (ms_lt hm (by decide)) hm.1.2 ?_
    rw [pst_i]
    refine go_iadd dX8_here_25 ?_
    rw [nI_add]
    refine go_ia dX8_here_26 hm.2.2.2.2.2.2.2.1 (ms_lt hm (by decide)) (n_in (N := 240) (by omega) (by decide)) ?_
    rw [nI_clamp (by omega), pst_o (by decide) (by decide), ht.2.2.2 a hlt]
    refine go_goto (pc' := 32) dX8_here_27 rfl ?_
    show bw_go _ _ _ _ _ _ _ 32 [(0, .ref _), (1, .int _)] ((.int _) :: []) _ _
    refine go_iret dX8_here_32 rfl rfl ?_
    exact qi hQ (if_pos hlt).symm
set_option maxRecDepth 100000 in
set_option maxHeartbeats 4000000 in
theorem me_X8_skip {X : Nat × (Nat → Int32)} {Q : Option Value → bw_H → Prop} {h : bw_H} {j a : Nat} {F : Nat → Int32} {T : TX} (hm : MS h) (ht : mtx h j T) (ha : a < 900) (hQ : Q none (pst h (skp T a) F)) : bw_me X 1 bm_X8_skip false [.ref 60, .int (nI j)] (pst h a F) Q := by
  have hj := ht.1
  have hT := ht.2.2.1
  show bw_go _ 1 8 2 false none cX8_skip 0 [(0, .ref _), (1, .int _)] [] _ _
  refine go_for (P := fun k => ∀ (i : Nat), (i = a + k ∧ skp T i = skp T a) → bw_go X 1 8 2 false none cX8_skip 0 [(0, .ref (60)), (1, .int (nI j))] [] (pst h i F) Q) (N := T.1 - a) (fun k hk K => ?_) ?_ (0) (Nat.zero_le _) a ⟨rfl, rfl⟩
  · -- a turn
    intro i hv
    show bw_go _ _ _ _ _ _ _ 0 [(0, .ref _), (1, .int _)] ([]) _ _
    refine go_aload_n dX8_skip_0 rfl ?_
    refine go_iload_n dX8_skip_1 rfl ?_
    refine go_cv (as := [.int _]) 0 dX8_skip_2 mt_8_96 (Or.inl rfl) rfl rfl (ms_lt hm (by decide)) hm.1.2 (Nat.le_of_ble_eq_true rfl) (Nat.le_of_ble_eq_true rfl) (Nat.le_of_ble_eq_true rfl) (Nat.le_of_ble_eq_true rfl) (Nat.le_of_ble_eq_true rfl) ?_
    refine me_X8_here hm ht (a := i) (by omega) ?_
    show bw_go _ _ _ _ _ _ _ 5 [(0, .ref _), (1, .int _)] ((.int _) :: []) _ _
    refine go_bipush (32) dX8_skip_5 rfl ?_
    refine go_icmp_ne (pc' := 23) dX8_skip_7 rfl (fun c_7 => ?_) (fun c_7 => ?_)
    · -- ne at 7: yes
      show bw_go _ _ _ _ _ _ _ 23 [(0, .ref _), (1, .int _)] ([]) _ _
      refine go_vret dX8_skip_23 rfl ?_
      have hno : ¬ (i < T.1 ∧ T.2 i = 32) := fun z => c_7 ((hr_32 T i).mpr z)
      rw [← hv.2, skp_o T i hno] at hQ
      exact hQ
    · -- ne at 7: no
      show bw_go _ _ _ _ _ _ _ 10 [(0, .ref _), (1, .int _)] ([]) _ _
      refine go_aload_n dX8_skip_10 rfl ?_
      refine go_dupA dX8_skip_11 ?_
      refine go_gfi dX8_skip_12 fl_8_93 rfl (ms_lt hm (by decide)) hm.1.2 ?_
      rw [pst_i]
      refine go_iconst (1) dX8_skip_15 rfl ?_
      refine go_iadd dX8_skip_16 ?_
      rw [nI_1]
      refine go_pfi dX8_skip_17 fl_8_93 rfl (ms_lt hm (by decide)) hm.1.2 (Nat.le_of_ble_eq_true rfl) (Or.inl rfl) ?_
      show bw_go _ _ _ _ _ _ _ 20 [(0, .ref _), (1, .int _)] ([]) _ _
      rw [pst_p]
      have hyes := (hr_32 T i).mp (Decidable.of_not_not c_7)
      refine go_goto (pc' := 0) dX8_skip_20 rfl ?_
      exact K (i + 1) ⟨by omega, by rw [← skp_s T i hyes]; exact hv.2⟩
  · -- behind the last
    intro i hv
    show bw_go _ _ _ _ _ _ _ 0 [(0, .ref _), (1, .int _)] ([]) _ _
    refine go_aload_n dX8_skip_0 rfl ?_
    refine go_iload_n dX8_skip_1 rfl ?_
    refine go_cv (as := [.int _]) 0 dX8_skip_2 mt_8_96 (Or.inl rfl) rfl rfl (ms_lt hm (by decide)) hm.1.2 (Nat.le_of_ble_eq_true rfl) (Nat.le_of_ble_eq_true rfl) (Nat.le_of_ble_eq_true rfl) (Nat.le_of_ble_eq_true rfl) (Nat.le_of_ble_eq_true rfl) ?_
    refine me_X8_here hm ht (a := i) (by omega) ?_
    show bw_go _ _ _ _ _ _ _ 5 [(0, .ref _), (1, .int _)] ((.int _) :: []) _ _
    refine go_bipush (32) dX8_skip_5 rfl ?_
    refine go_icmp_ne (pc' := 23) dX8_skip_7 rfl (fun c_7 => ?_) (fun c_7 => ?_)
    · -- ne at 7: yes
      show bw_go _ _ _ _ _ _ _ 23 [(0, .ref _), (1, .int _)] ([]) _ _
      refine go_vret dX8_skip_23 rfl ?_
      have hno : ¬ (i < T.1 ∧ T.2 i = 32) := fun z => c_7 ((hr_32 T i).mpr z)
      rw [← hv.2, skp_o T i hno] at hQ
      exact hQ
    · -- ne at 7: no
      exact absurd ((hr_32 T i).mp (Decidable.of_not_not c_7)).1 (by omega)
set_option maxRecDepth 100000 in
set_option maxHeartbeats 4000000 in
theorem me_X8_takes {X : Nat × (Nat → Int32)} {Q : Option Value → bw_H → Prop} {h : bw_H} {j a to hi : Nat} {F : Nat → Int32} {T : TX} (hm : MS h) (ht : mtx h j T) (ha : a < 900) (hto : to < 80) (hh : hi ≤ 9) (hQ : ∀ G b, (∀ v, fg T hi a = some v → b = a + 1 ∧ G = bw_up F to (nI v)) → (fg T hi a = none → b = a ∧ G = F) → Q (some (.int (bi (fg T hi a).isSome))) (pst h b G)) : bw_me X 1 bm_X8_takes false [.ref 60, .int (nI j), .int (nI to), .int (nI hi)] (pst h a F) Q := by
  have hj := ht.1
  show bw_go _ 1 8 5 false (some .boolean) cX8_takes 0 [(0, .ref _), (1, .int _), (2, .int _), (3, .int _)] [] _ _
  refine go_aload_n dX8_takes_0 rfl ?_
  refine go_iload_n dX8_takes_1 rfl ?_
  refine go_cv (as := [.int _]) 0 dX8_takes_2 mt_8_96 (Or.inl rfl) rfl rfl (ms_lt hm (by decide)) hm.1.2 (Nat.le_of_ble_eq_true rfl) (Nat.le_of_ble_eq_true rfl) (Nat.le_of_ble_eq_true rfl) (Nat.le_of_ble_eq_true rfl) (Nat.le_of_ble_eq_true rfl) ?_
  refine me_X8_here hm ht (a := a) (by omega) ?_
  show bw_go _ _ _ _ _ _ _ 5 [(0, .ref _), (1, .int _), (2, .int _), (3, .int _)] ((.int _) :: []) _ _
  refine go_istore dX8_takes_5 (Nat.lt_of_lt_of_le (Nat.lt_succ_self _) (Nat.le_of_ble_eq_true rfl)) ?_
  show bw_go _ _ _ _ _ _ _ 7 [(4, .int _), (0, .ref _), (1, .int _), (2, .int _), (3, .int _)] ([]) _ _
  refine go_iload dX8_takes_7 rfl ?_
  refine go_i2l dX8_takes_9 ?_
  refine go_ldc2_w dX8_takes_10 kc_8_99 ?_
  refine go_bipush (48) dX8_takes_13 rfl ?_
  refine go_iload_n dX8_takes_15 rfl ?_
  refine go_iadd dX8_takes_16 ?_
  rw [show (48 : Int32) = nI 48 from rfl, nI_add]
  refine go_i2l dX8_takes_17 ?_
  refine go_cs (as := [.long _, .long _, .long _]) 0 dX8_takes_18 rfl rfl mt_8_69 (Nat.le_of_ble_eq_true rfl) rfl rfl (Nat.le_of_ble_eq_true rfl) (Nat.le_of_ble_eq_true rfl) (Nat.le_of_ble_eq_true rfl) (Nat.le_of_ble_eq_true rfl) ?_
  refine me_X8_in ?_
  rw [hr_fg hh]
  show bw_go _ _ _ _ _ _ _ 21 [(4, .int _), (0, .ref _), (1, .int _), (2, .int _), (3, .int _)] ((.int _) :: []) _ _
  refine go_ifb_ne (pc' := 26) dX8_takes_21 rfl (fun c_21 => ?_) (fun c_21 => ?_)
  · -- ne at 21: yes
    show bw_go _ _ _ _ _ _ _ 26 [(4, .int _), (0, .ref _), (1, .int _), (2, .int _), (3, .int _)] ([]) _ _
    obtain ⟨v, hv⟩ := Option.isSome_iff_exists.mp c_21
    obtain ⟨g1, g2, g3⟩ := fg_hr hh hv
    rw [g3]
    refine go_aload_n dX8_takes_26 rfl ?_
    refine go_gfr dX8_takes_27 fl_8_42 rfl (ms_lt hm (by decide)) hm.1.2 hm.2.1.2.2.2.2.2.2.2.2.2.1 ?_
    refine go_iload_n dX8_takes_30 rfl ?_
    refine go_iload dX8_takes_31 rfl ?_
    refine go_bipush (48) dX8_takes_33 rfl ?_
    refine go_isub dX8_takes_35 ?_
    rw [show (48 : Int32) = nI 48 from rfl, pk_sub (by omega), show 48 + v - 48 = v by omega]
    refine go_ist dX8_takes_36 hm.2.2.2.2.2.2.2.2.2.2.2.1 (ms_lt hm (by decide)) (n_in (N := 80) hto (by decide)) ?_
    show bw_go _ _ _ _ _ _ _ 37 [(4, .int _), (0, .ref _), (1, .int _), (2, .int _), (3, .int _)] ([]) _ _
    rw [nI_clamp (by omega), pst_a]
    refine go_aload_n dX8_takes_37 rfl ?_
    refine go_dupA dX8_takes_38 ?_
    refine go_gfi dX8_takes_39 fl_8_93 rfl (ms_lt hm (by decide)) hm.1.2 ?_
    rw [pst_i]
    refine go_iconst (1) dX8_takes_42 rfl ?_
    refine go_iadd dX8_takes_43 ?_
    rw [nI_1]
    refine go_pfi dX8_takes_44 fl_8_93 rfl (ms_lt hm (by decide)) hm.1.2 (Nat.le_of_ble_eq_true rfl) (Or.inl rfl) ?_
    show bw_go _ _ _ _ _ _ _ 47 [(4, .int _), (0, .ref _), (1, .int _), (2, .int _), (3, .int _)] ([]) _ _
    rw [pst_p]
    refine go_iconst (1) dX8_takes_47 rfl ?_
    refine go_iret dX8_takes_48 rfl rfl ?_
    refine bi_1 c_21 (hQ (bw_up F to (nI v)) (a + 1) (fun w z => ?_) (fun z => ?_))
    · rw [hv] at z; cases z; exact ⟨rfl, rfl⟩
    · rw [hv] at z; cases z
  · -- ne at 21: no
    show bw_go _ _ _ _ _ _ _ 24 [(4, .int _), (0, .ref _), (1, .int _), (2, .int _), (3, .int _)] ([]) _ _
    refine go_iconst (0) dX8_takes_24 rfl ?_
    refine go_iret dX8_takes_25 rfl rfl ?_
    have hno : fg T hi a = none := by
      cases e : fg T hi a with
      | none => rfl
      | some v => rw [e] at c_21; cases c_21
    refine bi_0 c_21 (hQ F a (fun v z => ?_) (fun _ => ⟨rfl, rfl⟩))
    rw [hno] at z; cases z
