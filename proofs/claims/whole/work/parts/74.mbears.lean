/-! the reference: sets, bears of a text -/
def brv (T : TX) (n p : Nat) : Option (Nat × Nat × Nat × Nat) := if n < 6 then (match kol (by8 T p) with
    | none => none
    | some k => match fg T 2 (p + 1) with
      | none => none
      | some e => match fg T 9 (p + 2) with
        | none => none
        | some w => match tsv T (p + 3) with
          | none => none
          | some v => some (k, e, w, v)) else none
def brp (T : TX) (n p : Nat) : Nat := if n < 6 then (match kol (by8 T p) with
    | none => p
    | some _ => match fg T 2 (p + 1) with
      | none => p + 1
      | some _ => match fg T 9 (p + 2) with
        | none => p + 2
        | some _ => tsp T (p + 3)) else p
theorem tsv_s {T : TX} {p a b : Nat} (h1 : fg T 9 p = some a) (h2 : fg T 9 (p + 1) = some b) : tsv T p = (if 10 * a + b ≤ 63 then some (10 * a + b) else none) ∧ tsp T p = p := by
  unfold tsv tsp; rw [h1]; simp only; rw [h2]; exact ⟨rfl, rfl⟩
theorem tsv_n1 {T : TX} {p : Nat} (h1 : fg T 9 p = none) : tsv T p = none ∧ tsp T p = p := by
  unfold tsv tsp; rw [h1]; exact ⟨rfl, rfl⟩
theorem tsv_n2 {T : TX} {p a : Nat} (h1 : fg T 9 p = some a) (h2 : fg T 9 (p + 1) = none) : tsv T p = none ∧ tsp T p = p + 1 := by
  unfold tsv tsp; rw [h1]; simp only; rw [h2]; exact ⟨rfl, rfl⟩
theorem tsv_b {T : TX} {p v : Nat} (h : tsv T p = some v) : v ≤ 63 := by
  unfold tsv at h
  split at h
  · cases h
  · split at h
    · cases h
    · split at h
      · rename_i z; cases h; exact z
      · cases h
theorem isn_none {α : Type} {o : Option α} (h : o.isSome = false) : o = none := by
  cases o with
  | none => rfl
  | some v => cases h
theorem up_up1 (F : Nat → Int32) (k : Nat) (v w : Int32) : bw_up (bw_up F k v) k w = bw_up F k w := by
  funext q; unfold bw_up; split <;> rfl
set_option maxRecDepth 100000 in
set_option maxHeartbeats 4000000 in
theorem me_X8_takesSet {X : Nat × (Nat → Int32)} {Q : Option Value → bw_H → Prop} {h : bw_H} {j a to : Nat} {F : Nat → Int32} {T : TX} (hm : MS h) (ht : mtx h j T) (ha : a < 800) (hto : to < 80) (hQ : ∀ G b, (∀ v, tsv T a = some v → b = a + 2 ∧ G = bw_up F to (nI v)) → (tsv T a = none → b = tsp T a) → (∀ x, x ≠ to → G x = F x) → Q (some (.int (bi (tsv T a).isSome))) (pst h b G)) : bw_me X 2 bm_X8_takesSet false [.ref 60, .int (nI j), .int (nI to)] (pst h a F) Q := by
  have hj := ht.1
  show bw_go _ 2 8 5 false (some .boolean) cX8_takesSet 0 [(0, .ref _), (1, .int _), (2, .int _)] [] _ _
  refine go_aload_n dX8_takesSet_0 rfl ?_
  refine go_gfi dX8_takesSet_1 fl_8_93 rfl (ms_lt hm (by decide)) hm.1.2 ?_
  rw [pst_i]
  refine go_istore_n dX8_takesSet_4 (Nat.lt_of_lt_of_le (Nat.lt_succ_self _) (Nat.le_of_ble_eq_true rfl)) ?_
  show bw_go _ _ _ _ _ _ _ 5 [(3, .int _), (0, .ref _), (1, .int _), (2, .int _)] ([]) _ _
  refine go_aload_n dX8_takesSet_5 rfl ?_
  refine go_iload_n dX8_takesSet_6 rfl ?_
  refine go_iload_n dX8_takesSet_7 rfl ?_
  refine go_bipush (9) dX8_takesSet_8 rfl ?_
  refine go_cv (as := [.int _, .int _, .int _]) 1 dX8_takesSet_10 mt_8_101 (Or.inl rfl) rfl rfl (ms_lt hm (by decide)) hm.1.2 (Nat.le_of_ble_eq_true rfl) (Nat.le_of_ble_eq_true rfl) (Nat.le_of_ble_eq_true rfl) (Nat.le_of_ble_eq_true rfl) (Nat.le_of_ble_eq_true rfl) ?_
  rw [show (9 : Int32) = nI 9 from rfl]
  refine me_X8_takes (a := a) (F := F) hm ht (by omega) (by omega) (by decide) (fun G fb f1 f2 => ?_)
  show bw_go _ _ _ _ _ _ _ 13 [(3, .int _), (0, .ref _), (1, .int _), (2, .int _)] ((.int _) :: []) _ _
  refine go_ifb_ne (pc' := 18) dX8_takesSet_13 rfl (fun c_13 => ?_) (fun c_13 => ?_)
  · -- ne at 13: yes
    show bw_go _ _ _ _ _ _ _ 18 [(3, .int _), (0, .ref _), (1, .int _), (2, .int _)] ([]) _ _
    obtain ⟨v, hv⟩ := Option.isSome_iff_exists.mp c_13
    obtain ⟨rfl, rfl⟩ := f1 v hv
    obtain ⟨hv1, hv2, hv3⟩ := fg_hr (by decide) hv
    refine go_aload_n dX8_takesSet_18 rfl ?_
    refine go_gfr dX8_takesSet_19 fl_8_42 rfl (ms_lt hm (by decide)) hm.1.2 hm.2.1.2.2.2.2.2.2.2.2.2.1 ?_
    refine go_iload_n dX8_takesSet_22 rfl ?_
    refine go_ia dX8_takesSet_23 hm.2.2.2.2.2.2.2.2.2.2.2.1 (ms_lt hm (by decide)) (n_in (N := 80) hto (by decide)) ?_
    rw [pst_f, nI_clamp (by omega), bw_up_s]
    refine go_istore dX8_takesSet_24 (Nat.lt_of_lt_of_le (Nat.lt_succ_self _) (Nat.le_of_ble_eq_true rfl)) ?_
    show bw_go _ _ _ _ _ _ _ 26 [(4, .int _), (3, .int _), (0, .ref _), (1, .int _), (2, .int _)] ([]) _ _
    refine go_aload_n dX8_takesSet_26 rfl ?_
    refine go_iload_n dX8_takesSet_27 rfl ?_
    refine go_iload_n dX8_takesSet_28 rfl ?_
    refine go_bipush (9) dX8_takesSet_29 rfl ?_
    refine go_cv (as := [.int _, .int _, .int _]) 1 dX8_takesSet_31 mt_8_101 (Or.inl rfl) rfl rfl (ms_lt hm (by decide)) hm.1.2 (Nat.le_of_ble_eq_true rfl) (Nat.le_of_ble_eq_true rfl) (Nat.le_of_ble_eq_true rfl) (Nat.le_of_ble_eq_true rfl) (Nat.le_of_ble_eq_true rfl) ?_
    rw [show (9 : Int32) = nI 9 from rfl]
    refine me_X8_takes (a := (a + 1)) (F := (bw_up F to (nI v))) hm ht (by omega) (by omega) (by decide) (fun G fb f1 f2 => ?_)
    show bw_go _ _ _ _ _ _ _ 34 [(4, .int _), (3, .int _), (0, .ref _), (1, .int _), (2, .int _)] ((.int _) :: []) _ _
    refine go_ifb_ne (pc' := 39) dX8_takesSet_34 rfl (fun c_34 => ?_) (fun c_34 => ?_)
    · -- ne at 34: yes
      show bw_go _ _ _ _ _ _ _ 39 [(4, .int _), (3, .int _), (0, .ref _), (1, .int _), (2, .int _)] ([]) _ _
      obtain ⟨w, hw⟩ := Option.isSome_iff_exists.mp c_34
      obtain ⟨rfl, rfl⟩ := f1 w hw
      obtain ⟨hw1, hw2, hw3⟩ := fg_hr (by decide) hw
      refine go_aload_n dX8_takesSet_39 rfl ?_
      refine go_gfr dX8_takesSet_40 fl_8_42 rfl (ms_lt hm (by decide)) hm.1.2 hm.2.1.2.2.2.2.2.2.2.2.2.1 ?_
      refine go_iload_n dX8_takesSet_43 rfl ?_
      refine go_dup2 dX8_takesSet_44 ?_
      refine go_ia dX8_takesSet_45 hm.2.2.2.2.2.2.2.2.2.2.2.1 (ms_lt hm (by decide)) (n_in (N := 80) hto (by decide)) ?_
      rw [pst_f, nI_clamp (by omega), bw_up_s]
      refine go_bipush (10) dX8_takesSet_46 rfl ?_
      rw [show (10 : Int32) = nI 10 from rfl]
      refine go_iload dX8_takesSet_48 rfl ?_
      refine go_imul dX8_takesSet_50 ?_
      rw [nmul]
      refine go_iadd dX8_takesSet_51 ?_
      rw [nI_add, show w + 10 * v = 10 * v + w from Nat.add_comm _ _]
      refine go_ist dX8_takesSet_52 hm.2.2.2.2.2.2.2.2.2.2.2.1 (ms_lt hm (by decide)) (n_in (N := 80) hto (by decide)) ?_
      show bw_go _ _ _ _ _ _ _ 53 [(4, .int _), (3, .int _), (0, .ref _), (1, .int _), (2, .int _)] ([]) _ _
      rw [nI_clamp (by omega), pst_a]
      refine go_aload_n dX8_takesSet_53 rfl ?_
      refine go_aload_n dX8_takesSet_54 rfl ?_
      refine go_gfr dX8_takesSet_55 fl_8_42 rfl (ms_lt hm (by decide)) hm.1.2 hm.2.1.2.2.2.2.2.2.2.2.2.1 ?_
      refine go_iload_n dX8_takesSet_58 rfl ?_
      refine go_ia dX8_takesSet_59 hm.2.2.2.2.2.2.2.2.2.2.2.1 (ms_lt hm (by decide)) (n_in (N := 80) hto (by decide)) ?_
      rw [pst_f, nI_clamp (by omega), bw_up_s]
      refine go_bipush (63) dX8_takesSet_60 rfl ?_
      refine go_icmp_le (pc' := 69) dX8_takesSet_62 rfl (fun c_62 => ?_) (fun c_62 => ?_)
      · -- le at 62: yes
        show bw_go _ _ _ _ _ _ _ 69 [(4, .int _), (3, .int _), (0, .ref _), (1, .int _), (2, .int _)] ((.ref _) :: []) _ _
        refine go_aload_n dX8_takesSet_69 rfl ?_
        refine go_gfi dX8_takesSet_70 fl_8_93 rfl (ms_lt hm (by decide)) hm.1.2 ?_
        first | rw [pst_i] | skip
        refine go_pfi dX8_takesSet_73 fl_8_93 rfl (ms_lt hm (by decide)) hm.1.2 (Nat.le_of_ble_eq_true rfl) (Or.inl rfl) ?_
        show bw_go _ _ _ _ _ _ _ 76 [(4, .int _), (3, .int _), (0, .ref _), (1, .int _), (2, .int _)] ([]) _ _
        rw [pst_p]
        refine go_aload_n dX8_takesSet_76 rfl ?_
        refine go_gfr dX8_takesSet_77 fl_8_42 rfl (ms_lt hm (by decide)) hm.1.2 hm.2.1.2.2.2.2.2.2.2.2.2.1 ?_
        refine go_iload_n dX8_takesSet_80 rfl ?_
        refine go_ia dX8_takesSet_81 hm.2.2.2.2.2.2.2.2.2.2.2.1 (ms_lt hm (by decide)) (n_in (N := 80) hto (by decide)) ?_
        rw [pst_f, nI_clamp (by omega), bw_up_s]
        refine go_bipush (63) dX8_takesSet_82 rfl ?_
        refine go_icmp_gt (pc' := 91) dX8_takesSet_84 rfl (fun c_84 => ?_) (fun c_84 => ?_)
        · -- gt at 84: yes
          show bw_go _ _ _ _ _ _ _ 91 [(4, .int _), (3, .int _), (0, .ref _), (1, .int _), (2, .int _)] ([]) _ _
          refine go_iconst (0) dX8_takesSet_91 rfl ?_
          refine go_iret dX8_takesSet_92 rfl rfl ?_
          first
          | (exfalso; have t_0 := nI_toInt (n := 10 * v + w) (by omega); have l_63 : (63 : Int32).toInt = 63 := rfl; simp only [i_le, i_lt] at c_62 c_84; omega)
          | exact bi_1 (b := (tsv T a).isSome) (by rw [(tsv_s hv hw).1, if_pos (by have t_0 := nI_toInt (n := 10 * v + w) (by omega); have l_63 : (63 : Int32).toInt = 63 := rfl; simp only [i_le, i_lt] at c_62; omega)]; rfl) (hQ _ _ (fun x z => by rw [(tsv_s hv hw).1, if_pos (by have t_0 := nI_toInt (n := 10 * v + w) (by omega); have l_63 : (63 : Int32).toInt = 63 := rfl; simp only [i_le, i_lt] at c_62; omega)] at z; cases z; exact ⟨rfl, by simp only [up_up1]⟩) (fun z => by rw [(tsv_s hv hw).1, if_pos (by have t_0 := nI_toInt (n := 10 * v + w) (by omega); have l_63 : (63 : Int32).toInt = 63 := rfl; simp only [i_le, i_lt] at c_62; omega)] at z; cases z) (fun x hx => by rw [bw_up_o hx, bw_up_o hx, bw_up_o hx]))
          | exact bi_0 (b := (tsv T a).isSome) (by rw [(tsv_s hv hw).1, if_neg (by have t_0 := nI_toInt (n := 10 * v + w) (by omega); have l_63 : (63 : Int32).toInt = 63 := rfl; simp only [i_le, i_lt] at c_62; omega)]; rfl) (hQ _ _ (fun x z => by rw [(tsv_s hv hw).1, if_neg (by have t_0 := nI_toInt (n := 10 * v + w) (by omega); have l_63 : (63 : Int32).toInt = 63 := rfl; simp only [i_le, i_lt] at c_62; omega)] at z; cases z) (fun z => (tsv_s hv hw).2.symm) (fun x hx => by rw [bw_up_o hx, bw_up_o hx, bw_up_o hx]))
          | exact bi_0 (b := (tsv T a).isSome) (by rw [(tsv_n2 hv (isn_none c_34)).1]; rfl) (by obtain ⟨rfl, rfl⟩ := f2 (isn_none c_34); exact hQ _ _ (fun x z => by rw [(tsv_n2 hv (isn_none c_34)).1] at z; cases z) (fun z => (tsv_n2 hv (isn_none c_34)).2.symm) (fun x hx => by rw [bw_up_o hx]))
          | exact bi_0 (b := (tsv T a).isSome) (by rw [(tsv_n1 (isn_none c_13)).1]; rfl) (by obtain ⟨rfl, rfl⟩ := f2 (isn_none c_13); exact hQ _ _ (fun x z => by rw [(tsv_n1 (isn_none c_13)).1] at z; cases z) (fun z => (tsv_n1 (isn_none c_13)).2.symm) (fun x hx => rfl))
        · -- gt at 84: no
          show bw_go _ _ _ _ _ _ _ 87 [(4, .int _), (3, .int _), (0, .ref _), (1, .int _), (2, .int _)] ([]) _ _
          refine go_iconst (1) dX8_takesSet_87 rfl ?_
          refine go_goto (pc' := 92) dX8_takesSet_88 rfl ?_
          show bw_go _ _ _ _ _ _ _ 92 [(4, .int _), (3, .int _), (0, .ref _), (1, .int _), (2, .int _)] ((.int _) :: []) _ _
          refine go_iret dX8_takesSet_92 rfl rfl ?_
          first
          | (exfalso; have t_0 := nI_toInt (n := 10 * v + w) (by omega); have l_63 : (63 : Int32).toInt = 63 := rfl; simp only [i_le, i_lt] at c_62 c_84; omega)
          | exact bi_1 (b := (tsv T a).isSome) (by rw [(tsv_s hv hw).1, if_pos (by have t_0 := nI_toInt (n := 10 * v + w) (by omega); have l_63 : (63 : Int32).toInt = 63 := rfl; simp only [i_le, i_lt] at c_62; omega)]; rfl) (hQ _ _ (fun x z => by rw [(tsv_s hv hw).1, if_pos (by have t_0 := nI_toInt (n := 10 * v + w) (by omega); have l_63 : (63 : Int32).toInt = 63 := rfl; simp only [i_le, i_lt] at c_62; omega)] at z; cases z; exact ⟨rfl, by simp only [up_up1]⟩) (fun z => by rw [(tsv_s hv hw).1, if_pos (by have t_0 := nI_toInt (n := 10 * v + w) (by omega); have l_63 : (63 : Int32).toInt = 63 := rfl; simp only [i_le, i_lt] at c_62; omega)] at z; cases z) (fun x hx => by rw [bw_up_o hx, bw_up_o hx, bw_up_o hx]))
          | exact bi_0 (b := (tsv T a).isSome) (by rw [(tsv_s hv hw).1, if_neg (by have t_0 := nI_toInt (n := 10 * v + w) (by omega); have l_63 : (63 : Int32).toInt = 63 := rfl; simp only [i_le, i_lt] at c_62; omega)]; rfl) (hQ _ _ (fun x z => by rw [(tsv_s hv hw).1, if_neg (by have t_0 := nI_toInt (n := 10 * v + w) (by omega); have l_63 : (63 : Int32).toInt = 63 := rfl; simp only [i_le, i_lt] at c_62; omega)] at z; cases z) (fun z => (tsv_s hv hw).2.symm) (fun x hx => by rw [bw_up_o hx, bw_up_o hx, bw_up_o hx]))
          | exact bi_0 (b := (tsv T a).isSome) (by rw [(tsv_n2 hv (isn_none c_34)).1]; rfl) (by obtain ⟨rfl, rfl⟩ := f2 (isn_none c_34); exact hQ _ _ (fun x z => by rw [(tsv_n2 hv (isn_none c_34)).1] at z; cases z) (fun z => (tsv_n2 hv (isn_none c_34)).2.symm) (fun x hx => by rw [bw_up_o hx]))
          | exact bi_0 (b := (tsv T a).isSome) (by rw [(tsv_n1 (isn_none c_13)).1]; rfl) (by obtain ⟨rfl, rfl⟩ := f2 (isn_none c_13); exact hQ _ _ (fun x z => by rw [(tsv_n1 (isn_none c_13)).1] at z; cases z) (fun z => (tsv_n1 (isn_none c_13)).2.symm) (fun x hx => rfl))
      · -- le at 62: no
        show bw_go _ _ _ _ _ _ _ 65 [(4, .int _), (3, .int _), (0, .ref _), (1, .int _), (2, .int _)] ((.ref _) :: []) _ _
        refine go_iload_n dX8_takesSet_65 rfl ?_
        refine go_goto (pc' := 73) dX8_takesSet_66 rfl ?_
        show bw_go _ _ _ _ _ _ _ 73 [(4, .int _), (3, .int _), (0, .ref _), (1, .int _), (2, .int _)] ((.int _) :: (.ref _) :: []) _ _
        first | rw [pst_i] | skip
        refine go_pfi dX8_takesSet_73 fl_8_93 rfl (ms_lt hm (by decide)) hm.1.2 (Nat.le_of_ble_eq_true rfl) (Or.inl rfl) ?_
        show bw_go _ _ _ _ _ _ _ 76 [(4, .int _), (3, .int _), (0, .ref _), (1, .int _), (2, .int _)] ([]) _ _
        rw [pst_p]
        refine go_aload_n dX8_takesSet_76 rfl ?_
        refine go_gfr dX8_takesSet_77 fl_8_42 rfl (ms_lt hm (by decide)) hm.1.2 hm.2.1.2.2.2.2.2.2.2.2.2.1 ?_
        refine go_iload_n dX8_takesSet_80 rfl ?_
        refine go_ia dX8_takesSet_81 hm.2.2.2.2.2.2.2.2.2.2.2.1 (ms_lt hm (by decide)) (n_in (N := 80) hto (by decide)) ?_
        rw [pst_f, nI_clamp (by omega), bw_up_s]
        refine go_bipush (63) dX8_takesSet_82 rfl ?_
        refine go_icmp_gt (pc' := 91) dX8_takesSet_84 rfl (fun c_84 => ?_) (fun c_84 => ?_)
        · -- gt at 84: yes
          show bw_go _ _ _ _ _ _ _ 91 [(4, .int _), (3, .int _), (0, .ref _), (1, .int _), (2, .int _)] ([]) _ _
          refine go_iconst (0) dX8_takesSet_91 rfl ?_
          refine go_iret dX8_takesSet_92 rfl rfl ?_
          first
          | (exfalso; have t_0 := nI_toInt (n := 10 * v + w) (by omega); have l_63 : (63 : Int32).toInt = 63 := rfl; simp only [i_le, i_lt] at c_62 c_84; omega)
          | exact bi_1 (b := (tsv T a).isSome) (by rw [(tsv_s hv hw).1, if_pos (by have t_0 := nI_toInt (n := 10 * v + w) (by omega); have l_63 : (63 : Int32).toInt = 63 := rfl; simp only [i_le, i_lt] at c_62; omega)]; rfl) (hQ _ _ (fun x z => by rw [(tsv_s hv hw).1, if_pos (by have t_0 := nI_toInt (n := 10 * v + w) (by omega); have l_63 : (63 : Int32).toInt = 63 := rfl; simp only [i_le, i_lt] at c_62; omega)] at z; cases z; exact ⟨rfl, by simp only [up_up1]⟩) (fun z => by rw [(tsv_s hv hw).1, if_pos (by have t_0 := nI_toInt (n := 10 * v + w) (by omega); have l_63 : (63 : Int32).toInt = 63 := rfl; simp only [i_le, i_lt] at c_62; omega)] at z; cases z) (fun x hx => by rw [bw_up_o hx, bw_up_o hx, bw_up_o hx]))
          | exact bi_0 (b := (tsv T a).isSome) (by rw [(tsv_s hv hw).1, if_neg (by have t_0 := nI_toInt (n := 10 * v + w) (by omega); have l_63 : (63 : Int32).toInt = 63 := rfl; simp only [i_le, i_lt] at c_62; omega)]; rfl) (hQ _ _ (fun x z => by rw [(tsv_s hv hw).1, if_neg (by have t_0 := nI_toInt (n := 10 * v + w) (by omega); have l_63 : (63 : Int32).toInt = 63 := rfl; simp only [i_le, i_lt] at c_62; omega)] at z; cases z) (fun z => (tsv_s hv hw).2.symm) (fun x hx => by rw [bw_up_o hx, bw_up_o hx, bw_up_o hx]))
          | exact bi_0 (b := (tsv T a).isSome) (by rw [(tsv_n2 hv (isn_none c_34)).1]; rfl) (by obtain ⟨rfl, rfl⟩ := f2 (isn_none c_34); exact hQ _ _ (fun x z => by rw [(tsv_n2 hv (isn_none c_34)).1] at z; cases z) (fun z => (tsv_n2 hv (isn_none c_34)).2.symm) (fun x hx => by rw [bw_up_o hx]))
          | exact bi_0 (b := (tsv T a).isSome) (by rw [(tsv_n1 (isn_none c_13)).1]; rfl) (by obtain ⟨rfl, rfl⟩ := f2 (isn_none c_13); exact hQ _ _ (fun x z => by rw [(tsv_n1 (isn_none c_13)).1] at z; cases z) (fun z => (tsv_n1 (isn_none c_13)).2.symm) (fun x hx => rfl))
        · -- gt at 84: no
          show bw_go _ _ _ _ _ _ _ 87 [(4, .int _), (3, .int _), (0, .ref _), (1, .int _), (2, .int _)] ([]) _ _
          refine go_iconst (1) dX8_takesSet_87 rfl ?_
          refine go_goto (pc' := 92) dX8_takesSet_88 rfl ?_
          show bw_go _ _ _ _ _ _ _ 92 [(4, .int _), (3, .int _), (0, .ref _), (1, .int _), (2, .int _)] ((.int _) :: []) _ _
          refine go_iret dX8_takesSet_92 rfl rfl ?_
          first
          | (exfalso; have t_0 := nI_toInt (n := 10 * v + w) (by omega); have l_63 : (63 : Int32).toInt = 63 := rfl; simp only [i_le, i_lt] at c_62 c_84; omega)
          | exact bi_1 (b := (tsv T a).isSome) (by rw [(tsv_s hv hw).1, if_pos (by have t_0 := nI_toInt (n := 10 * v + w) (by omega); have l_63 : (63 : Int32).toInt = 63 := rfl; simp only [i_le, i_lt] at c_62; omega)]; rfl) (hQ _ _ (fun x z => by rw [(tsv_s hv hw).1, if_pos (by have t_0 := nI_toInt (n := 10 * v + w) (by omega); have l_63 : (63 : Int32).toInt = 63 := rfl; simp only [i_le, i_lt] at c_62; omega)] at z; cases z; exact ⟨rfl, by simp only [up_up1]⟩) (fun z => by rw [(tsv_s hv hw).1, if_pos (by have t_0 := nI_toInt (n := 10 * v + w) (by omega); have l_63 : (63 : Int32).toInt = 63 := rfl; simp only [i_le, i_lt] at c_62; omega)] at z; cases z) (fun x hx => by rw [bw_up_o hx, bw_up_o hx, bw_up_o hx]))
          | exact bi_0 (b := (tsv T a).isSome) (by rw [(tsv_s hv hw).1, if_neg (by have t_0 := nI_toInt (n := 10 * v + w) (by omega); have l_63 : (63 : Int32).toInt = 63 := rfl; simp only [i_le, i_lt] at c_62; omega)]; rfl) (hQ _ _ (fun x z => by rw [(tsv_s hv hw).1, if_neg (by have t_0 := nI_toInt (n := 10 * v + w) (by omega); have l_63 : (63 : Int32).toInt = 63 := rfl; simp only [i_le, i_lt] at c_62; omega)] at z; cases z) (fun z => (tsv_s hv hw).2.symm) (fun x hx => by rw [bw_up_o hx, bw_up_o hx, bw_up_o hx]))
          | exact bi_0 (b := (tsv T a).isSome) (by rw [(tsv_n2 hv (isn_none c_34)).1]; rfl) (by obtain ⟨rfl, rfl⟩ := f2 (isn_none c_34); exact hQ _ _ (fun x z => by rw [(tsv_n2 hv (isn_none c_34)).1] at z; cases z) (fun z => (tsv_n2 hv (isn_none c_34)).2.symm) (fun x hx => by rw [bw_up_o hx]))
          | exact bi_0 (b := (tsv T a).isSome) (by rw [(tsv_n1 (isn_none c_13)).1]; rfl) (by obtain ⟨rfl, rfl⟩ := f2 (isn_none c_13); exact hQ _ _ (fun x z => by rw [(tsv_n1 (isn_none c_13)).1] at z; cases z) (fun z => (tsv_n1 (isn_none c_13)).2.symm) (fun x hx => rfl))
    · -- ne at 34: no
      show bw_go _ _ _ _ _ _ _ 37 [(4, .int _), (3, .int _), (0, .ref _), (1, .int _), (2, .int _)] ([]) _ _
      refine go_iconst (0) dX8_takesSet_37 rfl ?_
      refine go_iret dX8_takesSet_38 rfl rfl ?_
      first
      | (exfalso; have t_0 := nI_toInt (n := 10 * v + w) (by omega); have l_63 : (63 : Int32).toInt = 63 := rfl; simp only [i_le, i_lt] at c_62 c_84; omega)
      | exact bi_1 (b := (tsv T a).isSome) (by rw [(tsv_s hv hw).1, if_pos (by have t_0 := nI_toInt (n := 10 * v + w) (by omega); have l_63 : (63 : Int32).toInt = 63 := rfl; simp only [i_le, i_lt] at c_62; omega)]; rfl) (hQ _ _ (fun x z => by rw [(tsv_s hv hw).1, if_pos (by have t_0 := nI_toInt (n := 10 * v + w) (by omega); have l_63 : (63 : Int32).toInt = 63 := rfl; simp only [i_le, i_lt] at c_62; omega)] at z; cases z; exact ⟨rfl, by simp only [up_up1]⟩) (fun z => by rw [(tsv_s hv hw).1, if_pos (by have t_0 := nI_toInt (n := 10 * v + w) (by omega); have l_63 : (63 : Int32).toInt = 63 := rfl; simp only [i_le, i_lt] at c_62; omega)] at z; cases z) (fun x hx => by rw [bw_up_o hx, bw_up_o hx, bw_up_o hx]))
      | exact bi_0 (b := (tsv T a).isSome) (by rw [(tsv_s hv hw).1, if_neg (by have t_0 := nI_toInt (n := 10 * v + w) (by omega); have l_63 : (63 : Int32).toInt = 63 := rfl; simp only [i_le, i_lt] at c_62; omega)]; rfl) (hQ _ _ (fun x z => by rw [(tsv_s hv hw).1, if_neg (by have t_0 := nI_toInt (n := 10 * v + w) (by omega); have l_63 : (63 : Int32).toInt = 63 := rfl; simp only [i_le, i_lt] at c_62; omega)] at z; cases z) (fun z => (tsv_s hv hw).2.symm) (fun x hx => by rw [bw_up_o hx, bw_up_o hx, bw_up_o hx]))
      | exact bi_0 (b := (tsv T a).isSome) (by rw [(tsv_n2 hv (isn_none c_34)).1]; rfl) (by obtain ⟨rfl, rfl⟩ := f2 (isn_none c_34); exact hQ _ _ (fun x z => by rw [(tsv_n2 hv (isn_none c_34)).1] at z; cases z) (fun z => (tsv_n2 hv (isn_none c_34)).2.symm) (fun x hx => by rw [bw_up_o hx]))
      | exact bi_0 (b := (tsv T a).isSome) (by rw [(tsv_n1 (isn_none c_13)).1]; rfl) (by obtain ⟨rfl, rfl⟩ := f2 (isn_none c_13); exact hQ _ _ (fun x z => by rw [(tsv_n1 (isn_none c_13)).1] at z; cases z) (fun z => (tsv_n1 (isn_none c_13)).2.symm) (fun x hx => rfl))
  · -- ne at 13: no
    show bw_go _ _ _ _ _ _ _ 16 [(3, .int _), (0, .ref _), (1, .int _), (2, .int _)] ([]) _ _
    refine go_iconst (0) dX8_takesSet_16 rfl ?_
    refine go_iret dX8_takesSet_17 rfl rfl ?_
    first
    | (exfalso; have t_0 := nI_toInt (n := 10 * v + w) (by omega); have l_63 : (63 : Int32).toInt = 63 := rfl; simp only [i_le, i_lt] at c_62 c_84; omega)
    | exact bi_1 (b := (tsv T a).isSome) (by rw [(tsv_s hv hw).1, if_pos (by have t_0 := nI_toInt (n := 10 * v + w) (by omega); have l_63 : (63 : Int32).toInt = 63 := rfl; simp only [i_le, i_lt] at c_62; omega)]; rfl) (hQ _ _ (fun x z => by rw [(tsv_s hv hw).1, if_pos (by have t_0 := nI_toInt (n := 10 * v + w) (by omega); have l_63 : (63 : Int32).toInt = 63 := rfl; simp only [i_le, i_lt] at c_62; omega)] at z; cases z; exact ⟨rfl, by simp only [up_up1]⟩) (fun z => by rw [(tsv_s hv hw).1, if_pos (by have t_0 := nI_toInt (n := 10 * v + w) (by omega); have l_63 : (63 : Int32).toInt = 63 := rfl; simp only [i_le, i_lt] at c_62; omega)] at z; cases z) (fun x hx => by rw [bw_up_o hx, bw_up_o hx, bw_up_o hx]))
    | exact bi_0 (b := (tsv T a).isSome) (by rw [(tsv_s hv hw).1, if_neg (by have t_0 := nI_toInt (n := 10 * v + w) (by omega); have l_63 : (63 : Int32).toInt = 63 := rfl; simp only [i_le, i_lt] at c_62; omega)]; rfl) (hQ _ _ (fun x z => by rw [(tsv_s hv hw).1, if_neg (by have t_0 := nI_toInt (n := 10 * v + w) (by omega); have l_63 : (63 : Int32).toInt = 63 := rfl; simp only [i_le, i_lt] at c_62; omega)] at z; cases z) (fun z => (tsv_s hv hw).2.symm) (fun x hx => by rw [bw_up_o hx, bw_up_o hx, bw_up_o hx]))
    | exact bi_0 (b := (tsv T a).isSome) (by rw [(tsv_n2 hv (isn_none c_34)).1]; rfl) (by obtain ⟨rfl, rfl⟩ := f2 (isn_none c_34); exact hQ _ _ (fun x z => by rw [(tsv_n2 hv (isn_none c_34)).1] at z; cases z) (fun z => (tsv_n2 hv (isn_none c_34)).2.symm) (fun x hx => by rw [bw_up_o hx]))
    | exact bi_0 (b := (tsv T a).isSome) (by rw [(tsv_n1 (isn_none c_13)).1]; rfl) (by obtain ⟨rfl, rfl⟩ := f2 (isn_none c_13); exact hQ _ _ (fun x z => by rw [(tsv_n1 (isn_none c_13)).1] at z; cases z) (fun z => (tsv_n1 (isn_none c_13)).2.symm) (fun x hx => rfl))
set_option maxRecDepth 100000 in
set_option maxHeartbeats 4000000 in
theorem me_X8_kindBy {X : Nat × (Nat → Int32)} {Q : Option Value → bw_H → Prop} {h : bw_H} {c : Int32} (hQ : Q (some (.int (mtI (kol c)))) h) : bw_me X 0 bm_X8_kindBy false [.int c] h Q := by
  show bw_go _ 0 8 1 false (some .int) cX8_kindBy 0 [(0, .int _)] [] _ _
  refine go_iload_n dX8_kindBy_0 rfl ?_
  refine go_bipush (98) dX8_kindBy_1 rfl ?_
  refine go_icmp_ne (pc' := 10) dX8_kindBy_3 rfl (fun c_3 => ?_) (fun c_3 => ?_)
  · -- ne at 3: yes
    show bw_go _ _ _ _ _ _ _ 10 [(0, .int _)] ([]) _ _
    refine go_iload_n dX8_kindBy_10 rfl ?_
    refine go_bipush (108) dX8_kindBy_11 rfl ?_
    refine go_icmp_ne (pc' := 20) dX8_kindBy_13 rfl (fun c_13 => ?_) (fun c_13 => ?_)
    · -- ne at 13: yes
      show bw_go _ _ _ _ _ _ _ 20 [(0, .int _)] ([]) _ _
      refine go_iload_n dX8_kindBy_20 rfl ?_
      refine go_bipush (112) dX8_kindBy_21 rfl ?_
      refine go_icmp_ne (pc' := 30) dX8_kindBy_23 rfl (fun c_23 => ?_) (fun c_23 => ?_)
      · -- ne at 23: yes
        show bw_go _ _ _ _ _ _ _ 30 [(0, .int _)] ([]) _ _
        refine go_iload_n dX8_kindBy_30 rfl ?_
        refine go_bipush (109) dX8_kindBy_31 rfl ?_
        refine go_icmp_ne (pc' := 40) dX8_kindBy_33 rfl (fun c_33 => ?_) (fun c_33 => ?_)
        · -- ne at 33: yes
          show bw_go _ _ _ _ _ _ _ 40 [(0, .int _)] ([]) _ _
          refine go_iload_n dX8_kindBy_40 rfl ?_
          refine go_bipush (103) dX8_kindBy_41 rfl ?_
          refine go_icmp_ne (pc' := 50) dX8_kindBy_43 rfl (fun c_43 => ?_) (fun c_43 => ?_)
          · -- ne at 43: yes
            show bw_go _ _ _ _ _ _ _ 50 [(0, .int _)] ([]) _ _
            refine go_iload_n dX8_kindBy_50 rfl ?_
            refine go_bipush (114) dX8_kindBy_51 rfl ?_
            refine go_icmp_ne (pc' := 60) dX8_kindBy_53 rfl (fun c_53 => ?_) (fun c_53 => ?_)
            · -- ne at 53: yes
              show bw_go _ _ _ _ _ _ _ 60 [(0, .int _)] ([]) _ _
              refine go_bipush (-9) dX8_kindBy_60 rfl ?_
              refine go_iret dX8_kindBy_62 rfl rfl ?_
              refine qi hQ ?_
              unfold kol
              rw [if_neg c_3, if_neg c_13, if_neg c_23, if_neg c_33, if_neg c_43, if_neg c_53]
              rfl
            · -- ne at 53: no
              show bw_go _ _ _ _ _ _ _ 56 [(0, .int _)] ([]) _ _
              refine go_iconst (5) dX8_kindBy_56 rfl ?_
              refine go_goto (pc' := 62) dX8_kindBy_57 rfl ?_
              show bw_go _ _ _ _ _ _ _ 62 [(0, .int _)] ((.int _) :: []) _ _
              refine go_iret dX8_kindBy_62 rfl rfl ?_
              refine qi hQ ?_
              unfold kol
              rw [if_neg c_3, if_neg c_13, if_neg c_23, if_neg c_33, if_neg c_43, if_pos (Decidable.of_not_not c_53)]
              rfl
          · -- ne at 43: no
            show bw_go _ _ _ _ _ _ _ 46 [(0, .int _)] ([]) _ _
            refine go_iconst (4) dX8_kindBy_46 rfl ?_
            refine go_goto (pc' := 62) dX8_kindBy_47 rfl ?_
            show bw_go _ _ _ _ _ _ _ 62 [(0, .int _)] ((.int _) :: []) _ _
            refine go_iret dX8_kindBy_62 rfl rfl ?_
            refine qi hQ ?_
            unfold kol
            rw [if_neg c_3, if_neg c_13, if_neg c_23, if_neg c_33, if_pos (Decidable.of_not_not c_43)]
            rfl
        · -- ne at 33: no
          show bw_go _ _ _ _ _ _ _ 36 [(0, .int _)] ([]) _ _
          refine go_iconst (3) dX8_kindBy_36 rfl ?_
          refine go_goto (pc' := 62) dX8_kindBy_37 rfl ?_
          show bw_go _ _ _ _ _ _ _ 62 [(0, .int _)] ((.int _) :: []) _ _
          refine go_iret dX8_kindBy_62 rfl rfl ?_
          refine qi hQ ?_
          unfold kol
          rw [if_neg c_3, if_neg c_13, if_neg c_23, if_pos (Decidable.of_not_not c_33)]
          rfl
      · -- ne at 23: no
        show bw_go _ _ _ _ _ _ _ 26 [(0, .int _)] ([]) _ _
        refine go_iconst (2) dX8_kindBy_26 rfl ?_
        refine go_goto (pc' := 62) dX8_kindBy_27 rfl ?_
        show bw_go _ _ _ _ _ _ _ 62 [(0, .int _)] ((.int _) :: []) _ _
        refine go_iret dX8_kindBy_62 rfl rfl ?_
        refine qi hQ ?_
        unfold kol
        rw [if_neg c_3, if_neg c_13, if_pos (Decidable.of_not_not c_23)]
        rfl
    · -- ne at 13: no
      show bw_go _ _ _ _ _ _ _ 16 [(0, .int _)] ([]) _ _
      refine go_iconst (1) dX8_kindBy_16 rfl ?_
      refine go_goto (pc' := 62) dX8_kindBy_17 rfl ?_
      show bw_go _ _ _ _ _ _ _ 62 [(0, .int _)] ((.int _) :: []) _ _
      refine go_iret dX8_kindBy_62 rfl rfl ?_
      refine qi hQ ?_
      unfold kol
      rw [if_neg c_3, if_pos (Decidable.of_not_not c_13)]
      rfl
  · -- ne at 3: no
    show bw_go _ _ _ _ _ _ _ 6 [(0, .int _)] ([]) _ _
    refine go_iconst (0) dX8_kindBy_6 rfl ?_
    refine go_goto (pc' := 62) dX8_kindBy_7 rfl ?_
    show bw_go _ _ _ _ _ _ _ 62 [(0, .int _)] ((.int _) :: []) _ _
    refine go_iret dX8_kindBy_62 rfl rfl ?_
    refine qi hQ ?_
    unfold kol
    rw [if_pos (Decidable.of_not_not c_3)]
    rfl
