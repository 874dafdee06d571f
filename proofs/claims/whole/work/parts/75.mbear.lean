/-! the reference: a bear of a text; both ways to read one -/
theorem ofg_s {T : TX} {hi p v : Nat} {o : Option Nat} (h : fg T hi p = some v) : ofg T hi (p, o) = (v, p + 1, o) := by unfold ofg; simp only; rw [h]
theorem ofg_n {T : TX} {hi p : Nat} {o : Option Nat} (h : fg T hi p = none) : ofg T hi (p, o) = (0, p, o.or (some p)) := by unfold ofg; simp only; rw [h]
theorem ofg_k {T : TX} {hi p q : Nat} : (ofg T hi (p, some q)).2.2 = some q := by
  cases h : fg T hi p with
  | none => rw [ofg_n h]; rfl
  | some v => rw [ofg_s h]
theorem ofg_k2 {T : TX} {hi q : Nat} {a : RS} (h : a.2 = some q) : (ofg T hi a).2.2 = some q := by
  obtain ⟨p, o⟩ := a
  cases h
  exact ofg_k
theorem tfg_k {T : TX} {q : Nat} {a : RS} (h : a.2 = some q) : (tfg T a).2.2 = some q := by
  unfold tfg
  rw [if_neg (by rw [ofg_k2 h]; exact fun z => by cases z)]
  exact ofg_k2 h
theorem tfg_s {T : TX} {p v : Nat} (h : tsv T p = some v) : tfg T (p, none) = (v, p + 2, none) := by
  cases h1 : fg T 9 p with
  | none => rw [(tsv_n1 h1).1] at h; cases h
  | some a =>
    cases h2 : fg T 9 (p + 1) with
    | none => rw [(tsv_n2 h1 h2).1] at h; cases h
    | some b =>
      rw [(tsv_s h1 h2).1] at h
      split at h
      · rename_i z
        cases h
        unfold tfg
        rw [ofg_s h1, if_pos rfl]
        simp only
        rw [ofg_s h2]
        simp only
        rw [if_neg (by omega)]
      · cases h
theorem tfg_n {T : TX} {p : Nat} (h : tsv T p = none) : (tfg T (p, none)).2.2 = some (tsp T p) := by
  cases h1 : fg T 9 p with
  | none =>
    rw [(tsv_n1 h1).2]
    unfold tfg
    rw [ofg_n h1, if_neg (fun z => by cases z)]
    rfl
  | some a =>
    cases h2 : fg T 9 (p + 1) with
    | none =>
      rw [(tsv_n2 h1 h2).2]
      unfold tfg
      rw [ofg_s h1, if_pos rfl]
      simp only
      rw [ofg_n h2]
      simp only
      split <;> rfl
    | some b =>
      rw [(tsv_s h1 h2).1] at h
      rw [(tsv_s h1 h2).2]
      split at h
      · cases h
      · rename_i z
        unfold tfg
        rw [ofg_s h1, if_pos rfl]
        simp only
        rw [ofg_s h2]
        simp only
        rw [if_pos (by omega)]
        rfl
theorem brv_a {T : TX} {n p : Nat} (h : ¬ n < 6) : brv T n p = none ∧ brp T n p = p := by unfold brv brp; rw [if_neg h, if_neg h]; exact ⟨rfl, rfl⟩
theorem brv_b {T : TX} {n p : Nat} (h1 : kol (by8 T p) = none) : brv T n p = none ∧ brp T n p = p := by
  unfold brv brp
  by_cases h : n < 6
  · rw [if_pos h, if_pos h, h1]; exact ⟨rfl, rfl⟩
  · rw [if_neg h, if_neg h]; exact ⟨rfl, rfl⟩
theorem brv_c {T : TX} {n p k : Nat} (h : n < 6) (h1 : kol (by8 T p) = some k) (h2 : fg T 2 (p + 1) = none) : brv T n p = none ∧ brp T n p = p + 1 := by
  unfold brv brp; rw [if_pos h, if_pos h, h1]; simp only; rw [h2]; exact ⟨rfl, rfl⟩
theorem brv_d {T : TX} {n p k e : Nat} (h : n < 6) (h1 : kol (by8 T p) = some k) (h2 : fg T 2 (p + 1) = some e) (h3 : fg T 9 (p + 2) = none) : brv T n p = none ∧ brp T n p = p + 2 := by
  unfold brv brp; rw [if_pos h, if_pos h, h1]; simp only; rw [h2]; simp only; rw [h3]; exact ⟨rfl, rfl⟩
theorem brv_e {T : TX} {n p k e w : Nat} (h : n < 6) (h1 : kol (by8 T p) = some k) (h2 : fg T 2 (p + 1) = some e) (h3 : fg T 9 (p + 2) = some w) (h4 : tsv T (p + 3) = none) : brv T n p = none ∧ brp T n p = tsp T (p + 3) := by
  unfold brv brp; rw [if_pos h, if_pos h, h1]; simp only; rw [h2]; simp only; rw [h3]; simp only; rw [h4]; exact ⟨rfl, trivial⟩
theorem brv_s {T : TX} {n p k e w v : Nat} (h : n < 6) (h1 : kol (by8 T p) = some k) (h2 : fg T 2 (p + 1) = some e) (h3 : fg T 9 (p + 2) = some w) (h4 : tsv T (p + 3) = some v) : brv T n p = some (k, e, w, v) := by
  unfold brv; rw [if_pos h, h1]; simp only; rw [h2]; simp only; rw [h3]; simp only; rw [h4]
theorem rbe_k {T : TX} {C : CT} {p k : Nat} (h : cN C < 6) (h1 : kol (by8 T p) = some k) : rbe T (C, p, none) = (if (tfg T (ofg T 9 (ofg T 2 (p + 1, none)).2).2).2.2 = none then stt C k (ofg T 2 (p + 1, none)).1 (ofg T 9 (ofg T 2 (p + 1, none)).2).1 (tfg T (ofg T 9 (ofg T 2 (p + 1, none)).2).2).1 else C, (tfg T (ofg T 9 (ofg T 2 (p + 1, none)).2).2).2) := by
  unfold rbe
  rw [if_pos h, h1]
theorem rbe_s {T : TX} {C : CT} {p : Nat} {k e w v : Nat} (h : brv T (cN C) p = some (k, e, w, v)) : rbe T (C, p, none) = (stt C k e w v, p + 5, none) := by
  by_cases hn : cN C < 6
  · cases h1 : kol (by8 T p) with
    | none => rw [(brv_b h1).1] at h; cases h
    | some k2 =>
      cases h2 : fg T 2 (p + 1) with
      | none => rw [(brv_c hn h1 h2).1] at h; cases h
      | some e2 =>
        cases h3 : fg T 9 (p + 2) with
        | none => rw [(brv_d hn h1 h2 h3).1] at h; cases h
        | some w2 =>
          cases h4 : tsv T (p + 3) with
          | none => rw [(brv_e hn h1 h2 h3 h4).1] at h; cases h
          | some v2 =>
            rw [brv_s hn h1 h2 h3 h4] at h
            cases h
            rw [rbe_k hn h1, ofg_s h2, ofg_s (p := p + 1 + 1) h3, tfg_s (p := p + 1 + 1 + 1) h4, if_pos rfl]
  · rw [(brv_a hn).1] at h; cases h
theorem rbe_n {T : TX} {C : CT} {p : Nat} (h : brv T (cN C) p = none) : (rbe T (C, p, none)).2.2 = some (brp T (cN C) p) := by
  by_cases hn : cN C < 6
  · cases h1 : kol (by8 T p) with
    | none =>
      rw [(brv_b h1).2]
      unfold rbe
      rw [if_pos hn, h1]
      rfl
    | some k2 =>
      rw [rbe_k hn h1]
      cases h2 : fg T 2 (p + 1) with
      | none =>
        rw [(brv_c hn h1 h2).2]
        exact tfg_k (ofg_k2 (by rw [ofg_n h2]; rfl))
      | some e2 =>
        rw [ofg_s h2]
        cases h3 : fg T 9 (p + 2) with
        | none =>
          rw [(brv_d hn h1 h2 h3).2]
          exact tfg_k (by rw [ofg_n (p := p + 1 + 1) h3]; rfl)
        | some w2 =>
          rw [ofg_s (p := p + 1 + 1) h3]
          cases h4 : tsv T (p + 3) with
          | none => rw [(brv_e hn h1 h2 h3 h4).2]; exact tfg_n (p := p + 1 + 1 + 1) h4
          | some v2 => rw [brv_s hn h1 h2 h3 h4] at h; cases h
  · rw [(brv_a hn).2]
    unfold rbe
    rw [if_neg hn]
    rfl
theorem lpf_k {T : TX} {C : CT} {p q : Nat} : ∀ k i, lpf T k i (C, p, some q) = (C, p, some q)
  | 0, _ => rfl
  | k + 1, i => if_neg (fun z => by cases z.1)
theorem lpf_k2 {T : TX} {q k i : Nat} {z : CT × RS} (h : z.2.2 = some q) : lpf T k i z = z := by
  obtain ⟨C, p, o⟩ := z
  cases h
  exact lpf_k k i
theorem lpf_u {T : TX} {C : CT} {p k i : Nat} (h : i = 0 ∨ p < T.1) : lpf T (k + 1) i (C, p, none) = lpf T k (i + 1) ((rbe T (C, p, none)).1, skp T (rbe T (C, p, none)).2.1, (rbe T (C, p, none)).2.2) := if_pos ⟨rfl, h⟩
theorem lpf_x {T : TX} {C : CT} {p k i : Nat} (h0 : 0 < i) (h : T.1 ≤ p) : lpf T k i (C, p, none) = (C, p, none) := by
  cases k with
  | zero => rfl
  | succ k => exact if_neg (fun z => by have z2 : i = 0 ∨ p < T.1 := z.2; omega)
theorem lpf_s {T : TX} {C : CT} {p k i e w v kk : Nat} (h : i = 0 ∨ p < T.1) (hb : brv T (cN C) p = some (kk, e, w, v)) : lpf T (k + 1) i (C, p, none) = lpf T k (i + 1) (stt C kk e w v, skp T (p + 5), none) := by rw [lpf_u h, rbe_s hb]
theorem lpf_n {T : TX} {C : CT} {p k i : Nat} (h : i = 0 ∨ p < T.1) (hb : brv T (cN C) p = none) : (lpf T (k + 1) i (C, p, none)).2.2 = some (brp T (cN C) p) := by
  rw [lpf_u h, lpf_k2 (z := ((rbe T (C, p, none)).1, skp T (rbe T (C, p, none)).2.1, (rbe T (C, p, none)).2.2)) (q := brp T (cN C) p) (rbe_n hb)]
  exact rbe_n hb
theorem brv_o {T : TX} {n p : Nat} (h : ¬ p < T.1) : brv T n p = none ∧ brp T n p = p := brv_b (by rw [(hr_o h).2]; rfl)
def brF (F : Nat → Int32) (n k e w v : Nat) : Nat → Int32 := bw_up (bw_up (bw_up (bw_up (bw_up F (2 + n) (nI k)) (8 + n) (nI e)) (14 + n) (nI w)) (20 + n) (nI v)) 0 (nI (n + 1))
def maw (F : Nat → Int32) (C : CT) : Prop := F 0 = nI (cN C) ∧ F 1 = nI (cD C) ∧ ∀ i, i < cN C → F (2 + i) = nI (cK C i) ∧ F (8 + i) = nI (cE C i) ∧ F (14 + i) = nI (cR C i) ∧ F (20 + i) = nI (cV C i)
theorem maw_s {F : Nat → Int32} {C : CT} {k e w v : Nat} (h : maw F C) (hn : cN C < 6) : maw (brF F (cN C) k e w v) (stt C k e w v) := by
  obtain ⟨h1, h2, h3⟩ := h
  unfold brF
  refine ⟨by rw [bw_up_s]; rfl, ?_, fun i hi => ?_⟩
  · rw [bw_up_o (by omega), bw_up_o (by omega), bw_up_o (by omega), bw_up_o (by omega), bw_up_o (by omega)]; exact h2
  · have hi2 : i < cN C + 1 := hi
    show _ = nI (bw_up (cK C) (cN C) k i) ∧ _ = nI (bw_up (cE C) (cN C) e i) ∧ _ = nI (bw_up (cR C) (cN C) w i) ∧ _ = nI (bw_up (cV C) (cN C) v i)
    by_cases e1 : i = cN C
    · subst e1
      rw [bw_up_s, bw_up_s, bw_up_s, bw_up_s]
      refine ⟨?_, ?_, ?_, ?_⟩
      · rw [bw_up_o (by omega), bw_up_o (by omega), bw_up_o (by omega), bw_up_o (by omega), bw_up_s]
      · rw [bw_up_o (by omega), bw_up_o (by omega), bw_up_o (by omega), bw_up_s]
      · rw [bw_up_o (by omega), bw_up_o (by omega), bw_up_s]
      · rw [bw_up_o (by omega), bw_up_s]
    · obtain ⟨g1, g2, g3, g4⟩ := h3 i (by omega)
      rw [bw_up_o e1, bw_up_o e1, bw_up_o e1, bw_up_o e1]
      refine ⟨?_, ?_, ?_, ?_⟩
      · rw [bw_up_o (by omega), bw_up_o (by omega), bw_up_o (by omega), bw_up_o (by omega), bw_up_o (by omega)]; exact g1
      · rw [bw_up_o (by omega), bw_up_o (by omega), bw_up_o (by omega), bw_up_o (by omega), bw_up_o (by omega)]; exact g2
      · rw [bw_up_o (by omega), bw_up_o (by omega), bw_up_o (by omega), bw_up_o (by omega), bw_up_o (by omega)]; exact g3
      · rw [bw_up_o (by omega), bw_up_o (by omega), bw_up_o (by omega), bw_up_o (by omega), bw_up_o (by omega)]; exact g4
theorem co_stt {C : CT} {k e w v : Nat} (h : co_k C) (hn : cN C < 6) (hk : k < 6) (he : e ≤ 2) (hw : w ≤ 9) (hv : v < 64) : co_k (stt C k e w v) := by
  obtain ⟨h1, h2, h3, h4, h5⟩ := h
  refine ⟨by show cN C + 1 ≤ 6; omega, h2, h3, h4, fun i hi => ?_⟩
  have hi2 : i < cN C + 1 := hi
  show bw_up (cK C) (cN C) k i < 6 ∧ bw_up (cE C) (cN C) e i ≤ 2 ∧ bw_up (cR C) (cN C) w i ≤ 9 ∧ bw_up (cV C) (cN C) v i < 64
  by_cases e1 : i = cN C
  · subst e1; rw [bw_up_s, bw_up_s, bw_up_s, bw_up_s]; exact ⟨hk, he, hw, hv⟩
  · rw [bw_up_o e1, bw_up_o e1, bw_up_o e1, bw_up_o e1]; exact h5 i (by omega)
theorem brv_bd {T : TX} {n p k e w v : Nat} (h : brv T n p = some (k, e, w, v)) : n < 6 ∧ k < 6 ∧ e ≤ 2 ∧ w ≤ 9 ∧ v < 64 ∧ p < T.1 ∧ p + 5 ≤ T.1 := by
  by_cases hn : n < 6
  · cases h1 : kol (by8 T p) with
    | none => rw [(brv_b h1).1] at h; cases h
    | some k2 =>
      cases h2 : fg T 2 (p + 1) with
      | none => rw [(brv_c hn h1 h2).1] at h; cases h
      | some e2 =>
        cases h3 : fg T 9 (p + 2) with
        | none => rw [(brv_d hn h1 h2 h3).1] at h; cases h
        | some w2 =>
          cases h4 : tsv T (p + 3) with
          | none => rw [(brv_e hn h1 h2 h3 h4).1] at h; cases h
          | some v2 =>
            rw [brv_s hn h1 h2 h3 h4] at h
            cases h
            have z1 := fg_hr (by decide) h2
            have z2 := fg_hr (by decide) h3
            have z3 := tsv_b h4
            have z4 := kol_lt h1
            have z5 : p + 3 + 1 < T.1 := by
              cases q1 : fg T 9 (p + 3) with
              | none => rw [(tsv_n1 q1).1] at h4; cases h4
              | some a =>
                cases q2 : fg T 9 (p + 3 + 1) with
                | none => rw [(tsv_n2 q1 q2).1] at h4; cases h4
                | some b => exact (fg_hr (by decide) q2).1
            exact ⟨hn, z4.2, z1.2.1, z2.2.1, by omega, by omega, by omega⟩
  · rw [(brv_a hn).1] at h; cases h
def frv (T : TX) : Option Nat := if by8 T (skp T 0) = 107 then tsv T (skp T 0 + 1) else none
def frp (T : TX) : Nat := if by8 T (skp T 0) = 107 then tsp T (skp T 0 + 1) else skp T 0
theorem rdt_s {T : TX} {v : Nat} (h : frv T = some v) : rdt T = lpf T 7 0 (ct0 v, skp T (skp T 0 + 3), none) := by
  unfold frv at h
  split at h
  · rename_i z
    unfold rdt
    rw [if_pos z, tfg_s h]
  · cases h
theorem rdt_n {T : TX} (h : frv T = none) : (rdt T).2.2 = some (frp T) := by
  unfold frv at h
  unfold rdt frp
  by_cases z : by8 T (skp T 0) = 107
  · rw [if_pos z] at h
    rw [if_pos z, if_pos z, lpf_k2 (q := tsp T (skp T 0 + 1)) (tfg_n h)]
    exact tfg_n h
  · rw [if_neg z, if_neg z]
set_option maxRecDepth 100000 in
set_option maxHeartbeats 4000000 in
theorem me_X8_takesFirst {X : Nat × (Nat → Int32)} {Q : Option Value → bw_H → Prop} {h : bw_H} {j : Nat} {F : Nat → Int32} {T : TX} (hm : MS h) (ht : mtx h j T) (hQ : ∀ G b, (∀ v, frv T = some v → b = skp T 0 + 3 ∧ G = bw_up F 1 (nI v)) → (frv T = none → b = frp T) → (∀ x, x ≠ 1 → G x = F x) → Q (some (.int (bi (frv T).isSome))) (pst h b G)) : bw_me X 3 bm_X8_takesFirst false [.ref 60, .int (nI j)] (pst h 0 F) Q := by
  have hj := ht.1
  have hT := ht.2.2.1
  have hsk := skp_le T _ 0 rfl (Nat.zero_le _)
  show bw_go _ 3 8 2 false (some .boolean) cX8_takesFirst 0 [(0, .ref _), (1, .int _)] [] _ _
  refine go_aload_n dX8_takesFirst_0 rfl ?_
  refine go_iload_n dX8_takesFirst_1 rfl ?_
  refine go_cv (as := [.int _]) 1 dX8_takesFirst_2 mt_8_105 (Or.inl rfl) rfl rfl (ms_lt hm (by decide)) hm.1.2 (Nat.le_of_ble_eq_true rfl) (Nat.le_of_ble_eq_true rfl) (Nat.le_of_ble_eq_true rfl) (Nat.le_of_ble_eq_true rfl) (Nat.le_of_ble_eq_true rfl) ?_
  refine me_X8_skip hm ht (a := 0) (by decide) ?_
  show bw_go _ _ _ _ _ _ _ 5 [(0, .ref _), (1, .int _)] ([]) _ _
  refine go_aload_n dX8_takesFirst_5 rfl ?_
  refine go_iload_n dX8_takesFirst_6 rfl ?_
  refine go_cv (as := [.int _]) 0 dX8_takesFirst_7 mt_8_96 (Or.inl rfl) rfl rfl (ms_lt hm (by decide)) hm.1.2 (Nat.le_of_ble_eq_true rfl) (Nat.le_of_ble_eq_true rfl) (Nat.le_of_ble_eq_true rfl) (Nat.le_of_ble_eq_true rfl) (Nat.le_of_ble_eq_true rfl) ?_
  refine me_X8_here hm ht (a := skp T 0) (by omega) ?_
  show bw_go _ _ _ _ _ _ _ 10 [(0, .ref _), (1, .int _)] ((.int _) :: []) _ _
  refine go_bipush (107) dX8_takesFirst_10 rfl ?_
  refine go_icmp_eq (pc' := 17) dX8_takesFirst_12 rfl (fun c_12 => ?_) (fun c_12 => ?_)
  · -- eq at 12: yes
    show bw_go _ _ _ _ _ _ _ 17 [(0, .ref _), (1, .int _)] ([]) _ _
    refine go_aload_n dX8_takesFirst_17 rfl ?_
    refine go_dupA dX8_takesFirst_18 ?_
    refine go_gfi dX8_takesFirst_19 fl_8_93 rfl (ms_lt hm (by decide)) hm.1.2 ?_
    rw [pst_i]
    refine go_iconst (1) dX8_takesFirst_22 rfl ?_
    refine go_iadd dX8_takesFirst_23 ?_
    rw [nI_1]
    refine go_pfi dX8_takesFirst_24 fl_8_93 rfl (ms_lt hm (by decide)) hm.1.2 (Nat.le_of_ble_eq_true rfl) (Or.inl rfl) ?_
    show bw_go _ _ _ _ _ _ _ 27 [(0, .ref _), (1, .int _)] ([]) _ _
    rw [pst_p]
    have h107 := (hr_107 _ _).mp c_12
    have ef : frv T = tsv T (skp T 0 + 1) := if_pos h107
    have ep : frp T = tsp T (skp T 0 + 1) := if_pos h107
    refine go_aload_n dX8_takesFirst_27 rfl ?_
    refine go_iload_n dX8_takesFirst_28 rfl ?_
    refine go_iconst (1) dX8_takesFirst_29 rfl ?_
    refine go_cv (as := [.int _, .int _]) 2 dX8_takesFirst_30 mt_8_109 (Or.inl rfl) rfl rfl (ms_lt hm (by decide)) hm.1.2 (Nat.le_of_ble_eq_true rfl) (Nat.le_of_ble_eq_true rfl) (Nat.le_of_ble_eq_true rfl) (Nat.le_of_ble_eq_true rfl) (Nat.le_of_ble_eq_true rfl) ?_
    rw [show (1 : Int32) = nI 1 from rfl]
    refine me_X8_takesSet (a := skp T 0 + 1) (to := 1) hm ht (by omega) (by decide) (fun G b g1 g2 g3 => ?_)
    show bw_go _ _ _ _ _ _ _ 33 [(0, .ref _), (1, .int _)] ((.int _) :: []) _ _
    refine go_iret dX8_takesFirst_33 rfl (bi_nar _) ?_
    rw [← ef]
    exact hQ G b (fun v z => g1 v (ef.symm.trans z)) (fun z => (g2 (ef.symm.trans z)).trans ep.symm) g3
  · -- eq at 12: no
    show bw_go _ _ _ _ _ _ _ 15 [(0, .ref _), (1, .int _)] ([]) _ _
    refine go_iconst (0) dX8_takesFirst_15 rfl ?_
    refine go_iret dX8_takesFirst_16 rfl rfl ?_
    have h107 : ¬ by8 T (skp T 0) = 107 := fun z => c_12 ((hr_107 _ _).mpr z)
    have ef : frv T = none := if_neg h107
    have ep : frp T = skp T 0 := if_neg h107
    exact bi_0 (b := (frv T).isSome) (by rw [ef]; rfl) (hQ F (skp T 0) (fun v z => by rw [ef] at z; cases z) (fun _ => ep.symm) (fun x hx => rfl))
set_option maxRecDepth 100000 in
set_option maxHeartbeats 4000000 in
theorem me_X8_takesBear {X : Nat × (Nat → Int32)} {Q : Option Value → bw_H → Prop} {h : bw_H} {j a n : Nat} {F : Nat → Int32} {T : TX} (hm : MS h) (ht : mtx h j T) (ha : a < 700) (hF0 : F 0 = nI n) (hn : n ≤ 6) (hQ : ∀ G b, (∀ k e w v, brv T n a = some (k, e, w, v) → b = a + 5 ∧ G = brF F n k e w v) → (brv T n a = none → b = brp T n a) → Q (some (.int (bi (brv T n a).isSome))) (pst h b G)) : bw_me X 3 bm_X8_takesBear false [.ref 60, .int (nI j)] (pst h a F) Q := by
  have hj := ht.1
  show bw_go _ 3 8 4 false (some .boolean) cX8_takesBear 0 [(0, .ref _), (1, .int _)] [] _ _
  refine go_aload_n dX8_takesBear_0 rfl ?_
  refine go_gfr dX8_takesBear_1 fl_8_42 rfl (ms_lt hm (by decide)) hm.1.2 hm.2.1.2.2.2.2.2.2.2.2.2.1 ?_
  refine go_iconst (0) dX8_takesBear_4 rfl ?_
  refine go_ia dX8_takesBear_5 hm.2.2.2.2.2.2.2.2.2.2.2.1 (ms_lt hm (by decide)) (by decide) ?_
  rw [pst_f, show (0 : Int32).toNatClampNeg = 0 from rfl, hF0]
  refine go_istore_n dX8_takesBear_6 (Nat.lt_of_lt_of_le (Nat.lt_succ_self _) (Nat.le_of_ble_eq_true rfl)) ?_
  show bw_go _ _ _ _ _ _ _ 7 [(2, .int _), (0, .ref _), (1, .int _)] ([]) _ _
  refine go_aload_n dX8_takesBear_7 rfl ?_
  refine go_iload_n dX8_takesBear_8 rfl ?_
  refine go_cv (as := [.int _]) 0 dX8_takesBear_9 mt_8_96 (Or.inl rfl) rfl rfl (ms_lt hm (by decide)) hm.1.2 (Nat.le_of_ble_eq_true rfl) (Nat.le_of_ble_eq_true rfl) (Nat.le_of_ble_eq_true rfl) (Nat.le_of_ble_eq_true rfl) (Nat.le_of_ble_eq_true rfl) ?_
  refine me_X8_here hm ht (a := a) (by omega) ?_
  show bw_go _ _ _ _ _ _ _ 12 [(2, .int _), (0, .ref _), (1, .int _)] ((.int _) :: []) _ _
  refine go_cs (as := [.int _]) 0 dX8_takesBear_12 rfl rfl mt_8_113 (Nat.le_of_ble_eq_true rfl) rfl rfl (Nat.le_of_ble_eq_true rfl) (Nat.le_of_ble_eq_true rfl) (Nat.le_of_ble_eq_true rfl) (Nat.le_of_ble_eq_true rfl) ?_
  refine me_X8_kindBy ?_
  rw [hr_kol]
  show bw_go _ _ _ _ _ _ _ 15 [(2, .int _), (0, .ref _), (1, .int _)] ((.int _) :: []) _ _
  refine go_istore_n dX8_takesBear_15 (Nat.lt_of_lt_of_le (Nat.lt_succ_self _) (Nat.le_of_ble_eq_true rfl)) ?_
  show bw_go _ _ _ _ _ _ _ 16 [(3, .int _), (2, .int _), (0, .ref _), (1, .int _)] ([]) _ _
  refine go_iload_n dX8_takesBear_16 rfl ?_
  refine go_bipush (-9) dX8_takesBear_17 rfl ?_
  refine go_icmp_eq (pc' := 28) dX8_takesBear_19 rfl (fun c_19 => ?_) (fun c_19 => ?_)
  · -- eq at 19: yes
    show bw_go _ _ _ _ _ _ _ 28 [(3, .int _), (2, .int _), (0, .ref _), (1, .int _)] ([]) _ _
    refine go_iconst (0) dX8_takesBear_28 rfl ?_
    refine go_iret dX8_takesBear_29 rfl rfl ?_
    try have n6 : ¬ n < 6 := (fun z => by have t_0 := (nI_eq (a := n) (b := 6) (by omega) (by omega)).mp (Decidable.of_not_not c_25); omega)
    first
    | exact bi_1 (b := (brv T n a).isSome) (by rw [brv_s hn6 hk he hw hv]; rfl) (hQ _ _ (fun k2 e2 w2 v2 z => by rw [brv_s hn6 hk he hw hv] at z; cases z; exact ⟨rfl, rfl⟩) (fun z => by rw [brv_s hn6 hk he hw hv] at z; cases z))
    | exact bi_0 (b := (brv T n a).isSome) (by rw [(brv_e hn6 hk he hw (isn_none c_85)).1]; rfl) (hQ _ _ (fun k2 e2 w2 v2 z => by rw [(brv_e hn6 hk he hw (isn_none c_85)).1] at z; cases z) (fun _ => (f2 (isn_none c_85)).trans (brv_e hn6 hk he hw (isn_none c_85)).2.symm))
    | exact bi_0 (b := (brv T n a).isSome) (by rw [(brv_d hn6 hk he (isn_none c_73)).1]; rfl) (hQ _ _ (fun k2 e2 w2 v2 z => by rw [(brv_d hn6 hk he (isn_none c_73)).1] at z; cases z) (fun _ => (f2 (isn_none c_73)).1.trans (brv_d hn6 hk he (isn_none c_73)).2.symm))
    | exact bi_0 (b := (brv T n a).isSome) (by rw [(brv_c hn6 hk (isn_none c_59)).1]; rfl) (hQ _ _ (fun k2 e2 w2 v2 z => by rw [(brv_c hn6 hk (isn_none c_59)).1] at z; cases z) (fun _ => (f2 (isn_none c_59)).1.trans (brv_c hn6 hk (isn_none c_59)).2.symm))
    | exact bi_0 (b := (brv T n a).isSome) (by rw [(brv_b (n := n) (kol_9.mp c_19)).1]; rfl) (hQ _ _ (fun k2 e2 w2 v2 z => by rw [(brv_b (n := n) (kol_9.mp c_19)).1] at z; cases z) (fun _ => (brv_b (n := n) (kol_9.mp c_19)).2.symm))
    | exact bi_0 (b := (brv T n a).isSome) (by rw [(brv_a n6).1]; rfl) (hQ _ _ (fun k2 e2 w2 v2 z => by rw [(brv_a n6).1] at z; cases z) (fun _ => (brv_a n6).2.symm))
  · -- eq at 19: no
    show bw_go _ _ _ _ _ _ _ 22 [(3, .int _), (2, .int _), (0, .ref _), (1, .int _)] ([]) _ _
    refine go_iload_n dX8_takesBear_22 rfl ?_
    refine go_bipush (6) dX8_takesBear_23 rfl ?_
    refine go_icmp_ne (pc' := 30) dX8_takesBear_25 rfl (fun c_25 => ?_) (fun c_25 => ?_)
    · -- ne at 25: yes
      show bw_go _ _ _ _ _ _ _ 30 [(3, .int _), (2, .int _), (0, .ref _), (1, .int _)] ([]) _ _
      obtain ⟨k, hk⟩ : ∃ k, kol (by8 T a) = some k := by
        cases e : kol (by8 T a) with
        | none => rw [e] at c_19; exact absurd rfl c_19
        | some k => exact ⟨k, rfl⟩
      have hn6 : n < 6 := by
        rcases Nat.lt_or_eq_of_le hn with z | z
        · exact z
        · exact absurd (by rw [z]; rfl) c_25
      rw [hk, show mtI (some k) = nI k from rfl]
      refine go_aload_n dX8_takesBear_30 rfl ?_
      refine go_gfr dX8_takesBear_31 fl_8_42 rfl (ms_lt hm (by decide)) hm.1.2 hm.2.1.2.2.2.2.2.2.2.2.2.1 ?_
      refine go_iconst (2) dX8_takesBear_34 rfl ?_
      refine go_iload_n dX8_takesBear_35 rfl ?_
      refine go_iadd dX8_takesBear_36 ?_
      rw [show (2 : Int32) = nI 2 from rfl, nI_add]
      refine go_iload_n dX8_takesBear_37 rfl ?_
      refine go_ist dX8_takesBear_38 hm.2.2.2.2.2.2.2.2.2.2.2.1 (ms_lt hm (by decide)) (n_in (N := 80) (by omega) (by decide)) ?_
      show bw_go _ _ _ _ _ _ _ 39 [(3, .int _), (2, .int _), (0, .ref _), (1, .int _)] ([]) _ _
      rw [nI_clamp (by omega), pst_a]
      refine go_aload_n dX8_takesBear_39 rfl ?_
      refine go_dupA dX8_takesBear_40 ?_
      refine go_gfi dX8_takesBear_41 fl_8_93 rfl (ms_lt hm (by decide)) hm.1.2 ?_
      rw [pst_i]
      refine go_iconst (1) dX8_takesBear_44 rfl ?_
      refine go_iadd dX8_takesBear_45 ?_
      rw [nI_1]
      refine go_pfi dX8_takesBear_46 fl_8_93 rfl (ms_lt hm (by decide)) hm.1.2 (Nat.le_of_ble_eq_true rfl) (Or.inl rfl) ?_
      show bw_go _ _ _ _ _ _ _ 49 [(3, .int _), (2, .int _), (0, .ref _), (1, .int _)] ([]) _ _
      rw [pst_p]
      refine go_aload_n dX8_takesBear_49 rfl ?_
      refine go_iload_n dX8_takesBear_50 rfl ?_
      refine go_bipush (8) dX8_takesBear_51 rfl ?_
      refine go_iload_n dX8_takesBear_53 rfl ?_
      refine go_iadd dX8_takesBear_54 ?_
      rw [show (8 : Int32) = nI 8 from rfl, nI_add]
      refine go_iconst (2) dX8_takesBear_55 rfl ?_
      refine go_cv (as := [.int _, .int _, .int _]) 1 dX8_takesBear_56 mt_8_101 (Or.inl rfl) rfl rfl (ms_lt hm (by decide)) hm.1.2 (Nat.le_of_ble_eq_true rfl) (Nat.le_of_ble_eq_true rfl) (Nat.le_of_ble_eq_true rfl) (Nat.le_of_ble_eq_true rfl) (Nat.le_of_ble_eq_true rfl) ?_
      rw [show (2 : Int32) = nI 2 from rfl]
      refine me_X8_takes (a := (a + 1)) (to := (8 + n)) (F := (bw_up F (2 + n) (nI k))) hm ht (by omega) (by omega) (by decide) (fun G fb f1 f2 => ?_)
      show bw_go _ _ _ _ _ _ _ 59 [(3, .int _), (2, .int _), (0, .ref _), (1, .int _)] ((.int _) :: []) _ _
      refine go_ifb_eq (pc' := 88) dX8_takesBear_59 rfl (fun c_59 => ?_) (fun c_59 => ?_)
      · -- eq at 59: yes
        show bw_go _ _ _ _ _ _ _ 88 [(3, .int _), (2, .int _), (0, .ref _), (1, .int _)] ([]) _ _
        refine go_iconst (0) dX8_takesBear_88 rfl ?_
        refine go_iret dX8_takesBear_89 rfl rfl ?_
        try have n6 : ¬ n < 6 := (fun z => by have t_0 := (nI_eq (a := n) (b := 6) (by omega) (by omega)).mp (Decidable.of_not_not c_25); omega)
        first
        | exact bi_1 (b := (brv T n a).isSome) (by rw [brv_s hn6 hk he hw hv]; rfl) (hQ _ _ (fun k2 e2 w2 v2 z => by rw [brv_s hn6 hk he hw hv] at z; cases z; exact ⟨rfl, rfl⟩) (fun z => by rw [brv_s hn6 hk he hw hv] at z; cases z))
        | exact bi_0 (b := (brv T n a).isSome) (by rw [(brv_e hn6 hk he hw (isn_none c_85)).1]; rfl) (hQ _ _ (fun k2 e2 w2 v2 z => by rw [(brv_e hn6 hk he hw (isn_none c_85)).1] at z; cases z) (fun _ => (f2 (isn_none c_85)).trans (brv_e hn6 hk he hw (isn_none c_85)).2.symm))
        | exact bi_0 (b := (brv T n a).isSome) (by rw [(brv_d hn6 hk he (isn_none c_73)).1]; rfl) (hQ _ _ (fun k2 e2 w2 v2 z => by rw [(brv_d hn6 hk he (isn_none c_73)).1] at z; cases z) (fun _ => (f2 (isn_none c_73)).1.trans (brv_d hn6 hk he (isn_none c_73)).2.symm))
        | exact bi_0 (b := (brv T n a).isSome) (by rw [(brv_c hn6 hk (isn_none c_59)).1]; rfl) (hQ _ _ (fun k2 e2 w2 v2 z => by rw [(brv_c hn6 hk (isn_none c_59)).1] at z; cases z) (fun _ => (f2 (isn_none c_59)).1.trans (brv_c hn6 hk (isn_none c_59)).2.symm))
        | exact bi_0 (b := (brv T n a).isSome) (by rw [(brv_b (n := n) (kol_9.mp c_19)).1]; rfl) (hQ _ _ (fun k2 e2 w2 v2 z => by rw [(brv_b (n := n) (kol_9.mp c_19)).1] at z; cases z) (fun _ => (brv_b (n := n) (kol_9.mp c_19)).2.symm))
        | exact bi_0 (b := (brv T n a).isSome) (by rw [(brv_a n6).1]; rfl) (hQ _ _ (fun k2 e2 w2 v2 z => by rw [(brv_a n6).1] at z; cases z) (fun _ => (brv_a n6).2.symm))
      · -- eq at 59: no
        show bw_go _ _ _ _ _ _ _ 62 [(3, .int _), (2, .int _), (0, .ref _), (1, .int _)] ([]) _ _
        obtain ⟨e, he⟩ := Option.isSome_iff_exists.mp c_59
        obtain ⟨q1, rfl⟩ := f1 e he
        have q2 : fb = a + 2 := q1
        subst q2
        refine go_aload_n dX8_takesBear_62 rfl ?_
        refine go_iload_n dX8_takesBear_63 rfl ?_
        refine go_bipush (14) dX8_takesBear_64 rfl ?_
        refine go_iload_n dX8_takesBear_66 rfl ?_
        refine go_iadd dX8_takesBear_67 ?_
        rw [show (14 : Int32) = nI 14 from rfl, nI_add]
        refine go_bipush (9) dX8_takesBear_68 rfl ?_
        refine go_cv (as := [.int _, .int _, .int _]) 1 dX8_takesBear_70 mt_8_101 (Or.inl rfl) rfl rfl (ms_lt hm (by decide)) hm.1.2 (Nat.le_of_ble_eq_true rfl) (Nat.le_of_ble_eq_true rfl) (Nat.le_of_ble_eq_true rfl) (Nat.le_of_ble_eq_true rfl) (Nat.le_of_ble_eq_true rfl) ?_
        rw [show (9 : Int32) = nI 9 from rfl]
        refine me_X8_takes (a := (a + 2)) (to := (14 + n)) (F := (bw_up (bw_up F (2 + n) (nI k)) (8 + n) (nI e))) hm ht (by omega) (by omega) (by decide) (fun G fb f1 f2 => ?_)
        show bw_go _ _ _ _ _ _ _ 73 [(3, .int _), (2, .int _), (0, .ref _), (1, .int _)] ((.int _) :: []) _ _
        refine go_ifb_eq (pc' := 88) dX8_takesBear_73 rfl (fun c_73 => ?_) (fun c_73 => ?_)
        · -- eq at 73: yes
          show bw_go _ _ _ _ _ _ _ 88 [(3, .int _), (2, .int _), (0, .ref _), (1, .int _)] ([]) _ _
          refine go_iconst (0) dX8_takesBear_88 rfl ?_
          refine go_iret dX8_takesBear_89 rfl rfl ?_
          try have n6 : ¬ n < 6 := (fun z => by have t_0 := (nI_eq (a := n) (b := 6) (by omega) (by omega)).mp (Decidable.of_not_not c_25); omega)
          first
          | exact bi_1 (b := (brv T n a).isSome) (by rw [brv_s hn6 hk he hw hv]; rfl) (hQ _ _ (fun k2 e2 w2 v2 z => by rw [brv_s hn6 hk he hw hv] at z; cases z; exact ⟨rfl, rfl⟩) (fun z => by rw [brv_s hn6 hk he hw hv] at z; cases z))
          | exact bi_0 (b := (brv T n a).isSome) (by rw [(brv_e hn6 hk he hw (isn_none c_85)).1]; rfl) (hQ _ _ (fun k2 e2 w2 v2 z => by rw [(brv_e hn6 hk he hw (isn_none c_85)).1] at z; cases z) (fun _ => (f2 (isn_none c_85)).trans (brv_e hn6 hk he hw (isn_none c_85)).2.symm))
          | exact bi_0 (b := (brv T n a).isSome) (by rw [(brv_d hn6 hk he (isn_none c_73)).1]; rfl) (hQ _ _ (fun k2 e2 w2 v2 z => by rw [(brv_d hn6 hk he (isn_none c_73)).1] at z; cases z) (fun _ => (f2 (isn_none c_73)).1.trans (brv_d hn6 hk he (isn_none c_73)).2.symm))
          | exact bi_0 (b := (brv T n a).isSome) (by rw [(brv_c hn6 hk (isn_none c_59)).1]; rfl) (hQ _ _ (fun k2 e2 w2 v2 z => by rw [(brv_c hn6 hk (isn_none c_59)).1] at z; cases z) (fun _ => (f2 (isn_none c_59)).1.trans (brv_c hn6 hk (isn_none c_59)).2.symm))
          | exact bi_0 (b := (brv T n a).isSome) (by rw [(brv_b (n := n) (kol_9.mp c_19)).1]; rfl) (hQ _ _ (fun k2 e2 w2 v2 z => by rw [(brv_b (n := n) (kol_9.mp c_19)).1] at z; cases z) (fun _ => (brv_b (n := n) (kol_9.mp c_19)).2.symm))
          | exact bi_0 (b := (brv T n a).isSome) (by rw [(brv_a n6).1]; rfl) (hQ _ _ (fun k2 e2 w2 v2 z => by rw [(brv_a n6).1] at z; cases z) (fun _ => (brv_a n6).2.symm))
        · -- eq at 73: no
          show bw_go _ _ _ _ _ _ _ 76 [(3, .int _), (2, .int _), (0, .ref _), (1, .int _)] ([]) _ _
          obtain ⟨w, hw⟩ := Option.isSome_iff_exists.mp c_73
          obtain ⟨q1, rfl⟩ := f1 w hw
          have q2 : fb = a + 3 := q1
          subst q2
          refine go_aload_n dX8_takesBear_76 rfl ?_
          refine go_iload_n dX8_takesBear_77 rfl ?_
          refine go_bipush (20) dX8_takesBear_78 rfl ?_
          refine go_iload_n dX8_takesBear_80 rfl ?_
          refine go_iadd dX8_takesBear_81 ?_
          rw [show (20 : Int32) = nI 20 from rfl, nI_add]
          refine go_cv (as := [.int _, .int _]) 2 dX8_takesBear_82 mt_8_109 (Or.inl rfl) rfl rfl (ms_lt hm (by decide)) hm.1.2 (Nat.le_of_ble_eq_true rfl) (Nat.le_of_ble_eq_true rfl) (Nat.le_of_ble_eq_true rfl) (Nat.le_of_ble_eq_true rfl) (Nat.le_of_ble_eq_true rfl) ?_
          refine me_X8_takesSet (a := a + 3) (to := 20 + n) (F := (bw_up (bw_up (bw_up F (2 + n) (nI k)) (8 + n) (nI e)) (14 + n) (nI w))) hm ht (by omega) (by omega) (fun G fb f1 f2 f3 => ?_)
          show bw_go _ _ _ _ _ _ _ 85 [(3, .int _), (2, .int _), (0, .ref _), (1, .int _)] ((.int _) :: []) _ _
          refine go_ifb_ne (pc' := 90) dX8_takesBear_85 rfl (fun c_85 => ?_) (fun c_85 => ?_)
          · -- ne at 85: yes
            show bw_go _ _ _ _ _ _ _ 90 [(3, .int _), (2, .int _), (0, .ref _), (1, .int _)] ([]) _ _
            obtain ⟨v, hv⟩ := Option.isSome_iff_exists.mp c_85
            obtain ⟨rfl, rfl⟩ := f1 v hv
            refine go_aload_n dX8_takesBear_90 rfl ?_
            refine go_gfr dX8_takesBear_91 fl_8_42 rfl (ms_lt hm (by decide)) hm.1.2 hm.2.1.2.2.2.2.2.2.2.2.2.1 ?_
            refine go_iconst (0) dX8_takesBear_94 rfl ?_
            refine go_dup2 dX8_takesBear_95 ?_
            refine go_ia dX8_takesBear_96 hm.2.2.2.2.2.2.2.2.2.2.2.1 (ms_lt hm (by decide)) (by decide) ?_
            rw [pst_f, show (0 : Int32).toNatClampNeg = 0 from rfl, bw_up_o (by omega), bw_up_o (by omega), bw_up_o (by omega), bw_up_o (by omega), hF0]
            refine go_iconst (1) dX8_takesBear_97 rfl ?_
            refine go_iadd dX8_takesBear_98 ?_
            rw [nI_1]
            refine go_ist dX8_takesBear_99 hm.2.2.2.2.2.2.2.2.2.2.2.1 (ms_lt hm (by decide)) (by decide) ?_
            show bw_go _ _ _ _ _ _ _ 100 [(3, .int _), (2, .int _), (0, .ref _), (1, .int _)] ([]) _ _
            rw [show (0 : Int32).toNatClampNeg = 0 from rfl, pst_a]
            refine go_iconst (1) dX8_takesBear_100 rfl ?_
            refine go_iret dX8_takesBear_101 rfl rfl ?_
            try have n6 : ¬ n < 6 := (fun z => by have t_0 := (nI_eq (a := n) (b := 6) (by omega) (by omega)).mp (Decidable.of_not_not c_25); omega)
            first
            | exact bi_1 (b := (brv T n a).isSome) (by rw [brv_s hn6 hk he hw hv]; rfl) (hQ _ _ (fun k2 e2 w2 v2 z => by rw [brv_s hn6 hk he hw hv] at z; cases z; exact ⟨rfl, rfl⟩) (fun z => by rw [brv_s hn6 hk he hw hv] at z; cases z))
            | exact bi_0 (b := (brv T n a).isSome) (by rw [(brv_e hn6 hk he hw (isn_none c_85)).1]; rfl) (hQ _ _ (fun k2 e2 w2 v2 z => by rw [(brv_e hn6 hk he hw (isn_none c_85)).1] at z; cases z) (fun _ => (f2 (isn_none c_85)).trans (brv_e hn6 hk he hw (isn_none c_85)).2.symm))
            | exact bi_0 (b := (brv T n a).isSome) (by rw [(brv_d hn6 hk he (isn_none c_73)).1]; rfl) (hQ _ _ (fun k2 e2 w2 v2 z => by rw [(brv_d hn6 hk he (isn_none c_73)).1] at z; cases z) (fun _ => (f2 (isn_none c_73)).1.trans (brv_d hn6 hk he (isn_none c_73)).2.symm))
            | exact bi_0 (b := (brv T n a).isSome) (by rw [(brv_c hn6 hk (isn_none c_59)).1]; rfl) (hQ _ _ (fun k2 e2 w2 v2 z => by rw [(brv_c hn6 hk (isn_none c_59)).1] at z; cases z) (fun _ => (f2 (isn_none c_59)).1.trans (brv_c hn6 hk (isn_none c_59)).2.symm))
            | exact bi_0 (b := (brv T n a).isSome) (by rw [(brv_b (n := n) (kol_9.mp c_19)).1]; rfl) (hQ _ _ (fun k2 e2 w2 v2 z => by rw [(brv_b (n := n) (kol_9.mp c_19)).1] at z; cases z) (fun _ => (brv_b (n := n) (kol_9.mp c_19)).2.symm))
            | exact bi_0 (b := (brv T n a).isSome) (by rw [(brv_a n6).1]; rfl) (hQ _ _ (fun k2 e2 w2 v2 z => by rw [(brv_a n6).1] at z; cases z) (fun _ => (brv_a n6).2.symm))
          · -- ne at 85: no
            show bw_go _ _ _ _ _ _ _ 88 [(3, .int _), (2, .int _), (0, .ref _), (1, .int _)] ([]) _ _
            refine go_iconst (0) dX8_takesBear_88 rfl ?_
            refine go_iret dX8_takesBear_89 rfl rfl ?_
            try have n6 : ¬ n < 6 := (fun z => by have t_0 := (nI_eq (a := n) (b := 6) (by omega) (by omega)).mp (Decidable.of_not_not c_25); omega)
            first
            | exact bi_1 (b := (brv T n a).isSome) (by rw [brv_s hn6 hk he hw hv]; rfl) (hQ _ _ (fun k2 e2 w2 v2 z => by rw [brv_s hn6 hk he hw hv] at z; cases z; exact ⟨rfl, rfl⟩) (fun z => by rw [brv_s hn6 hk he hw hv] at z; cases z))
            | exact bi_0 (b := (brv T n a).isSome) (by rw [(brv_e hn6 hk he hw (isn_none c_85)).1]; rfl) (hQ _ _ (fun k2 e2 w2 v2 z => by rw [(brv_e hn6 hk he hw (isn_none c_85)).1] at z; cases z) (fun _ => (f2 (isn_none c_85)).trans (brv_e hn6 hk he hw (isn_none c_85)).2.symm))
            | exact bi_0 (b := (brv T n a).isSome) (by rw [(brv_d hn6 hk he (isn_none c_73)).1]; rfl) (hQ _ _ (fun k2 e2 w2 v2 z => by rw [(brv_d hn6 hk he (isn_none c_73)).1] at z; cases z) (fun _ => (f2 (isn_none c_73)).1.trans (brv_d hn6 hk he (isn_none c_73)).2.symm))
            | exact bi_0 (b := (brv T n a).isSome) (by rw [(brv_c hn6 hk (isn_none c_59)).1]; rfl) (hQ _ _ (fun k2 e2 w2 v2 z => by rw [(brv_c hn6 hk (isn_none c_59)).1] at z; cases z) (fun _ => (f2 (isn_none c_59)).1.trans (brv_c hn6 hk (isn_none c_59)).2.symm))
            | exact bi_0 (b := (brv T n a).isSome) (by rw [(brv_b (n := n) (kol_9.mp c_19)).1]; rfl) (hQ _ _ (fun k2 e2 w2 v2 z => by rw [(brv_b (n := n) (kol_9.mp c_19)).1] at z; cases z) (fun _ => (brv_b (n := n) (kol_9.mp c_19)).2.symm))
            | exact bi_0 (b := (brv T n a).isSome) (by rw [(brv_a n6).1]; rfl) (hQ _ _ (fun k2 e2 w2 v2 z => by rw [(brv_a n6).1] at z; cases z) (fun _ => (brv_a n6).2.symm))
    · -- ne at 25: no
      show bw_go _ _ _ _ _ _ _ 28 [(3, .int _), (2, .int _), (0, .ref _), (1, .int _)] ([]) _ _
      refine go_iconst (0) dX8_takesBear_28 rfl ?_
      refine go_iret dX8_takesBear_29 rfl rfl ?_
      try have n6 : ¬ n < 6 := (fun z => by have t_0 := (nI_eq (a := n) (b := 6) (by omega) (by omega)).mp (Decidable.of_not_not c_25); omega)
      first
      | exact bi_1 (b := (brv T n a).isSome) (by rw [brv_s hn6 hk he hw hv]; rfl) (hQ _ _ (fun k2 e2 w2 v2 z => by rw [brv_s hn6 hk he hw hv] at z; cases z; exact ⟨rfl, rfl⟩) (fun z => by rw [brv_s hn6 hk he hw hv] at z; cases z))
      | exact bi_0 (b := (brv T n a).isSome) (by rw [(brv_e hn6 hk he hw (isn_none c_85)).1]; rfl) (hQ _ _ (fun k2 e2 w2 v2 z => by rw [(brv_e hn6 hk he hw (isn_none c_85)).1] at z; cases z) (fun _ => (f2 (isn_none c_85)).trans (brv_e hn6 hk he hw (isn_none c_85)).2.symm))
      | exact bi_0 (b := (brv T n a).isSome) (by rw [(brv_d hn6 hk he (isn_none c_73)).1]; rfl) (hQ _ _ (fun k2 e2 w2 v2 z => by rw [(brv_d hn6 hk he (isn_none c_73)).1] at z; cases z) (fun _ => (f2 (isn_none c_73)).1.trans (brv_d hn6 hk he (isn_none c_73)).2.symm))
      | exact bi_0 (b := (brv T n a).isSome) (by rw [(brv_c hn6 hk (isn_none c_59)).1]; rfl) (hQ _ _ (fun k2 e2 w2 v2 z => by rw [(brv_c hn6 hk (isn_none c_59)).1] at z; cases z) (fun _ => (f2 (isn_none c_59)).1.trans (brv_c hn6 hk (isn_none c_59)).2.symm))
      | exact bi_0 (b := (brv T n a).isSome) (by rw [(brv_b (n := n) (kol_9.mp c_19)).1]; rfl) (hQ _ _ (fun k2 e2 w2 v2 z => by rw [(brv_b (n := n) (kol_9.mp c_19)).1] at z; cases z) (fun _ => (brv_b (n := n) (kol_9.mp c_19)).2.symm))
      | exact bi_0 (b := (brv T n a).isSome) (by rw [(brv_a n6).1]; rfl) (hQ _ _ (fun k2 e2 w2 v2 z => by rw [(brv_a n6).1] at z; cases z) (fun _ => (brv_a n6).2.symm))
