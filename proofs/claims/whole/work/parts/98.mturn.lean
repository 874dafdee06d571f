/-! the reference: turns played by choices, pure rows; startOf, weigh, goChoices -/
def stV (i : Nat) : Int32 := if i % 2 = 0 then -1000000 else 1000000
def wg (i : Nat) (acc v : Int32) : Int32 := if v = 1000000 ∨ v = -1000000 then acc else if i % 2 = 0 then (if acc < v then v else acc) else (if v < acc then v else acc)
def chA (i b : Nat) (A : TT) : Option TT := if i % 2 = 0 then (if 0 < A.2.2.1 b then some (ttU A b (A.2.2.1 b - 1)) else none) else (if A.2.2.1 b < 9 then some (ttU A b (A.2.2.1 b + 1)) else none)
def pfs (i c : Nat) (A : TT) : Option TT := if c = 0 then some A else chA i (c - 1) A
def pfx (A0 : TT) (ch : Nat → Nat) : Nat → Option TT
  | 0 => some A0
  | i + 1 => (pfx A0 ch i).bind (pfs i (ch i))
theorem pfx_no {A0 : TT} {ch : Nat → Nat} {k : Nat} (h : pfx A0 ch k = none) : ∀ d, pfx A0 ch (k + d) = none
  | 0 => h
  | d + 1 => by
    show (pfx A0 ch (k + d)).bind _ = none
    rw [pfx_no h d]; rfl
theorem pfx_no2 {A0 : TT} {ch : Nat → Nat} {k T : Nat} (hk : k ≤ T) (h : pfx A0 ch k = none) : pfx A0 ch T = none := by
  have := pfx_no h (T - k)
  rw [show k + (T - k) = T by omega] at this
  exact this
theorem pfx_s {A0 A : TT} {ch : Nat → Nat} {i : Nat} (h : pfx A0 ch i = some A) : pfx A0 ch (i + 1) = pfs i (ch i) A := by
  show (pfx A0 ch i).bind _ = _
  rw [h]; rfl
def VV (T : Nat) (A0 : TT) (ch : Nat → Nat) (i : Nat) : Int32 := match pfx A0 ch i with
  | some A => Int32.ofInt (plv (T - i) A)
  | none => if i = T then 1000000 else stV i
theorem VV_y {T i : Nat} {A0 A : TT} {ch : Nat → Nat} (h : pfx A0 ch i = some A) : VV T A0 ch i = Int32.ofInt (plv (T - i) A) := by unfold VV; rw [h]
theorem VV_n {T i : Nat} {A0 : TT} {ch : Nat → Nat} (h : pfx A0 ch i = none) : VV T A0 ch i = if i = T then 1000000 else stV i := by unfold VV; rw [h]
theorem m2_0 {t : Nat} : (nI (t % 2) = 0) ↔ t % 2 = 0 := nI_eq (a := t % 2) (b := 0) (by omega) (by omega)
theorem wg_f {i : Nat} {acc v : Int32} (h : v = 1000000 ∨ v = -1000000) : wg i acc v = acc := if_pos h
theorem wg_0y {i : Nat} {acc v : Int32} (h1 : ¬ v = 1000000) (h2 : ¬ v = -1000000) (h : i % 2 = 0) (hl : acc < v) : wg i acc v = v := by
  unfold wg
  rw [if_neg (fun z => z.elim h1 h2), if_pos h, if_pos hl]
theorem wg_0n {i : Nat} {acc v : Int32} (h : i % 2 = 0) (hl : ¬ acc < v) : wg i acc v = acc := by
  unfold wg
  by_cases z : v = 1000000 ∨ v = -1000000
  · rw [if_pos z]
  · rw [if_neg z, if_pos h, if_neg hl]
theorem wg_1y {i : Nat} {acc v : Int32} (h1 : ¬ v = 1000000) (h2 : ¬ v = -1000000) (h : ¬ i % 2 = 0) (hl : v < acc) : wg i acc v = v := by
  unfold wg
  rw [if_neg (fun z => z.elim h1 h2), if_neg h, if_pos hl]
theorem wg_1n {i : Nat} {acc v : Int32} (h : ¬ i % 2 = 0) (hl : ¬ v < acc) : wg i acc v = acc := by
  unfold wg
  by_cases z : v = 1000000 ∨ v = -1000000
  · rw [if_pos z]
  · rw [if_neg z, if_neg h, if_neg hl]
set_option maxRecDepth 100000 in
set_option maxHeartbeats 4000000 in
theorem me_X8_startOf {X : Nat × (Nat → Int32)} {Q : Option Value → bw_H → Prop} {h : bw_H} {t : Nat} (ht : t < 5) (hQ : Q (some (.int (stV t))) h) : bw_me X 0 bm_X8_startOf false [.int (nI t)] h Q := by
  show bw_go _ 0 8 1 false (some .int) cX8_startOf 0 [(0, .int _)] [] _ _
  refine go_iload_n dX8_startOf_0 rfl ?_
  refine go_iconst (2) dX8_startOf_1 rfl ?_
  refine go_irem dX8_startOf_2 (by decide) ?_
  rw [show (2 : Int32) = nI 2 from rfl, nI_rem (a := t) (by omega) (by decide) (by decide)]
  refine go_if_ne (pc' := 11) dX8_startOf_3 rfl (fun c_3 => ?_) (fun c_3 => ?_)
  · -- ne at 3: yes
    show bw_go _ _ _ _ _ _ _ 11 [(0, .int _)] ([]) _ _
    refine go_ldc dX8_startOf_11 kc_8_201 ?_
    refine go_iret dX8_startOf_13 rfl rfl ?_
    unfold stV at hQ
    first
    | (rw [if_pos (m2_0.mp (Decidable.of_not_not c_3))] at hQ; exact hQ)
    | (rw [if_neg (fun z => c_3 (m2_0.mpr z))] at hQ; exact hQ)
  · -- ne at 3: no
    show bw_go _ _ _ _ _ _ _ 6 [(0, .int _)] ([]) _ _
    refine go_ldc dX8_startOf_6 kc_8_231 ?_
    refine go_goto (pc' := 13) dX8_startOf_8 rfl ?_
    show bw_go _ _ _ _ _ _ _ 13 [(0, .int _)] ((.int _) :: []) _ _
    refine go_iret dX8_startOf_13 rfl rfl ?_
    unfold stV at hQ
    first
    | (rw [if_pos (m2_0.mp (Decidable.of_not_not c_3))] at hQ; exact hQ)
    | (rw [if_neg (fun z => c_3 (m2_0.mpr z))] at hQ; exact hQ)
set_option maxRecDepth 100000 in
set_option maxHeartbeats 4000000 in
theorem me_X8_weigh {X : Nat × (Nat → Int32)} {Q : Option Value → bw_H → Prop} {h : bw_H} {S : ST} {t : Nat} {v : Int32} (hm : MR h S) (ht : t < 4) (hQ : Q none (bw_sa h 75 (bw_up (bw_i h 75) t (wg t (bw_i h 75 t) v)))) : bw_me X 0 bm_X8_weigh false [.ref 60, .int (nI t), .int v] h Q := by
  show bw_go _ 0 8 4 false none cX8_weigh 0 [(0, .ref _), (1, .int _), (2, .int _)] [] _ _
  refine go_iload_n dX8_weigh_0 rfl ?_
  refine go_iconst (2) dX8_weigh_1 rfl ?_
  refine go_irem dX8_weigh_2 (by decide) ?_
  rw [show (2 : Int32) = nI 2 from rfl, nI_rem (a := t) (by omega) (by decide) (by decide)]
  refine go_if_ne (pc' := 24) dX8_weigh_3 rfl (fun c_3 => ?_) (fun c_3 => ?_)
  · -- ne at 3: yes
    show bw_go _ _ _ _ _ _ _ 24 [(0, .ref _), (1, .int _), (2, .int _)] ([]) _ _
    refine go_iload_n dX8_weigh_24 rfl ?_
    refine go_aload_n dX8_weigh_25 rfl ?_
    refine go_gfr dX8_weigh_26 fl_8_57 rfl (ms_lt hm.1 (by decide)) hm.1.1.2 hm.1.2.1.2.2.2.2.2.2.2.2.2.2.2.2.2.2 ?_
    refine go_iload_n dX8_weigh_29 rfl ?_
    refine go_ia dX8_weigh_30 hm.1.2.2.2.2.2.2.2.2.2.2.2.2.2.2.2.2 (ms_lt hm.1 (by decide)) (n_in (N := 4) (by omega) (by decide)) ?_
    rw [nI_clamp (by omega)]
    refine go_icmp_ge (pc' := 38) dX8_weigh_31 rfl (fun c_31 => ?_) (fun c_31 => ?_)
    · -- ge at 31: yes
      show bw_go _ _ _ _ _ _ _ 38 [(0, .ref _), (1, .int _), (2, .int _)] ([]) _ _
      refine go_iconst (0) dX8_weigh_38 rfl ?_
      refine go_istore_n dX8_weigh_39 (Nat.lt_of_lt_of_le (Nat.lt_succ_self _) (Nat.le_of_ble_eq_true rfl)) ?_
      show bw_go _ _ _ _ _ _ _ 40 [(3, .int _), (0, .ref _), (1, .int _), (2, .int _)] ([]) _ _
      refine go_aload_n dX8_weigh_40 rfl ?_
      refine go_gfr dX8_weigh_41 fl_8_57 rfl (ms_lt hm.1 (by decide)) hm.1.1.2 hm.1.2.1.2.2.2.2.2.2.2.2.2.2.2.2.2.2 ?_
      refine go_iload_n dX8_weigh_44 rfl ?_
      refine go_iload_n dX8_weigh_45 rfl ?_
      refine go_ldc dX8_weigh_46 kc_8_201 ?_
      refine go_icmp_eq (pc' := 65) dX8_weigh_48 rfl (fun c_48 => ?_) (fun c_48 => ?_)
      · -- eq at 48: yes
        show bw_go _ _ _ _ _ _ _ 65 [(3, .int _), (0, .ref _), (1, .int _), (2, .int _)] ((.int _) :: (.ref _) :: []) _ _
        refine go_aload_n dX8_weigh_65 rfl ?_
        refine go_gfr dX8_weigh_66 fl_8_57 rfl (ms_lt hm.1 (by decide)) hm.1.1.2 hm.1.2.1.2.2.2.2.2.2.2.2.2.2.2.2.2.2 ?_
        refine go_iload_n dX8_weigh_69 rfl ?_
        refine go_ia dX8_weigh_70 hm.1.2.2.2.2.2.2.2.2.2.2.2.2.2.2.2.2 (ms_lt hm.1 (by decide)) (n_in (N := 4) (by omega) (by decide)) ?_
        try rw [nI_clamp (by omega)]
        refine go_ist dX8_weigh_71 hm.1.2.2.2.2.2.2.2.2.2.2.2.2.2.2.2.2 (ms_lt hm.1 (by decide)) (n_in (N := 4) (by omega) (by decide)) ?_
        show bw_go _ _ _ _ _ _ _ 72 [(3, .int _), (0, .ref _), (1, .int _), (2, .int _)] ([]) _ _
        refine go_vret dX8_weigh_72 rfl ?_
        rw [nI_clamp (by omega), si_sa]
        first
        | (rw [wg_f (Or.inl c_48)] at hQ; exact hQ)
        | (rw [wg_f (Or.inr c_54)] at hQ; exact hQ)
        | (rw [wg_0y c_48 c_54 (m2_0.mp (Decidable.of_not_not c_3)) (by have c := c_13; rw [i_le] at c; rw [i_lt]; omega)] at hQ; exact hQ)
        | (rw [wg_0n (m2_0.mp (Decidable.of_not_not c_3)) (by have c := c_13; rw [i_le] at c; rw [i_lt]; omega)] at hQ; exact hQ)
        | (rw [wg_1y c_48 c_54 (fun z => c_3 (m2_0.mpr z)) (by have c := c_31; rw [i_le] at c; rw [i_lt]; omega)] at hQ; exact hQ)
        | (rw [wg_1n (fun z => c_3 (m2_0.mpr z)) (by have c := c_31; rw [i_le] at c; rw [i_lt]; omega)] at hQ; exact hQ)
      · -- eq at 48: no
        show bw_go _ _ _ _ _ _ _ 51 [(3, .int _), (0, .ref _), (1, .int _), (2, .int _)] ((.int _) :: (.ref _) :: []) _ _
        refine go_iload_n dX8_weigh_51 rfl ?_
        refine go_ldc dX8_weigh_52 kc_8_231 ?_
        refine go_icmp_eq (pc' := 65) dX8_weigh_54 rfl (fun c_54 => ?_) (fun c_54 => ?_)
        · -- eq at 54: yes
          show bw_go _ _ _ _ _ _ _ 65 [(3, .int _), (0, .ref _), (1, .int _), (2, .int _)] ((.int _) :: (.ref _) :: []) _ _
          refine go_aload_n dX8_weigh_65 rfl ?_
          refine go_gfr dX8_weigh_66 fl_8_57 rfl (ms_lt hm.1 (by decide)) hm.1.1.2 hm.1.2.1.2.2.2.2.2.2.2.2.2.2.2.2.2.2 ?_
          refine go_iload_n dX8_weigh_69 rfl ?_
          refine go_ia dX8_weigh_70 hm.1.2.2.2.2.2.2.2.2.2.2.2.2.2.2.2.2 (ms_lt hm.1 (by decide)) (n_in (N := 4) (by omega) (by decide)) ?_
          try rw [nI_clamp (by omega)]
          refine go_ist dX8_weigh_71 hm.1.2.2.2.2.2.2.2.2.2.2.2.2.2.2.2.2 (ms_lt hm.1 (by decide)) (n_in (N := 4) (by omega) (by decide)) ?_
          show bw_go _ _ _ _ _ _ _ 72 [(3, .int _), (0, .ref _), (1, .int _), (2, .int _)] ([]) _ _
          refine go_vret dX8_weigh_72 rfl ?_
          rw [nI_clamp (by omega), si_sa]
          first
          | (rw [wg_f (Or.inl c_48)] at hQ; exact hQ)
          | (rw [wg_f (Or.inr c_54)] at hQ; exact hQ)
          | (rw [wg_0y c_48 c_54 (m2_0.mp (Decidable.of_not_not c_3)) (by have c := c_13; rw [i_le] at c; rw [i_lt]; omega)] at hQ; exact hQ)
          | (rw [wg_0n (m2_0.mp (Decidable.of_not_not c_3)) (by have c := c_13; rw [i_le] at c; rw [i_lt]; omega)] at hQ; exact hQ)
          | (rw [wg_1y c_48 c_54 (fun z => c_3 (m2_0.mpr z)) (by have c := c_31; rw [i_le] at c; rw [i_lt]; omega)] at hQ; exact hQ)
          | (rw [wg_1n (fun z => c_3 (m2_0.mpr z)) (by have c := c_31; rw [i_le] at c; rw [i_lt]; omega)] at hQ; exact hQ)
        · -- eq at 54: no
          show bw_go _ _ _ _ _ _ _ 57 [(3, .int _), (0, .ref _), (1, .int _), (2, .int _)] ((.int _) :: (.ref _) :: []) _ _
          refine go_iload_n dX8_weigh_57 rfl ?_
          refine go_if_eq (pc' := 65) dX8_weigh_58 rfl (fun _ => ?_) (fun c => absurd (by decide) c)
          show bw_go _ _ _ _ _ _ _ 65 [(3, .int _), (0, .ref _), (1, .int _), (2, .int _)] ((.int _) :: (.ref _) :: []) _ _
          refine go_aload_n dX8_weigh_65 rfl ?_
          refine go_gfr dX8_weigh_66 fl_8_57 rfl (ms_lt hm.1 (by decide)) hm.1.1.2 hm.1.2.1.2.2.2.2.2.2.2.2.2.2.2.2.2.2 ?_
          refine go_iload_n dX8_weigh_69 rfl ?_
          refine go_ia dX8_weigh_70 hm.1.2.2.2.2.2.2.2.2.2.2.2.2.2.2.2.2 (ms_lt hm.1 (by decide)) (n_in (N := 4) (by omega) (by decide)) ?_
          try rw [nI_clamp (by omega)]
          refine go_ist dX8_weigh_71 hm.1.2.2.2.2.2.2.2.2.2.2.2.2.2.2.2.2 (ms_lt hm.1 (by decide)) (n_in (N := 4) (by omega) (by decide)) ?_
          show bw_go _ _ _ _ _ _ _ 72 [(3, .int _), (0, .ref _), (1, .int _), (2, .int _)] ([]) _ _
          refine go_vret dX8_weigh_72 rfl ?_
          rw [nI_clamp (by omega), si_sa]
          first
          | (rw [wg_f (Or.inl c_48)] at hQ; exact hQ)
          | (rw [wg_f (Or.inr c_54)] at hQ; exact hQ)
          | (rw [wg_0y c_48 c_54 (m2_0.mp (Decidable.of_not_not c_3)) (by have c := c_13; rw [i_le] at c; rw [i_lt]; omega)] at hQ; exact hQ)
          | (rw [wg_0n (m2_0.mp (Decidable.of_not_not c_3)) (by have c := c_13; rw [i_le] at c; rw [i_lt]; omega)] at hQ; exact hQ)
          | (rw [wg_1y c_48 c_54 (fun z => c_3 (m2_0.mpr z)) (by have c := c_31; rw [i_le] at c; rw [i_lt]; omega)] at hQ; exact hQ)
          | (rw [wg_1n (fun z => c_3 (m2_0.mpr z)) (by have c := c_31; rw [i_le] at c; rw [i_lt]; omega)] at hQ; exact hQ)
    · -- ge at 31: no
      show bw_go _ _ _ _ _ _ _ 34 [(0, .ref _), (1, .int _), (2, .int _)] ([]) _ _
      refine go_iconst (1) dX8_weigh_34 rfl ?_
      refine go_goto (pc' := 39) dX8_weigh_35 rfl ?_
      show bw_go _ _ _ _ _ _ _ 39 [(0, .ref _), (1, .int _), (2, .int _)] ((.int _) :: []) _ _
      refine go_istore_n dX8_weigh_39 (Nat.lt_of_lt_of_le (Nat.lt_succ_self _) (Nat.le_of_ble_eq_true rfl)) ?_
      show bw_go _ _ _ _ _ _ _ 40 [(3, .int _), (0, .ref _), (1, .int _), (2, .int _)] ([]) _ _
      refine go_aload_n dX8_weigh_40 rfl ?_
      refine go_gfr dX8_weigh_41 fl_8_57 rfl (ms_lt hm.1 (by decide)) hm.1.1.2 hm.1.2.1.2.2.2.2.2.2.2.2.2.2.2.2.2.2 ?_
      refine go_iload_n dX8_weigh_44 rfl ?_
      refine go_iload_n dX8_weigh_45 rfl ?_
      refine go_ldc dX8_weigh_46 kc_8_201 ?_
      refine go_icmp_eq (pc' := 65) dX8_weigh_48 rfl (fun c_48 => ?_) (fun c_48 => ?_)
      · -- eq at 48: yes
        show bw_go _ _ _ _ _ _ _ 65 [(3, .int _), (0, .ref _), (1, .int _), (2, .int _)] ((.int _) :: (.ref _) :: []) _ _
        refine go_aload_n dX8_weigh_65 rfl ?_
        refine go_gfr dX8_weigh_66 fl_8_57 rfl (ms_lt hm.1 (by decide)) hm.1.1.2 hm.1.2.1.2.2.2.2.2.2.2.2.2.2.2.2.2.2 ?_
        refine go_iload_n dX8_weigh_69 rfl ?_
        refine go_ia dX8_weigh_70 hm.1.2.2.2.2.2.2.2.2.2.2.2.2.2.2.2.2 (ms_lt hm.1 (by decide)) (n_in (N := 4) (by omega) (by decide)) ?_
        try rw [nI_clamp (by omega)]
        refine go_ist dX8_weigh_71 hm.1.2.2.2.2.2.2.2.2.2.2.2.2.2.2.2.2 (ms_lt hm.1 (by decide)) (n_in (N := 4) (by omega) (by decide)) ?_
        show bw_go _ _ _ _ _ _ _ 72 [(3, .int _), (0, .ref _), (1, .int _), (2, .int _)] ([]) _ _
        refine go_vret dX8_weigh_72 rfl ?_
        rw [nI_clamp (by omega), si_sa]
        first
        | (rw [wg_f (Or.inl c_48)] at hQ; exact hQ)
        | (rw [wg_f (Or.inr c_54)] at hQ; exact hQ)
        | (rw [wg_0y c_48 c_54 (m2_0.mp (Decidable.of_not_not c_3)) (by have c := c_13; rw [i_le] at c; rw [i_lt]; omega)] at hQ; exact hQ)
        | (rw [wg_0n (m2_0.mp (Decidable.of_not_not c_3)) (by have c := c_13; rw [i_le] at c; rw [i_lt]; omega)] at hQ; exact hQ)
        | (rw [wg_1y c_48 c_54 (fun z => c_3 (m2_0.mpr z)) (by have c := c_31; rw [i_le] at c; rw [i_lt]; omega)] at hQ; exact hQ)
        | (rw [wg_1n (fun z => c_3 (m2_0.mpr z)) (by have c := c_31; rw [i_le] at c; rw [i_lt]; omega)] at hQ; exact hQ)
      · -- eq at 48: no
        show bw_go _ _ _ _ _ _ _ 51 [(3, .int _), (0, .ref _), (1, .int _), (2, .int _)] ((.int _) :: (.ref _) :: []) _ _
        refine go_iload_n dX8_weigh_51 rfl ?_
        refine go_ldc dX8_weigh_52 kc_8_231 ?_
        refine go_icmp_eq (pc' := 65) dX8_weigh_54 rfl (fun c_54 => ?_) (fun c_54 => ?_)
        · -- eq at 54: yes
          show bw_go _ _ _ _ _ _ _ 65 [(3, .int _), (0, .ref _), (1, .int _), (2, .int _)] ((.int _) :: (.ref _) :: []) _ _
          refine go_aload_n dX8_weigh_65 rfl ?_
          refine go_gfr dX8_weigh_66 fl_8_57 rfl (ms_lt hm.1 (by decide)) hm.1.1.2 hm.1.2.1.2.2.2.2.2.2.2.2.2.2.2.2.2.2 ?_
          refine go_iload_n dX8_weigh_69 rfl ?_
          refine go_ia dX8_weigh_70 hm.1.2.2.2.2.2.2.2.2.2.2.2.2.2.2.2.2 (ms_lt hm.1 (by decide)) (n_in (N := 4) (by omega) (by decide)) ?_
          try rw [nI_clamp (by omega)]
          refine go_ist dX8_weigh_71 hm.1.2.2.2.2.2.2.2.2.2.2.2.2.2.2.2.2 (ms_lt hm.1 (by decide)) (n_in (N := 4) (by omega) (by decide)) ?_
          show bw_go _ _ _ _ _ _ _ 72 [(3, .int _), (0, .ref _), (1, .int _), (2, .int _)] ([]) _ _
          refine go_vret dX8_weigh_72 rfl ?_
          rw [nI_clamp (by omega), si_sa]
          first
          | (rw [wg_f (Or.inl c_48)] at hQ; exact hQ)
          | (rw [wg_f (Or.inr c_54)] at hQ; exact hQ)
          | (rw [wg_0y c_48 c_54 (m2_0.mp (Decidable.of_not_not c_3)) (by have c := c_13; rw [i_le] at c; rw [i_lt]; omega)] at hQ; exact hQ)
          | (rw [wg_0n (m2_0.mp (Decidable.of_not_not c_3)) (by have c := c_13; rw [i_le] at c; rw [i_lt]; omega)] at hQ; exact hQ)
          | (rw [wg_1y c_48 c_54 (fun z => c_3 (m2_0.mpr z)) (by have c := c_31; rw [i_le] at c; rw [i_lt]; omega)] at hQ; exact hQ)
          | (rw [wg_1n (fun z => c_3 (m2_0.mpr z)) (by have c := c_31; rw [i_le] at c; rw [i_lt]; omega)] at hQ; exact hQ)
        · -- eq at 54: no
          show bw_go _ _ _ _ _ _ _ 57 [(3, .int _), (0, .ref _), (1, .int _), (2, .int _)] ((.int _) :: (.ref _) :: []) _ _
          refine go_iload_n dX8_weigh_57 rfl ?_
          refine go_if_eq (pc' := 65) dX8_weigh_58 rfl (fun c => absurd c (by decide)) (fun _ => ?_)
          show bw_go _ _ _ _ _ _ _ 61 [(3, .int _), (0, .ref _), (1, .int _), (2, .int _)] ((.int _) :: (.ref _) :: []) _ _
          refine go_iload_n dX8_weigh_61 rfl ?_
          refine go_goto (pc' := 71) dX8_weigh_62 rfl ?_
          show bw_go _ _ _ _ _ _ _ 71 [(3, .int _), (0, .ref _), (1, .int _), (2, .int _)] ((.int _) :: (.int _) :: (.ref _) :: []) _ _
          try rw [nI_clamp (by omega)]
          refine go_ist dX8_weigh_71 hm.1.2.2.2.2.2.2.2.2.2.2.2.2.2.2.2.2 (ms_lt hm.1 (by decide)) (n_in (N := 4) (by omega) (by decide)) ?_
          show bw_go _ _ _ _ _ _ _ 72 [(3, .int _), (0, .ref _), (1, .int _), (2, .int _)] ([]) _ _
          refine go_vret dX8_weigh_72 rfl ?_
          rw [nI_clamp (by omega), si_sa]
          first
          | (rw [wg_f (Or.inl c_48)] at hQ; exact hQ)
          | (rw [wg_f (Or.inr c_54)] at hQ; exact hQ)
          | (rw [wg_0y c_48 c_54 (m2_0.mp (Decidable.of_not_not c_3)) (by have c := c_13; rw [i_le] at c; rw [i_lt]; omega)] at hQ; exact hQ)
          | (rw [wg_0n (m2_0.mp (Decidable.of_not_not c_3)) (by have c := c_13; rw [i_le] at c; rw [i_lt]; omega)] at hQ; exact hQ)
          | (rw [wg_1y c_48 c_54 (fun z => c_3 (m2_0.mpr z)) (by have c := c_31; rw [i_le] at c; rw [i_lt]; omega)] at hQ; exact hQ)
          | (rw [wg_1n (fun z => c_3 (m2_0.mpr z)) (by have c := c_31; rw [i_le] at c; rw [i_lt]; omega)] at hQ; exact hQ)
  · -- ne at 3: no
    show bw_go _ _ _ _ _ _ _ 6 [(0, .ref _), (1, .int _), (2, .int _)] ([]) _ _
    refine go_iload_n dX8_weigh_6 rfl ?_
    refine go_aload_n dX8_weigh_7 rfl ?_
    refine go_gfr dX8_weigh_8 fl_8_57 rfl (ms_lt hm.1 (by decide)) hm.1.1.2 hm.1.2.1.2.2.2.2.2.2.2.2.2.2.2.2.2.2 ?_
    refine go_iload_n dX8_weigh_11 rfl ?_
    refine go_ia dX8_weigh_12 hm.1.2.2.2.2.2.2.2.2.2.2.2.2.2.2.2.2 (ms_lt hm.1 (by decide)) (n_in (N := 4) (by omega) (by decide)) ?_
    rw [nI_clamp (by omega)]
    refine go_icmp_le (pc' := 20) dX8_weigh_13 rfl (fun c_13 => ?_) (fun c_13 => ?_)
    · -- le at 13: yes
      show bw_go _ _ _ _ _ _ _ 20 [(0, .ref _), (1, .int _), (2, .int _)] ([]) _ _
      refine go_iconst (0) dX8_weigh_20 rfl ?_
      refine go_goto (pc' := 39) dX8_weigh_21 rfl ?_
      show bw_go _ _ _ _ _ _ _ 39 [(0, .ref _), (1, .int _), (2, .int _)] ((.int _) :: []) _ _
      refine go_istore_n dX8_weigh_39 (Nat.lt_of_lt_of_le (Nat.lt_succ_self _) (Nat.le_of_ble_eq_true rfl)) ?_
      show bw_go _ _ _ _ _ _ _ 40 [(3, .int _), (0, .ref _), (1, .int _), (2, .int _)] ([]) _ _
      refine go_aload_n dX8_weigh_40 rfl ?_
      refine go_gfr dX8_weigh_41 fl_8_57 rfl (ms_lt hm.1 (by decide)) hm.1.1.2 hm.1.2.1.2.2.2.2.2.2.2.2.2.2.2.2.2.2 ?_
      refine go_iload_n dX8_weigh_44 rfl ?_
      refine go_iload_n dX8_weigh_45 rfl ?_
      refine go_ldc dX8_weigh_46 kc_8_201 ?_
      refine go_icmp_eq (pc' := 65) dX8_weigh_48 rfl (fun c_48 => ?_) (fun c_48 => ?_)
      · -- eq at 48: yes
        show bw_go _ _ _ _ _ _ _ 65 [(3, .int _), (0, .ref _), (1, .int _), (2, .int _)] ((.int _) :: (.ref _) :: []) _ _
        refine go_aload_n dX8_weigh_65 rfl ?_
        refine go_gfr dX8_weigh_66 fl_8_57 rfl (ms_lt hm.1 (by decide)) hm.1.1.2 hm.1.2.1.2.2.2.2.2.2.2.2.2.2.2.2.2.2 ?_
        refine go_iload_n dX8_weigh_69 rfl ?_
        refine go_ia dX8_weigh_70 hm.1.2.2.2.2.2.2.2.2.2.2.2.2.2.2.2.2 (ms_lt hm.1 (by decide)) (n_in (N := 4) (by omega) (by decide)) ?_
        try rw [nI_clamp (by omega)]
        refine go_ist dX8_weigh_71 hm.1.2.2.2.2.2.2.2.2.2.2.2.2.2.2.2.2 (ms_lt hm.1 (by decide)) (n_in (N := 4) (by omega) (by decide)) ?_
        show bw_go _ _ _ _ _ _ _ 72 [(3, .int _), (0, .ref _), (1, .int _), (2, .int _)] ([]) _ _
        refine go_vret dX8_weigh_72 rfl ?_
        rw [nI_clamp (by omega), si_sa]
        first
        | (rw [wg_f (Or.inl c_48)] at hQ; exact hQ)
        | (rw [wg_f (Or.inr c_54)] at hQ; exact hQ)
        | (rw [wg_0y c_48 c_54 (m2_0.mp (Decidable.of_not_not c_3)) (by have c := c_13; rw [i_le] at c; rw [i_lt]; omega)] at hQ; exact hQ)
        | (rw [wg_0n (m2_0.mp (Decidable.of_not_not c_3)) (by have c := c_13; rw [i_le] at c; rw [i_lt]; omega)] at hQ; exact hQ)
        | (rw [wg_1y c_48 c_54 (fun z => c_3 (m2_0.mpr z)) (by have c := c_31; rw [i_le] at c; rw [i_lt]; omega)] at hQ; exact hQ)
        | (rw [wg_1n (fun z => c_3 (m2_0.mpr z)) (by have c := c_31; rw [i_le] at c; rw [i_lt]; omega)] at hQ; exact hQ)
      · -- eq at 48: no
        show bw_go _ _ _ _ _ _ _ 51 [(3, .int _), (0, .ref _), (1, .int _), (2, .int _)] ((.int _) :: (.ref _) :: []) _ _
        refine go_iload_n dX8_weigh_51 rfl ?_
        refine go_ldc dX8_weigh_52 kc_8_231 ?_
        refine go_icmp_eq (pc' := 65) dX8_weigh_54 rfl (fun c_54 => ?_) (fun c_54 => ?_)
        · -- eq at 54: yes
          show bw_go _ _ _ _ _ _ _ 65 [(3, .int _), (0, .ref _), (1, .int _), (2, .int _)] ((.int _) :: (.ref _) :: []) _ _
          refine go_aload_n dX8_weigh_65 rfl ?_
          refine go_gfr dX8_weigh_66 fl_8_57 rfl (ms_lt hm.1 (by decide)) hm.1.1.2 hm.1.2.1.2.2.2.2.2.2.2.2.2.2.2.2.2.2 ?_
          refine go_iload_n dX8_weigh_69 rfl ?_
          refine go_ia dX8_weigh_70 hm.1.2.2.2.2.2.2.2.2.2.2.2.2.2.2.2.2 (ms_lt hm.1 (by decide)) (n_in (N := 4) (by omega) (by decide)) ?_
          try rw [nI_clamp (by omega)]
          refine go_ist dX8_weigh_71 hm.1.2.2.2.2.2.2.2.2.2.2.2.2.2.2.2.2 (ms_lt hm.1 (by decide)) (n_in (N := 4) (by omega) (by decide)) ?_
          show bw_go _ _ _ _ _ _ _ 72 [(3, .int _), (0, .ref _), (1, .int _), (2, .int _)] ([]) _ _
          refine go_vret dX8_weigh_72 rfl ?_
          rw [nI_clamp (by omega), si_sa]
          first
          | (rw [wg_f (Or.inl c_48)] at hQ; exact hQ)
          | (rw [wg_f (Or.inr c_54)] at hQ; exact hQ)
          | (rw [wg_0y c_48 c_54 (m2_0.mp (Decidable.of_not_not c_3)) (by have c := c_13; rw [i_le] at c; rw [i_lt]; omega)] at hQ; exact hQ)
          | (rw [wg_0n (m2_0.mp (Decidable.of_not_not c_3)) (by have c := c_13; rw [i_le] at c; rw [i_lt]; omega)] at hQ; exact hQ)
          | (rw [wg_1y c_48 c_54 (fun z => c_3 (m2_0.mpr z)) (by have c := c_31; rw [i_le] at c; rw [i_lt]; omega)] at hQ; exact hQ)
          | (rw [wg_1n (fun z => c_3 (m2_0.mpr z)) (by have c := c_31; rw [i_le] at c; rw [i_lt]; omega)] at hQ; exact hQ)
        · -- eq at 54: no
          show bw_go _ _ _ _ _ _ _ 57 [(3, .int _), (0, .ref _), (1, .int _), (2, .int _)] ((.int _) :: (.ref _) :: []) _ _
          refine go_iload_n dX8_weigh_57 rfl ?_
          refine go_if_eq (pc' := 65) dX8_weigh_58 rfl (fun _ => ?_) (fun c => absurd (by decide) c)
          show bw_go _ _ _ _ _ _ _ 65 [(3, .int _), (0, .ref _), (1, .int _), (2, .int _)] ((.int _) :: (.ref _) :: []) _ _
          refine go_aload_n dX8_weigh_65 rfl ?_
          refine go_gfr dX8_weigh_66 fl_8_57 rfl (ms_lt hm.1 (by decide)) hm.1.1.2 hm.1.2.1.2.2.2.2.2.2.2.2.2.2.2.2.2.2 ?_
          refine go_iload_n dX8_weigh_69 rfl ?_
          refine go_ia dX8_weigh_70 hm.1.2.2.2.2.2.2.2.2.2.2.2.2.2.2.2.2 (ms_lt hm.1 (by decide)) (n_in (N := 4) (by omega) (by decide)) ?_
          try rw [nI_clamp (by omega)]
          refine go_ist dX8_weigh_71 hm.1.2.2.2.2.2.2.2.2.2.2.2.2.2.2.2.2 (ms_lt hm.1 (by decide)) (n_in (N := 4) (by omega) (by decide)) ?_
          show bw_go _ _ _ _ _ _ _ 72 [(3, .int _), (0, .ref _), (1, .int _), (2, .int _)] ([]) _ _
          refine go_vret dX8_weigh_72 rfl ?_
          rw [nI_clamp (by omega), si_sa]
          first
          | (rw [wg_f (Or.inl c_48)] at hQ; exact hQ)
          | (rw [wg_f (Or.inr c_54)] at hQ; exact hQ)
          | (rw [wg_0y c_48 c_54 (m2_0.mp (Decidable.of_not_not c_3)) (by have c := c_13; rw [i_le] at c; rw [i_lt]; omega)] at hQ; exact hQ)
          | (rw [wg_0n (m2_0.mp (Decidable.of_not_not c_3)) (by have c := c_13; rw [i_le] at c; rw [i_lt]; omega)] at hQ; exact hQ)
          | (rw [wg_1y c_48 c_54 (fun z => c_3 (m2_0.mpr z)) (by have c := c_31; rw [i_le] at c; rw [i_lt]; omega)] at hQ; exact hQ)
          | (rw [wg_1n (fun z => c_3 (m2_0.mpr z)) (by have c := c_31; rw [i_le] at c; rw [i_lt]; omega)] at hQ; exact hQ)
    · -- le at 13: no
      show bw_go _ _ _ _ _ _ _ 16 [(0, .ref _), (1, .int _), (2, .int _)] ([]) _ _
      refine go_iconst (1) dX8_weigh_16 rfl ?_
      refine go_goto (pc' := 39) dX8_weigh_17 rfl ?_
      show bw_go _ _ _ _ _ _ _ 39 [(0, .ref _), (1, .int _), (2, .int _)] ((.int _) :: []) _ _
      refine go_istore_n dX8_weigh_39 (Nat.lt_of_lt_of_le (Nat.lt_succ_self _) (Nat.le_of_ble_eq_true rfl)) ?_
      show bw_go _ _ _ _ _ _ _ 40 [(3, .int _), (0, .ref _), (1, .int _), (2, .int _)] ([]) _ _
      refine go_aload_n dX8_weigh_40 rfl ?_
      refine go_gfr dX8_weigh_41 fl_8_57 rfl (ms_lt hm.1 (by decide)) hm.1.1.2 hm.1.2.1.2.2.2.2.2.2.2.2.2.2.2.2.2.2 ?_
      refine go_iload_n dX8_weigh_44 rfl ?_
      refine go_iload_n dX8_weigh_45 rfl ?_
      refine go_ldc dX8_weigh_46 kc_8_201 ?_
      refine go_icmp_eq (pc' := 65) dX8_weigh_48 rfl (fun c_48 => ?_) (fun c_48 => ?_)
      · -- eq at 48: yes
        show bw_go _ _ _ _ _ _ _ 65 [(3, .int _), (0, .ref _), (1, .int _), (2, .int _)] ((.int _) :: (.ref _) :: []) _ _
        refine go_aload_n dX8_weigh_65 rfl ?_
        refine go_gfr dX8_weigh_66 fl_8_57 rfl (ms_lt hm.1 (by decide)) hm.1.1.2 hm.1.2.1.2.2.2.2.2.2.2.2.2.2.2.2.2.2 ?_
        refine go_iload_n dX8_weigh_69 rfl ?_
        refine go_ia dX8_weigh_70 hm.1.2.2.2.2.2.2.2.2.2.2.2.2.2.2.2.2 (ms_lt hm.1 (by decide)) (n_in (N := 4) (by omega) (by decide)) ?_
        try rw [nI_clamp (by omega)]
        refine go_ist dX8_weigh_71 hm.1.2.2.2.2.2.2.2.2.2.2.2.2.2.2.2.2 (ms_lt hm.1 (by decide)) (n_in (N := 4) (by omega) (by decide)) ?_
        show bw_go _ _ _ _ _ _ _ 72 [(3, .int _), (0, .ref _), (1, .int _), (2, .int _)] ([]) _ _
        refine go_vret dX8_weigh_72 rfl ?_
        rw [nI_clamp (by omega), si_sa]
        first
        | (rw [wg_f (Or.inl c_48)] at hQ; exact hQ)
        | (rw [wg_f (Or.inr c_54)] at hQ; exact hQ)
        | (rw [wg_0y c_48 c_54 (m2_0.mp (Decidable.of_not_not c_3)) (by have c := c_13; rw [i_le] at c; rw [i_lt]; omega)] at hQ; exact hQ)
        | (rw [wg_0n (m2_0.mp (Decidable.of_not_not c_3)) (by have c := c_13; rw [i_le] at c; rw [i_lt]; omega)] at hQ; exact hQ)
        | (rw [wg_1y c_48 c_54 (fun z => c_3 (m2_0.mpr z)) (by have c := c_31; rw [i_le] at c; rw [i_lt]; omega)] at hQ; exact hQ)
        | (rw [wg_1n (fun z => c_3 (m2_0.mpr z)) (by have c := c_31; rw [i_le] at c; rw [i_lt]; omega)] at hQ; exact hQ)
      · -- eq at 48: no
        show bw_go _ _ _ _ _ _ _ 51 [(3, .int _), (0, .ref _), (1, .int _), (2, .int _)] ((.int _) :: (.ref _) :: []) _ _
        refine go_iload_n dX8_weigh_51 rfl ?_
        refine go_ldc dX8_weigh_52 kc_8_231 ?_
        refine go_icmp_eq (pc' := 65) dX8_weigh_54 rfl (fun c_54 => ?_) (fun c_54 => ?_)
        · -- eq at 54: yes
          show bw_go _ _ _ _ _ _ _ 65 [(3, .int _), (0, .ref _), (1, .int _), (2, .int _)] ((.int _) :: (.ref _) :: []) _ _
          refine go_aload_n dX8_weigh_65 rfl ?_
          refine go_gfr dX8_weigh_66 fl_8_57 rfl (ms_lt hm.1 (by decide)) hm.1.1.2 hm.1.2.1.2.2.2.2.2.2.2.2.2.2.2.2.2.2 ?_
          refine go_iload_n dX8_weigh_69 rfl ?_
          refine go_ia dX8_weigh_70 hm.1.2.2.2.2.2.2.2.2.2.2.2.2.2.2.2.2 (ms_lt hm.1 (by decide)) (n_in (N := 4) (by omega) (by decide)) ?_
          try rw [nI_clamp (by omega)]
          refine go_ist dX8_weigh_71 hm.1.2.2.2.2.2.2.2.2.2.2.2.2.2.2.2.2 (ms_lt hm.1 (by decide)) (n_in (N := 4) (by omega) (by decide)) ?_
          show bw_go _ _ _ _ _ _ _ 72 [(3, .int _), (0, .ref _), (1, .int _), (2, .int _)] ([]) _ _
          refine go_vret dX8_weigh_72 rfl ?_
          rw [nI_clamp (by omega), si_sa]
          first
          | (rw [wg_f (Or.inl c_48)] at hQ; exact hQ)
          | (rw [wg_f (Or.inr c_54)] at hQ; exact hQ)
          | (rw [wg_0y c_48 c_54 (m2_0.mp (Decidable.of_not_not c_3)) (by have c := c_13; rw [i_le] at c; rw [i_lt]; omega)] at hQ; exact hQ)
          | (rw [wg_0n (m2_0.mp (Decidable.of_not_not c_3)) (by have c := c_13; rw [i_le] at c; rw [i_lt]; omega)] at hQ; exact hQ)
          | (rw [wg_1y c_48 c_54 (fun z => c_3 (m2_0.mpr z)) (by have c := c_31; rw [i_le] at c; rw [i_lt]; omega)] at hQ; exact hQ)
          | (rw [wg_1n (fun z => c_3 (m2_0.mpr z)) (by have c := c_31; rw [i_le] at c; rw [i_lt]; omega)] at hQ; exact hQ)
        · -- eq at 54: no
          show bw_go _ _ _ _ _ _ _ 57 [(3, .int _), (0, .ref _), (1, .int _), (2, .int _)] ((.int _) :: (.ref _) :: []) _ _
          refine go_iload_n dX8_weigh_57 rfl ?_
          refine go_if_eq (pc' := 65) dX8_weigh_58 rfl (fun c => absurd c (by decide)) (fun _ => ?_)
          show bw_go _ _ _ _ _ _ _ 61 [(3, .int _), (0, .ref _), (1, .int _), (2, .int _)] ((.int _) :: (.ref _) :: []) _ _
          refine go_iload_n dX8_weigh_61 rfl ?_
          refine go_goto (pc' := 71) dX8_weigh_62 rfl ?_
          show bw_go _ _ _ _ _ _ _ 71 [(3, .int _), (0, .ref _), (1, .int _), (2, .int _)] ((.int _) :: (.int _) :: (.ref _) :: []) _ _
          try rw [nI_clamp (by omega)]
          refine go_ist dX8_weigh_71 hm.1.2.2.2.2.2.2.2.2.2.2.2.2.2.2.2.2 (ms_lt hm.1 (by decide)) (n_in (N := 4) (by omega) (by decide)) ?_
          show bw_go _ _ _ _ _ _ _ 72 [(3, .int _), (0, .ref _), (1, .int _), (2, .int _)] ([]) _ _
          refine go_vret dX8_weigh_72 rfl ?_
          rw [nI_clamp (by omega), si_sa]
          first
          | (rw [wg_f (Or.inl c_48)] at hQ; exact hQ)
          | (rw [wg_f (Or.inr c_54)] at hQ; exact hQ)
          | (rw [wg_0y c_48 c_54 (m2_0.mp (Decidable.of_not_not c_3)) (by have c := c_13; rw [i_le] at c; rw [i_lt]; omega)] at hQ; exact hQ)
          | (rw [wg_0n (m2_0.mp (Decidable.of_not_not c_3)) (by have c := c_13; rw [i_le] at c; rw [i_lt]; omega)] at hQ; exact hQ)
          | (rw [wg_1y c_48 c_54 (fun z => c_3 (m2_0.mpr z)) (by have c := c_31; rw [i_le] at c; rw [i_lt]; omega)] at hQ; exact hQ)
          | (rw [wg_1n (fun z => c_3 (m2_0.mpr z)) (by have c := c_31; rw [i_le] at c; rw [i_lt]; omega)] at hQ; exact hQ)
theorem gdF_0 {F : Nat → Int32} {C : CT} {wr : Nat → Nat} {b : Nat} (hv : mcv F (wrC C wr)) (hk : co_k (wrC C wr)) (hb : b < cN C) (hc : cbe (wrC C wr) 0 b = true) : mcv (gdF F 0 b) (wrC C (bw_up wr b (wr b + 1))) := mcv_gd hv hk (by decide) hb hc
theorem gdF_1 {F : Nat → Int32} {C : CT} {wr : Nat → Nat} {b : Nat} (hv : mcv F (wrC C wr)) (hk : co_k (wrC C wr)) (hb : b < cN C) (hc : cbe (wrC C wr) 1 b = true) : mcv (gdF F 1 b) (wrC C (bw_up wr b (wr b - 1))) := mcv_gd hv hk (by decide) hb hc
theorem dcd_c {a c : Nat} (ha : a < 4) (hc : ¬ c = 0) : dcd a (c - 1) = 10 * (a + 1) + c - 1 := by
  unfold dcd; rw [if_neg (by omega)]; omega
theorem wrC_k {C : CT} {wr : Nat → Nat} (hk : co_k C) (h : ∀ i, i < cN C → wr i ≤ 9) : co_k (wrC C wr) := ⟨hk.1, hk.2.1, hk.2.2.1, hk.2.2.2.1, fun i hi => ⟨(hk.2.2.2.2 i hi).1, (hk.2.2.2.2 i hi).2.1, h i hi, (hk.2.2.2.2 i hi).2.2.2⟩⟩
set_option maxRecDepth 100000 in
set_option maxHeartbeats 4000000 in
theorem me_X8_goChoices {X : Nat × (Nat → Int32)} {Q : Option Value → bw_H → Prop} {h : bw_H} {S : ST} {x T : Nat} {ch : Nat → Nat} (hm : MR h S) (hx : x < 6) (hT : T ≤ 4) (hch : ∀ j, j < T → bw_i h 74 j = nI (ch j) ∧ ch j ≤ cN (nowC S)) (hQ : ∀ g, MR g S → frX h g → (∀ q, q ≠ 71 → bw_i g q = bw_i h q) → Q (some (.int (VV T (opT (nowC S) (2 ^ cN (nowC S) - 1) x) ch T))) g) : bw_me X 6 bm_X8_goChoices false [.ref 60, .int (nI T), .int (nI x)] h Q := by
  have hv := mr_v hm
  have hk := mr_k hm
  have k1 := hk.1
  have hkC := hk
  have h2N := p2N k1
  have hp0 : 0 < 2 ^ cN (nowC S) := Nat.two_pow_pos _
  show bw_go _ 6 8 6 false (some .int) cX8_goChoices 0 [(0, .ref _), (1, .int _), (2, .int _)] [] _ _
  refine go_iconst (1) dX8_goChoices_0 rfl ?_
  refine go_istore_n dX8_goChoices_1 (Nat.lt_of_lt_of_le (Nat.lt_succ_self _) (Nat.le_of_ble_eq_true rfl)) ?_
  show bw_go _ _ _ _ _ _ _ 2 [(3, .int _), (0, .ref _), (1, .int _), (2, .int _)] ([]) _ _
  refine go_aload_n dX8_goChoices_2 rfl ?_
  refine go_cv (as := []) 0 dX8_goChoices_3 mt_8_202 (Or.inl rfl) rfl rfl (ms_lt hm.1 (by decide)) hm.1.1.2 (Nat.le_of_ble_eq_true rfl) (Nat.le_of_ble_eq_true rfl) (Nat.le_of_ble_eq_true rfl) (Nat.le_of_ble_eq_true rfl) (Nat.le_of_ble_eq_true rfl) ?_
  refine me_X8_layHand hm ?_
  show bw_go _ _ _ _ _ _ _ 6 [(3, .int _), (0, .ref _), (1, .int _), (2, .int _)] ([]) _ _
  refine go_iconst (0) dX8_goChoices_6 rfl ?_
  refine go_istore dX8_goChoices_7 (Nat.lt_of_lt_of_le (Nat.lt_succ_self _) (Nat.le_of_ble_eq_true rfl)) ?_
  show bw_go _ _ _ _ _ _ _ 9 [(4, .int _), (3, .int _), (0, .ref _), (1, .int _), (2, .int _)] ([]) _ _
  have hp := mr_p (p := 71) (F := mix (bw_i h 61) (bw_i h 71) 80) hm (by decide)
  have hv0 : (MR (bw_sa h 71 (mix (bw_i h 61) (bw_i h 71) 80)) S ∧ frX h (bw_sa h 71 (mix (bw_i h 61) (bw_i h 71) 80)) ∧ ∀ q, q ≠ 71 → bw_i (bw_sa h 71 (mix (bw_i h 61) (bw_i h 71) 80)) q = bw_i h q) ∧ mcv (bw_i (bw_sa h 71 (mix (bw_i h 61) (bw_i h 71) 80)) 71) (wrC (nowC S) (cR (nowC S))) ∧ (∀ i, i < cN (nowC S) → (cR (nowC S)) i ≤ 9) ∧ (true = true → pfx (opT (nowC S) (2 ^ cN (nowC S) - 1) x) ch 0 = some (opT (nowC S) (2 ^ cN (nowC S) - 1) x)) ∧ (true = false → pfx (opT (nowC S) (2 ^ cN (nowC S) - 1) x) ch 0 = none) := by
    refine ⟨⟨hp.1, hp.2, fun q hq => i_sa_o hq⟩, ?_, fun i hi => (hkC.2.2.2.2 i hi).2.2.1, fun _ => rfl, fun z => Bool.noConfusion z⟩
    rw [i_sa_s]; exact mcv_mix (mr_v hm) k1
  refine go_for (P := fun k => ∀ (g : bw_H) (ok : Bool) (wr : Nat → Nat), ((MR g S ∧ frX h g ∧ ∀ q, q ≠ 71 → bw_i g q = bw_i h q) ∧ mcv (bw_i g 71) (wrC (nowC S) wr) ∧ (∀ i, i < cN (nowC S) → wr i ≤ 9) ∧ (ok = true → pfx (opT (nowC S) (2 ^ cN (nowC S) - 1) x) ch k = some (gt6 (nowC S) (2 ^ cN (nowC S) - 1) x wr)) ∧ (ok = false → pfx (opT (nowC S) (2 ^ cN (nowC S) - 1) x) ch k = none)) → bw_go X 6 8 6 false (some .int) cX8_goChoices 9 [(4, .int (nI k)), (3, .int (bi ok)), (0, .ref (60)), (1, .int (nI T)), (2, .int (nI x))] [] g Q) (N := T) (fun k hk K => ?_) ?_ (0) (Nat.zero_le _) _ true (cR (nowC S)) hv0
  · skip
    intro g ok wr hv
    obtain ⟨⟨hg, hf, hsm⟩, hmv, hw9, hy, hn⟩ := hv
    have hkW := wrC_k hkC hw9
    have hz0 : (nI (ch k) = 0) ↔ ch k = 0 := nI_eq (a := ch k) (b := 0) (by have := (hch k hk).2; omega) (by omega)
    have hcN := (hch k hk).2
    show bw_go _ _ _ _ _ _ _ 9 [(4, .int _), (3, .int _), (0, .ref _), (1, .int _), (2, .int _)] ([]) _ _
    refine go_iload dX8_goChoices_9 rfl ?_
    refine go_iload_n dX8_goChoices_11 rfl ?_
    refine go_icmp_ge (pc' := 102) dX8_goChoices_12 rfl (fun c_12 => ?_) (fun c_12 => ?_)
    · -- ge at 12: yes
      exfalso; have t_0 := nI_toInt (n := k) (by omega); have t_1 := nI_toInt (n := T) (by omega); simp only [i_le, i_lt, i_eq, bi_eq] at c_12; omega
    · -- ge at 12: no
      show bw_go _ _ _ _ _ _ _ 15 [(4, .int _), (3, .int _), (0, .ref _), (1, .int _), (2, .int _)] ([]) _ _
      refine go_iload_n dX8_goChoices_15 rfl ?_
      refine go_ifb_eq (pc' := 102) dX8_goChoices_16 rfl (fun c_16 => ?_) (fun c_16 => ?_)
      · -- eq at 16: yes
        refine go_iload_n dX8_goChoices_102 rfl ?_
        refine go_ifb_eq (pc' := 122) dX8_goChoices_103 rfl (fun c_103 => ?_) (fun c_103 => ?_)
        · -- eq at 103: yes
          show bw_go _ _ _ _ _ _ _ 122 [(4, .int _), (3, .int _), (0, .ref _), (1, .int _), (2, .int _)] ([]) _ _
          refine go_ldc dX8_goChoices_122 kc_8_201 ?_
          refine go_iret dX8_goChoices_124 rfl rfl ?_
          have hR := hQ g hg hf hsm
          rw [VV_n (pfx_no2 (Nat.le_of_lt hk) (hn c_16)), if_pos rfl] at hR
          exact hR
        · -- eq at 103: no
          exact absurd ((show ok = false from c_16).symm.trans (show ok = true from c_103)) Bool.false_ne_true
      · -- eq at 16: no
        show bw_go _ _ _ _ _ _ _ 19 [(4, .int _), (3, .int _), (0, .ref _), (1, .int _), (2, .int _)] ([]) _ _
        refine go_iload dX8_goChoices_19 rfl ?_
        refine go_iconst (2) dX8_goChoices_21 rfl ?_
        refine go_irem dX8_goChoices_22 (by decide) ?_
        rw [show (2 : Int32) = nI 2 from rfl, nI_rem (a := k) (by omega) (by decide) (by decide)]
        refine go_if_ne (pc' := 31) dX8_goChoices_23 rfl (fun c_23 => ?_) (fun c_23 => ?_)
        · -- ne at 23: yes
          show bw_go _ _ _ _ _ _ _ 31 [(4, .int _), (3, .int _), (0, .ref _), (1, .int _), (2, .int _)] ([]) _ _
          refine go_bipush (10) dX8_goChoices_31 rfl ?_
          refine go_aload_n dX8_goChoices_33 rfl ?_
          refine go_gfr dX8_goChoices_34 fl_8_54 rfl (ms_lt hg.1 (by decide)) hg.1.1.2 hg.1.2.1.2.2.2.2.2.2.2.2.2.2.2.2.2.1 ?_
          refine go_iload dX8_goChoices_37 rfl ?_
          refine go_ia dX8_goChoices_39 hg.1.2.2.2.2.2.2.2.2.2.2.2.2.2.2.2.1 (ms_lt hg.1 (by decide)) (n_in (N := 4) (by omega) (by decide)) ?_
          rw [nI_clamp (by omega), hsm 74 (by decide), (hch k hk).1]
          refine go_iadd dX8_goChoices_40 ?_
          first | rw [show (20 : Int32) = nI 20 from rfl, nI_add] | rw [show (10 : Int32) = nI 10 from rfl, nI_add]
          refine go_iconst (1) dX8_goChoices_41 rfl ?_
          refine go_isub dX8_goChoices_42 ?_
          rw [show (1 : Int32) = nI 1 from rfl, pk_sub (by omega)]
          refine go_istore dX8_goChoices_43 (Nat.lt_of_lt_of_le (Nat.lt_succ_self _) (Nat.le_of_ble_eq_true rfl)) ?_
          show bw_go _ _ _ _ _ _ _ 45 [(5, .int _), (4, .int _), (3, .int _), (0, .ref _), (1, .int _), (2, .int _)] ([]) _ _
          refine go_aload_n dX8_goChoices_45 rfl ?_
          refine go_gfr dX8_goChoices_46 fl_8_54 rfl (ms_lt hg.1 (by decide)) hg.1.1.2 hg.1.2.1.2.2.2.2.2.2.2.2.2.2.2.2.2.1 ?_
          refine go_iload dX8_goChoices_49 rfl ?_
          refine go_ia dX8_goChoices_51 hg.1.2.2.2.2.2.2.2.2.2.2.2.2.2.2.2.1 (ms_lt hg.1 (by decide)) (n_in (N := 4) (by omega) (by decide)) ?_
          rw [nI_clamp (by omega), hsm 74 (by decide), (hch k hk).1]
          refine go_if_eq (pc' := 67) dX8_goChoices_52 rfl (fun c_52 => ?_) (fun c_52 => ?_)
          · -- eq at 52: yes
            show bw_go _ _ _ _ _ _ _ 67 [(5, .int _), (4, .int _), (3, .int _), (0, .ref _), (1, .int _), (2, .int _)] ([]) _ _
            refine go_iconst (1) dX8_goChoices_67 rfl ?_
            refine go_goto (pc' := 72) dX8_goChoices_68 rfl ?_
            show bw_go _ _ _ _ _ _ _ 72 [(5, .int _), (4, .int _), (3, .int _), (0, .ref _), (1, .int _), (2, .int _)] ((.int _) :: []) _ _
            refine go_istore_n dX8_goChoices_72 (Nat.lt_of_lt_of_le (Nat.lt_succ_self _) (Nat.le_of_ble_eq_true rfl)) ?_
            show bw_go _ _ _ _ _ _ _ 73 [(3, .int _), (5, .int _), (4, .int _), (0, .ref _), (1, .int _), (2, .int _)] ([]) _ _
            refine go_iload_n dX8_goChoices_73 rfl ?_
            refine go_if_eq (pc' := 96) dX8_goChoices_74 rfl (fun c => absurd c (by decide)) (fun _ => ?_)
            show bw_go _ _ _ _ _ _ _ 77 [(3, .int _), (5, .int _), (4, .int _), (0, .ref _), (1, .int _), (2, .int _)] ([]) _ _
            refine go_aload_n dX8_goChoices_77 rfl ?_
            refine go_gfr dX8_goChoices_78 fl_8_54 rfl (ms_lt hg.1 (by decide)) hg.1.1.2 hg.1.2.1.2.2.2.2.2.2.2.2.2.2.2.2.2.1 ?_
            refine go_iload dX8_goChoices_81 rfl ?_
            refine go_ia dX8_goChoices_83 hg.1.2.2.2.2.2.2.2.2.2.2.2.2.2.2.2.1 (ms_lt hg.1 (by decide)) (n_in (N := 4) (by omega) (by decide)) ?_
            rw [nI_clamp (by omega), hsm 74 (by decide), (hch k hk).1]
            refine go_if_le (pc' := 96) dX8_goChoices_84 rfl (fun c_84 => ?_) (fun c_84 => ?_)
            · -- le at 84: yes
              show bw_go _ _ _ _ _ _ _ 96 [(3, .int _), (5, .int _), (4, .int _), (0, .ref _), (1, .int _), (2, .int _)] ([]) _ _
              refine go_iinc dX8_goChoices_96 rfl (nI_1 k) (Nat.lt_of_lt_of_le (Nat.lt_succ_self _) (Nat.le_of_ble_eq_true rfl)) ?_
              show bw_go _ _ _ _ _ _ _ 99 [(4, .int _), (3, .int _), (5, .int _), (0, .ref _), (1, .int _), (2, .int _)] ([]) _ _
              refine go_goto (pc' := 9) dX8_goChoices_99 rfl ?_
              refine go_ls [(4, .int _), (3, .int _), (0, .ref _), (1, .int _), (2, .int _)] (by show List.Nodup ([4, 3, 0, 1, 2] : List Nat); decide) (by show List.Nodup ([4, 3, 5, 0, 1, 2] : List Nat); decide) (le_cons rfl (le_cons rfl (le_cons rfl (le_cons rfl (le_cons rfl (le_nil _)))))) ?_
              first
              | (have hc0 : ch k = 0 := hz0.mp c_52
                 refine K g true wr ⟨⟨hg, hf, hsm⟩, hmv, hw9, fun _ => ?_, fun z => Bool.noConfusion z⟩
                 rw [pfx_s (hy c_16)]
                 unfold pfs
                 rw [if_pos hc0])
              | (have hc0 : ¬ ch k = 0 := fun z => c_52 (hz0.mpr z)
                 exfalso
                 have c := c_84
                 rw [i_le, nI_toInt (by omega), show (0 : Int32).toInt = 0 from rfl] at c
                 omega)
              | (have hc0 : ch k = 0 := hz0.mp c_52
                 exfalso
                 exact c_84 (by rw [hc0]; decide))
              | (have h2 : k % 2 = 0 := m2_0.mp (Decidable.of_not_not c_23)
                 have c1 : decide (0 < wr (ch k - 1)) = true := c_64
                 have c2 := of_decide_eq_true c1
                 have hp := mr_p (p := 71) (F := gdF (bw_i g 71) 1 (ch k - 1)) hg (by decide)
                 refine K _ true (bw_up wr (ch k - 1) (wr (ch k - 1) - 1)) ⟨⟨hp.1, frX_t hf hp.2, fun q hq => by rw [i_sa_o hq]; exact hsm q hq⟩, by rw [i_sa_s]; exact gdF_1 hmv hkW hb c1, fun i hi => ?_, fun _ => ?_, fun z => Bool.noConfusion z⟩
                 · by_cases z : i = ch k - 1
                   · rw [z, bw_up_s]; have := hw9 _ hb; omega
                   · rw [bw_up_o z]; exact hw9 i hi
                 · rw [pfx_s (hy c_16)]
                   unfold pfs
                   rw [if_neg hc0]
                   unfold chA
                   rw [if_pos h2]; exact if_pos c2)
              | (have h2 : ¬ k % 2 = 0 := fun z => c_23 (m2_0.mpr z)
                 have c1 : decide (wr (ch k - 1) < 9) = true := c_64
                 have c2 := of_decide_eq_true c1
                 have hp := mr_p (p := 71) (F := gdF (bw_i g 71) 0 (ch k - 1)) hg (by decide)
                 refine K _ true (bw_up wr (ch k - 1) (wr (ch k - 1) + 1)) ⟨⟨hp.1, frX_t hf hp.2, fun q hq => by rw [i_sa_o hq]; exact hsm q hq⟩, by rw [i_sa_s]; exact gdF_0 hmv hkW hb c1, fun i hi => ?_, fun _ => ?_, fun z => Bool.noConfusion z⟩
                 · by_cases z : i = ch k - 1
                   · rw [z, bw_up_s]; omega
                   · rw [bw_up_o z]; exact hw9 i hi
                 · rw [pfx_s (hy c_16)]
                   unfold pfs
                   rw [if_neg hc0]
                   unfold chA
                   rw [if_neg h2]; exact if_pos c2)
            · -- le at 84: no
              exact absurd (show nI (ch k) ≤ 0 by rw [hz0.mp c_52]; decide) c_84
          · -- eq at 52: no
            show bw_go _ _ _ _ _ _ _ 55 [(5, .int _), (4, .int _), (3, .int _), (0, .ref _), (1, .int _), (2, .int _)] ([]) _ _
            refine go_aload_n dX8_goChoices_55 rfl ?_
            refine go_gfr dX8_goChoices_56 fl_8_45 rfl (ms_lt hg.1 (by decide)) hg.1.1.2 hg.1.2.1.2.2.2.2.2.2.2.2.2.2.1 ?_
            refine go_iload dX8_goChoices_59 rfl ?_
            refine go_cs (as := [.ref _, .int _]) 0 dX8_goChoices_61 rfl rfl mt_8_176 (Nat.le_of_ble_eq_true rfl) rfl rfl (Nat.le_of_ble_eq_true rfl) (Nat.le_of_ble_eq_true rfl) (Nat.le_of_ble_eq_true rfl) (Nat.le_of_ble_eq_true rfl) ?_
            have hc0 : ¬ ch k = 0 := fun z => c_52 (hz0.mpr z)
            have hb : ch k - 1 < cN (nowC S) := by have := (hch k hk).2; omega
            first
            | (have h2 : k % 2 = 0 := m2_0.mp (Decidable.of_not_not c_23)
               rw [show nI (20 + ch k - 1) = nI (dcd 1 (ch k - 1)) by rw [dcd_c (by decide) hc0]])
            | (have h2 : ¬ k % 2 = 0 := fun z => c_23 (m2_0.mpr z)
               rw [show nI (10 + ch k - 1) = nI (dcd 0 (ch k - 1)) by rw [dcd_c (by decide) hc0]])
            refine me_X8_may hg.1 (ms_lt hg.1 (by decide)) hg.1.2.2.2.2.2.2.2.2.2.2.2.2.1 hmv hkW (by decide) hb ?_
            show bw_go _ _ _ _ _ _ _ 64 [(5, .int _), (4, .int _), (3, .int _), (0, .ref _), (1, .int _), (2, .int _)] ((.int _) :: []) _ _
            refine go_ifb_eq (pc' := 71) dX8_goChoices_64 rfl (fun c_64 => ?_) (fun c_64 => ?_)
            · -- eq at 64: yes
              show bw_go _ _ _ _ _ _ _ 71 [(5, .int _), (4, .int _), (3, .int _), (0, .ref _), (1, .int _), (2, .int _)] ([]) _ _
              refine go_iconst (0) dX8_goChoices_71 rfl ?_
              refine go_istore_n dX8_goChoices_72 (Nat.lt_of_lt_of_le (Nat.lt_succ_self _) (Nat.le_of_ble_eq_true rfl)) ?_
              show bw_go _ _ _ _ _ _ _ 73 [(3, .int _), (5, .int _), (4, .int _), (0, .ref _), (1, .int _), (2, .int _)] ([]) _ _
              refine go_iload_n dX8_goChoices_73 rfl ?_
              refine go_if_eq (pc' := 96) dX8_goChoices_74 rfl (fun _ => ?_) (fun c => absurd (by decide) c)
              show bw_go _ _ _ _ _ _ _ 96 [(3, .int _), (5, .int _), (4, .int _), (0, .ref _), (1, .int _), (2, .int _)] ([]) _ _
              refine go_iinc dX8_goChoices_96 rfl (nI_1 k) (Nat.lt_of_lt_of_le (Nat.lt_succ_self _) (Nat.le_of_ble_eq_true rfl)) ?_
              show bw_go _ _ _ _ _ _ _ 99 [(4, .int _), (3, .int _), (5, .int _), (0, .ref _), (1, .int _), (2, .int _)] ([]) _ _
              refine go_goto (pc' := 9) dX8_goChoices_99 rfl ?_
              refine go_ls [(4, .int _), (3, .int _), (0, .ref _), (1, .int _), (2, .int _)] (by show List.Nodup ([4, 3, 0, 1, 2] : List Nat); decide) (by show List.Nodup ([4, 3, 5, 0, 1, 2] : List Nat); decide) (le_cons rfl (le_cons rfl (le_cons rfl (le_cons rfl (le_cons rfl (le_nil _)))))) ?_
              refine K g false wr ⟨⟨hg, hf, hsm⟩, hmv, hw9, fun z => Bool.noConfusion z, fun _ => ?_⟩
              rw [pfx_s (hy c_16)]
              unfold pfs
              rw [if_neg hc0]
              unfold chA
              first
              | (have h2 : k % 2 = 0 := m2_0.mp (Decidable.of_not_not c_23)
                 have c1 : decide (0 < wr (ch k - 1)) = false := c_64
                 rw [if_pos h2]; exact if_neg (of_decide_eq_false c1))
              | (have h2 : ¬ k % 2 = 0 := fun z => c_23 (m2_0.mpr z)
                 have c1 : decide (wr (ch k - 1) < 9) = false := c_64
                 rw [if_neg h2]; exact if_neg (of_decide_eq_false c1))
            · -- eq at 64: no
              show bw_go _ _ _ _ _ _ _ 67 [(5, .int _), (4, .int _), (3, .int _), (0, .ref _), (1, .int _), (2, .int _)] ([]) _ _
              refine go_iconst (1) dX8_goChoices_67 rfl ?_
              refine go_goto (pc' := 72) dX8_goChoices_68 rfl ?_
              show bw_go _ _ _ _ _ _ _ 72 [(5, .int _), (4, .int _), (3, .int _), (0, .ref _), (1, .int _), (2, .int _)] ((.int _) :: []) _ _
              refine go_istore_n dX8_goChoices_72 (Nat.lt_of_lt_of_le (Nat.lt_succ_self _) (Nat.le_of_ble_eq_true rfl)) ?_
              show bw_go _ _ _ _ _ _ _ 73 [(3, .int _), (5, .int _), (4, .int _), (0, .ref _), (1, .int _), (2, .int _)] ([]) _ _
              refine go_iload_n dX8_goChoices_73 rfl ?_
              refine go_if_eq (pc' := 96) dX8_goChoices_74 rfl (fun c => absurd c (by decide)) (fun _ => ?_)
              show bw_go _ _ _ _ _ _ _ 77 [(3, .int _), (5, .int _), (4, .int _), (0, .ref _), (1, .int _), (2, .int _)] ([]) _ _
              refine go_aload_n dX8_goChoices_77 rfl ?_
              refine go_gfr dX8_goChoices_78 fl_8_54 rfl (ms_lt hg.1 (by decide)) hg.1.1.2 hg.1.2.1.2.2.2.2.2.2.2.2.2.2.2.2.2.1 ?_
              refine go_iload dX8_goChoices_81 rfl ?_
              refine go_ia dX8_goChoices_83 hg.1.2.2.2.2.2.2.2.2.2.2.2.2.2.2.2.1 (ms_lt hg.1 (by decide)) (n_in (N := 4) (by omega) (by decide)) ?_
              rw [nI_clamp (by omega), hsm 74 (by decide), (hch k hk).1]
              refine go_if_le (pc' := 96) dX8_goChoices_84 rfl (fun c_84 => ?_) (fun c_84 => ?_)
              · -- le at 84: yes
                show bw_go _ _ _ _ _ _ _ 96 [(3, .int _), (5, .int _), (4, .int _), (0, .ref _), (1, .int _), (2, .int _)] ([]) _ _
                refine go_iinc dX8_goChoices_96 rfl (nI_1 k) (Nat.lt_of_lt_of_le (Nat.lt_succ_self _) (Nat.le_of_ble_eq_true rfl)) ?_
                show bw_go _ _ _ _ _ _ _ 99 [(4, .int _), (3, .int _), (5, .int _), (0, .ref _), (1, .int _), (2, .int _)] ([]) _ _
                refine go_goto (pc' := 9) dX8_goChoices_99 rfl ?_
                refine go_ls [(4, .int _), (3, .int _), (0, .ref _), (1, .int _), (2, .int _)] (by show List.Nodup ([4, 3, 0, 1, 2] : List Nat); decide) (by show List.Nodup ([4, 3, 5, 0, 1, 2] : List Nat); decide) (le_cons rfl (le_cons rfl (le_cons rfl (le_cons rfl (le_cons rfl (le_nil _)))))) ?_
                first
                | (have hc0 : ch k = 0 := hz0.mp c_52
                   refine K g true wr ⟨⟨hg, hf, hsm⟩, hmv, hw9, fun _ => ?_, fun z => Bool.noConfusion z⟩
                   rw [pfx_s (hy c_16)]
                   unfold pfs
                   rw [if_pos hc0])
                | (have hc0 : ¬ ch k = 0 := fun z => c_52 (hz0.mpr z)
                   exfalso
                   have c := c_84
                   rw [i_le, nI_toInt (by omega), show (0 : Int32).toInt = 0 from rfl] at c
                   omega)
                | (have hc0 : ch k = 0 := hz0.mp c_52
                   exfalso
                   exact c_84 (by rw [hc0]; decide))
                | (have h2 : k % 2 = 0 := m2_0.mp (Decidable.of_not_not c_23)
                   have c1 : decide (0 < wr (ch k - 1)) = true := c_64
                   have c2 := of_decide_eq_true c1
                   have hp := mr_p (p := 71) (F := gdF (bw_i g 71) 1 (ch k - 1)) hg (by decide)
                   refine K _ true (bw_up wr (ch k - 1) (wr (ch k - 1) - 1)) ⟨⟨hp.1, frX_t hf hp.2, fun q hq => by rw [i_sa_o hq]; exact hsm q hq⟩, by rw [i_sa_s]; exact gdF_1 hmv hkW hb c1, fun i hi => ?_, fun _ => ?_, fun z => Bool.noConfusion z⟩
                   · by_cases z : i = ch k - 1
                     · rw [z, bw_up_s]; have := hw9 _ hb; omega
                     · rw [bw_up_o z]; exact hw9 i hi
                   · rw [pfx_s (hy c_16)]
                     unfold pfs
                     rw [if_neg hc0]
                     unfold chA
                     rw [if_pos h2]; exact if_pos c2)
                | (have h2 : ¬ k % 2 = 0 := fun z => c_23 (m2_0.mpr z)
                   have c1 : decide (wr (ch k - 1) < 9) = true := c_64
                   have c2 := of_decide_eq_true c1
                   have hp := mr_p (p := 71) (F := gdF (bw_i g 71) 0 (ch k - 1)) hg (by decide)
                   refine K _ true (bw_up wr (ch k - 1) (wr (ch k - 1) + 1)) ⟨⟨hp.1, frX_t hf hp.2, fun q hq => by rw [i_sa_o hq]; exact hsm q hq⟩, by rw [i_sa_s]; exact gdF_0 hmv hkW hb c1, fun i hi => ?_, fun _ => ?_, fun z => Bool.noConfusion z⟩
                   · by_cases z : i = ch k - 1
                     · rw [z, bw_up_s]; omega
                     · rw [bw_up_o z]; exact hw9 i hi
                   · rw [pfx_s (hy c_16)]
                     unfold pfs
                     rw [if_neg hc0]
                     unfold chA
                     rw [if_neg h2]; exact if_pos c2)
              · -- le at 84: no
                refine go_aload_n dX8_goChoices_87 rfl ?_
                refine go_gfr dX8_goChoices_88 fl_8_45 rfl (ms_lt hg.1 (by decide)) hg.1.1.2 hg.1.2.1.2.2.2.2.2.2.2.2.2.2.1 ?_
                refine go_iload dX8_goChoices_91 rfl ?_
                refine go_cs (as := [.ref _, .int _]) 0 dX8_goChoices_93 rfl rfl mt_8_172 (Nat.le_of_ble_eq_true rfl) rfl rfl (Nat.le_of_ble_eq_true rfl) (Nat.le_of_ble_eq_true rfl) (Nat.le_of_ble_eq_true rfl) (Nat.le_of_ble_eq_true rfl) ?_
                have hc0 : ¬ ch k = 0 := fun z => by first | exact c_52 (hz0.mpr z) | exact c_84 (by rw [z]; decide)
                have hb : ch k - 1 < cN (nowC S) := by have := (hch k hk).2; omega
                refine me_X8_goDeed hg.1 (ms_lt hg.1 (by decide)) hg.1.2.2.2.2.2.2.2.2.2.2.2.2.1 (by decide) (by omega) ?_
                show bw_go _ _ _ _ _ _ _ 96 [(3, .int _), (5, .int _), (4, .int _), (0, .ref _), (1, .int _), (2, .int _)] ([]) _ _
                refine go_iinc dX8_goChoices_96 rfl (nI_1 k) (Nat.lt_of_lt_of_le (Nat.lt_succ_self _) (Nat.le_of_ble_eq_true rfl)) ?_
                show bw_go _ _ _ _ _ _ _ 99 [(4, .int _), (3, .int _), (5, .int _), (0, .ref _), (1, .int _), (2, .int _)] ([]) _ _
                refine go_goto (pc' := 9) dX8_goChoices_99 rfl ?_
                refine go_ls [(4, .int _), (3, .int _), (0, .ref _), (1, .int _), (2, .int _)] (by show List.Nodup ([4, 3, 0, 1, 2] : List Nat); decide) (by show List.Nodup ([4, 3, 5, 0, 1, 2] : List Nat); decide) (le_cons rfl (le_cons rfl (le_cons rfl (le_cons rfl (le_cons rfl (le_nil _)))))) ?_
                first
                | (have hc0 : ch k = 0 := hz0.mp c_52
                   refine K g true wr ⟨⟨hg, hf, hsm⟩, hmv, hw9, fun _ => ?_, fun z => Bool.noConfusion z⟩
                   rw [pfx_s (hy c_16)]
                   unfold pfs
                   rw [if_pos hc0])
                | (have hc0 : ¬ ch k = 0 := fun z => c_52 (hz0.mpr z)
                   exfalso
                   have c := c_84
                   rw [i_le, nI_toInt (by omega), show (0 : Int32).toInt = 0 from rfl] at c
                   omega)
                | (have hc0 : ch k = 0 := hz0.mp c_52
                   exfalso
                   exact c_84 (by rw [hc0]; decide))
                | (have h2 : k % 2 = 0 := m2_0.mp (Decidable.of_not_not c_23)
                   have c1 : decide (0 < wr (ch k - 1)) = true := c_64
                   have c2 := of_decide_eq_true c1
                   have hp := mr_p (p := 71) (F := gdF (bw_i g 71) 1 (ch k - 1)) hg (by decide)
                   refine K _ true (bw_up wr (ch k - 1) (wr (ch k - 1) - 1)) ⟨⟨hp.1, frX_t hf hp.2, fun q hq => by rw [i_sa_o hq]; exact hsm q hq⟩, by rw [i_sa_s]; exact gdF_1 hmv hkW hb c1, fun i hi => ?_, fun _ => ?_, fun z => Bool.noConfusion z⟩
                   · by_cases z : i = ch k - 1
                     · rw [z, bw_up_s]; have := hw9 _ hb; omega
                     · rw [bw_up_o z]; exact hw9 i hi
                   · rw [pfx_s (hy c_16)]
                     unfold pfs
                     rw [if_neg hc0]
                     unfold chA
                     rw [if_pos h2]; exact if_pos c2)
                | (have h2 : ¬ k % 2 = 0 := fun z => c_23 (m2_0.mpr z)
                   have c1 : decide (wr (ch k - 1) < 9) = true := c_64
                   have c2 := of_decide_eq_true c1
                   have hp := mr_p (p := 71) (F := gdF (bw_i g 71) 0 (ch k - 1)) hg (by decide)
                   refine K _ true (bw_up wr (ch k - 1) (wr (ch k - 1) + 1)) ⟨⟨hp.1, frX_t hf hp.2, fun q hq => by rw [i_sa_o hq]; exact hsm q hq⟩, by rw [i_sa_s]; exact gdF_0 hmv hkW hb c1, fun i hi => ?_, fun _ => ?_, fun z => Bool.noConfusion z⟩
                   · by_cases z : i = ch k - 1
                     · rw [z, bw_up_s]; omega
                     · rw [bw_up_o z]; exact hw9 i hi
                   · rw [pfx_s (hy c_16)]
                     unfold pfs
                     rw [if_neg hc0]
                     unfold chA
                     rw [if_neg h2]; exact if_pos c2)
        · -- ne at 23: no
          show bw_go _ _ _ _ _ _ _ 26 [(4, .int _), (3, .int _), (0, .ref _), (1, .int _), (2, .int _)] ([]) _ _
          refine go_bipush (20) dX8_goChoices_26 rfl ?_
          refine go_goto (pc' := 33) dX8_goChoices_28 rfl ?_
          show bw_go _ _ _ _ _ _ _ 33 [(4, .int _), (3, .int _), (0, .ref _), (1, .int _), (2, .int _)] ((.int _) :: []) _ _
          refine go_aload_n dX8_goChoices_33 rfl ?_
          refine go_gfr dX8_goChoices_34 fl_8_54 rfl (ms_lt hg.1 (by decide)) hg.1.1.2 hg.1.2.1.2.2.2.2.2.2.2.2.2.2.2.2.2.1 ?_
          refine go_iload dX8_goChoices_37 rfl ?_
          refine go_ia dX8_goChoices_39 hg.1.2.2.2.2.2.2.2.2.2.2.2.2.2.2.2.1 (ms_lt hg.1 (by decide)) (n_in (N := 4) (by omega) (by decide)) ?_
          rw [nI_clamp (by omega), hsm 74 (by decide), (hch k hk).1]
          refine go_iadd dX8_goChoices_40 ?_
          first | rw [show (20 : Int32) = nI 20 from rfl, nI_add] | rw [show (10 : Int32) = nI 10 from rfl, nI_add]
          refine go_iconst (1) dX8_goChoices_41 rfl ?_
          refine go_isub dX8_goChoices_42 ?_
          rw [show (1 : Int32) = nI 1 from rfl, pk_sub (by omega)]
          refine go_istore dX8_goChoices_43 (Nat.lt_of_lt_of_le (Nat.lt_succ_self _) (Nat.le_of_ble_eq_true rfl)) ?_
          show bw_go _ _ _ _ _ _ _ 45 [(5, .int _), (4, .int _), (3, .int _), (0, .ref _), (1, .int _), (2, .int _)] ([]) _ _
          refine go_aload_n dX8_goChoices_45 rfl ?_
          refine go_gfr dX8_goChoices_46 fl_8_54 rfl (ms_lt hg.1 (by decide)) hg.1.1.2 hg.1.2.1.2.2.2.2.2.2.2.2.2.2.2.2.2.1 ?_
          refine go_iload dX8_goChoices_49 rfl ?_
          refine go_ia dX8_goChoices_51 hg.1.2.2.2.2.2.2.2.2.2.2.2.2.2.2.2.1 (ms_lt hg.1 (by decide)) (n_in (N := 4) (by omega) (by decide)) ?_
          rw [nI_clamp (by omega), hsm 74 (by decide), (hch k hk).1]
          refine go_if_eq (pc' := 67) dX8_goChoices_52 rfl (fun c_52 => ?_) (fun c_52 => ?_)
          · -- eq at 52: yes
            show bw_go _ _ _ _ _ _ _ 67 [(5, .int _), (4, .int _), (3, .int _), (0, .ref _), (1, .int _), (2, .int _)] ([]) _ _
            refine go_iconst (1) dX8_goChoices_67 rfl ?_
            refine go_goto (pc' := 72) dX8_goChoices_68 rfl ?_
            show bw_go _ _ _ _ _ _ _ 72 [(5, .int _), (4, .int _), (3, .int _), (0, .ref _), (1, .int _), (2, .int _)] ((.int _) :: []) _ _
            refine go_istore_n dX8_goChoices_72 (Nat.lt_of_lt_of_le (Nat.lt_succ_self _) (Nat.le_of_ble_eq_true rfl)) ?_
            show bw_go _ _ _ _ _ _ _ 73 [(3, .int _), (5, .int _), (4, .int _), (0, .ref _), (1, .int _), (2, .int _)] ([]) _ _
            refine go_iload_n dX8_goChoices_73 rfl ?_
            refine go_if_eq (pc' := 96) dX8_goChoices_74 rfl (fun c => absurd c (by decide)) (fun _ => ?_)
            show bw_go _ _ _ _ _ _ _ 77 [(3, .int _), (5, .int _), (4, .int _), (0, .ref _), (1, .int _), (2, .int _)] ([]) _ _
            refine go_aload_n dX8_goChoices_77 rfl ?_
            refine go_gfr dX8_goChoices_78 fl_8_54 rfl (ms_lt hg.1 (by decide)) hg.1.1.2 hg.1.2.1.2.2.2.2.2.2.2.2.2.2.2.2.2.1 ?_
            refine go_iload dX8_goChoices_81 rfl ?_
            refine go_ia dX8_goChoices_83 hg.1.2.2.2.2.2.2.2.2.2.2.2.2.2.2.2.1 (ms_lt hg.1 (by decide)) (n_in (N := 4) (by omega) (by decide)) ?_
            rw [nI_clamp (by omega), hsm 74 (by decide), (hch k hk).1]
            refine go_if_le (pc' := 96) dX8_goChoices_84 rfl (fun c_84 => ?_) (fun c_84 => ?_)
            · -- le at 84: yes
              show bw_go _ _ _ _ _ _ _ 96 [(3, .int _), (5, .int _), (4, .int _), (0, .ref _), (1, .int _), (2, .int _)] ([]) _ _
              refine go_iinc dX8_goChoices_96 rfl (nI_1 k) (Nat.lt_of_lt_of_le (Nat.lt_succ_self _) (Nat.le_of_ble_eq_true rfl)) ?_
              show bw_go _ _ _ _ _ _ _ 99 [(4, .int _), (3, .int _), (5, .int _), (0, .ref _), (1, .int _), (2, .int _)] ([]) _ _
              refine go_goto (pc' := 9) dX8_goChoices_99 rfl ?_
              refine go_ls [(4, .int _), (3, .int _), (0, .ref _), (1, .int _), (2, .int _)] (by show List.Nodup ([4, 3, 0, 1, 2] : List Nat); decide) (by show List.Nodup ([4, 3, 5, 0, 1, 2] : List Nat); decide) (le_cons rfl (le_cons rfl (le_cons rfl (le_cons rfl (le_cons rfl (le_nil _)))))) ?_
              first
              | (have hc0 : ch k = 0 := hz0.mp c_52
                 refine K g true wr ⟨⟨hg, hf, hsm⟩, hmv, hw9, fun _ => ?_, fun z => Bool.noConfusion z⟩
                 rw [pfx_s (hy c_16)]
                 unfold pfs
                 rw [if_pos hc0])
              | (have hc0 : ¬ ch k = 0 := fun z => c_52 (hz0.mpr z)
                 exfalso
                 have c := c_84
                 rw [i_le, nI_toInt (by omega), show (0 : Int32).toInt = 0 from rfl] at c
                 omega)
              | (have hc0 : ch k = 0 := hz0.mp c_52
                 exfalso
                 exact c_84 (by rw [hc0]; decide))
              | (have h2 : k % 2 = 0 := m2_0.mp (Decidable.of_not_not c_23)
                 have c1 : decide (0 < wr (ch k - 1)) = true := c_64
                 have c2 := of_decide_eq_true c1
                 have hp := mr_p (p := 71) (F := gdF (bw_i g 71) 1 (ch k - 1)) hg (by decide)
                 refine K _ true (bw_up wr (ch k - 1) (wr (ch k - 1) - 1)) ⟨⟨hp.1, frX_t hf hp.2, fun q hq => by rw [i_sa_o hq]; exact hsm q hq⟩, by rw [i_sa_s]; exact gdF_1 hmv hkW hb c1, fun i hi => ?_, fun _ => ?_, fun z => Bool.noConfusion z⟩
                 · by_cases z : i = ch k - 1
                   · rw [z, bw_up_s]; have := hw9 _ hb; omega
                   · rw [bw_up_o z]; exact hw9 i hi
                 · rw [pfx_s (hy c_16)]
                   unfold pfs
                   rw [if_neg hc0]
                   unfold chA
                   rw [if_pos h2]; exact if_pos c2)
              | (have h2 : ¬ k % 2 = 0 := fun z => c_23 (m2_0.mpr z)
                 have c1 : decide (wr (ch k - 1) < 9) = true := c_64
                 have c2 := of_decide_eq_true c1
                 have hp := mr_p (p := 71) (F := gdF (bw_i g 71) 0 (ch k - 1)) hg (by decide)
                 refine K _ true (bw_up wr (ch k - 1) (wr (ch k - 1) + 1)) ⟨⟨hp.1, frX_t hf hp.2, fun q hq => by rw [i_sa_o hq]; exact hsm q hq⟩, by rw [i_sa_s]; exact gdF_0 hmv hkW hb c1, fun i hi => ?_, fun _ => ?_, fun z => Bool.noConfusion z⟩
                 · by_cases z : i = ch k - 1
                   · rw [z, bw_up_s]; omega
                   · rw [bw_up_o z]; exact hw9 i hi
                 · rw [pfx_s (hy c_16)]
                   unfold pfs
                   rw [if_neg hc0]
                   unfold chA
                   rw [if_neg h2]; exact if_pos c2)
            · -- le at 84: no
              exact absurd (show nI (ch k) ≤ 0 by rw [hz0.mp c_52]; decide) c_84
          · -- eq at 52: no
            show bw_go _ _ _ _ _ _ _ 55 [(5, .int _), (4, .int _), (3, .int _), (0, .ref _), (1, .int _), (2, .int _)] ([]) _ _
            refine go_aload_n dX8_goChoices_55 rfl ?_
            refine go_gfr dX8_goChoices_56 fl_8_45 rfl (ms_lt hg.1 (by decide)) hg.1.1.2 hg.1.2.1.2.2.2.2.2.2.2.2.2.2.1 ?_
            refine go_iload dX8_goChoices_59 rfl ?_
            refine go_cs (as := [.ref _, .int _]) 0 dX8_goChoices_61 rfl rfl mt_8_176 (Nat.le_of_ble_eq_true rfl) rfl rfl (Nat.le_of_ble_eq_true rfl) (Nat.le_of_ble_eq_true rfl) (Nat.le_of_ble_eq_true rfl) (Nat.le_of_ble_eq_true rfl) ?_
            have hc0 : ¬ ch k = 0 := fun z => c_52 (hz0.mpr z)
            have hb : ch k - 1 < cN (nowC S) := by have := (hch k hk).2; omega
            first
            | (have h2 : k % 2 = 0 := m2_0.mp (Decidable.of_not_not c_23)
               rw [show nI (20 + ch k - 1) = nI (dcd 1 (ch k - 1)) by rw [dcd_c (by decide) hc0]])
            | (have h2 : ¬ k % 2 = 0 := fun z => c_23 (m2_0.mpr z)
               rw [show nI (10 + ch k - 1) = nI (dcd 0 (ch k - 1)) by rw [dcd_c (by decide) hc0]])
            refine me_X8_may hg.1 (ms_lt hg.1 (by decide)) hg.1.2.2.2.2.2.2.2.2.2.2.2.2.1 hmv hkW (by decide) hb ?_
            show bw_go _ _ _ _ _ _ _ 64 [(5, .int _), (4, .int _), (3, .int _), (0, .ref _), (1, .int _), (2, .int _)] ((.int _) :: []) _ _
            refine go_ifb_eq (pc' := 71) dX8_goChoices_64 rfl (fun c_64 => ?_) (fun c_64 => ?_)
            · -- eq at 64: yes
              show bw_go _ _ _ _ _ _ _ 71 [(5, .int _), (4, .int _), (3, .int _), (0, .ref _), (1, .int _), (2, .int _)] ([]) _ _
              refine go_iconst (0) dX8_goChoices_71 rfl ?_
              refine go_istore_n dX8_goChoices_72 (Nat.lt_of_lt_of_le (Nat.lt_succ_self _) (Nat.le_of_ble_eq_true rfl)) ?_
              show bw_go _ _ _ _ _ _ _ 73 [(3, .int _), (5, .int _), (4, .int _), (0, .ref _), (1, .int _), (2, .int _)] ([]) _ _
              refine go_iload_n dX8_goChoices_73 rfl ?_
              refine go_if_eq (pc' := 96) dX8_goChoices_74 rfl (fun _ => ?_) (fun c => absurd (by decide) c)
              show bw_go _ _ _ _ _ _ _ 96 [(3, .int _), (5, .int _), (4, .int _), (0, .ref _), (1, .int _), (2, .int _)] ([]) _ _
              refine go_iinc dX8_goChoices_96 rfl (nI_1 k) (Nat.lt_of_lt_of_le (Nat.lt_succ_self _) (Nat.le_of_ble_eq_true rfl)) ?_
              show bw_go _ _ _ _ _ _ _ 99 [(4, .int _), (3, .int _), (5, .int _), (0, .ref _), (1, .int _), (2, .int _)] ([]) _ _
              refine go_goto (pc' := 9) dX8_goChoices_99 rfl ?_
              refine go_ls [(4, .int _), (3, .int _), (0, .ref _), (1, .int _), (2, .int _)] (by show List.Nodup ([4, 3, 0, 1, 2] : List Nat); decide) (by show List.Nodup ([4, 3, 5, 0, 1, 2] : List Nat); decide) (le_cons rfl (le_cons rfl (le_cons rfl (le_cons rfl (le_cons rfl (le_nil _)))))) ?_
              refine K g false wr ⟨⟨hg, hf, hsm⟩, hmv, hw9, fun z => Bool.noConfusion z, fun _ => ?_⟩
              rw [pfx_s (hy c_16)]
              unfold pfs
              rw [if_neg hc0]
              unfold chA
              first
              | (have h2 : k % 2 = 0 := m2_0.mp (Decidable.of_not_not c_23)
                 have c1 : decide (0 < wr (ch k - 1)) = false := c_64
                 rw [if_pos h2]; exact if_neg (of_decide_eq_false c1))
              | (have h2 : ¬ k % 2 = 0 := fun z => c_23 (m2_0.mpr z)
                 have c1 : decide (wr (ch k - 1) < 9) = false := c_64
                 rw [if_neg h2]; exact if_neg (of_decide_eq_false c1))
            · -- eq at 64: no
              show bw_go _ _ _ _ _ _ _ 67 [(5, .int _), (4, .int _), (3, .int _), (0, .ref _), (1, .int _), (2, .int _)] ([]) _ _
              refine go_iconst (1) dX8_goChoices_67 rfl ?_
              refine go_goto (pc' := 72) dX8_goChoices_68 rfl ?_
              show bw_go _ _ _ _ _ _ _ 72 [(5, .int _), (4, .int _), (3, .int _), (0, .ref _), (1, .int _), (2, .int _)] ((.int _) :: []) _ _
              refine go_istore_n dX8_goChoices_72 (Nat.lt_of_lt_of_le (Nat.lt_succ_self _) (Nat.le_of_ble_eq_true rfl)) ?_
              show bw_go _ _ _ _ _ _ _ 73 [(3, .int _), (5, .int _), (4, .int _), (0, .ref _), (1, .int _), (2, .int _)] ([]) _ _
              refine go_iload_n dX8_goChoices_73 rfl ?_
              refine go_if_eq (pc' := 96) dX8_goChoices_74 rfl (fun c => absurd c (by decide)) (fun _ => ?_)
              show bw_go _ _ _ _ _ _ _ 77 [(3, .int _), (5, .int _), (4, .int _), (0, .ref _), (1, .int _), (2, .int _)] ([]) _ _
              refine go_aload_n dX8_goChoices_77 rfl ?_
              refine go_gfr dX8_goChoices_78 fl_8_54 rfl (ms_lt hg.1 (by decide)) hg.1.1.2 hg.1.2.1.2.2.2.2.2.2.2.2.2.2.2.2.2.1 ?_
              refine go_iload dX8_goChoices_81 rfl ?_
              refine go_ia dX8_goChoices_83 hg.1.2.2.2.2.2.2.2.2.2.2.2.2.2.2.2.1 (ms_lt hg.1 (by decide)) (n_in (N := 4) (by omega) (by decide)) ?_
              rw [nI_clamp (by omega), hsm 74 (by decide), (hch k hk).1]
              refine go_if_le (pc' := 96) dX8_goChoices_84 rfl (fun c_84 => ?_) (fun c_84 => ?_)
              · -- le at 84: yes
                show bw_go _ _ _ _ _ _ _ 96 [(3, .int _), (5, .int _), (4, .int _), (0, .ref _), (1, .int _), (2, .int _)] ([]) _ _
                refine go_iinc dX8_goChoices_96 rfl (nI_1 k) (Nat.lt_of_lt_of_le (Nat.lt_succ_self _) (Nat.le_of_ble_eq_true rfl)) ?_
                show bw_go _ _ _ _ _ _ _ 99 [(4, .int _), (3, .int _), (5, .int _), (0, .ref _), (1, .int _), (2, .int _)] ([]) _ _
                refine go_goto (pc' := 9) dX8_goChoices_99 rfl ?_
                refine go_ls [(4, .int _), (3, .int _), (0, .ref _), (1, .int _), (2, .int _)] (by show List.Nodup ([4, 3, 0, 1, 2] : List Nat); decide) (by show List.Nodup ([4, 3, 5, 0, 1, 2] : List Nat); decide) (le_cons rfl (le_cons rfl (le_cons rfl (le_cons rfl (le_cons rfl (le_nil _)))))) ?_
                first
                | (have hc0 : ch k = 0 := hz0.mp c_52
                   refine K g true wr ⟨⟨hg, hf, hsm⟩, hmv, hw9, fun _ => ?_, fun z => Bool.noConfusion z⟩
                   rw [pfx_s (hy c_16)]
                   unfold pfs
                   rw [if_pos hc0])
                | (have hc0 : ¬ ch k = 0 := fun z => c_52 (hz0.mpr z)
                   exfalso
                   have c := c_84
                   rw [i_le, nI_toInt (by omega), show (0 : Int32).toInt = 0 from rfl] at c
                   omega)
                | (have hc0 : ch k = 0 := hz0.mp c_52
                   exfalso
                   exact c_84 (by rw [hc0]; decide))
                | (have h2 : k % 2 = 0 := m2_0.mp (Decidable.of_not_not c_23)
                   have c1 : decide (0 < wr (ch k - 1)) = true := c_64
                   have c2 := of_decide_eq_true c1
                   have hp := mr_p (p := 71) (F := gdF (bw_i g 71) 1 (ch k - 1)) hg (by decide)
                   refine K _ true (bw_up wr (ch k - 1) (wr (ch k - 1) - 1)) ⟨⟨hp.1, frX_t hf hp.2, fun q hq => by rw [i_sa_o hq]; exact hsm q hq⟩, by rw [i_sa_s]; exact gdF_1 hmv hkW hb c1, fun i hi => ?_, fun _ => ?_, fun z => Bool.noConfusion z⟩
                   · by_cases z : i = ch k - 1
                     · rw [z, bw_up_s]; have := hw9 _ hb; omega
                     · rw [bw_up_o z]; exact hw9 i hi
                   · rw [pfx_s (hy c_16)]
                     unfold pfs
                     rw [if_neg hc0]
                     unfold chA
                     rw [if_pos h2]; exact if_pos c2)
                | (have h2 : ¬ k % 2 = 0 := fun z => c_23 (m2_0.mpr z)
                   have c1 : decide (wr (ch k - 1) < 9) = true := c_64
                   have c2 := of_decide_eq_true c1
                   have hp := mr_p (p := 71) (F := gdF (bw_i g 71) 0 (ch k - 1)) hg (by decide)
                   refine K _ true (bw_up wr (ch k - 1) (wr (ch k - 1) + 1)) ⟨⟨hp.1, frX_t hf hp.2, fun q hq => by rw [i_sa_o hq]; exact hsm q hq⟩, by rw [i_sa_s]; exact gdF_0 hmv hkW hb c1, fun i hi => ?_, fun _ => ?_, fun z => Bool.noConfusion z⟩
                   · by_cases z : i = ch k - 1
                     · rw [z, bw_up_s]; omega
                     · rw [bw_up_o z]; exact hw9 i hi
                   · rw [pfx_s (hy c_16)]
                     unfold pfs
                     rw [if_neg hc0]
                     unfold chA
                     rw [if_neg h2]; exact if_pos c2)
              · -- le at 84: no
                refine go_aload_n dX8_goChoices_87 rfl ?_
                refine go_gfr dX8_goChoices_88 fl_8_45 rfl (ms_lt hg.1 (by decide)) hg.1.1.2 hg.1.2.1.2.2.2.2.2.2.2.2.2.2.1 ?_
                refine go_iload dX8_goChoices_91 rfl ?_
                refine go_cs (as := [.ref _, .int _]) 0 dX8_goChoices_93 rfl rfl mt_8_172 (Nat.le_of_ble_eq_true rfl) rfl rfl (Nat.le_of_ble_eq_true rfl) (Nat.le_of_ble_eq_true rfl) (Nat.le_of_ble_eq_true rfl) (Nat.le_of_ble_eq_true rfl) ?_
                have hc0 : ¬ ch k = 0 := fun z => by first | exact c_52 (hz0.mpr z) | exact c_84 (by rw [z]; decide)
                have hb : ch k - 1 < cN (nowC S) := by have := (hch k hk).2; omega
                refine me_X8_goDeed hg.1 (ms_lt hg.1 (by decide)) hg.1.2.2.2.2.2.2.2.2.2.2.2.2.1 (by decide) (by omega) ?_
                show bw_go _ _ _ _ _ _ _ 96 [(3, .int _), (5, .int _), (4, .int _), (0, .ref _), (1, .int _), (2, .int _)] ([]) _ _
                refine go_iinc dX8_goChoices_96 rfl (nI_1 k) (Nat.lt_of_lt_of_le (Nat.lt_succ_self _) (Nat.le_of_ble_eq_true rfl)) ?_
                show bw_go _ _ _ _ _ _ _ 99 [(4, .int _), (3, .int _), (5, .int _), (0, .ref _), (1, .int _), (2, .int _)] ([]) _ _
                refine go_goto (pc' := 9) dX8_goChoices_99 rfl ?_
                refine go_ls [(4, .int _), (3, .int _), (0, .ref _), (1, .int _), (2, .int _)] (by show List.Nodup ([4, 3, 0, 1, 2] : List Nat); decide) (by show List.Nodup ([4, 3, 5, 0, 1, 2] : List Nat); decide) (le_cons rfl (le_cons rfl (le_cons rfl (le_cons rfl (le_cons rfl (le_nil _)))))) ?_
                first
                | (have hc0 : ch k = 0 := hz0.mp c_52
                   refine K g true wr ⟨⟨hg, hf, hsm⟩, hmv, hw9, fun _ => ?_, fun z => Bool.noConfusion z⟩
                   rw [pfx_s (hy c_16)]
                   unfold pfs
                   rw [if_pos hc0])
                | (have hc0 : ¬ ch k = 0 := fun z => c_52 (hz0.mpr z)
                   exfalso
                   have c := c_84
                   rw [i_le, nI_toInt (by omega), show (0 : Int32).toInt = 0 from rfl] at c
                   omega)
                | (have hc0 : ch k = 0 := hz0.mp c_52
                   exfalso
                   exact c_84 (by rw [hc0]; decide))
                | (have h2 : k % 2 = 0 := m2_0.mp (Decidable.of_not_not c_23)
                   have c1 : decide (0 < wr (ch k - 1)) = true := c_64
                   have c2 := of_decide_eq_true c1
                   have hp := mr_p (p := 71) (F := gdF (bw_i g 71) 1 (ch k - 1)) hg (by decide)
                   refine K _ true (bw_up wr (ch k - 1) (wr (ch k - 1) - 1)) ⟨⟨hp.1, frX_t hf hp.2, fun q hq => by rw [i_sa_o hq]; exact hsm q hq⟩, by rw [i_sa_s]; exact gdF_1 hmv hkW hb c1, fun i hi => ?_, fun _ => ?_, fun z => Bool.noConfusion z⟩
                   · by_cases z : i = ch k - 1
                     · rw [z, bw_up_s]; have := hw9 _ hb; omega
                     · rw [bw_up_o z]; exact hw9 i hi
                   · rw [pfx_s (hy c_16)]
                     unfold pfs
                     rw [if_neg hc0]
                     unfold chA
                     rw [if_pos h2]; exact if_pos c2)
                | (have h2 : ¬ k % 2 = 0 := fun z => c_23 (m2_0.mpr z)
                   have c1 : decide (wr (ch k - 1) < 9) = true := c_64
                   have c2 := of_decide_eq_true c1
                   have hp := mr_p (p := 71) (F := gdF (bw_i g 71) 0 (ch k - 1)) hg (by decide)
                   refine K _ true (bw_up wr (ch k - 1) (wr (ch k - 1) + 1)) ⟨⟨hp.1, frX_t hf hp.2, fun q hq => by rw [i_sa_o hq]; exact hsm q hq⟩, by rw [i_sa_s]; exact gdF_0 hmv hkW hb c1, fun i hi => ?_, fun _ => ?_, fun z => Bool.noConfusion z⟩
                   · by_cases z : i = ch k - 1
                     · rw [z, bw_up_s]; omega
                     · rw [bw_up_o z]; exact hw9 i hi
                   · rw [pfx_s (hy c_16)]
                     unfold pfs
                     rw [if_neg hc0]
                     unfold chA
                     rw [if_neg h2]; exact if_pos c2)
  · skip
    intro g ok wr hv
    obtain ⟨⟨hg, hf, hsm⟩, hmv, hw9, hy, hn⟩ := hv
    have hkW := wrC_k hkC hw9
    show bw_go _ _ _ _ _ _ _ 9 [(4, .int _), (3, .int _), (0, .ref _), (1, .int _), (2, .int _)] ([]) _ _
    refine go_iload dX8_goChoices_9 rfl ?_
    refine go_iload_n dX8_goChoices_11 rfl ?_
    refine go_icmp_ge (pc' := 102) dX8_goChoices_12 rfl (fun c_12 => ?_) (fun c_12 => ?_)
    · -- ge at 12: yes
      show bw_go _ _ _ _ _ _ _ 102 [(4, .int _), (3, .int _), (0, .ref _), (1, .int _), (2, .int _)] ([]) _ _
      refine go_iload_n dX8_goChoices_102 rfl ?_
      refine go_ifb_eq (pc' := 122) dX8_goChoices_103 rfl (fun c_103 => ?_) (fun c_103 => ?_)
      · -- eq at 103: yes
        show bw_go _ _ _ _ _ _ _ 122 [(4, .int _), (3, .int _), (0, .ref _), (1, .int _), (2, .int _)] ([]) _ _
        refine go_ldc dX8_goChoices_122 kc_8_201 ?_
        refine go_iret dX8_goChoices_124 rfl rfl ?_
        have hR := hQ g hg hf hsm
        first
        | (have z : ok = false := c_103
           rw [VV_n (hn z), if_pos rfl] at hR; exact hR)
        | (have z : ok = true := c_103
           rw [VV_y (hy z), Nat.sub_self] at hR; exact hR)
      · -- eq at 103: no
        show bw_go _ _ _ _ _ _ _ 106 [(4, .int _), (3, .int _), (0, .ref _), (1, .int _), (2, .int _)] ([]) _ _
        refine go_aload_n dX8_goChoices_106 rfl ?_
        refine go_aload_n dX8_goChoices_107 rfl ?_
        refine go_gfr dX8_goChoices_108 fl_8_45 rfl (ms_lt hg.1 (by decide)) hg.1.1.2 hg.1.2.1.2.2.2.2.2.2.2.2.2.2.1 ?_
        refine go_aload_n dX8_goChoices_111 rfl ?_
        refine go_cv (as := []) 0 dX8_goChoices_112 mt_8_194 (Or.inl rfl) rfl rfl (ms_lt hg.1 (by decide)) hg.1.1.2 (Nat.le_of_ble_eq_true rfl) (Nat.le_of_ble_eq_true rfl) (Nat.le_of_ble_eq_true rfl) (Nat.le_of_ble_eq_true rfl) (Nat.le_of_ble_eq_true rfl) ?_
        refine me_X8_allBears hg ?_
        show bw_go _ _ _ _ _ _ _ 115 [(4, .int _), (3, .int _), (0, .ref _), (1, .int _), (2, .int _)] ((.int _) :: (.ref _) :: (.ref _) :: []) _ _
        refine go_iload_n dX8_goChoices_115 rfl ?_
        refine go_cv (as := [.ref _, .int _, .int _]) 5 dX8_goChoices_116 mt_8_150 (Or.inl rfl) rfl rfl (ms_lt hg.1 (by decide)) hg.1.1.2 (Nat.le_of_ble_eq_true rfl) (Nat.le_of_ble_eq_true rfl) (Nat.le_of_ble_eq_true rfl) (Nat.le_of_ble_eq_true rfl) (Nat.le_of_ble_eq_true rfl) ?_
        refine me_X8_balance hg.1 (ms_lt hg.1 (by decide)) hg.1.2.2.2.2.2.2.2.2.2.2.2.2.1 hmv hkW (by omega) hx ?_
        rw [wrC_b _ _ _ _ hx]
        show bw_go _ _ _ _ _ _ _ 119 [(4, .int _), (3, .int _), (0, .ref _), (1, .int _), (2, .int _)] ((.int _) :: []) _ _
        refine go_goto (pc' := 124) dX8_goChoices_119 rfl ?_
        show bw_go _ _ _ _ _ _ _ 124 [(4, .int _), (3, .int _), (0, .ref _), (1, .int _), (2, .int _)] ((.int _) :: []) _ _
        refine go_iret dX8_goChoices_124 rfl rfl ?_
        have hR := hQ g hg hf hsm
        first
        | (have z : ok = false := c_103
           rw [VV_n (hn z), if_pos rfl] at hR; exact hR)
        | (have z : ok = true := c_103
           rw [VV_y (hy z), Nat.sub_self] at hR; exact hR)
    · -- ge at 12: no
      exfalso; have t_0 := nI_toInt (n := T) (by omega); simp only [i_le, i_lt, i_eq, bi_eq] at c_12; omega
