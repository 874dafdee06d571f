/-! constructors: the other parts, BearWitness -/
def m1f (k : Nat) : Nat → Int32 := fun r => if r < k then -1 else 0
theorem m1f_s (k : Nat) : bw_up (m1f k) k (-1) = m1f (k + 1) := by
  funext r
  unfold bw_up m1f
  by_cases e : r = k
  · rw [if_pos e, if_pos (by omega)]
  · rw [if_neg e]
    by_cases e2 : r < k
    · rw [if_pos e2, if_pos (by omega)]
    · rw [if_neg e2, if_neg (by omega)]
def shi (h g : bw_H) (p num wid k : Nat) : Prop := bw_n g = p + 5 ∧ (bw_sf g p num wid ∧ bw_i g (p + 2) = m1f k) ∧ ∀ q, q < p → sm4 h g q
set_option maxRecDepth 100000 in
set_option maxHeartbeats 4000000 in
theorem me_X2_init {X : Nat × (Nat → Int32)} {Q : Option Value → bw_H → Prop} {h : bw_H} {p : Nat} (hp : bw_n h = p + 1) (hk : bw_k h p = .inl 2) (hQ : ∀ g, ob h g p 2 1 (fun _ => 8) 3 (bw_i g p) → Q none g) : bw_me X 1 bm_X2_init true [.ref p] h Q := by
  have hlt : p < bw_n h := by omega
  have hkk := hk
  show bw_go _ 1 2 1 true none cX2_init 0 [(0, .ref _)] [] _ _
  refine go_aload_n dX2_init_0 rfl ?_
  refine go_oi dX2_init_1 rfl (Nat.le_of_ble_eq_true rfl) ?_
  refine go_aload_n dX2_init_4 rfl ?_
  refine go_iconst (0) dX2_init_5 rfl ?_
  refine go_pfi dX2_init_6 fl_2_9 rfl hlt hkk (Nat.le_of_ble_eq_true rfl) (Or.inl rfl) ?_
  show bw_go _ _ _ _ _ _ _ 9 [(0, .ref _)] ([]) _ _
  have ho : ob h (bw_si h p 0 0) p 2 1 (fun _ => 8) 0 (bw_i (bw_si h p 0 0) p) := ⟨by show bw_n h = _; omega, hk, rfl, fun i hi => absurd hi (Nat.not_lt_zero i), fun q hq => sm4_t (sm4_r _ _) (si_o (by omega))⟩
  refine go_aload_n dX2_init_9 rfl ?_
  refine go_new dX2_init_10 (c := 0) rfl (Nat.le_of_ble_eq_true rfl) ?_
  rw [ho.1]
  refine go_dupA dX2_init_13 ?_
  refine go_bipush (8) dX2_init_14 rfl ?_
  refine go_ci (as := [.int _]) 0 dX2_init_16 rfl mt_2_17 (Or.inr rfl) rfl rfl rfl rfl (Nat.le_of_ble_eq_true rfl) (Nat.le_of_ble_eq_true rfl) (Nat.le_of_ble_eq_true rfl) (Nat.le_of_ble_eq_true rfl) ?_
  rw [show (8 : Int32) = nI 8 from rfl]
  refine me_X0_init (p := p + 1 + 2 * 0) (N := 8) (by show bw_n _ + 1 = _; rw [ho.1]) (by rw [← ho.1]; exact nwk_ _ _ _) (by first | decide | omega) (fun g hn hce hz hf => ?_)
  have hlt : p < bw_n g := by omega
  have hkk : bw_k g p = .inl 2 := ob_k ho hf
  have ho := ob_s ho hn hce hz hf
  show bw_go _ _ _ _ _ _ _ 19 [(0, .ref _)] ((.ref _) :: (.ref _) :: []) _ _
  refine go_pfr dX2_init_19 fl_2_20 (Or.inl ⟨_, rfl⟩) hlt hkk (Nat.le_of_ble_eq_true rfl) ⟨rfl, rfl, rfl⟩ ?_
  show bw_go _ _ _ _ _ _ _ 22 [(0, .ref _)] ([]) _ _
  refine go_aload_n dX2_init_22 rfl ?_
  refine go_new dX2_init_23 (c := 0) rfl (Nat.le_of_ble_eq_true rfl) ?_
  rw [ho.1]
  refine go_dupA dX2_init_26 ?_
  refine go_bipush (8) dX2_init_27 rfl ?_
  refine go_ci (as := [.int _]) 0 dX2_init_29 rfl mt_2_17 (Or.inr rfl) rfl rfl rfl rfl (Nat.le_of_ble_eq_true rfl) (Nat.le_of_ble_eq_true rfl) (Nat.le_of_ble_eq_true rfl) (Nat.le_of_ble_eq_true rfl) ?_
  rw [show (8 : Int32) = nI 8 from rfl]
  refine me_X0_init (p := p + 1 + 2 * 1) (N := 8) (by show bw_n _ + 1 = _; rw [ho.1]) (by rw [← ho.1]; exact nwk_ _ _ _) (by first | decide | omega) (fun g hn hce hz hf => ?_)
  have hlt : p < bw_n g := by omega
  have hkk : bw_k g p = .inl 2 := ob_k ho hf
  have ho := ob_s ho hn hce hz hf
  show bw_go _ _ _ _ _ _ _ 32 [(0, .ref _)] ((.ref _) :: (.ref _) :: []) _ _
  refine go_pfr dX2_init_32 fl_2_24 (Or.inl ⟨_, rfl⟩) hlt hkk (Nat.le_of_ble_eq_true rfl) ⟨rfl, rfl, rfl⟩ ?_
  show bw_go _ _ _ _ _ _ _ 35 [(0, .ref _)] ([]) _ _
  refine go_aload_n dX2_init_35 rfl ?_
  refine go_new dX2_init_36 (c := 0) rfl (Nat.le_of_ble_eq_true rfl) ?_
  rw [ho.1]
  refine go_dupA dX2_init_39 ?_
  refine go_bipush (8) dX2_init_40 rfl ?_
  refine go_ci (as := [.int _]) 0 dX2_init_42 rfl mt_2_17 (Or.inr rfl) rfl rfl rfl rfl (Nat.le_of_ble_eq_true rfl) (Nat.le_of_ble_eq_true rfl) (Nat.le_of_ble_eq_true rfl) (Nat.le_of_ble_eq_true rfl) ?_
  rw [show (8 : Int32) = nI 8 from rfl]
  refine me_X0_init (p := p + 1 + 2 * 2) (N := 8) (by show bw_n _ + 1 = _; rw [ho.1]) (by rw [← ho.1]; exact nwk_ _ _ _) (by first | decide | omega) (fun g hn hce hz hf => ?_)
  have hlt : p < bw_n g := by omega
  have hkk : bw_k g p = .inl 2 := ob_k ho hf
  have ho := ob_s ho hn hce hz hf
  show bw_go _ _ _ _ _ _ _ 45 [(0, .ref _)] ((.ref _) :: (.ref _) :: []) _ _
  refine go_pfr dX2_init_45 fl_2_27 (Or.inl ⟨_, rfl⟩) hlt hkk (Nat.le_of_ble_eq_true rfl) ⟨rfl, rfl, rfl⟩ ?_
  show bw_go _ _ _ _ _ _ _ 48 [(0, .ref _)] ([]) _ _
  refine go_vret dX2_init_48 rfl ?_
  have e3 := ho.2.2.1
  refine hQ _ ?_
  rw [e3]; exact ho
set_option maxRecDepth 100000 in
set_option maxHeartbeats 4000000 in
theorem me_X5_init {X : Nat × (Nat → Int32)} {Q : Option Value → bw_H → Prop} {h : bw_H} {p : Nat} (hp : bw_n h = p + 1) (hk : bw_k h p = .inl 5) (hQ : ∀ g, ob h g p 5 1 (fun _ => 6) 2 (bw_i g p) → Q none g) : bw_me X 1 bm_X5_init true [.ref p] h Q := by
  have hlt : p < bw_n h := by omega
  have hkk := hk
  show bw_go _ 1 5 1 true none cX5_init 0 [(0, .ref _)] [] _ _
  refine go_aload_n dX5_init_0 rfl ?_
  refine go_oi dX5_init_1 rfl (Nat.le_of_ble_eq_true rfl) ?_
  refine go_aload_n dX5_init_4 rfl ?_
  refine go_iconst (0) dX5_init_5 rfl ?_
  refine go_pfi dX5_init_6 fl_5_9 rfl hlt hkk (Nat.le_of_ble_eq_true rfl) (Or.inl rfl) ?_
  show bw_go _ _ _ _ _ _ _ 9 [(0, .ref _)] ([]) _ _
  have ho : ob h (bw_si h p 0 0) p 5 1 (fun _ => 6) 0 (bw_i (bw_si h p 0 0) p) := ⟨by show bw_n h = _; omega, hk, rfl, fun i hi => absurd hi (Nat.not_lt_zero i), fun q hq => sm4_t (sm4_r _ _) (si_o (by omega))⟩
  refine go_aload_n dX5_init_9 rfl ?_
  refine go_new dX5_init_10 (c := 0) rfl (Nat.le_of_ble_eq_true rfl) ?_
  rw [ho.1]
  refine go_dupA dX5_init_13 ?_
  refine go_bipush (6) dX5_init_14 rfl ?_
  refine go_ci (as := [.int _]) 0 dX5_init_16 rfl mt_5_17 (Or.inr rfl) rfl rfl rfl rfl (Nat.le_of_ble_eq_true rfl) (Nat.le_of_ble_eq_true rfl) (Nat.le_of_ble_eq_true rfl) (Nat.le_of_ble_eq_true rfl) ?_
  rw [show (6 : Int32) = nI 6 from rfl]
  refine me_X0_init (p := p + 1 + 2 * 0) (N := 6) (by show bw_n _ + 1 = _; rw [ho.1]) (by rw [← ho.1]; exact nwk_ _ _ _) (by first | decide | omega) (fun g hn hce hz hf => ?_)
  have hlt : p < bw_n g := by omega
  have hkk : bw_k g p = .inl 5 := ob_k ho hf
  have ho := ob_s ho hn hce hz hf
  show bw_go _ _ _ _ _ _ _ 19 [(0, .ref _)] ((.ref _) :: (.ref _) :: []) _ _
  refine go_pfr dX5_init_19 fl_5_20 (Or.inl ⟨_, rfl⟩) hlt hkk (Nat.le_of_ble_eq_true rfl) ⟨rfl, rfl, rfl⟩ ?_
  show bw_go _ _ _ _ _ _ _ 22 [(0, .ref _)] ([]) _ _
  refine go_aload_n dX5_init_22 rfl ?_
  refine go_new dX5_init_23 (c := 0) rfl (Nat.le_of_ble_eq_true rfl) ?_
  rw [ho.1]
  refine go_dupA dX5_init_26 ?_
  refine go_bipush (6) dX5_init_27 rfl ?_
  refine go_ci (as := [.int _]) 0 dX5_init_29 rfl mt_5_17 (Or.inr rfl) rfl rfl rfl rfl (Nat.le_of_ble_eq_true rfl) (Nat.le_of_ble_eq_true rfl) (Nat.le_of_ble_eq_true rfl) (Nat.le_of_ble_eq_true rfl) ?_
  rw [show (6 : Int32) = nI 6 from rfl]
  refine me_X0_init (p := p + 1 + 2 * 1) (N := 6) (by show bw_n _ + 1 = _; rw [ho.1]) (by rw [← ho.1]; exact nwk_ _ _ _) (by first | decide | omega) (fun g hn hce hz hf => ?_)
  have hlt : p < bw_n g := by omega
  have hkk : bw_k g p = .inl 5 := ob_k ho hf
  have ho := ob_s ho hn hce hz hf
  show bw_go _ _ _ _ _ _ _ 32 [(0, .ref _)] ((.ref _) :: (.ref _) :: []) _ _
  refine go_pfr dX5_init_32 fl_5_24 (Or.inl ⟨_, rfl⟩) hlt hkk (Nat.le_of_ble_eq_true rfl) ⟨rfl, rfl, rfl⟩ ?_
  show bw_go _ _ _ _ _ _ _ 35 [(0, .ref _)] ([]) _ _
  refine go_vret dX5_init_35 rfl ?_
  have e3 := ho.2.2.1
  refine hQ _ ?_
  rw [e3]; exact ho
set_option maxRecDepth 100000 in
set_option maxHeartbeats 4000000 in
theorem me_X6_init {X : Nat × (Nat → Int32)} {Q : Option Value → bw_H → Prop} {h : bw_H} {p : Nat} (hp : bw_n h = p + 1) (hk : bw_k h p = .inl 6) (hQ : ∀ g, ob h g p 6 3 (fun i => if i = 0 then 6 else if i = 1 then 60 else 4) 3 (bw_i g p) → Q none g) : bw_me X 1 bm_X6_init true [.ref p] h Q := by
  have hlt : p < bw_n h := by omega
  have hkk := hk
  show bw_go _ 1 6 1 true none cX6_init 0 [(0, .ref _)] [] _ _
  refine go_aload_n dX6_init_0 rfl ?_
  refine go_oi dX6_init_1 rfl (Nat.le_of_ble_eq_true rfl) ?_
  refine go_aload_n dX6_init_4 rfl ?_
  refine go_iconst (0) dX6_init_5 rfl ?_
  refine go_pfi dX6_init_6 fl_6_9 rfl hlt hkk (Nat.le_of_ble_eq_true rfl) (Or.inl rfl) ?_
  show bw_go _ _ _ _ _ _ _ 9 [(0, .ref _)] ([]) _ _
  refine go_aload_n dX6_init_9 rfl ?_
  refine go_iconst (0) dX6_init_10 rfl ?_
  refine go_pfi dX6_init_11 fl_6_15 rfl hlt hkk (Nat.le_of_ble_eq_true rfl) (Or.inl rfl) ?_
  show bw_go _ _ _ _ _ _ _ 14 [(0, .ref _)] ([]) _ _
  refine go_aload_n dX6_init_14 rfl ?_
  refine go_iconst (0) dX6_init_15 rfl ?_
  refine go_pfi dX6_init_16 fl_6_18 rfl hlt hkk (Nat.le_of_ble_eq_true rfl) (Or.inl rfl) ?_
  show bw_go _ _ _ _ _ _ _ 19 [(0, .ref _)] ([]) _ _
  have ho : ob h (bw_si (bw_si (bw_si h p 0 0) p 1 0) p 2 0) p 6 3 (fun i => if i = 0 then 6 else if i = 1 then 60 else 4) 0 (bw_i (bw_si (bw_si (bw_si h p 0 0) p 1 0) p 2 0) p) := ⟨by show bw_n h = _; omega, hk, rfl, fun i hi => absurd hi (Nat.not_lt_zero i), fun q hq => sm4_t (sm4_t (sm4_t (sm4_r _ _) (si_o (by omega))) (si_o (by omega))) (si_o (by omega))⟩
  refine go_aload_n dX6_init_19 rfl ?_
  refine go_new dX6_init_20 (c := 0) rfl (Nat.le_of_ble_eq_true rfl) ?_
  rw [ho.1]
  refine go_dupA dX6_init_23 ?_
  refine go_bipush (6) dX6_init_24 rfl ?_
  refine go_ci (as := [.int _]) 0 dX6_init_26 rfl mt_6_23 (Or.inr rfl) rfl rfl rfl rfl (Nat.le_of_ble_eq_true rfl) (Nat.le_of_ble_eq_true rfl) (Nat.le_of_ble_eq_true rfl) (Nat.le_of_ble_eq_true rfl) ?_
  rw [show (6 : Int32) = nI 6 from rfl]
  refine me_X0_init (p := p + 1 + 2 * 0) (N := 6) (by show bw_n _ + 1 = _; rw [ho.1]) (by rw [← ho.1]; exact nwk_ _ _ _) (by first | decide | omega) (fun g hn hce hz hf => ?_)
  have hlt : p < bw_n g := by omega
  have hkk : bw_k g p = .inl 6 := ob_k ho hf
  have ho := ob_s ho hn hce hz hf
  show bw_go _ _ _ _ _ _ _ 29 [(0, .ref _)] ((.ref _) :: (.ref _) :: []) _ _
  refine go_pfr dX6_init_29 fl_6_26 (Or.inl ⟨_, rfl⟩) hlt hkk (Nat.le_of_ble_eq_true rfl) ⟨rfl, rfl, rfl⟩ ?_
  show bw_go _ _ _ _ _ _ _ 32 [(0, .ref _)] ([]) _ _
  refine go_aload_n dX6_init_32 rfl ?_
  refine go_new dX6_init_33 (c := 0) rfl (Nat.le_of_ble_eq_true rfl) ?_
  rw [ho.1]
  refine go_dupA dX6_init_36 ?_
  refine go_bipush (60) dX6_init_37 rfl ?_
  refine go_ci (as := [.int _]) 0 dX6_init_39 rfl mt_6_23 (Or.inr rfl) rfl rfl rfl rfl (Nat.le_of_ble_eq_true rfl) (Nat.le_of_ble_eq_true rfl) (Nat.le_of_ble_eq_true rfl) (Nat.le_of_ble_eq_true rfl) ?_
  rw [show (60 : Int32) = nI 60 from rfl]
  refine me_X0_init (p := p + 1 + 2 * 1) (N := 60) (by show bw_n _ + 1 = _; rw [ho.1]) (by rw [← ho.1]; exact nwk_ _ _ _) (by first | decide | omega) (fun g hn hce hz hf => ?_)
  have hlt : p < bw_n g := by omega
  have hkk : bw_k g p = .inl 6 := ob_k ho hf
  have ho := ob_s ho hn hce hz hf
  show bw_go _ _ _ _ _ _ _ 42 [(0, .ref _)] ((.ref _) :: (.ref _) :: []) _ _
  refine go_pfr dX6_init_42 fl_6_30 (Or.inl ⟨_, rfl⟩) hlt hkk (Nat.le_of_ble_eq_true rfl) ⟨rfl, rfl, rfl⟩ ?_
  show bw_go _ _ _ _ _ _ _ 45 [(0, .ref _)] ([]) _ _
  refine go_aload_n dX6_init_45 rfl ?_
  refine go_new dX6_init_46 (c := 0) rfl (Nat.le_of_ble_eq_true rfl) ?_
  rw [ho.1]
  refine go_dupA dX6_init_49 ?_
  refine go_iconst (4) dX6_init_50 rfl ?_
  refine go_ci (as := [.int _]) 0 dX6_init_51 rfl mt_6_23 (Or.inr rfl) rfl rfl rfl rfl (Nat.le_of_ble_eq_true rfl) (Nat.le_of_ble_eq_true rfl) (Nat.le_of_ble_eq_true rfl) (Nat.le_of_ble_eq_true rfl) ?_
  rw [show (4 : Int32) = nI 4 from rfl]
  refine me_X0_init (p := p + 1 + 2 * 2) (N := 4) (by show bw_n _ + 1 = _; rw [ho.1]) (by rw [← ho.1]; exact nwk_ _ _ _) (by first | decide | omega) (fun g hn hce hz hf => ?_)
  have hlt : p < bw_n g := by omega
  have hkk : bw_k g p = .inl 6 := ob_k ho hf
  have ho := ob_s ho hn hce hz hf
  show bw_go _ _ _ _ _ _ _ 54 [(0, .ref _)] ((.ref _) :: (.ref _) :: []) _ _
  refine go_pfr dX6_init_54 fl_6_33 (Or.inl ⟨_, rfl⟩) hlt hkk (Nat.le_of_ble_eq_true rfl) ⟨rfl, rfl, rfl⟩ ?_
  show bw_go _ _ _ _ _ _ _ 57 [(0, .ref _)] ([]) _ _
  refine go_vret dX6_init_57 rfl ?_
  have e3 := ho.2.2.1
  refine hQ _ ?_
  rw [e3]; exact ho
theorem ob_lk {h0 g : bw_H} {p : Nat} {I0 : Nat → Int32} (ho : ob h0 g p 2 1 (fun _ => 8) 3 I0) : lk_s g p := by
  have o := ho.2.2.2.1
  exact ⟨⟨by have := ho.1; omega, ho.2.1, (o 0 (by decide)).1, (o 1 (by decide)).1, (o 2 (by decide)).1⟩, (o 0 (by decide)).2.1, (o 1 (by decide)).2.1, (o 2 (by decide)).2.1⟩
theorem ob_ta {h0 g : bw_H} {p : Nat} {I0 : Nat → Int32} (ho : ob h0 g p 5 1 (fun _ => 6) 2 I0) : ta_s g p := by
  have o := ho.2.2.2.1
  exact ⟨⟨by have := ho.1; omega, ho.2.1, (o 0 (by decide)).1, (o 1 (by decide)).1⟩, (o 0 (by decide)).2.1, (o 1 (by decide)).2.1⟩
theorem ob_tt {h0 g : bw_H} {p : Nat} {I0 : Nat → Int32} (ho : ob h0 g p 6 3 (fun i => if i = 0 then 6 else if i = 1 then 60 else 4) 3 I0) : tt_s g p := by
  have o := ho.2.2.2.1
  exact ⟨⟨by have := ho.1; omega, ho.2.1, (o 0 (by decide)).1, (o 1 (by decide)).1, (o 2 (by decide)).1⟩, (o 0 (by decide)).2.1, (o 1 (by decide)).2.1, (o 2 (by decide)).2.1⟩
set_option maxRecDepth 100000 in
set_option maxHeartbeats 4000000 in
theorem me_X3_init {X : Nat × (Nat → Int32)} {Q : Option Value → bw_H → Prop} {h : bw_H} {p : Nat} (hp : bw_n h = p + 1) (hk : bw_k h p = .inl 3) (hQ : ∀ g, bw_n g = p + 3 → bw_k g p = .inl 3 → bw_r g p 0 = some (p + 1) → bw_ce g (p + 1) (p + 2) 60 → (∀ q, q < p → sm4 h g q) → Q none g) : bw_me X 1 bm_X3_init true [.ref p] h Q := by
  have hlt : p < bw_n h := by omega
  have hkk := hk
  show bw_go _ 1 3 1 true none cX3_init 0 [(0, .ref _)] [] _ _
  refine go_aload_n dX3_init_0 rfl ?_
  refine go_oi dX3_init_1 rfl (Nat.le_of_ble_eq_true rfl) ?_
  have ho : ob h h p 3 0 (fun _ => 60) 0 (bw_i h p) := ⟨by show bw_n h = _; omega, hk, rfl, fun i hi => absurd hi (Nat.not_lt_zero i), fun q hq => sm4_r _ _⟩
  refine go_aload_n dX3_init_4 rfl ?_
  refine go_new dX3_init_5 (c := 0) rfl (Nat.le_of_ble_eq_true rfl) ?_
  rw [ho.1]
  refine go_dupA dX3_init_8 ?_
  refine go_bipush (60) dX3_init_9 rfl ?_
  refine go_ci (as := [.int _]) 0 dX3_init_11 rfl mt_3_11 (Or.inr rfl) rfl rfl rfl rfl (Nat.le_of_ble_eq_true rfl) (Nat.le_of_ble_eq_true rfl) (Nat.le_of_ble_eq_true rfl) (Nat.le_of_ble_eq_true rfl) ?_
  rw [show (60 : Int32) = nI 60 from rfl]
  refine me_X0_init (p := p + 1 + 2 * 0) (N := 60) (by show bw_n _ + 1 = _; rw [ho.1]) (by rw [← ho.1]; exact nwk_ _ _ _) (by first | decide | omega) (fun g hn hce hz hf => ?_)
  have hlt : p < bw_n g := by omega
  have hkk : bw_k g p = .inl 3 := ob_k ho hf
  have ho := ob_s ho hn hce hz hf
  show bw_go _ _ _ _ _ _ _ 14 [(0, .ref _)] ((.ref _) :: (.ref _) :: []) _ _
  refine go_pfr dX3_init_14 fl_3_14 (Or.inl ⟨_, rfl⟩) hlt hkk (Nat.le_of_ble_eq_true rfl) ⟨rfl, rfl, rfl⟩ ?_
  show bw_go _ _ _ _ _ _ _ 17 [(0, .ref _)] ([]) _ _
  refine go_aload_n dX3_init_17 rfl ?_
  refine go_iconst (0) dX3_init_18 rfl ?_
  refine go_pfi dX3_init_19 fl_3_20 rfl hlt hkk (Nat.le_of_ble_eq_true rfl) (Or.inl rfl) ?_
  show bw_go _ _ _ _ _ _ _ 22 [(0, .ref _)] ([]) _ _
  refine go_aload_n dX3_init_22 rfl ?_
  refine go_iconst (0) dX3_init_23 rfl ?_
  refine go_pfi dX3_init_24 fl_3_24 rfl hlt hkk (Nat.le_of_ble_eq_true rfl) (Or.inl rfl) ?_
  show bw_go _ _ _ _ _ _ _ 27 [(0, .ref _)] ([]) _ _
  refine go_aload_n dX3_init_27 rfl ?_
  refine go_bipush (-9) dX3_init_28 rfl ?_
  refine go_pfi dX3_init_30 fl_3_27 rfl hlt hkk (Nat.le_of_ble_eq_true rfl) (Or.inl rfl) ?_
  show bw_go _ _ _ _ _ _ _ 33 [(0, .ref _)] ([]) _ _
  refine go_vret dX3_init_33 rfl ?_
  have o := ho.2.2.2.1 0 (by decide)
  exact hQ _ ho.1 ho.2.1 o.1 o.2.1 (fun q hq => sm4_t (ho.2.2.2.2 q hq) (sm4_t (sm4_t (si_o (by omega)) (si_o (by omega))) (si_o (by omega))))
set_option maxRecDepth 100000 in
set_option maxHeartbeats 4000000 in
theorem me_X4_init {X : Nat × (Nat → Int32)} {Q : Option Value → bw_H → Prop} {h : bw_H} {p num wid : Nat} (hp : bw_n h = p + 1) (hk : bw_k h p = .inl 4) (hnum : num < 100) (hwid : wid < 100) (hQ : ∀ g, shi h g p num wid num → Q none g) : bw_me X 1 bm_X4_init true [.ref p, .int (nI num), .int (nI wid)] h Q := by
  have hlt : p < bw_n h := by omega
  have hkk := hk
  have hnw : num * wid < 60000 := Nat.lt_of_le_of_lt (Nat.mul_le_mul (Nat.le_of_lt hnum) (Nat.le_of_lt hwid)) (by decide)
  show bw_go _ 1 4 4 true none cX4_init 0 [(0, .ref _), (1, .int _), (2, .int _)] [] _ _
  refine go_aload_n dX4_init_0 rfl ?_
  refine go_oi dX4_init_1 rfl (Nat.le_of_ble_eq_true rfl) ?_
  refine go_aload_n dX4_init_4 rfl ?_
  refine go_iload_n dX4_init_5 rfl ?_
  refine go_pfi dX4_init_6 fl_4_7 rfl hlt hkk (Nat.le_of_ble_eq_true rfl) (Or.inr ⟨rfl, rfl, rfl⟩) ?_
  show bw_go _ _ _ _ _ _ _ 9 [(0, .ref _), (1, .int _), (2, .int _)] ([]) _ _
  refine go_aload_n dX4_init_9 rfl ?_
  refine go_iload_n dX4_init_10 rfl ?_
  refine go_pfi dX4_init_11 fl_4_13 rfl hlt hkk (Nat.le_of_ble_eq_true rfl) (Or.inr ⟨rfl, rfl, rfl⟩) ?_
  show bw_go _ _ _ _ _ _ _ 14 [(0, .ref _), (1, .int _), (2, .int _)] ([]) _ _
  have ho : ob h (bw_si (bw_si h p 0 (nI num)) p 1 (nI wid)) p 4 2 (fun i => if i = 0 then num else num * wid) 0 (bw_i (bw_si (bw_si h p 0 (nI num)) p 1 (nI wid)) p) := ⟨by show bw_n h = _; omega, hk, rfl, fun i hi => absurd hi (Nat.not_lt_zero i), fun q hq => sm4_t (sm4_t (sm4_r _ _) (si_o (by omega))) (si_o (by omega))⟩
  refine go_aload_n dX4_init_14 rfl ?_
  refine go_new dX4_init_15 (c := 0) rfl (Nat.le_of_ble_eq_true rfl) ?_
  rw [ho.1]
  refine go_dupA dX4_init_18 ?_
  refine go_iload_n dX4_init_19 rfl ?_
  refine go_ci (as := [.int _]) 0 dX4_init_20 rfl mt_4_18 (Or.inr rfl) rfl rfl rfl rfl (Nat.le_of_ble_eq_true rfl) (Nat.le_of_ble_eq_true rfl) (Nat.le_of_ble_eq_true rfl) (Nat.le_of_ble_eq_true rfl) ?_
  refine me_X0_init (p := p + 1 + 2 * 0) (N := num) (by show bw_n _ + 1 = _; rw [ho.1]) (by rw [← ho.1]; exact nwk_ _ _ _) (by first | omega | assumption) (fun g hn hce hz hf => ?_)
  have hlt : p < bw_n g := by omega
  have hkk : bw_k g p = .inl 4 := ob_k ho hf
  have ho := ob_s ho hn hce hz hf
  show bw_go _ _ _ _ _ _ _ 23 [(0, .ref _), (1, .int _), (2, .int _)] ((.ref _) :: (.ref _) :: []) _ _
  refine go_pfr dX4_init_23 fl_4_21 (Or.inl ⟨_, rfl⟩) hlt hkk (Nat.le_of_ble_eq_true rfl) ⟨rfl, rfl, rfl⟩ ?_
  show bw_go _ _ _ _ _ _ _ 26 [(0, .ref _), (1, .int _), (2, .int _)] ([]) _ _
  refine go_aload_n dX4_init_26 rfl ?_
  refine go_new dX4_init_27 (c := 0) rfl (Nat.le_of_ble_eq_true rfl) ?_
  rw [ho.1]
  refine go_dupA dX4_init_30 ?_
  refine go_iload_n dX4_init_31 rfl ?_
  refine go_iload_n dX4_init_32 rfl ?_
  refine go_imul dX4_init_33 ?_
  rw [nmul]
  refine go_ci (as := [.int _]) 0 dX4_init_34 rfl mt_4_18 (Or.inr rfl) rfl rfl rfl rfl (Nat.le_of_ble_eq_true rfl) (Nat.le_of_ble_eq_true rfl) (Nat.le_of_ble_eq_true rfl) (Nat.le_of_ble_eq_true rfl) ?_
  refine me_X0_init (p := p + 1 + 2 * 1) (N := num * wid) (by show bw_n _ + 1 = _; rw [ho.1]) (by rw [← ho.1]; exact nwk_ _ _ _) (by first | omega | assumption) (fun g hn hce hz hf => ?_)
  have hlt : p < bw_n g := by omega
  have hkk : bw_k g p = .inl 4 := ob_k ho hf
  have ho := ob_s ho hn hce hz hf
  show bw_go _ _ _ _ _ _ _ 37 [(0, .ref _), (1, .int _), (2, .int _)] ((.ref _) :: (.ref _) :: []) _ _
  refine go_pfr dX4_init_37 fl_4_25 (Or.inl ⟨_, rfl⟩) hlt hkk (Nat.le_of_ble_eq_true rfl) ⟨rfl, rfl, rfl⟩ ?_
  show bw_go _ _ _ _ _ _ _ 40 [(0, .ref _), (1, .int _), (2, .int _)] ([]) _ _
  have o := ho.2.2.2.1
  have e3 := ho.2.2.1
  have hv0 : shi h (bw_sr g p (2 + 1) (some (p + 1 + 2 * 1))) p num wid 0 := by
    refine ⟨ho.1, ⟨⟨⟨by show p < bw_n g; omega, ho.2.1, (o 0 (by decide)).1, (o 1 (by decide)).1⟩, (o 0 (by decide)).2.1, (o 1 (by decide)).2.1, ?_, ?_, hnum, hwid⟩, ?_⟩, ho.2.2.2.2⟩
    · rw [e3, i_si_s, i_si_s, bw_up_o (by decide), bw_up_s]
    · rw [e3, i_si_s, bw_up_s]
    · refine ((o 0 (by decide)).2.2).trans ?_
      funext r; unfold m1f; rw [if_neg (by omega)]
  refine go_iconst (0) dX4_init_40 rfl ?_
  refine go_istore_n dX4_init_41 (Nat.lt_of_lt_of_le (Nat.lt_succ_self _) (Nat.le_of_ble_eq_true rfl)) ?_
  show bw_go _ _ _ _ _ _ _ 42 [(3, .int _), (0, .ref _), (1, .int _), (2, .int _)] ([]) _ _
  refine go_for (P := fun k => ∀ (g : bw_H), (shi h g p num wid k) → bw_go X 1 4 4 true none cX4_init 42 [(3, .int (nI k)), (0, .ref (p)), (1, .int (nI num)), (2, .int (nI wid))] [] g Q) (N := num) (fun k hk K => ?_) ?_ (0) (Nat.zero_le _) _ hv0
  · -- a turn
    intro g hv
    show bw_go _ _ _ _ _ _ _ 42 [(3, .int _), (0, .ref _), (1, .int _), (2, .int _)] ([]) _ _
    refine go_iload_n dX4_init_42 rfl ?_
    refine go_iload_n dX4_init_43 rfl ?_
    refine go_icmp_ge (pc' := 62) dX4_init_44 rfl (fun c_44 => ?_) (fun c_44 => ?_)
    · -- ge at 44: yes
      exfalso; have t_0 := nI_toInt (n := k) (by omega); have t_1 := nI_toInt (n := num) (by omega); simp only [i_le, i_lt, i_eq, bi_eq] at c_44; omega
    · -- ge at 44: no
      show bw_go _ _ _ _ _ _ _ 47 [(3, .int _), (0, .ref _), (1, .int _), (2, .int _)] ([]) _ _
      refine go_aload_n dX4_init_47 rfl ?_
      refine go_gfr dX4_init_48 fl_4_21 rfl hv.2.1.1.1.1 hv.2.1.1.1.2.1 hv.2.1.1.1.2.2.1 ?_
      refine go_iload_n dX4_init_51 rfl ?_
      refine go_iconst (-1) dX4_init_52 rfl ?_
      refine go_cv (as := [.int _, .int _]) 0 dX4_init_53 mt_4_28 (Or.inr rfl) rfl rfl hv.2.1.1.2.1.1 hv.2.1.1.2.1.2.1 (Nat.le_of_ble_eq_true rfl) (Nat.le_of_ble_eq_true rfl) (Nat.le_of_ble_eq_true rfl) (Nat.le_of_ble_eq_true rfl) (Nat.le_of_ble_eq_true rfl) ?_
      refine me_X0_set hv.2.1.1.2.1 ?_
      rw [cs_n hk (by omega), hv.2.1.2, m1f_s]
      show bw_go _ _ _ _ _ _ _ 56 [(3, .int _), (0, .ref _), (1, .int _), (2, .int _)] ([]) _ _
      refine go_iinc dX4_init_56 rfl (nI_1 k) (Nat.lt_of_lt_of_le (Nat.lt_succ_self _) (Nat.le_of_ble_eq_true rfl)) ?_
      show bw_go _ _ _ _ _ _ _ 59 [(3, .int _), (0, .ref _), (1, .int _), (2, .int _)] ([]) _ _
      refine go_goto (pc' := 42) dX4_init_59 rfl ?_
      refine K _ ⟨hv.1, ⟨sf_sa hv.2.1.1 (by omega), i_sa_s _ _ _⟩, fun q hq => sm4_t (hv.2.2 q hq) (sa_o (by omega))⟩
  · -- behind the last
    intro g hv
    show bw_go _ _ _ _ _ _ _ 42 [(3, .int _), (0, .ref _), (1, .int _), (2, .int _)] ([]) _ _
    refine go_iload_n dX4_init_42 rfl ?_
    refine go_iload_n dX4_init_43 rfl ?_
    refine go_icmp_ge (pc' := 62) dX4_init_44 rfl (fun c_44 => ?_) (fun c_44 => ?_)
    · -- ge at 44: yes
      show bw_go _ _ _ _ _ _ _ 62 [(3, .int _), (0, .ref _), (1, .int _), (2, .int _)] ([]) _ _
      refine go_vret dX4_init_62 rfl ?_
      exact hQ g hv
    · -- ge at 44: no
      exfalso; have t_0 := nI_toInt (n := num) (by omega); simp only [i_le, i_lt, i_eq, bi_eq] at c_44; omega
def S00 : ST := ((fun _ => none, fun _ _ => 0), (fun _ => none, fun _ _ => 0), ((0, 0, 0, 0, fun _ => 0, fun _ => 0, fun _ => 0, fun _ => 0), fun _ => 0, fun _ => 0), (fun _ => none), (fun _ => 0), 0, 0, 0, 1)
/-- the places after the making, named as the contracts name them: the reader's bytes last -/
def tS (q : Nat) : Nat := if q < 39 then q else if q < 41 then q + (60 - 39) else if q < 62 then q - 2 else q
def tT (q : Nat) : Nat := if q < 39 then q else if q < 60 then q + 2 else if q < 62 then q - (60 - 39) else q
theorem tS_lo {q : Nat} (h : q < 39) : tS q = q := by unfold tS; rw [if_pos h]
theorem tS_hi {q : Nat} (h : 41 ≤ q) (h2 : q < 62) : tS q = q - 2 := by unfold tS; rw [if_neg (by omega), if_neg (by omega), if_pos h2]
theorem t_p : sg_p tS tT 62 := by
  refine ⟨fun a => ?_, fun a => ?_, fun a ha => ?_, fun a ha => ?_⟩
  · unfold tS tT; repeat' split
    all_goals omega
  · unfold tS tT; repeat' split
    all_goals omega
  · unfold tS; rw [if_neg (by omega), if_neg (by omega), if_neg (by omega)]
  · unfold tT; rw [if_neg (by omega), if_neg (by omega), if_neg (by omega)]
abbrev nm (h : bw_H) : bw_H := sg_h tS tT h
theorem ce_rn {h : bw_H} {p q N : Nat} (hc : bw_ce h p q N) (hn : 62 ≤ bw_n h) : bw_ce (nm h) (tS p) (tS q) N := by
  obtain ⟨a1, a2, a3, a4, a5, a6⟩ := hc
  exact ⟨sg_lt t_p hn a1, by rw [sg_k t_p]; exact a2, by rw [sg_r t_p, a3]; rfl, sg_lt t_p hn a4, by rw [sg_k t_p]; exact a5, a6⟩
theorem ce_re {h : bw_H} {p q p2 q2 N : Nat} (hc : bw_ce h p q N) (hn : 62 ≤ bw_n h) (e1 : tS p = p2) (e2 : tS q = q2) : bw_ce (nm h) p2 q2 N := by
  subst e1; subst e2; exact ce_rn hc hn
theorem r_re {h : bw_H} {p p2 j v v2 : Nat} (hr : bw_r h p j = some v) (e1 : tS p = p2) (e2 : tS v = v2) : bw_r (nm h) p2 j = some v2 := by
  subst e1; subst e2
  rw [sg_r t_p, hr]; rfl
theorem k_re {h : bw_H} {p p2 : Nat} {k : bw_K} (hr : bw_k h p = k) (e1 : tS p = p2) : bw_k (nm h) p2 = k := by
  subst e1
  rw [sg_k t_p]; exact hr
theorem lt_re {h : bw_H} {p p2 : Nat} (hn : 62 ≤ bw_n h) (hr : p < bw_n h) (e1 : tS p = p2) : p2 < bw_n (nm h) := by
  subst e1
  exact sg_lt t_p hn hr
theorem co_re {h : bw_H} {p p2 : Nat} (hc : co_s h p) (hn : 62 ≤ bw_n h) (e : ∀ i, i ≤ 12 → tS (p + i) = p2 + i) : co_s (nm h) p2 := by
  obtain ⟨⟨a1, a2, a3, a4, a5, a6, a7, a8⟩, b1, b2, b3, b4, b5, b6⟩ := hc
  have e0 : tS p = p2 := e 0 (by decide)
  exact ⟨⟨lt_re hn a1 e0, k_re a2 e0, r_re a3 e0 (e 1 (by decide)), r_re a4 e0 (e 3 (by decide)), r_re a5 e0 (e 5 (by decide)), r_re a6 e0 (e 7 (by decide)), r_re a7 e0 (e 9 (by decide)), r_re a8 e0 (e 11 (by decide))⟩, ce_re b1 hn (e 1 (by decide)) (e 2 (by decide)), ce_re b2 hn (e 3 (by decide)) (e 4 (by decide)), ce_re b3 hn (e 5 (by decide)) (e 6 (by decide)), ce_re b4 hn (e 7 (by decide)) (e 8 (by decide)), ce_re b5 hn (e 9 (by decide)) (e 10 (by decide)), ce_re b6 hn (e 11 (by decide)) (e 12 (by decide))⟩
theorem lk_re {h : bw_H} {p p2 : Nat} (hc : lk_s h p) (hn : 62 ≤ bw_n h) (e : ∀ i, i ≤ 6 → tS (p + i) = p2 + i) : lk_s (nm h) p2 := by
  obtain ⟨⟨a1, a2, a3, a4, a5⟩, b1, b2, b3⟩ := hc
  have e0 : tS p = p2 := e 0 (by decide)
  exact ⟨⟨lt_re hn a1 e0, k_re a2 e0, r_re a3 e0 (e 1 (by decide)), r_re a4 e0 (e 3 (by decide)), r_re a5 e0 (e 5 (by decide))⟩, ce_re b1 hn (e 1 (by decide)) (e 2 (by decide)), ce_re b2 hn (e 3 (by decide)) (e 4 (by decide)), ce_re b3 hn (e 5 (by decide)) (e 6 (by decide))⟩
theorem tt_re {h : bw_H} {p p2 : Nat} (hc : tt_s h p) (hn : 62 ≤ bw_n h) (e : ∀ i, i ≤ 6 → tS (p + i) = p2 + i) : tt_s (nm h) p2 := by
  obtain ⟨⟨a1, a2, a3, a4, a5⟩, b1, b2, b3⟩ := hc
  have e0 : tS p = p2 := e 0 (by decide)
  exact ⟨⟨lt_re hn a1 e0, k_re a2 e0, r_re a3 e0 (e 1 (by decide)), r_re a4 e0 (e 3 (by decide)), r_re a5 e0 (e 5 (by decide))⟩, ce_re b1 hn (e 1 (by decide)) (e 2 (by decide)), ce_re b2 hn (e 3 (by decide)) (e 4 (by decide)), ce_re b3 hn (e 5 (by decide)) (e 6 (by decide))⟩
theorem ta_re {h : bw_H} {p p2 : Nat} (hc : ta_s h p) (hn : 62 ≤ bw_n h) (e : ∀ i, i ≤ 4 → tS (p + i) = p2 + i) : ta_s (nm h) p2 := by
  obtain ⟨⟨a1, a2, a3, a4⟩, b1, b2⟩ := hc
  have e0 : tS p = p2 := e 0 (by decide)
  exact ⟨⟨lt_re hn a1 e0, k_re a2 e0, r_re a3 e0 (e 1 (by decide)), r_re a4 e0 (e 3 (by decide))⟩, ce_re b1 hn (e 1 (by decide)) (e 2 (by decide)), ce_re b2 hn (e 3 (by decide)) (e 4 (by decide))⟩
theorem sf_re {h : bw_H} {p p2 num wid : Nat} (hc : bw_sf h p num wid) (hn : 62 ≤ bw_n h) (e : ∀ i, i ≤ 4 → tS (p + i) = p2 + i) : bw_sf (nm h) p2 num wid := by
  obtain ⟨⟨a1, a2, a3, a4⟩, b1, b2, b3, b4, b5, b6⟩ := hc
  have e0 : tS p = p2 := e 0 (by decide)
  refine ⟨⟨lt_re hn a1 e0, k_re a2 e0, r_re a3 e0 (e 1 (by decide)), r_re a4 e0 (e 3 (by decide))⟩, ce_re b1 hn (e 1 (by decide)) (e 2 (by decide)), ce_re b2 hn (e 3 (by decide)) (e 4 (by decide)), ?_, ?_, b5, b6⟩
  · subst e0; rw [sg_i t_p]; exact b3
  · subst e0; rw [sg_i t_p]; exact b4
theorem i_re {h : bw_H} {p p2 : Nat} (e1 : tS p = p2) : bw_i (nm h) p2 = bw_i h p := by
  subst e1
  exact sg_i t_p h p
theorem l_re {h : bw_H} {p p2 : Nat} (e1 : tS p = p2) : bw_l (nm h) p2 = bw_l h p := by
  subst e1
  exact sg_lo t_p h p
set_option maxRecDepth 100000 in
set_option maxHeartbeats 4000000 in
theorem me_X7_init {X : Nat × (Nat → Int32)} {Q : Option Value → bw_H → Prop} {h : bw_H} (hp : bw_n h = 1) (hk : bw_k h 0 = .inl 7) (hQ : ∀ g, bw_n g = 62 → (∀ g2, 62 ≤ bw_n g2 → (∀ q, q < 62 → sm4 g g2 q) → XR (nm g2) S00) → Q none g) : bw_me X 2 bm_X7_init true [.ref 0] h Q := by
  have n0 := hp
  have k0 := hk
  show bw_go _ 2 7 1 true none cX7_init 0 [(0, .ref _)] [] _ _
  refine go_aload_n dX7_init_0 rfl ?_
  refine go_oi dX7_init_1 rfl (Nat.le_of_ble_eq_true rfl) ?_
  refine go_aload_n dX7_init_4 rfl ?_
  refine go_new dX7_init_5 (c := 4) rfl (Nat.le_of_ble_eq_true rfl) ?_
  rw [n0]
  refine go_dupA dX7_init_8 ?_
  refine go_bipush (6) dX7_init_9 rfl ?_
  refine go_bipush (40) dX7_init_11 rfl ?_
  refine go_ci (as := [.int _, .int _]) 1 dX7_init_13 rfl mt_7_11 (Or.inr rfl) rfl rfl rfl rfl (Nat.le_of_ble_eq_true rfl) (Nat.le_of_ble_eq_true rfl) (Nat.le_of_ble_eq_true rfl) (Nat.le_of_ble_eq_true rfl) ?_
  rw [show (6 : Int32) = nI 6 from rfl, show (40 : Int32) = nI 40 from rfl]
  refine me_X4_init (h := (bw_nw h (.inl 4) (bw_N 4))) (p := 1) (num := 6) (wid := 40) (by show bw_n h + 1 = 2; rw [n0]) (by have z := nwk_ h (.inl 4) (bw_N 4); rw [n0] at z; exact z) (by decide) (by decide) (fun g0 o0 => ?_)
  have f0 := o0.2.2
  have e0 : ∀ q, q < 1 → sm4 h g0 q := fun q hq => sm4_t (nw_o (by rw [n0]; omega)) (f0 q hq)
  have m0 : bw_n g0 = 6 := o0.1
  have hlt : 0 < bw_n g0 := by omega
  have hkk : bw_k g0 0 = .inl 7 := (e0 0 (by omega)).1.trans k0
  show bw_go _ _ _ _ _ _ _ 16 [(0, .ref _)] ((.ref _) :: (.ref _) :: []) _ _
  refine go_pfr dX7_init_16 fl_7_14 (Or.inl ⟨_, rfl⟩) hlt hkk (Nat.le_of_ble_eq_true rfl) ⟨rfl, rfl, rfl⟩ ?_
  show bw_go _ _ _ _ _ _ _ 19 [(0, .ref _)] ([]) _ _
  have n1 : bw_n (bw_sr g0 0 0 (some 1)) = 6 := m0
  have k1 : bw_k (bw_sr g0 0 0 (some 1)) 0 = .inl 7 := (e0 0 (by omega)).1.trans k0
  have r1_0 : bw_r (bw_sr g0 0 0 (some 1)) 0 0 = some 1 := by rw [r_sr_s, bw_up_s]
  have s1_0 : ∀ q, 0 < q → q < 6 → sm4 g0 (bw_sr g0 0 0 (some 1)) q := fun q h1 h2 => sr_o (by omega)
  refine go_aload_n dX7_init_19 rfl ?_
  refine go_new dX7_init_20 (c := 4) rfl (Nat.le_of_ble_eq_true rfl) ?_
  rw [n1]
  refine go_dupA dX7_init_23 ?_
  refine go_iconst (4) dX7_init_24 rfl ?_
  refine go_bipush (60) dX7_init_25 rfl ?_
  refine go_ci (as := [.int _, .int _]) 1 dX7_init_27 rfl mt_7_11 (Or.inr rfl) rfl rfl rfl rfl (Nat.le_of_ble_eq_true rfl) (Nat.le_of_ble_eq_true rfl) (Nat.le_of_ble_eq_true rfl) (Nat.le_of_ble_eq_true rfl) ?_
  rw [show (4 : Int32) = nI 4 from rfl, show (60 : Int32) = nI 60 from rfl]
  refine me_X4_init (h := (bw_nw (bw_sr g0 0 0 (some 1)) (.inl 4) (bw_N 4))) (p := 6) (num := 4) (wid := 60) (by show bw_n (bw_sr g0 0 0 (some 1)) + 1 = 7; rw [n1]) (by have z := nwk_ (bw_sr g0 0 0 (some 1)) (.inl 4) (bw_N 4); rw [n1] at z; exact z) (by decide) (by decide) (fun g1 o1 => ?_)
  have f1 := o1.2.2
  have e1 : ∀ q, q < 6 → sm4 (bw_sr g0 0 0 (some 1)) g1 q := fun q hq => sm4_t (nw_o (by rw [n1]; omega)) (f1 q hq)
  have m1 : bw_n g1 = 11 := o1.1
  have hlt : 0 < bw_n g1 := by omega
  have hkk : bw_k g1 0 = .inl 7 := (e1 0 (by omega)).1.trans k1
  show bw_go _ _ _ _ _ _ _ 30 [(0, .ref _)] ((.ref _) :: (.ref _) :: []) _ _
  refine go_pfr dX7_init_30 fl_7_18 (Or.inl ⟨_, rfl⟩) hlt hkk (Nat.le_of_ble_eq_true rfl) ⟨rfl, rfl, rfl⟩ ?_
  show bw_go _ _ _ _ _ _ _ 33 [(0, .ref _)] ([]) _ _
  have n2 : bw_n (bw_sr g1 0 1 (some 6)) = 11 := m1
  have k2 : bw_k (bw_sr g1 0 1 (some 6)) 0 = .inl 7 := (e1 0 (by omega)).1.trans k1
  have r2_0 : bw_r (bw_sr g1 0 1 (some 6)) 0 0 = some 1 := by rw [r_sr_s, bw_up_o (by decide), (e1 0 (by omega)).2.2.2]; exact r1_0
  have r2_1 : bw_r (bw_sr g1 0 1 (some 6)) 0 1 = some 6 := by rw [r_sr_s, bw_up_s]
  have s2_0 : ∀ q, 0 < q → q < 6 → sm4 g0 (bw_sr g1 0 1 (some 6)) q := fun q h1 h2 => sm4_t (s1_0 q h1 h2) (sm4_t (e1 q (by omega)) (sr_o (by omega)))
  have s2_1 : ∀ q, 0 < q → q < 11 → sm4 g1 (bw_sr g1 0 1 (some 6)) q := fun q h1 h2 => sr_o (by omega)
  refine go_aload_n dX7_init_33 rfl ?_
  refine go_new dX7_init_34 (c := 1) rfl (Nat.le_of_ble_eq_true rfl) ?_
  rw [n2]
  refine go_dupA dX7_init_37 ?_
  refine go_ci (as := []) 1 dX7_init_38 rfl mt_7_23 (Or.inr rfl) rfl rfl rfl rfl (Nat.le_of_ble_eq_true rfl) (Nat.le_of_ble_eq_true rfl) (Nat.le_of_ble_eq_true rfl) (Nat.le_of_ble_eq_true rfl) ?_
  refine me_X1_init (h := (bw_nw (bw_sr g1 0 1 (some 6)) (.inl 1) (bw_N 1))) (p := 11) (by show bw_n (bw_sr g1 0 1 (some 6)) + 1 = 12; rw [n2]) (by have z := nwk_ (bw_sr g1 0 1 (some 6)) (.inl 1) (bw_N 1); rw [n2] at z; exact z) (fun g2 o2 i2 => ?_)
  have f2 := o2.2.2.2.2
  have e2 : ∀ q, q < 11 → sm4 (bw_sr g1 0 1 (some 6)) g2 q := fun q hq => sm4_t (nw_o (by rw [n2]; omega)) (f2 q hq)
  have m2 : bw_n g2 = 24 := o2.1
  have hlt : 0 < bw_n g2 := by omega
  have hkk : bw_k g2 0 = .inl 7 := (e2 0 (by omega)).1.trans k2
  show bw_go _ _ _ _ _ _ _ 41 [(0, .ref _)] ((.ref _) :: (.ref _) :: []) _ _
  refine go_pfr dX7_init_41 fl_7_24 (Or.inl ⟨_, rfl⟩) hlt hkk (Nat.le_of_ble_eq_true rfl) ⟨rfl, rfl, rfl⟩ ?_
  show bw_go _ _ _ _ _ _ _ 44 [(0, .ref _)] ([]) _ _
  have n3 : bw_n (bw_sr g2 0 2 (some 11)) = 24 := m2
  have k3 : bw_k (bw_sr g2 0 2 (some 11)) 0 = .inl 7 := (e2 0 (by omega)).1.trans k2
  have r3_0 : bw_r (bw_sr g2 0 2 (some 11)) 0 0 = some 1 := by rw [r_sr_s, bw_up_o (by decide), (e2 0 (by omega)).2.2.2]; exact r2_0
  have r3_1 : bw_r (bw_sr g2 0 2 (some 11)) 0 1 = some 6 := by rw [r_sr_s, bw_up_o (by decide), (e2 0 (by omega)).2.2.2]; exact r2_1
  have r3_2 : bw_r (bw_sr g2 0 2 (some 11)) 0 2 = some 11 := by rw [r_sr_s, bw_up_s]
  have s3_0 : ∀ q, 0 < q → q < 6 → sm4 g0 (bw_sr g2 0 2 (some 11)) q := fun q h1 h2 => sm4_t (s2_0 q h1 h2) (sm4_t (e2 q (by omega)) (sr_o (by omega)))
  have s3_1 : ∀ q, 0 < q → q < 11 → sm4 g1 (bw_sr g2 0 2 (some 11)) q := fun q h1 h2 => sm4_t (s2_1 q h1 h2) (sm4_t (e2 q (by omega)) (sr_o (by omega)))
  have s3_2 : ∀ q, 0 < q → q < 24 → sm4 g2 (bw_sr g2 0 2 (some 11)) q := fun q h1 h2 => sr_o (by omega)
  refine go_aload_n dX7_init_44 rfl ?_
  refine go_new dX7_init_45 (c := 1) rfl (Nat.le_of_ble_eq_true rfl) ?_
  rw [n3]
  refine go_dupA dX7_init_48 ?_
  refine go_ci (as := []) 1 dX7_init_49 rfl mt_7_23 (Or.inr rfl) rfl rfl rfl rfl (Nat.le_of_ble_eq_true rfl) (Nat.le_of_ble_eq_true rfl) (Nat.le_of_ble_eq_true rfl) (Nat.le_of_ble_eq_true rfl) ?_
  refine me_X1_init (h := (bw_nw (bw_sr g2 0 2 (some 11)) (.inl 1) (bw_N 1))) (p := 24) (by show bw_n (bw_sr g2 0 2 (some 11)) + 1 = 25; rw [n3]) (by have z := nwk_ (bw_sr g2 0 2 (some 11)) (.inl 1) (bw_N 1); rw [n3] at z; exact z) (fun g3 o3 i3 => ?_)
  have f3 := o3.2.2.2.2
  have e3 : ∀ q, q < 24 → sm4 (bw_sr g2 0 2 (some 11)) g3 q := fun q hq => sm4_t (nw_o (by rw [n3]; omega)) (f3 q hq)
  have m3 : bw_n g3 = 37 := o3.1
  have hlt : 0 < bw_n g3 := by omega
  have hkk : bw_k g3 0 = .inl 7 := (e3 0 (by omega)).1.trans k3
  show bw_go _ _ _ _ _ _ _ 52 [(0, .ref _)] ((.ref _) :: (.ref _) :: []) _ _
  refine go_pfr dX7_init_52 fl_7_28 (Or.inl ⟨_, rfl⟩) hlt hkk (Nat.le_of_ble_eq_true rfl) ⟨rfl, rfl, rfl⟩ ?_
  show bw_go _ _ _ _ _ _ _ 55 [(0, .ref _)] ([]) _ _
  have n4 : bw_n (bw_sr g3 0 3 (some 24)) = 37 := m3
  have k4 : bw_k (bw_sr g3 0 3 (some 24)) 0 = .inl 7 := (e3 0 (by omega)).1.trans k3
  have r4_0 : bw_r (bw_sr g3 0 3 (some 24)) 0 0 = some 1 := by rw [r_sr_s, bw_up_o (by decide), (e3 0 (by omega)).2.2.2]; exact r3_0
  have r4_1 : bw_r (bw_sr g3 0 3 (some 24)) 0 1 = some 6 := by rw [r_sr_s, bw_up_o (by decide), (e3 0 (by omega)).2.2.2]; exact r3_1
  have r4_2 : bw_r (bw_sr g3 0 3 (some 24)) 0 2 = some 11 := by rw [r_sr_s, bw_up_o (by decide), (e3 0 (by omega)).2.2.2]; exact r3_2
  have r4_3 : bw_r (bw_sr g3 0 3 (some 24)) 0 3 = some 24 := by rw [r_sr_s, bw_up_s]
  have s4_0 : ∀ q, 0 < q → q < 6 → sm4 g0 (bw_sr g3 0 3 (some 24)) q := fun q h1 h2 => sm4_t (s3_0 q h1 h2) (sm4_t (e3 q (by omega)) (sr_o (by omega)))
  have s4_1 : ∀ q, 0 < q → q < 11 → sm4 g1 (bw_sr g3 0 3 (some 24)) q := fun q h1 h2 => sm4_t (s3_1 q h1 h2) (sm4_t (e3 q (by omega)) (sr_o (by omega)))
  have s4_2 : ∀ q, 0 < q → q < 24 → sm4 g2 (bw_sr g3 0 3 (some 24)) q := fun q h1 h2 => sm4_t (s3_2 q h1 h2) (sm4_t (e3 q (by omega)) (sr_o (by omega)))
  have s4_3 : ∀ q, 0 < q → q < 37 → sm4 g3 (bw_sr g3 0 3 (some 24)) q := fun q h1 h2 => sr_o (by omega)
  refine go_aload_n dX7_init_55 rfl ?_
  refine go_iconst (3) dX7_init_56 rfl ?_
  refine go_an dX7_init_57 rfl (by decide) ?_
  rw [n4, show (3 : Int32).toNatClampNeg = 3 from rfl]
  have e4 : ∀ q, q < 37 → sm4 (bw_sr g3 0 3 (some 24)) (bw_nw (bw_sr g3 0 3 (some 24)) (.inr (.object RX1, 3)) 3) q := fun q hq => nw_o (by rw [n4]; omega)
  have m4 : bw_n (bw_nw (bw_sr g3 0 3 (some 24)) (.inr (.object RX1, 3)) 3) = 38 := by show bw_n (bw_sr g3 0 3 (some 24)) + 1 = 38; rw [n4]
  have a4 : bw_k (bw_nw (bw_sr g3 0 3 (some 24)) (.inr (.object RX1, 3)) 3) 37 = .inr (.object RX1, 3) := by have z := nwk_ (bw_sr g3 0 3 (some 24)) (.inr (.object RX1, 3)) 3; rw [n4] at z; exact z
  have a4r : bw_r (bw_nw (bw_sr g3 0 3 (some 24)) (.inr (.object RX1, 3)) 3) 37 = fun _ => none := by have z := nwr_ (bw_sr g3 0 3 (some 24)) (.inr (.object RX1, 3)) 3; rw [n4] at z; exact z
  have hlt : 0 < bw_n (bw_nw (bw_sr g3 0 3 (some 24)) (.inr (.object RX1, 3)) 3) := by omega
  have hkk : bw_k (bw_nw (bw_sr g3 0 3 (some 24)) (.inr (.object RX1, 3)) 3) 0 = .inl 7 := (e4 0 (by omega)).1.trans k4
  refine go_pfr dX7_init_60 fl_7_31 (Or.inr ⟨_, rfl⟩) hlt hkk (Nat.le_of_ble_eq_true rfl) ⟨rfl, rfl, rfl⟩ ?_
  show bw_go _ _ _ _ _ _ _ 63 [(0, .ref _)] ([]) _ _
  have n5 : bw_n (bw_sr (bw_nw (bw_sr g3 0 3 (some 24)) (.inr (.object RX1, 3)) 3) 0 4 (some 37)) = 38 := m4
  have k5 : bw_k (bw_sr (bw_nw (bw_sr g3 0 3 (some 24)) (.inr (.object RX1, 3)) 3) 0 4 (some 37)) 0 = .inl 7 := (e4 0 (by omega)).1.trans k4
  have r5_0 : bw_r (bw_sr (bw_nw (bw_sr g3 0 3 (some 24)) (.inr (.object RX1, 3)) 3) 0 4 (some 37)) 0 0 = some 1 := by rw [r_sr_s, bw_up_o (by decide), (e4 0 (by omega)).2.2.2]; exact r4_0
  have r5_1 : bw_r (bw_sr (bw_nw (bw_sr g3 0 3 (some 24)) (.inr (.object RX1, 3)) 3) 0 4 (some 37)) 0 1 = some 6 := by rw [r_sr_s, bw_up_o (by decide), (e4 0 (by omega)).2.2.2]; exact r4_1
  have r5_2 : bw_r (bw_sr (bw_nw (bw_sr g3 0 3 (some 24)) (.inr (.object RX1, 3)) 3) 0 4 (some 37)) 0 2 = some 11 := by rw [r_sr_s, bw_up_o (by decide), (e4 0 (by omega)).2.2.2]; exact r4_2
  have r5_3 : bw_r (bw_sr (bw_nw (bw_sr g3 0 3 (some 24)) (.inr (.object RX1, 3)) 3) 0 4 (some 37)) 0 3 = some 24 := by rw [r_sr_s, bw_up_o (by decide), (e4 0 (by omega)).2.2.2]; exact r4_3
  have r5_4 : bw_r (bw_sr (bw_nw (bw_sr g3 0 3 (some 24)) (.inr (.object RX1, 3)) 3) 0 4 (some 37)) 0 4 = some 37 := by rw [r_sr_s, bw_up_s]
  have s5_0 : ∀ q, 0 < q → q < 6 → sm4 g0 (bw_sr (bw_nw (bw_sr g3 0 3 (some 24)) (.inr (.object RX1, 3)) 3) 0 4 (some 37)) q := fun q h1 h2 => sm4_t (s4_0 q h1 h2) (sm4_t (e4 q (by omega)) (sr_o (by omega)))
  have s5_1 : ∀ q, 0 < q → q < 11 → sm4 g1 (bw_sr (bw_nw (bw_sr g3 0 3 (some 24)) (.inr (.object RX1, 3)) 3) 0 4 (some 37)) q := fun q h1 h2 => sm4_t (s4_1 q h1 h2) (sm4_t (e4 q (by omega)) (sr_o (by omega)))
  have s5_2 : ∀ q, 0 < q → q < 24 → sm4 g2 (bw_sr (bw_nw (bw_sr g3 0 3 (some 24)) (.inr (.object RX1, 3)) 3) 0 4 (some 37)) q := fun q h1 h2 => sm4_t (s4_2 q h1 h2) (sm4_t (e4 q (by omega)) (sr_o (by omega)))
  have s5_3 : ∀ q, 0 < q → q < 37 → sm4 g3 (bw_sr (bw_nw (bw_sr g3 0 3 (some 24)) (.inr (.object RX1, 3)) 3) 0 4 (some 37)) q := fun q h1 h2 => sm4_t (s4_3 q h1 h2) (sm4_t (e4 q (by omega)) (sr_o (by omega)))
  have s5_4 : ∀ q, 0 < q → q < 38 → sm4 (bw_nw (bw_sr g3 0 3 (some 24)) (.inr (.object RX1, 3)) 3) (bw_sr (bw_nw (bw_sr g3 0 3 (some 24)) (.inr (.object RX1, 3)) 3) 0 4 (some 37)) q := fun q h1 h2 => sr_o (by omega)
  refine go_aload_n dX7_init_63 rfl ?_
  refine go_new dX7_init_64 (c := 3) rfl (Nat.le_of_ble_eq_true rfl) ?_
  rw [n5]
  refine go_dupA dX7_init_67 ?_
  refine go_ci (as := []) 1 dX7_init_68 rfl mt_7_37 (Or.inr rfl) rfl rfl rfl rfl (Nat.le_of_ble_eq_true rfl) (Nat.le_of_ble_eq_true rfl) (Nat.le_of_ble_eq_true rfl) (Nat.le_of_ble_eq_true rfl) ?_
  refine me_X3_init (h := (bw_nw (bw_sr (bw_nw (bw_sr g3 0 3 (some 24)) (.inr (.object RX1, 3)) 3) 0 4 (some 37)) (.inl 3) (bw_N 3))) (p := 38) (by show bw_n (bw_sr (bw_nw (bw_sr g3 0 3 (some 24)) (.inr (.object RX1, 3)) 3) 0 4 (some 37)) + 1 = 39; rw [n5]) (by have z := nwk_ (bw_sr (bw_nw (bw_sr g3 0 3 (some 24)) (.inr (.object RX1, 3)) 3) 0 4 (some 37)) (.inl 3) (bw_N 3); rw [n5] at z; exact z) (fun g5 o5 i5 ra5 ca5 f5 => ?_)
  have e5 : ∀ q, q < 38 → sm4 (bw_sr (bw_nw (bw_sr g3 0 3 (some 24)) (.inr (.object RX1, 3)) 3) 0 4 (some 37)) g5 q := fun q hq => sm4_t (nw_o (by rw [n5]; omega)) (f5 q hq)
  have m5 : bw_n g5 = 41 := o5
  have hlt : 0 < bw_n g5 := by omega
  have hkk : bw_k g5 0 = .inl 7 := (e5 0 (by omega)).1.trans k5
  show bw_go _ _ _ _ _ _ _ 71 [(0, .ref _)] ((.ref _) :: (.ref _) :: []) _ _
  refine go_pfr dX7_init_71 fl_7_38 (Or.inl ⟨_, rfl⟩) hlt hkk (Nat.le_of_ble_eq_true rfl) ⟨rfl, rfl, rfl⟩ ?_
  show bw_go _ _ _ _ _ _ _ 74 [(0, .ref _)] ([]) _ _
  have n6 : bw_n (bw_sr g5 0 5 (some 38)) = 41 := m5
  have k6 : bw_k (bw_sr g5 0 5 (some 38)) 0 = .inl 7 := (e5 0 (by omega)).1.trans k5
  have r6_0 : bw_r (bw_sr g5 0 5 (some 38)) 0 0 = some 1 := by rw [r_sr_s, bw_up_o (by decide), (e5 0 (by omega)).2.2.2]; exact r5_0
  have r6_1 : bw_r (bw_sr g5 0 5 (some 38)) 0 1 = some 6 := by rw [r_sr_s, bw_up_o (by decide), (e5 0 (by omega)).2.2.2]; exact r5_1
  have r6_2 : bw_r (bw_sr g5 0 5 (some 38)) 0 2 = some 11 := by rw [r_sr_s, bw_up_o (by decide), (e5 0 (by omega)).2.2.2]; exact r5_2
  have r6_3 : bw_r (bw_sr g5 0 5 (some 38)) 0 3 = some 24 := by rw [r_sr_s, bw_up_o (by decide), (e5 0 (by omega)).2.2.2]; exact r5_3
  have r6_4 : bw_r (bw_sr g5 0 5 (some 38)) 0 4 = some 37 := by rw [r_sr_s, bw_up_o (by decide), (e5 0 (by omega)).2.2.2]; exact r5_4
  have r6_5 : bw_r (bw_sr g5 0 5 (some 38)) 0 5 = some 38 := by rw [r_sr_s, bw_up_s]
  have s6_0 : ∀ q, 0 < q → q < 6 → sm4 g0 (bw_sr g5 0 5 (some 38)) q := fun q h1 h2 => sm4_t (s5_0 q h1 h2) (sm4_t (e5 q (by omega)) (sr_o (by omega)))
  have s6_1 : ∀ q, 0 < q → q < 11 → sm4 g1 (bw_sr g5 0 5 (some 38)) q := fun q h1 h2 => sm4_t (s5_1 q h1 h2) (sm4_t (e5 q (by omega)) (sr_o (by omega)))
  have s6_2 : ∀ q, 0 < q → q < 24 → sm4 g2 (bw_sr g5 0 5 (some 38)) q := fun q h1 h2 => sm4_t (s5_2 q h1 h2) (sm4_t (e5 q (by omega)) (sr_o (by omega)))
  have s6_3 : ∀ q, 0 < q → q < 37 → sm4 g3 (bw_sr g5 0 5 (some 38)) q := fun q h1 h2 => sm4_t (s5_3 q h1 h2) (sm4_t (e5 q (by omega)) (sr_o (by omega)))
  have s6_4 : ∀ q, 0 < q → q < 38 → sm4 (bw_nw (bw_sr g3 0 3 (some 24)) (.inr (.object RX1, 3)) 3) (bw_sr g5 0 5 (some 38)) q := fun q h1 h2 => sm4_t (s5_4 q h1 h2) (sm4_t (e5 q (by omega)) (sr_o (by omega)))
  have s6_5 : ∀ q, 0 < q → q < 41 → sm4 g5 (bw_sr g5 0 5 (some 38)) q := fun q h1 h2 => sr_o (by omega)
  refine go_aload_n dX7_init_74 rfl ?_
  refine go_new dX7_init_75 (c := 2) rfl (Nat.le_of_ble_eq_true rfl) ?_
  rw [n6]
  refine go_dupA dX7_init_78 ?_
  refine go_ci (as := []) 1 dX7_init_79 rfl mt_7_44 (Or.inr rfl) rfl rfl rfl rfl (Nat.le_of_ble_eq_true rfl) (Nat.le_of_ble_eq_true rfl) (Nat.le_of_ble_eq_true rfl) (Nat.le_of_ble_eq_true rfl) ?_
  refine me_X2_init (h := (bw_nw (bw_sr g5 0 5 (some 38)) (.inl 2) (bw_N 2))) (p := 41) (by show bw_n (bw_sr g5 0 5 (some 38)) + 1 = 42; rw [n6]) (by have z := nwk_ (bw_sr g5 0 5 (some 38)) (.inl 2) (bw_N 2); rw [n6] at z; exact z) (fun g6 o6 => ?_)
  have f6 := o6.2.2.2.2
  have e6 : ∀ q, q < 41 → sm4 (bw_sr g5 0 5 (some 38)) g6 q := fun q hq => sm4_t (nw_o (by rw [n6]; omega)) (f6 q hq)
  have m6 : bw_n g6 = 48 := o6.1
  have hlt : 0 < bw_n g6 := by omega
  have hkk : bw_k g6 0 = .inl 7 := (e6 0 (by omega)).1.trans k6
  show bw_go _ _ _ _ _ _ _ 82 [(0, .ref _)] ((.ref _) :: (.ref _) :: []) _ _
  refine go_pfr dX7_init_82 fl_7_45 (Or.inl ⟨_, rfl⟩) hlt hkk (Nat.le_of_ble_eq_true rfl) ⟨rfl, rfl, rfl⟩ ?_
  show bw_go _ _ _ _ _ _ _ 85 [(0, .ref _)] ([]) _ _
  have n7 : bw_n (bw_sr g6 0 6 (some 41)) = 48 := m6
  have k7 : bw_k (bw_sr g6 0 6 (some 41)) 0 = .inl 7 := (e6 0 (by omega)).1.trans k6
  have r7_0 : bw_r (bw_sr g6 0 6 (some 41)) 0 0 = some 1 := by rw [r_sr_s, bw_up_o (by decide), (e6 0 (by omega)).2.2.2]; exact r6_0
  have r7_1 : bw_r (bw_sr g6 0 6 (some 41)) 0 1 = some 6 := by rw [r_sr_s, bw_up_o (by decide), (e6 0 (by omega)).2.2.2]; exact r6_1
  have r7_2 : bw_r (bw_sr g6 0 6 (some 41)) 0 2 = some 11 := by rw [r_sr_s, bw_up_o (by decide), (e6 0 (by omega)).2.2.2]; exact r6_2
  have r7_3 : bw_r (bw_sr g6 0 6 (some 41)) 0 3 = some 24 := by rw [r_sr_s, bw_up_o (by decide), (e6 0 (by omega)).2.2.2]; exact r6_3
  have r7_4 : bw_r (bw_sr g6 0 6 (some 41)) 0 4 = some 37 := by rw [r_sr_s, bw_up_o (by decide), (e6 0 (by omega)).2.2.2]; exact r6_4
  have r7_5 : bw_r (bw_sr g6 0 6 (some 41)) 0 5 = some 38 := by rw [r_sr_s, bw_up_o (by decide), (e6 0 (by omega)).2.2.2]; exact r6_5
  have r7_6 : bw_r (bw_sr g6 0 6 (some 41)) 0 6 = some 41 := by rw [r_sr_s, bw_up_s]
  have s7_0 : ∀ q, 0 < q → q < 6 → sm4 g0 (bw_sr g6 0 6 (some 41)) q := fun q h1 h2 => sm4_t (s6_0 q h1 h2) (sm4_t (e6 q (by omega)) (sr_o (by omega)))
  have s7_1 : ∀ q, 0 < q → q < 11 → sm4 g1 (bw_sr g6 0 6 (some 41)) q := fun q h1 h2 => sm4_t (s6_1 q h1 h2) (sm4_t (e6 q (by omega)) (sr_o (by omega)))
  have s7_2 : ∀ q, 0 < q → q < 24 → sm4 g2 (bw_sr g6 0 6 (some 41)) q := fun q h1 h2 => sm4_t (s6_2 q h1 h2) (sm4_t (e6 q (by omega)) (sr_o (by omega)))
  have s7_3 : ∀ q, 0 < q → q < 37 → sm4 g3 (bw_sr g6 0 6 (some 41)) q := fun q h1 h2 => sm4_t (s6_3 q h1 h2) (sm4_t (e6 q (by omega)) (sr_o (by omega)))
  have s7_4 : ∀ q, 0 < q → q < 38 → sm4 (bw_nw (bw_sr g3 0 3 (some 24)) (.inr (.object RX1, 3)) 3) (bw_sr g6 0 6 (some 41)) q := fun q h1 h2 => sm4_t (s6_4 q h1 h2) (sm4_t (e6 q (by omega)) (sr_o (by omega)))
  have s7_5 : ∀ q, 0 < q → q < 41 → sm4 g5 (bw_sr g6 0 6 (some 41)) q := fun q h1 h2 => sm4_t (s6_5 q h1 h2) (sm4_t (e6 q (by omega)) (sr_o (by omega)))
  have s7_6 : ∀ q, 0 < q → q < 48 → sm4 g6 (bw_sr g6 0 6 (some 41)) q := fun q h1 h2 => sr_o (by omega)
  refine go_aload_n dX7_init_85 rfl ?_
  refine go_new dX7_init_86 (c := 5) rfl (Nat.le_of_ble_eq_true rfl) ?_
  rw [n7]
  refine go_dupA dX7_init_89 ?_
  refine go_ci (as := []) 1 dX7_init_90 rfl mt_7_51 (Or.inr rfl) rfl rfl rfl rfl (Nat.le_of_ble_eq_true rfl) (Nat.le_of_ble_eq_true rfl) (Nat.le_of_ble_eq_true rfl) (Nat.le_of_ble_eq_true rfl) ?_
  refine me_X5_init (h := (bw_nw (bw_sr g6 0 6 (some 41)) (.inl 5) (bw_N 5))) (p := 48) (by show bw_n (bw_sr g6 0 6 (some 41)) + 1 = 49; rw [n7]) (by have z := nwk_ (bw_sr g6 0 6 (some 41)) (.inl 5) (bw_N 5); rw [n7] at z; exact z) (fun g7 o7 => ?_)
  have f7 := o7.2.2.2.2
  have e7 : ∀ q, q < 48 → sm4 (bw_sr g6 0 6 (some 41)) g7 q := fun q hq => sm4_t (nw_o (by rw [n7]; omega)) (f7 q hq)
  have m7 : bw_n g7 = 53 := o7.1
  have hlt : 0 < bw_n g7 := by omega
  have hkk : bw_k g7 0 = .inl 7 := (e7 0 (by omega)).1.trans k7
  show bw_go _ _ _ _ _ _ _ 93 [(0, .ref _)] ((.ref _) :: (.ref _) :: []) _ _
  refine go_pfr dX7_init_93 fl_7_52 (Or.inl ⟨_, rfl⟩) hlt hkk (Nat.le_of_ble_eq_true rfl) ⟨rfl, rfl, rfl⟩ ?_
  show bw_go _ _ _ _ _ _ _ 96 [(0, .ref _)] ([]) _ _
  have n8 : bw_n (bw_sr g7 0 7 (some 48)) = 53 := m7
  have k8 : bw_k (bw_sr g7 0 7 (some 48)) 0 = .inl 7 := (e7 0 (by omega)).1.trans k7
  have r8_0 : bw_r (bw_sr g7 0 7 (some 48)) 0 0 = some 1 := by rw [r_sr_s, bw_up_o (by decide), (e7 0 (by omega)).2.2.2]; exact r7_0
  have r8_1 : bw_r (bw_sr g7 0 7 (some 48)) 0 1 = some 6 := by rw [r_sr_s, bw_up_o (by decide), (e7 0 (by omega)).2.2.2]; exact r7_1
  have r8_2 : bw_r (bw_sr g7 0 7 (some 48)) 0 2 = some 11 := by rw [r_sr_s, bw_up_o (by decide), (e7 0 (by omega)).2.2.2]; exact r7_2
  have r8_3 : bw_r (bw_sr g7 0 7 (some 48)) 0 3 = some 24 := by rw [r_sr_s, bw_up_o (by decide), (e7 0 (by omega)).2.2.2]; exact r7_3
  have r8_4 : bw_r (bw_sr g7 0 7 (some 48)) 0 4 = some 37 := by rw [r_sr_s, bw_up_o (by decide), (e7 0 (by omega)).2.2.2]; exact r7_4
  have r8_5 : bw_r (bw_sr g7 0 7 (some 48)) 0 5 = some 38 := by rw [r_sr_s, bw_up_o (by decide), (e7 0 (by omega)).2.2.2]; exact r7_5
  have r8_6 : bw_r (bw_sr g7 0 7 (some 48)) 0 6 = some 41 := by rw [r_sr_s, bw_up_o (by decide), (e7 0 (by omega)).2.2.2]; exact r7_6
  have r8_7 : bw_r (bw_sr g7 0 7 (some 48)) 0 7 = some 48 := by rw [r_sr_s, bw_up_s]
  have s8_0 : ∀ q, 0 < q → q < 6 → sm4 g0 (bw_sr g7 0 7 (some 48)) q := fun q h1 h2 => sm4_t (s7_0 q h1 h2) (sm4_t (e7 q (by omega)) (sr_o (by omega)))
  have s8_1 : ∀ q, 0 < q → q < 11 → sm4 g1 (bw_sr g7 0 7 (some 48)) q := fun q h1 h2 => sm4_t (s7_1 q h1 h2) (sm4_t (e7 q (by omega)) (sr_o (by omega)))
  have s8_2 : ∀ q, 0 < q → q < 24 → sm4 g2 (bw_sr g7 0 7 (some 48)) q := fun q h1 h2 => sm4_t (s7_2 q h1 h2) (sm4_t (e7 q (by omega)) (sr_o (by omega)))
  have s8_3 : ∀ q, 0 < q → q < 37 → sm4 g3 (bw_sr g7 0 7 (some 48)) q := fun q h1 h2 => sm4_t (s7_3 q h1 h2) (sm4_t (e7 q (by omega)) (sr_o (by omega)))
  have s8_4 : ∀ q, 0 < q → q < 38 → sm4 (bw_nw (bw_sr g3 0 3 (some 24)) (.inr (.object RX1, 3)) 3) (bw_sr g7 0 7 (some 48)) q := fun q h1 h2 => sm4_t (s7_4 q h1 h2) (sm4_t (e7 q (by omega)) (sr_o (by omega)))
  have s8_5 : ∀ q, 0 < q → q < 41 → sm4 g5 (bw_sr g7 0 7 (some 48)) q := fun q h1 h2 => sm4_t (s7_5 q h1 h2) (sm4_t (e7 q (by omega)) (sr_o (by omega)))
  have s8_6 : ∀ q, 0 < q → q < 48 → sm4 g6 (bw_sr g7 0 7 (some 48)) q := fun q h1 h2 => sm4_t (s7_6 q h1 h2) (sm4_t (e7 q (by omega)) (sr_o (by omega)))
  have s8_7 : ∀ q, 0 < q → q < 53 → sm4 g7 (bw_sr g7 0 7 (some 48)) q := fun q h1 h2 => sr_o (by omega)
  refine go_aload_n dX7_init_96 rfl ?_
  refine go_new dX7_init_97 (c := 6) rfl (Nat.le_of_ble_eq_true rfl) ?_
  rw [n8]
  refine go_dupA dX7_init_100 ?_
  refine go_ci (as := []) 1 dX7_init_101 rfl mt_7_58 (Or.inr rfl) rfl rfl rfl rfl (Nat.le_of_ble_eq_true rfl) (Nat.le_of_ble_eq_true rfl) (Nat.le_of_ble_eq_true rfl) (Nat.le_of_ble_eq_true rfl) ?_
  refine me_X6_init (h := (bw_nw (bw_sr g7 0 7 (some 48)) (.inl 6) (bw_N 6))) (p := 53) (by show bw_n (bw_sr g7 0 7 (some 48)) + 1 = 54; rw [n8]) (by have z := nwk_ (bw_sr g7 0 7 (some 48)) (.inl 6) (bw_N 6); rw [n8] at z; exact z) (fun g8 o8 => ?_)
  have f8 := o8.2.2.2.2
  have e8 : ∀ q, q < 53 → sm4 (bw_sr g7 0 7 (some 48)) g8 q := fun q hq => sm4_t (nw_o (by rw [n8]; omega)) (f8 q hq)
  have m8 : bw_n g8 = 60 := o8.1
  have hlt : 0 < bw_n g8 := by omega
  have hkk : bw_k g8 0 = .inl 7 := (e8 0 (by omega)).1.trans k8
  show bw_go _ _ _ _ _ _ _ 104 [(0, .ref _)] ((.ref _) :: (.ref _) :: []) _ _
  refine go_pfr dX7_init_104 fl_7_59 (Or.inl ⟨_, rfl⟩) hlt hkk (Nat.le_of_ble_eq_true rfl) ⟨rfl, rfl, rfl⟩ ?_
  show bw_go _ _ _ _ _ _ _ 107 [(0, .ref _)] ([]) _ _
  have n9 : bw_n (bw_sr g8 0 8 (some 53)) = 60 := m8
  have k9 : bw_k (bw_sr g8 0 8 (some 53)) 0 = .inl 7 := (e8 0 (by omega)).1.trans k8
  have r9_0 : bw_r (bw_sr g8 0 8 (some 53)) 0 0 = some 1 := by rw [r_sr_s, bw_up_o (by decide), (e8 0 (by omega)).2.2.2]; exact r8_0
  have r9_1 : bw_r (bw_sr g8 0 8 (some 53)) 0 1 = some 6 := by rw [r_sr_s, bw_up_o (by decide), (e8 0 (by omega)).2.2.2]; exact r8_1
  have r9_2 : bw_r (bw_sr g8 0 8 (some 53)) 0 2 = some 11 := by rw [r_sr_s, bw_up_o (by decide), (e8 0 (by omega)).2.2.2]; exact r8_2
  have r9_3 : bw_r (bw_sr g8 0 8 (some 53)) 0 3 = some 24 := by rw [r_sr_s, bw_up_o (by decide), (e8 0 (by omega)).2.2.2]; exact r8_3
  have r9_4 : bw_r (bw_sr g8 0 8 (some 53)) 0 4 = some 37 := by rw [r_sr_s, bw_up_o (by decide), (e8 0 (by omega)).2.2.2]; exact r8_4
  have r9_5 : bw_r (bw_sr g8 0 8 (some 53)) 0 5 = some 38 := by rw [r_sr_s, bw_up_o (by decide), (e8 0 (by omega)).2.2.2]; exact r8_5
  have r9_6 : bw_r (bw_sr g8 0 8 (some 53)) 0 6 = some 41 := by rw [r_sr_s, bw_up_o (by decide), (e8 0 (by omega)).2.2.2]; exact r8_6
  have r9_7 : bw_r (bw_sr g8 0 8 (some 53)) 0 7 = some 48 := by rw [r_sr_s, bw_up_o (by decide), (e8 0 (by omega)).2.2.2]; exact r8_7
  have r9_8 : bw_r (bw_sr g8 0 8 (some 53)) 0 8 = some 53 := by rw [r_sr_s, bw_up_s]
  have s9_0 : ∀ q, 0 < q → q < 6 → sm4 g0 (bw_sr g8 0 8 (some 53)) q := fun q h1 h2 => sm4_t (s8_0 q h1 h2) (sm4_t (e8 q (by omega)) (sr_o (by omega)))
  have s9_1 : ∀ q, 0 < q → q < 11 → sm4 g1 (bw_sr g8 0 8 (some 53)) q := fun q h1 h2 => sm4_t (s8_1 q h1 h2) (sm4_t (e8 q (by omega)) (sr_o (by omega)))
  have s9_2 : ∀ q, 0 < q → q < 24 → sm4 g2 (bw_sr g8 0 8 (some 53)) q := fun q h1 h2 => sm4_t (s8_2 q h1 h2) (sm4_t (e8 q (by omega)) (sr_o (by omega)))
  have s9_3 : ∀ q, 0 < q → q < 37 → sm4 g3 (bw_sr g8 0 8 (some 53)) q := fun q h1 h2 => sm4_t (s8_3 q h1 h2) (sm4_t (e8 q (by omega)) (sr_o (by omega)))
  have s9_4 : ∀ q, 0 < q → q < 38 → sm4 (bw_nw (bw_sr g3 0 3 (some 24)) (.inr (.object RX1, 3)) 3) (bw_sr g8 0 8 (some 53)) q := fun q h1 h2 => sm4_t (s8_4 q h1 h2) (sm4_t (e8 q (by omega)) (sr_o (by omega)))
  have s9_5 : ∀ q, 0 < q → q < 41 → sm4 g5 (bw_sr g8 0 8 (some 53)) q := fun q h1 h2 => sm4_t (s8_5 q h1 h2) (sm4_t (e8 q (by omega)) (sr_o (by omega)))
  have s9_6 : ∀ q, 0 < q → q < 48 → sm4 g6 (bw_sr g8 0 8 (some 53)) q := fun q h1 h2 => sm4_t (s8_6 q h1 h2) (sm4_t (e8 q (by omega)) (sr_o (by omega)))
  have s9_7 : ∀ q, 0 < q → q < 53 → sm4 g7 (bw_sr g8 0 8 (some 53)) q := fun q h1 h2 => sm4_t (s8_7 q h1 h2) (sm4_t (e8 q (by omega)) (sr_o (by omega)))
  have s9_8 : ∀ q, 0 < q → q < 60 → sm4 g8 (bw_sr g8 0 8 (some 53)) q := fun q h1 h2 => sr_o (by omega)
  refine go_aload_n dX7_init_107 rfl ?_
  refine go_new dX7_init_108 (c := 0) rfl (Nat.le_of_ble_eq_true rfl) ?_
  rw [n9]
  refine go_dupA dX7_init_111 ?_
  refine go_bipush (6) dX7_init_112 rfl ?_
  refine go_ci (as := [.int _]) 0 dX7_init_114 rfl mt_7_65 (Or.inr rfl) rfl rfl rfl rfl (Nat.le_of_ble_eq_true rfl) (Nat.le_of_ble_eq_true rfl) (Nat.le_of_ble_eq_true rfl) (Nat.le_of_ble_eq_true rfl) ?_
  rw [show (6 : Int32) = nI 6 from rfl]
  refine me_X0_init (h := (bw_nw (bw_sr g8 0 8 (some 53)) (.inl 0) (bw_N 0))) (p := 60) (N := 6) (by show bw_n (bw_sr g8 0 8 (some 53)) + 1 = 61; rw [n9]) (by have z := nwk_ (bw_sr g8 0 8 (some 53)) (.inl 0) (bw_N 0); rw [n9] at z; exact z) (by decide) (fun g9 mm o9 i9 f9 => ?_)
  have e9 : ∀ q, q < 60 → sm4 (bw_sr g8 0 8 (some 53)) g9 q := fun q hq => sm4_t (nw_o (by rw [n9]; omega)) (f9 q hq)
  have m9 : bw_n g9 = 62 := mm
  have hlt : 0 < bw_n g9 := by omega
  have hkk : bw_k g9 0 = .inl 7 := (e9 0 (by omega)).1.trans k9
  show bw_go _ _ _ _ _ _ _ 117 [(0, .ref _)] ((.ref _) :: (.ref _) :: []) _ _
  refine go_pfr dX7_init_117 fl_7_68 (Or.inl ⟨_, rfl⟩) hlt hkk (Nat.le_of_ble_eq_true rfl) ⟨rfl, rfl, rfl⟩ ?_
  show bw_go _ _ _ _ _ _ _ 120 [(0, .ref _)] ([]) _ _
  have n10 : bw_n (bw_sr g9 0 9 (some 60)) = 62 := m9
  have k10 : bw_k (bw_sr g9 0 9 (some 60)) 0 = .inl 7 := (e9 0 (by omega)).1.trans k9
  have r10_0 : bw_r (bw_sr g9 0 9 (some 60)) 0 0 = some 1 := by rw [r_sr_s, bw_up_o (by decide), (e9 0 (by omega)).2.2.2]; exact r9_0
  have r10_1 : bw_r (bw_sr g9 0 9 (some 60)) 0 1 = some 6 := by rw [r_sr_s, bw_up_o (by decide), (e9 0 (by omega)).2.2.2]; exact r9_1
  have r10_2 : bw_r (bw_sr g9 0 9 (some 60)) 0 2 = some 11 := by rw [r_sr_s, bw_up_o (by decide), (e9 0 (by omega)).2.2.2]; exact r9_2
  have r10_3 : bw_r (bw_sr g9 0 9 (some 60)) 0 3 = some 24 := by rw [r_sr_s, bw_up_o (by decide), (e9 0 (by omega)).2.2.2]; exact r9_3
  have r10_4 : bw_r (bw_sr g9 0 9 (some 60)) 0 4 = some 37 := by rw [r_sr_s, bw_up_o (by decide), (e9 0 (by omega)).2.2.2]; exact r9_4
  have r10_5 : bw_r (bw_sr g9 0 9 (some 60)) 0 5 = some 38 := by rw [r_sr_s, bw_up_o (by decide), (e9 0 (by omega)).2.2.2]; exact r9_5
  have r10_6 : bw_r (bw_sr g9 0 9 (some 60)) 0 6 = some 41 := by rw [r_sr_s, bw_up_o (by decide), (e9 0 (by omega)).2.2.2]; exact r9_6
  have r10_7 : bw_r (bw_sr g9 0 9 (some 60)) 0 7 = some 48 := by rw [r_sr_s, bw_up_o (by decide), (e9 0 (by omega)).2.2.2]; exact r9_7
  have r10_8 : bw_r (bw_sr g9 0 9 (some 60)) 0 8 = some 53 := by rw [r_sr_s, bw_up_o (by decide), (e9 0 (by omega)).2.2.2]; exact r9_8
  have r10_9 : bw_r (bw_sr g9 0 9 (some 60)) 0 9 = some 60 := by rw [r_sr_s, bw_up_s]
  have s10_0 : ∀ q, 0 < q → q < 6 → sm4 g0 (bw_sr g9 0 9 (some 60)) q := fun q h1 h2 => sm4_t (s9_0 q h1 h2) (sm4_t (e9 q (by omega)) (sr_o (by omega)))
  have s10_1 : ∀ q, 0 < q → q < 11 → sm4 g1 (bw_sr g9 0 9 (some 60)) q := fun q h1 h2 => sm4_t (s9_1 q h1 h2) (sm4_t (e9 q (by omega)) (sr_o (by omega)))
  have s10_2 : ∀ q, 0 < q → q < 24 → sm4 g2 (bw_sr g9 0 9 (some 60)) q := fun q h1 h2 => sm4_t (s9_2 q h1 h2) (sm4_t (e9 q (by omega)) (sr_o (by omega)))
  have s10_3 : ∀ q, 0 < q → q < 37 → sm4 g3 (bw_sr g9 0 9 (some 60)) q := fun q h1 h2 => sm4_t (s9_3 q h1 h2) (sm4_t (e9 q (by omega)) (sr_o (by omega)))
  have s10_4 : ∀ q, 0 < q → q < 38 → sm4 (bw_nw (bw_sr g3 0 3 (some 24)) (.inr (.object RX1, 3)) 3) (bw_sr g9 0 9 (some 60)) q := fun q h1 h2 => sm4_t (s9_4 q h1 h2) (sm4_t (e9 q (by omega)) (sr_o (by omega)))
  have s10_5 : ∀ q, 0 < q → q < 41 → sm4 g5 (bw_sr g9 0 9 (some 60)) q := fun q h1 h2 => sm4_t (s9_5 q h1 h2) (sm4_t (e9 q (by omega)) (sr_o (by omega)))
  have s10_6 : ∀ q, 0 < q → q < 48 → sm4 g6 (bw_sr g9 0 9 (some 60)) q := fun q h1 h2 => sm4_t (s9_6 q h1 h2) (sm4_t (e9 q (by omega)) (sr_o (by omega)))
  have s10_7 : ∀ q, 0 < q → q < 53 → sm4 g7 (bw_sr g9 0 9 (some 60)) q := fun q h1 h2 => sm4_t (s9_7 q h1 h2) (sm4_t (e9 q (by omega)) (sr_o (by omega)))
  have s10_8 : ∀ q, 0 < q → q < 60 → sm4 g8 (bw_sr g9 0 9 (some 60)) q := fun q h1 h2 => sm4_t (s9_8 q h1 h2) (sm4_t (e9 q (by omega)) (sr_o (by omega)))
  have s10_9 : ∀ q, 0 < q → q < 62 → sm4 g9 (bw_sr g9 0 9 (some 60)) q := fun q h1 h2 => sr_o (by omega)
  refine go_aload_n dX7_init_120 rfl ?_
  refine go_iconst (0) dX7_init_121 rfl ?_
  refine go_pfi dX7_init_122 fl_7_72 rfl hlt hkk (Nat.le_of_ble_eq_true rfl) (Or.inl rfl) ?_
  show bw_go _ _ _ _ _ _ _ 125 [(0, .ref _)] ([]) _ _
  refine go_aload_n dX7_init_125 rfl ?_
  refine go_iconst (0) dX7_init_126 rfl ?_
  refine go_pfi dX7_init_127 fl_7_76 rfl hlt hkk (Nat.le_of_ble_eq_true rfl) (Or.inl rfl) ?_
  show bw_go _ _ _ _ _ _ _ 130 [(0, .ref _)] ([]) _ _
  refine go_aload_n dX7_init_130 rfl ?_
  refine go_lconst (0) dX7_init_131 rfl ?_
  refine go_pfl dX7_init_132 fl_7_79 rfl hlt hkk (Nat.le_of_ble_eq_true rfl) rfl ?_
  show bw_go _ _ _ _ _ _ _ 135 [(0, .ref _)] ([]) _ _
  refine go_aload_n dX7_init_135 rfl ?_
  refine go_lconst (1) dX7_init_136 rfl ?_
  refine go_pfl dX7_init_137 fl_7_83 rfl hlt hkk (Nat.le_of_ble_eq_true rfl) rfl ?_
  show bw_go _ _ _ _ _ _ _ 140 [(0, .ref _)] ([]) _ _
  refine go_vret dX7_init_140 rfl ?_
  refine hQ _ n10 (fun g2 hnb hs => ?_)
  have T : ∀ q, 0 < q → q < 62 → sm4 (bw_sr g9 0 9 (some 60)) g2 q := fun q h1 h2 => sm4_t (sm4_t (sm4_t (sm4_t (si_o (by omega)) (si_o (by omega))) (sl_o (by omega))) (sl_o (by omega))) (hs q h2)
  have e0 := hs 0 (by decide)
  have er : bw_r g2 0 = bw_r (bw_sr g9 0 9 (some 60)) 0 := e0.2.2.2
  have z0 : tS 0 = 0 := rfl
  have T5 : ∀ q, 0 < q → q < 41 → sm4 g5 g2 q := fun q h1 h2 => sm4_t (s10_5 q h1 h2) (T q h1 (by omega))
  refine ⟨⟨⟨lt_re hnb (by omega) z0, k_re (e0.1.trans k10) z0, r_re (p := 0) (v := 1) (by rw [er]; exact r10_0) rfl rfl, r_re (p := 0) (v := 6) (by rw [er]; exact r10_1) rfl rfl, r_re (p := 0) (v := 11) (by rw [er]; exact r10_2) rfl rfl, r_re (p := 0) (v := 24) (by rw [er]; exact r10_3) rfl rfl, r_re (p := 0) (v := 37) (by rw [er]; exact r10_4) rfl rfl, r_re (p := 0) (v := 38) (by rw [er]; exact r10_5) rfl rfl, r_re (p := 0) (v := 41) (by rw [er]; exact r10_6) rfl rfl, r_re (p := 0) (v := 48) (by rw [er]; exact r10_7) rfl rfl, r_re (p := 0) (v := 53) (by rw [er]; exact r10_8) rfl rfl, r_re (p := 0) (v := 60) (by rw [er]; exact r10_9) rfl rfl⟩, ⟨lt_re (p := 37) hnb (by omega) rfl, k_re (p := 37) ?_ rfl⟩, ⟨lt_re (p := 38) hnb (by omega) rfl, k_re (p := 38) ?_ rfl, r_re (p := 38) (v := 39) ?_ rfl rfl, ce_re (p := 39) (q := 40) (ce_tr ca5 (by omega) (T5 _ (by omega) (by omega)) (T5 _ (by omega) (by omega))) hnb rfl rfl⟩, (co_re (co_s_tr (ob_co o3) (by omega) (fun q a b => sm4_t (s10_3 q (by omega) (by omega)) (T q (by omega) (by omega)))) hnb (fun i hi => tS_lo (by omega))), (lk_re (lk_s_tr (ob_lk o6) (by omega) (fun q a b => sm4_t (s10_6 q (by omega) (by omega)) (T q (by omega) (by omega)))) hnb (fun i hi => (tS_hi (by omega) (by omega)).trans (by omega))), (ta_re (ta_s_tr (ob_ta o7) (by omega) (fun q a b => sm4_t (s10_7 q (by omega) (by omega)) (T q (by omega) (by omega)))) hnb (fun i hi => (tS_hi (by omega) (by omega)).trans (by omega))), (tt_re (tt_s_tr (ob_tt o8) (by omega) (fun q a b => sm4_t (s10_8 q (by omega) (by omega)) (T q (by omega) (by omega)))) hnb (fun i hi => (tS_hi (by omega) (by omega)).trans (by omega))), ?_, hnb⟩, ⟨sf_re (sf_tr (o0.2.1.1) (by omega) (fun q a b => sm4_t (s10_0 q (by omega) (by omega)) (T q (by omega) (by omega)))) hnb (fun i hi => tS_lo (by omega)), fun r hr => ⟨?_, (fun m z => by cases z), (fun m z => by cases z)⟩⟩, ⟨sf_re (sf_tr (o1.2.1.1) (by omega) (fun q a b => sm4_t (s10_1 q (by omega) (by omega)) (T q (by omega) (by omega)))) hnb (fun i hi => tS_lo (by omega)), fun r hr => ⟨?_, (fun m z => by cases z), (fun m z => by cases z)⟩⟩, ⟨⟨⟨(co_re (co_s_tr (ob_co o2) (by omega) (fun q a b => sm4_t (s10_2 q (by omega) (by omega)) (T q (by omega) (by omega)))) hnb (fun i hi => tS_lo (by omega))), ⟨?_, ?_, ?_, ?_, fun i hi => absurd hi (Nat.not_lt_zero i)⟩, by decide, by decide, by decide, by decide, fun i hi => absurd hi (Nat.not_lt_zero i)⟩, fun j hj => absurd hj (Nat.not_lt_zero j)⟩, ⟨by decide, by decide, by decide, by decide, fun i hi => absurd hi (Nat.not_lt_zero i)⟩, by decide, fun i hi => absurd hi (Nat.not_lt_zero i)⟩, ⟨fun k hk => Or.inl ⟨?_, rfl⟩, fun k l hk hl hkl q q2 h1 h2 => ?_⟩, fun f hf => ?_, ?_, ?_, ?_, ?_⟩
  · exact (T 37 (by decide) (by decide)).1.trans ((s10_4 37 (by decide) (by decide)).1.trans a4)
  · exact (T5 38 (by decide) (by decide)).1.trans i5
  · rw [(T5 38 (by decide) (by decide)).2.2.2]; exact ra5
  · exact ce_re (p := 60) (q := 61) (ce_tr o9 (by omega) (sm4_t (s10_9 60 (by decide) (by decide)) (T 60 (by decide) (by decide))) (sm4_t (s10_9 61 (by decide) (by decide)) (T 61 (by decide) (by decide)))) hnb rfl rfl
  · rw [i_re (p := 1 + 2) (p2 := 1 + 2) rfl, (T (1 + 2) (by decide) (by decide)).2.1, (s10_0 (1 + 2) (by decide) (by decide)).2.1, o0.2.1.2]
    show m1f 6 r = -1
    unfold m1f; rw [if_pos hr]
  · rw [i_re (p := 6 + 2) (p2 := 6 + 2) rfl, (T (6 + 2) (by decide) (by decide)).2.1, (s10_1 (6 + 2) (by decide) (by decide)).2.1, o1.2.1.2]
    show m1f 4 r = -1
    unfold m1f; rw [if_pos hr]
  · rw [i_re (p := 11) (p2 := 11) rfl, (T 11 (by decide) (by decide)).2.1, (s10_2 11 (by decide) (by decide)).2.1]; exact i2.1
  · rw [i_re (p := 11) (p2 := 11) rfl, (T 11 (by decide) (by decide)).2.1, (s10_2 11 (by decide) (by decide)).2.1]; exact i2.2.1
  · rw [i_re (p := 11) (p2 := 11) rfl, (T 11 (by decide) (by decide)).2.1, (s10_2 11 (by decide) (by decide)).2.1]; exact i2.2.2.1
  · rw [i_re (p := 11) (p2 := 11) rfl, (T 11 (by decide) (by decide)).2.1, (s10_2 11 (by decide) (by decide)).2.1]; exact i2.2.2.2
  · have z37 : bw_r g2 37 = fun _ => none := by rw [(T 37 (by decide) (by decide)).2.2.2, (s10_4 37 (by decide) (by decide)).2.2.2, a4r]
    show Option.map tS (bw_r g2 37 k) = none
    rw [z37]; rfl
  · have z37 : bw_r g2 37 = fun _ => none := by rw [(T 37 (by decide) (by decide)).2.2.2, (s10_4 37 (by decide) (by decide)).2.2.2, a4r]
    have h3 : Option.map tS (bw_r g2 37 k) = some q := h1
    rw [z37] at h3; cases h3
  · rw [i_re (p := 61) (p2 := 59) rfl, (T 61 (by decide) (by decide)).2.1, (s10_9 61 (by decide) (by decide)).2.1, show bw_i g9 61 = fun _ => 0 from i9]; rfl
  · rw [i_re (p := 0) (p2 := 0) rfl, e0.2.1]
    show bw_i (bw_si (bw_si (bw_sr g9 0 9 (some 60)) 0 10 0) 0 11 0) 0 10 = 0
    rw [i_si_s, bw_up_o (by decide), i_si_s, bw_up_s]
  · rw [i_re (p := 0) (p2 := 0) rfl, e0.2.1]
    show bw_i (bw_si (bw_si (bw_sr g9 0 9 (some 60)) 0 10 0) 0 11 0) 0 11 = 0
    rw [i_si_s, bw_up_s]
  · rw [l_re (p := 0) (p2 := 0) rfl, e0.2.2.1, l_sl_s, bw_up_o (by decide), l_sl_s, bw_up_s]; rfl
  · rw [l_re (p := 0) (p2 := 0) rfl, e0.2.2.1, l_sl_s, bw_up_s]; rfl
