/-! constructors -/
def sm4 (h g : bw_H) (q : Nat) : Prop := bw_k g q = bw_k h q ∧ bw_i g q = bw_i h q ∧ bw_l g q = bw_l h q ∧ bw_r g q = bw_r h q
theorem sm4_t {h g f : bw_H} {q : Nat} (a : sm4 h g q) (b : sm4 g f q) : sm4 h f q := ⟨b.1.trans a.1, b.2.1.trans a.2.1, b.2.2.1.trans a.2.2.1, b.2.2.2.trans a.2.2.2⟩
theorem sm4_r (h : bw_H) (q : Nat) : sm4 h h q := ⟨rfl, rfl, rfl, rfl⟩
theorem nwk_ (h : bw_H) (kd : bw_K) (N : Nat) : bw_k (bw_nw h kd N) (bw_n h) = kd := bw_up_s _ _ _
theorem nwi_ (h : bw_H) (kd : bw_K) (N : Nat) : bw_i (bw_nw h kd N) (bw_n h) = fun _ => 0 := bw_up_s _ _ _
theorem nwl_ (h : bw_H) (kd : bw_K) (N : Nat) : bw_l (bw_nw h kd N) (bw_n h) = fun _ => 0 := bw_up_s _ _ _
theorem nwr_ (h : bw_H) (kd : bw_K) (N : Nat) : bw_r (bw_nw h kd N) (bw_n h) = fun _ => none := bw_up_s _ _ _
theorem nw_o {h : bw_H} {kd : bw_K} {N q : Nat} (hq : q ≠ bw_n h) : sm4 h (bw_nw h kd N) q := ⟨bw_up_o hq, bw_up_o hq, bw_up_o hq, bw_up_o hq⟩
theorem r_sr_s (h : bw_H) (p k : Nat) (v : Option Nat) : bw_r (bw_sr h p k v) p = bw_up (bw_r h p) k v := bw_up2_s _ _ _ _
theorem r_sr_o {h : bw_H} {p q k : Nat} {v : Option Nat} (n : q ≠ p) : bw_r (bw_sr h p k v) q = bw_r h q := bw_up2_o n
theorem sr_o {h : bw_H} {p q k : Nat} {v : Option Nat} (n : q ≠ p) : sm4 h (bw_sr h p k v) q := ⟨rfl, rfl, rfl, r_sr_o n⟩
theorem si_o {h : bw_H} {p q k : Nat} {v : Int32} (n : q ≠ p) : sm4 h (bw_si h p k v) q := ⟨rfl, i_si_o n, rfl, rfl⟩
theorem sa_o {h : bw_H} {p q : Nat} {F : Nat → Int32} (n : q ≠ p) : sm4 h (bw_sa h p F) q := ⟨rfl, i_sa_o n, rfl, rfl⟩
theorem sl_o {h : bw_H} {p q k : Nat} {v : Int64} (n : q ≠ p) : sm4 h (bw_sl h p k v) q := ⟨rfl, rfl, l_sl_o n, rfl⟩
theorem ce_tr {h g : bw_H} {p q N : Nat} (hc : bw_ce h p q N) (hn : bw_n h ≤ bw_n g) (h1 : sm4 h g p) (h2 : sm4 h g q) : bw_ce g p q N := by
  obtain ⟨a1, a2, a3, a4, a5, a6⟩ := hc
  exact ⟨by omega, h1.1.trans a2, by rw [h1.2.2.2]; exact a3, by omega, h2.1.trans a5, a6⟩
/-- an object of class c at p, its fields from f0 on j new Cells behind it -/
def ob (h0 h : bw_H) (p c f0 : Nat) (F : Nat → Nat) (j : Nat) (I0 : Nat → Int32) : Prop := bw_n h = p + 1 + 2 * j ∧ bw_k h p = .inl c ∧ bw_i h p = I0 ∧ (∀ i, i < j → bw_r h p (f0 + i) = some (p + 1 + 2 * i) ∧ bw_ce h (p + 1 + 2 * i) (p + 2 + 2 * i) (F i) ∧ bw_i h (p + 2 + 2 * i) = fun _ => 0) ∧ ∀ q, q < p → sm4 h0 h q
theorem ob_s {h0 h g : bw_H} {p c f0 j : Nat} {F : Nat → Nat} {I0 : Nat → Int32} (ho : ob h0 h p c f0 F j I0) (hn : bw_n g = p + 1 + 2 * j + 2) (hce : bw_ce g (p + 1 + 2 * j) (p + 2 + 2 * j) (F j)) (hz : bw_i g (p + 2 + 2 * j) = fun _ => 0) (hf : ∀ q, q < p + 1 + 2 * j → sm4 (bw_nw h (.inl 0) 1) g q) : ob h0 (bw_sr g p (f0 + j) (some (p + 1 + 2 * j))) p c f0 F (j + 1) I0 := by
  obtain ⟨o1, o2, o3, o4, o5⟩ := ho
  have hf2 : ∀ q, q < p + 1 + 2 * j → sm4 h g q := fun q hq => sm4_t (nw_o (by omega)) (hf q hq)
  refine ⟨by show bw_n g = _; omega, (hf2 p (by omega)).1.trans o2, (hf2 p (by omega)).2.1.trans o3, fun i hi => ?_, fun q hq => sm4_t (o5 q hq) (sm4_t (hf2 q (by omega)) (sr_o (by omega)))⟩
  rw [r_sr_s]
  by_cases e : i = j
  · subst e
    refine ⟨bw_up_s _ _ _, ce_tr hce (Nat.le_refl _) (sr_o (by omega)) (sr_o (by omega)), hz⟩
  · obtain ⟨b1, b2, b3⟩ := o4 i (by omega)
    rw [bw_up_o (by omega), (hf2 p (by omega)).2.2.2]
    refine ⟨b1, ce_tr b2 (by show bw_n h ≤ bw_n g; omega) (sm4_t (hf2 _ (by omega)) (sr_o (by omega))) (sm4_t (hf2 _ (by omega)) (sr_o (by omega))), ?_⟩
    show bw_i g _ = _
    rw [(hf2 (p + 2 + 2 * i) (by omega)).2.1]
    exact b3
theorem ob_k {h0 h g : bw_H} {p c f0 j : Nat} {F : Nat → Nat} {I0 : Nat → Int32} (ho : ob h0 h p c f0 F j I0) (hf : ∀ q, q < p + 1 + 2 * j → sm4 (bw_nw h (.inl 0) 1) g q) : bw_k g p = .inl c := (hf p (by omega)).1.trans ((nw_o (N := 1) (by have := ho.1; omega)).1.trans ho.2.1)
theorem ob_tr {h0 h g : bw_H} {p c f0 j : Nat} {F : Nat → Nat} {I0 : Nat → Int32} (ho : ob h0 h p c f0 F j I0) (hn : bw_n h ≤ bw_n g) (hf : ∀ q, p ≤ q → q < p + 1 + 2 * j → sm4 h g q) : bw_k g p = .inl c ∧ bw_i g p = I0 ∧ ∀ i, i < j → bw_r g p (f0 + i) = some (p + 1 + 2 * i) ∧ bw_ce g (p + 1 + 2 * i) (p + 2 + 2 * i) (F i) ∧ bw_i g (p + 2 + 2 * i) = fun _ => 0 := by
  obtain ⟨o1, o2, o3, o4, o5⟩ := ho
  refine ⟨(hf p (by omega) (by omega)).1.trans o2, (hf p (by omega) (by omega)).2.1.trans o3, fun i hi => ?_⟩
  obtain ⟨b1, b2, b3⟩ := o4 i hi
  rw [(hf p (by omega) (by omega)).2.2.2, (hf (p + 2 + 2 * i) (by omega) (by omega)).2.1]
  exact ⟨b1, ce_tr b2 hn (hf _ (by omega) (by omega)) (hf _ (by omega) (by omega)), b3⟩
theorem nI_n {n : Nat} (h : n < 2147483648) : ¬ nI n < 0 := nI_pos h
set_option maxRecDepth 100000 in
set_option maxHeartbeats 4000000 in
theorem me_X0_init {X : Nat × (Nat → Int32)} {Q : Option Value → bw_H → Prop} {h : bw_H} {p N : Nat} (hp : bw_n h = p + 1) (hk : bw_k h p = .inl 0) (hN : N < 60000) (hQ : ∀ g, bw_n g = p + 2 → bw_ce g p (p + 1) N → bw_i g (p + 1) = (fun _ => 0) → (∀ q, q < p → sm4 h g q) → Q none g) : bw_me X 0 bm_X0_init true [.ref p, .int (nI N)] h Q := by
  show bw_go _ 0 0 2 true none cX0_init 0 [(0, .ref _), (1, .int _)] [] _ _
  refine go_aload_n dX0_init_0 rfl ?_
  refine go_oi dX0_init_1 rfl (Nat.le_of_ble_eq_true rfl) ?_
  refine go_aload_n dX0_init_4 rfl ?_
  refine go_iload_n dX0_init_5 rfl ?_
  refine go_if_ge (pc' := 13) dX0_init_6 rfl (fun c_6 => ?_) (fun c_6 => ?_)
  · -- ge at 6: yes
    show bw_go _ _ _ _ _ _ _ 13 [(0, .ref _), (1, .int _)] ((.ref _) :: []) _ _
    refine go_iload_n dX0_init_13 rfl ?_
    refine go_naI dX0_init_14 (by rw [nI_toInt (by omega)]; omega) ?_
    rw [nI_clamp (by omega), hp]
    refine go_pfr dX0_init_16 fl_0_7 (Or.inr ⟨_, rfl⟩) (by show p < bw_n h + 1; omega) ((nw_o (N := _) (by omega)).1.trans hk) (Nat.le_of_ble_eq_true rfl) ⟨rfl, rfl, rfl⟩ ?_
    show bw_go _ _ _ _ _ _ _ 19 [(0, .ref _), (1, .int _)] ([]) _ _
    refine go_vret dX0_init_19 rfl ?_
    refine hQ _ (by show bw_n h + 1 = _; omega) ⟨by show p < bw_n h + 1; omega, (nw_o (N := N) (by omega)).1.trans hk, ?_, by show p + 1 < bw_n h + 1; omega, ?_, by omega⟩ ?_ (fun q hq => sm4_t (nw_o (by omega)) (sr_o (by omega)))
    · rw [r_sr_s, bw_up_s]
    · show bw_k (bw_nw h (.inr (.int, N)) N) (p + 1) = _
      rw [← hp, nwk_]
    · show bw_i (bw_nw h (.inr (.int, N)) N) (p + 1) = _
      rw [← hp, nwi_]
  · -- ge at 6: no
    exfalso; have t_0 := nI_toInt (n := N) (by omega); have l_0 : (0 : Int32).toInt = 0 := rfl; simp only [i_le, i_lt, i_eq, bi_eq] at c_6; omega
set_option maxRecDepth 100000 in
set_option maxHeartbeats 4000000 in
theorem me_X1_init {X : Nat × (Nat → Int32)} {Q : Option Value → bw_H → Prop} {h : bw_H} {p : Nat} (hp : bw_n h = p + 1) (hk : bw_k h p = .inl 1) (hQ : ∀ g, ob h g p 1 4 (fun i => if i < 4 then 6 else 40) 6 (bw_i g p) → bw_i g p 0 = 0 ∧ bw_i g p 1 = 0 ∧ bw_i g p 2 = 0 ∧ bw_i g p 3 = 0 → Q none g) : bw_me X 1 bm_X1_init true [.ref p] h Q := by
  have hlt : p < bw_n h := by omega
  have hkk := hk
  show bw_go _ 1 1 1 true none cX1_init 0 [(0, .ref _)] [] _ _
  refine go_aload_n dX1_init_0 rfl ?_
  refine go_oi dX1_init_1 rfl (Nat.le_of_ble_eq_true rfl) ?_
  refine go_aload_n dX1_init_4 rfl ?_
  refine go_iconst (0) dX1_init_5 rfl ?_
  refine go_pfi dX1_init_6 fl_1_9 rfl hlt hkk (Nat.le_of_ble_eq_true rfl) (Or.inl rfl) ?_
  show bw_go _ _ _ _ _ _ _ 9 [(0, .ref _)] ([]) _ _
  refine go_aload_n dX1_init_9 rfl ?_
  refine go_iconst (0) dX1_init_10 rfl ?_
  refine go_pfi dX1_init_11 fl_1_15 rfl hlt hkk (Nat.le_of_ble_eq_true rfl) (Or.inl rfl) ?_
  show bw_go _ _ _ _ _ _ _ 14 [(0, .ref _)] ([]) _ _
  refine go_aload_n dX1_init_14 rfl ?_
  refine go_iconst (0) dX1_init_15 rfl ?_
  refine go_pfi dX1_init_16 fl_1_18 rfl hlt hkk (Nat.le_of_ble_eq_true rfl) (Or.inl rfl) ?_
  show bw_go _ _ _ _ _ _ _ 19 [(0, .ref _)] ([]) _ _
  refine go_aload_n dX1_init_19 rfl ?_
  refine go_iconst (0) dX1_init_20 rfl ?_
  refine go_pfi dX1_init_21 fl_1_21 rfl hlt hkk (Nat.le_of_ble_eq_true rfl) (Or.inl rfl) ?_
  show bw_go _ _ _ _ _ _ _ 24 [(0, .ref _)] ([]) _ _
  have ho : ob h (bw_si (bw_si (bw_si (bw_si h p 0 0) p 1 0) p 2 0) p 3 0) p 1 4 (fun i => if i < 4 then 6 else 40) 0 (bw_i (bw_si (bw_si (bw_si (bw_si h p 0 0) p 1 0) p 2 0) p 3 0) p) := ⟨by show bw_n h = _; omega, hk, rfl, fun i hi => absurd hi (Nat.not_lt_zero i), fun q hq => sm4_t (sm4_t (sm4_t (sm4_t (sm4_r _ _) (si_o (by omega))) (si_o (by omega))) (si_o (by omega))) (si_o (by omega))⟩
  refine go_aload_n dX1_init_24 rfl ?_
  refine go_new dX1_init_25 (c := 0) rfl (Nat.le_of_ble_eq_true rfl) ?_
  rw [ho.1]
  refine go_dupA dX1_init_28 ?_
  refine go_bipush (6) dX1_init_29 rfl ?_
  refine go_ci (as := [.int _]) 0 dX1_init_31 rfl mt_1_26 (Or.inr rfl) rfl rfl rfl rfl (Nat.le_of_ble_eq_true rfl) (Nat.le_of_ble_eq_true rfl) (Nat.le_of_ble_eq_true rfl) (Nat.le_of_ble_eq_true rfl) ?_
  rw [show (6 : Int32) = nI 6 from rfl]
  refine me_X0_init (p := p + 1 + 2 * 0) (N := 6) (by show bw_n _ + 1 = _; rw [ho.1]) (by rw [← ho.1]; exact nwk_ _ _ _) (by first | decide | omega) (fun g hn hce hz hf => ?_)
  have hlt : p < bw_n g := by omega
  have hkk : bw_k g p = .inl 1 := ob_k ho hf
  have ho := ob_s ho hn hce hz hf
  show bw_go _ _ _ _ _ _ _ 34 [(0, .ref _)] ((.ref _) :: (.ref _) :: []) _ _
  refine go_pfr dX1_init_34 fl_1_29 (Or.inl ⟨_, rfl⟩) hlt hkk (Nat.le_of_ble_eq_true rfl) ⟨rfl, rfl, rfl⟩ ?_
  show bw_go _ _ _ _ _ _ _ 37 [(0, .ref _)] ([]) _ _
  refine go_aload_n dX1_init_37 rfl ?_
  refine go_new dX1_init_38 (c := 0) rfl (Nat.le_of_ble_eq_true rfl) ?_
  rw [ho.1]
  refine go_dupA dX1_init_41 ?_
  refine go_bipush (6) dX1_init_42 rfl ?_
  refine go_ci (as := [.int _]) 0 dX1_init_44 rfl mt_1_26 (Or.inr rfl) rfl rfl rfl rfl (Nat.le_of_ble_eq_true rfl) (Nat.le_of_ble_eq_true rfl) (Nat.le_of_ble_eq_true rfl) (Nat.le_of_ble_eq_true rfl) ?_
  rw [show (6 : Int32) = nI 6 from rfl]
  refine me_X0_init (p := p + 1 + 2 * 1) (N := 6) (by show bw_n _ + 1 = _; rw [ho.1]) (by rw [← ho.1]; exact nwk_ _ _ _) (by first | decide | omega) (fun g hn hce hz hf => ?_)
  have hlt : p < bw_n g := by omega
  have hkk : bw_k g p = .inl 1 := ob_k ho hf
  have ho := ob_s ho hn hce hz hf
  show bw_go _ _ _ _ _ _ _ 47 [(0, .ref _)] ((.ref _) :: (.ref _) :: []) _ _
  refine go_pfr dX1_init_47 fl_1_33 (Or.inl ⟨_, rfl⟩) hlt hkk (Nat.le_of_ble_eq_true rfl) ⟨rfl, rfl, rfl⟩ ?_
  show bw_go _ _ _ _ _ _ _ 50 [(0, .ref _)] ([]) _ _
  refine go_aload_n dX1_init_50 rfl ?_
  refine go_new dX1_init_51 (c := 0) rfl (Nat.le_of_ble_eq_true rfl) ?_
  rw [ho.1]
  refine go_dupA dX1_init_54 ?_
  refine go_bipush (6) dX1_init_55 rfl ?_
  refine go_ci (as := [.int _]) 0 dX1_init_57 rfl mt_1_26 (Or.inr rfl) rfl rfl rfl rfl (Nat.le_of_ble_eq_true rfl) (Nat.le_of_ble_eq_true rfl) (Nat.le_of_ble_eq_true rfl) (Nat.le_of_ble_eq_true rfl) ?_
  rw [show (6 : Int32) = nI 6 from rfl]
  refine me_X0_init (p := p + 1 + 2 * 2) (N := 6) (by show bw_n _ + 1 = _; rw [ho.1]) (by rw [← ho.1]; exact nwk_ _ _ _) (by first | decide | omega) (fun g hn hce hz hf => ?_)
  have hlt : p < bw_n g := by omega
  have hkk : bw_k g p = .inl 1 := ob_k ho hf
  have ho := ob_s ho hn hce hz hf
  show bw_go _ _ _ _ _ _ _ 60 [(0, .ref _)] ((.ref _) :: (.ref _) :: []) _ _
  refine go_pfr dX1_init_60 fl_1_36 (Or.inl ⟨_, rfl⟩) hlt hkk (Nat.le_of_ble_eq_true rfl) ⟨rfl, rfl, rfl⟩ ?_
  show bw_go _ _ _ _ _ _ _ 63 [(0, .ref _)] ([]) _ _
  refine go_aload_n dX1_init_63 rfl ?_
  refine go_new dX1_init_64 (c := 0) rfl (Nat.le_of_ble_eq_true rfl) ?_
  rw [ho.1]
  refine go_dupA dX1_init_67 ?_
  refine go_bipush (6) dX1_init_68 rfl ?_
  refine go_ci (as := [.int _]) 0 dX1_init_70 rfl mt_1_26 (Or.inr rfl) rfl rfl rfl rfl (Nat.le_of_ble_eq_true rfl) (Nat.le_of_ble_eq_true rfl) (Nat.le_of_ble_eq_true rfl) (Nat.le_of_ble_eq_true rfl) ?_
  rw [show (6 : Int32) = nI 6 from rfl]
  refine me_X0_init (p := p + 1 + 2 * 3) (N := 6) (by show bw_n _ + 1 = _; rw [ho.1]) (by rw [← ho.1]; exact nwk_ _ _ _) (by first | decide | omega) (fun g hn hce hz hf => ?_)
  have hlt : p < bw_n g := by omega
  have hkk : bw_k g p = .inl 1 := ob_k ho hf
  have ho := ob_s ho hn hce hz hf
  show bw_go _ _ _ _ _ _ _ 73 [(0, .ref _)] ((.ref _) :: (.ref _) :: []) _ _
  refine go_pfr dX1_init_73 fl_1_39 (Or.inl ⟨_, rfl⟩) hlt hkk (Nat.le_of_ble_eq_true rfl) ⟨rfl, rfl, rfl⟩ ?_
  show bw_go _ _ _ _ _ _ _ 76 [(0, .ref _)] ([]) _ _
  refine go_aload_n dX1_init_76 rfl ?_
  refine go_new dX1_init_77 (c := 0) rfl (Nat.le_of_ble_eq_true rfl) ?_
  rw [ho.1]
  refine go_dupA dX1_init_80 ?_
  refine go_bipush (40) dX1_init_81 rfl ?_
  refine go_ci (as := [.int _]) 0 dX1_init_83 rfl mt_1_26 (Or.inr rfl) rfl rfl rfl rfl (Nat.le_of_ble_eq_true rfl) (Nat.le_of_ble_eq_true rfl) (Nat.le_of_ble_eq_true rfl) (Nat.le_of_ble_eq_true rfl) ?_
  rw [show (40 : Int32) = nI 40 from rfl]
  refine me_X0_init (p := p + 1 + 2 * 4) (N := 40) (by show bw_n _ + 1 = _; rw [ho.1]) (by rw [← ho.1]; exact nwk_ _ _ _) (by first | decide | omega) (fun g hn hce hz hf => ?_)
  have hlt : p < bw_n g := by omega
  have hkk : bw_k g p = .inl 1 := ob_k ho hf
  have ho := ob_s ho hn hce hz hf
  show bw_go _ _ _ _ _ _ _ 86 [(0, .ref _)] ((.ref _) :: (.ref _) :: []) _ _
  refine go_pfr dX1_init_86 fl_1_42 (Or.inl ⟨_, rfl⟩) hlt hkk (Nat.le_of_ble_eq_true rfl) ⟨rfl, rfl, rfl⟩ ?_
  show bw_go _ _ _ _ _ _ _ 89 [(0, .ref _)] ([]) _ _
  refine go_aload_n dX1_init_89 rfl ?_
  refine go_new dX1_init_90 (c := 0) rfl (Nat.le_of_ble_eq_true rfl) ?_
  rw [ho.1]
  refine go_dupA dX1_init_93 ?_
  refine go_bipush (40) dX1_init_94 rfl ?_
  refine go_ci (as := [.int _]) 0 dX1_init_96 rfl mt_1_26 (Or.inr rfl) rfl rfl rfl rfl (Nat.le_of_ble_eq_true rfl) (Nat.le_of_ble_eq_true rfl) (Nat.le_of_ble_eq_true rfl) (Nat.le_of_ble_eq_true rfl) ?_
  rw [show (40 : Int32) = nI 40 from rfl]
  refine me_X0_init (p := p + 1 + 2 * 5) (N := 40) (by show bw_n _ + 1 = _; rw [ho.1]) (by rw [← ho.1]; exact nwk_ _ _ _) (by first | decide | omega) (fun g hn hce hz hf => ?_)
  have hlt : p < bw_n g := by omega
  have hkk : bw_k g p = .inl 1 := ob_k ho hf
  have ho := ob_s ho hn hce hz hf
  show bw_go _ _ _ _ _ _ _ 99 [(0, .ref _)] ((.ref _) :: (.ref _) :: []) _ _
  refine go_pfr dX1_init_99 fl_1_45 (Or.inl ⟨_, rfl⟩) hlt hkk (Nat.le_of_ble_eq_true rfl) ⟨rfl, rfl, rfl⟩ ?_
  show bw_go _ _ _ _ _ _ _ 102 [(0, .ref _)] ([]) _ _
  refine go_vret dX1_init_102 rfl ?_
  have e3 := ho.2.2.1
  refine hQ _ ?_ ?_
  · rw [e3]; exact ho
  · rw [e3, i_si_s, i_si_s, i_si_s, i_si_s]
    exact ⟨by rw [bw_up_o (by decide), bw_up_o (by decide), bw_up_o (by decide), bw_up_s], by rw [bw_up_o (by decide), bw_up_o (by decide), bw_up_s], by rw [bw_up_o (by decide), bw_up_s], by rw [bw_up_s]⟩
theorem ob_co {h0 g : bw_H} {p : Nat} {I0 : Nat → Int32} (ho : ob h0 g p 1 4 (fun i => if i < 4 then 6 else 40) 6 I0) : co_s g p := by
  have o := ho.2.2.2.1
  refine ⟨⟨by have := ho.1; omega, ho.2.1, (o 0 (by decide)).1, (o 1 (by decide)).1, (o 2 (by decide)).1, (o 3 (by decide)).1, (o 4 (by decide)).1, (o 5 (by decide)).1⟩, (o 0 (by decide)).2.1, (o 1 (by decide)).2.1, (o 2 (by decide)).2.1, (o 3 (by decide)).2.1, (o 4 (by decide)).2.1, (o 5 (by decide)).2.1⟩
