/-! BearWitness: courts kept -/
def yOn (k : Int32) (S : ST) : Int32 × ST := if isn k 3 = true then (match sK S (rn k) with
    | none => (-3, fnd S 1)
    | some A => (nI (cT A.1), wA S A)) else (-1, S)
theorem xco_take {h : bw_H} {p q : Nat} {A : AC} {I : Nat → Nat → Int32} (hx : xco h q A (cT A.1)) (ha : ac_k A) (hs : co_s h p) (h1 : ∀ k, k < 4 → I p k = bw_i h q k) (h2 : ∀ k, k < 6 → I (p + 2) k = bw_i h (q + 2) k ∧ I (p + 4) k = bw_i h (q + 4) k ∧ I (p + 6) k = bw_i h (q + 6) k ∧ I (p + 8) k = bw_i h (q + 8) k) (h3 : ∀ k, k < 40 → I (p + 10) k = bw_i h (q + 10) k ∧ I (p + 12) k = bw_i h (q + 12) k) : xco (bw_wi h I) p A (cT A.1) := by
  obtain ⟨⟨c1, ⟨v0, v1, v2, v3, v4⟩, ck⟩, d⟩ := hx
  have hN := ck.1
  have h40 := ha.2.1
  refine ⟨⟨hs, ⟨?_, ?_, ?_, ?_, fun i hi => ?_⟩, ck⟩, fun j hj => ?_⟩
  · rw [i_wi, h1 0 (by decide)]; exact v0
  · rw [i_wi, h1 1 (by decide)]; exact v1
  · rw [i_wi, h1 2 (by decide)]; exact v2
  · rw [i_wi, h1 3 (by decide)]; exact v3
  · obtain ⟨e1, e2, e3, e4⟩ := h2 i (by omega)
    rw [i_wi, e1, e2, e3, e4]; exact v4 i hi
  · obtain ⟨e1, e2⟩ := h3 j (by omega)
    rw [i_wi, e1, e2]; exact d j hj
theorem xr_kp {h : bw_H} {S : ST} {I : Nat → Nat → Int32} {kp : Nat → Option AC} (hx : XR h S) (e : ∀ q, q < 62 → I q = bw_i h q) (hn : xkp (bw_wi h I) kp) : XR (bw_wi h I) (wK S kp) := by
  obtain ⟨h1, h2, h3, ⟨h4, h5⟩, h6, h7, h8⟩ := hx
  refine ⟨h1, shR_wi h2 (e _ (by omega)) (e _ (by omega)) (e _ (by omega)), shR_wi h3 (e _ (by omega)) (e _ (by omega)) (e _ (by omega)), ⟨xco_wi h4 (fun q hq => e q (by unfold co_pl at hq; omega)), h5⟩, hn, ?_, ?_⟩
  · rw [i_wi, e _ (by omega)]; exact h7
  · unfold xfl; rw [i_wi, e _ (by omega)]; exact h8
theorem xkp_clear {h : bw_H} {kp : Nat → Option AC} {I : Nat → Nat → Int32} {k q : Nat} (hx : xkp h kp) (hk : k < 3) (hr : bw_r h 37 k = some q) (e : ∀ x, x ≠ q → I x = bw_i h x) (e0 : I q 0 = 0) : xkp (bw_wi h I) (bw_up kp k none) := by
  refine ⟨fun l hl => ?_, hx.2⟩
  by_cases hlk : l = k
  · subst hlk
    rw [bw_up_s]
    rcases hx.1 l hl with h1 | ⟨q2, h1, h2, h3, h4, h5, h6⟩
    · rw [hr] at h1; cases h1.1
    · rw [hr] at h1; cases h1
      exact Or.inr ⟨q, hr, h2, h3, h4, fun _ => e0, fun A hA => by cases hA⟩
  · rw [bw_up_o hlk]
    rcases hx.1 l hl with h1 | ⟨q2, h1, h2, h3, h4, h5, h6⟩
    · exact Or.inl h1
    · have hap := hx.2 l k hl hk hlk q2 q h1 hr
      unfold bw_apart at hap
      refine Or.inr ⟨q2, h1, h2, h3, h4, fun z => ?_, fun A hA => ?_⟩
      · rw [i_wi, e q2 (by omega)]; exact h5 z
      · obtain ⟨g1, g2, g3⟩ := h6 A hA
        exact ⟨xco_wi g1 (fun x hx1 => e x (by unfold co_pl at hx1; omega)), g2, g3⟩
theorem wK_id {S : ST} {k : Nat} (e : sK S k = none) : wK S (bw_up (sK S) k none) = S := by
  have : bw_up (sK S) k none = sK S := by
    funext x
    unfold bw_up
    split
    · rename_i hx; subst hx; exact e.symm
    · rfl
  rw [this]; rfl
set_option maxRecDepth 100000 in
set_option maxHeartbeats 4000000 in
theorem me_keptIn_n {X : Nat × (Nat → Int32)} {Q : Option Value → bw_H → Prop} {h : bw_H} {S : ST} {k : Nat} (hx : XR h S) (hk : k < 3) (hr : bw_r h 37 k = none) (hQ : Q (some .null) h) : bw_me X 0 bm_X7_keptIn false [.ref 0, .int (nI k)] h Q := by
  show bw_go _ 0 7 3 false (some (.object "BearWitness$Court")) cX7_keptIn 0 [(0, .ref _), (1, .int _)] [] _ _
  refine go_iload_n dX7_keptIn_0 rfl ?_
  refine go_if_lt (pc' := 13) dX7_keptIn_1 rfl (fun c_1 => ?_) (fun c_1 => ?_)
  · -- lt at 1: yes
    exfalso; have t_0 := nI_toInt (n := k) (by omega); have l_0 : (0 : Int32).toInt = 0 := rfl; simp only [i_le, i_lt, i_eq, bi_eq] at c_1; omega
  · -- lt at 1: no
    show bw_go _ _ _ _ _ _ _ 4 [(0, .ref _), (1, .int _)] ([]) _ _
    refine go_iload_n dX7_keptIn_4 rfl ?_
    refine go_aload_n dX7_keptIn_5 rfl ?_
    refine go_gfr dX7_keptIn_6 fl_7_31 rfl hx.1.1.1 hx.1.1.2.1 hx.1.1.2.2.2.2.2.2.1 ?_
    refine go_len dX7_keptIn_9 hx.1.2.1.2 hx.1.2.1.1 (Or.inr (Or.inr rfl)) ?_
    refine go_icmp_lt (pc' := 15) dX7_keptIn_10 rfl (fun c_10 => ?_) (fun c_10 => ?_)
    · -- lt at 10: yes
      show bw_go _ _ _ _ _ _ _ 15 [(0, .ref _), (1, .int _)] ([]) _ _
      refine go_aload_n dX7_keptIn_15 rfl ?_
      refine go_gfr dX7_keptIn_16 fl_7_31 rfl hx.1.1.1 hx.1.1.2.1 hx.1.1.2.2.2.2.2.2.1 ?_
      refine go_iload_n dX7_keptIn_19 rfl ?_
      refine go_aaN dX7_keptIn_20 hx.1.2.1.2 hx.1.2.1.1 (n_in (N := 3) hk (by decide)) (by rw [nI_clamp (by omega)]; exact hr) ?_
      refine go_astoreN_n dX7_keptIn_21 (Nat.lt_of_lt_of_le (Nat.lt_succ_self _) (Nat.le_of_ble_eq_true rfl)) ?_
      show bw_go _ _ _ _ _ _ _ 22 [(2, .null), (0, .ref _), (1, .int _)] ([]) _ _
      refine go_aloadN_n dX7_keptIn_22 rfl ?_
      refine go_nuN (pc' := 37) dX7_keptIn_23 rfl ?_
      show bw_go _ _ _ _ _ _ _ 37 [(2, .null), (0, .ref _), (1, .int _)] ([]) _ _
      refine go_null dX7_keptIn_37 ?_
      refine go_aretN dX7_keptIn_38 rfl ?_
      exact hQ
    · -- lt at 10: no
      exfalso; have t_0 := nI_toInt (n := k) (by omega); have t_1 := nI_toInt (n := 3) (by omega); simp only [i_le, i_lt, i_eq, bi_eq] at c_10; omega
set_option maxRecDepth 100000 in
set_option maxHeartbeats 4000000 in
theorem me_keptIn_z {X : Nat × (Nat → Int32)} {Q : Option Value → bw_H → Prop} {h : bw_H} {S : ST} {k q : Nat} (hx : XR h S) (hk : k < 3) (hr : bw_r h 37 k = some q) (hq : co_s h q) (h0 : bw_i h q 0 = 0) (hQ : Q (some .null) h) : bw_me X 0 bm_X7_keptIn false [.ref 0, .int (nI k)] h Q := by
  show bw_go _ 0 7 3 false (some (.object "BearWitness$Court")) cX7_keptIn 0 [(0, .ref _), (1, .int _)] [] _ _
  refine go_iload_n dX7_keptIn_0 rfl ?_
  refine go_if_lt (pc' := 13) dX7_keptIn_1 rfl (fun c_1 => ?_) (fun c_1 => ?_)
  · -- lt at 1: yes
    exfalso; have t_0 := nI_toInt (n := k) (by omega); have l_0 : (0 : Int32).toInt = 0 := rfl; simp only [i_le, i_lt, i_eq, bi_eq] at c_1; omega
  · -- lt at 1: no
    show bw_go _ _ _ _ _ _ _ 4 [(0, .ref _), (1, .int _)] ([]) _ _
    refine go_iload_n dX7_keptIn_4 rfl ?_
    refine go_aload_n dX7_keptIn_5 rfl ?_
    refine go_gfr dX7_keptIn_6 fl_7_31 rfl hx.1.1.1 hx.1.1.2.1 hx.1.1.2.2.2.2.2.2.1 ?_
    refine go_len dX7_keptIn_9 hx.1.2.1.2 hx.1.2.1.1 (Or.inr (Or.inr rfl)) ?_
    refine go_icmp_lt (pc' := 15) dX7_keptIn_10 rfl (fun c_10 => ?_) (fun c_10 => ?_)
    · -- lt at 10: yes
      show bw_go _ _ _ _ _ _ _ 15 [(0, .ref _), (1, .int _)] ([]) _ _
      refine go_aload_n dX7_keptIn_15 rfl ?_
      refine go_gfr dX7_keptIn_16 fl_7_31 rfl hx.1.1.1 hx.1.1.2.1 hx.1.1.2.2.2.2.2.2.1 ?_
      refine go_iload_n dX7_keptIn_19 rfl ?_
      refine go_aaR dX7_keptIn_20 hx.1.2.1.2 hx.1.2.1.1 (n_in (N := 3) hk (by decide)) (by rw [nI_clamp (by omega)]; exact hr) ?_
      refine go_astore_n dX7_keptIn_21 (Nat.lt_of_lt_of_le (Nat.lt_succ_self _) (Nat.le_of_ble_eq_true rfl)) ?_
      show bw_go _ _ _ _ _ _ _ 22 [(2, .ref _), (0, .ref _), (1, .int _)] ([]) _ _
      refine go_aload_n dX7_keptIn_22 rfl ?_
      refine go_nuR dX7_keptIn_23 ?_
      show bw_go _ _ _ _ _ _ _ 26 [(2, .ref _), (0, .ref _), (1, .int _)] ([]) _ _
      refine go_aload_n dX7_keptIn_26 rfl ?_
      refine go_gfi dX7_keptIn_27 fl_7_141 rfl hq.1.1 hq.1.2.1 ?_
      rw [h0]
      refine go_if_le (pc' := 37) dX7_keptIn_30 rfl (fun c_30 => ?_) (fun c_30 => ?_)
      · -- le at 30: yes
        show bw_go _ _ _ _ _ _ _ 37 [(2, .ref _), (0, .ref _), (1, .int _)] ([]) _ _
        refine go_null dX7_keptIn_37 ?_
        refine go_aretN dX7_keptIn_38 rfl ?_
        exact hQ
      · -- le at 30: no
        show bw_go _ _ _ _ _ _ _ 33 [(2, .ref _), (0, .ref _), (1, .int _)] ([]) _ _
        refine go_aload_n dX7_keptIn_33 rfl ?_
        refine go_goto (pc' := 38) dX7_keptIn_34 rfl ?_
        show bw_go _ _ _ _ _ _ _ 38 [(2, .ref _), (0, .ref _), (1, .int _)] ((.ref _) :: []) _ _
        refine go_aret dX7_keptIn_38 rfl ?_
        exact absurd (by decide) c_30
    · -- lt at 10: no
      exfalso; have t_0 := nI_toInt (n := k) (by omega); have t_1 := nI_toInt (n := 3) (by omega); simp only [i_le, i_lt, i_eq, bi_eq] at c_10; omega
set_option maxRecDepth 100000 in
set_option maxHeartbeats 4000000 in
theorem me_keptIn_r {X : Nat × (Nat → Int32)} {Q : Option Value → bw_H → Prop} {h : bw_H} {S : ST} {k q n : Nat} (hx : XR h S) (hk : k < 3) (hr : bw_r h 37 k = some q) (hq : co_s h q) (h0 : bw_i h q 0 = nI n) (hn : 0 < n) (hn6 : n ≤ 6) (hQ : Q (some (.ref q)) h) : bw_me X 0 bm_X7_keptIn false [.ref 0, .int (nI k)] h Q := by
  show bw_go _ 0 7 3 false (some (.object "BearWitness$Court")) cX7_keptIn 0 [(0, .ref _), (1, .int _)] [] _ _
  refine go_iload_n dX7_keptIn_0 rfl ?_
  refine go_if_lt (pc' := 13) dX7_keptIn_1 rfl (fun c_1 => ?_) (fun c_1 => ?_)
  · -- lt at 1: yes
    exfalso; have t_0 := nI_toInt (n := k) (by omega); have l_0 : (0 : Int32).toInt = 0 := rfl; simp only [i_le, i_lt, i_eq, bi_eq] at c_1; omega
  · -- lt at 1: no
    show bw_go _ _ _ _ _ _ _ 4 [(0, .ref _), (1, .int _)] ([]) _ _
    refine go_iload_n dX7_keptIn_4 rfl ?_
    refine go_aload_n dX7_keptIn_5 rfl ?_
    refine go_gfr dX7_keptIn_6 fl_7_31 rfl hx.1.1.1 hx.1.1.2.1 hx.1.1.2.2.2.2.2.2.1 ?_
    refine go_len dX7_keptIn_9 hx.1.2.1.2 hx.1.2.1.1 (Or.inr (Or.inr rfl)) ?_
    refine go_icmp_lt (pc' := 15) dX7_keptIn_10 rfl (fun c_10 => ?_) (fun c_10 => ?_)
    · -- lt at 10: yes
      show bw_go _ _ _ _ _ _ _ 15 [(0, .ref _), (1, .int _)] ([]) _ _
      refine go_aload_n dX7_keptIn_15 rfl ?_
      refine go_gfr dX7_keptIn_16 fl_7_31 rfl hx.1.1.1 hx.1.1.2.1 hx.1.1.2.2.2.2.2.2.1 ?_
      refine go_iload_n dX7_keptIn_19 rfl ?_
      refine go_aaR dX7_keptIn_20 hx.1.2.1.2 hx.1.2.1.1 (n_in (N := 3) hk (by decide)) (by rw [nI_clamp (by omega)]; exact hr) ?_
      refine go_astore_n dX7_keptIn_21 (Nat.lt_of_lt_of_le (Nat.lt_succ_self _) (Nat.le_of_ble_eq_true rfl)) ?_
      show bw_go _ _ _ _ _ _ _ 22 [(2, .ref _), (0, .ref _), (1, .int _)] ([]) _ _
      refine go_aload_n dX7_keptIn_22 rfl ?_
      refine go_nuR dX7_keptIn_23 ?_
      show bw_go _ _ _ _ _ _ _ 26 [(2, .ref _), (0, .ref _), (1, .int _)] ([]) _ _
      refine go_aload_n dX7_keptIn_26 rfl ?_
      refine go_gfi dX7_keptIn_27 fl_7_141 rfl hq.1.1 hq.1.2.1 ?_
      rw [h0]
      refine go_if_le (pc' := 37) dX7_keptIn_30 rfl (fun c_30 => ?_) (fun c_30 => ?_)
      · -- le at 30: yes
        show bw_go _ _ _ _ _ _ _ 37 [(2, .ref _), (0, .ref _), (1, .int _)] ([]) _ _
        refine go_null dX7_keptIn_37 ?_
        refine go_aretN dX7_keptIn_38 rfl ?_
        exfalso; have t_0 := nI_toInt (n := n) (by omega); have l_0 : (0 : Int32).toInt = 0 := rfl; simp only [i_le, i_lt, i_eq, bi_eq] at c_30; omega
      · -- le at 30: no
        show bw_go _ _ _ _ _ _ _ 33 [(2, .ref _), (0, .ref _), (1, .int _)] ([]) _ _
        refine go_aload_n dX7_keptIn_33 rfl ?_
        refine go_goto (pc' := 38) dX7_keptIn_34 rfl ?_
        show bw_go _ _ _ _ _ _ _ 38 [(2, .ref _), (0, .ref _), (1, .int _)] ((.ref _) :: []) _ _
        refine go_aret dX7_keptIn_38 rfl ?_
        exact hQ
    · -- lt at 10: no
      exfalso; have t_0 := nI_toInt (n := k) (by omega); have t_1 := nI_toInt (n := 3) (by omega); simp only [i_le, i_lt, i_eq, bi_eq] at c_10; omega
theorem me_keptIn_N {X : Nat × (Nat → Int32)} {Q : Option Value → bw_H → Prop} {h : bw_H} {S : ST} {k : Nat} (hx : XR h S) (hk : k < 3) (he : sK S k = none) (hQ : Q (some .null) h) : bw_me X 0 bm_X7_keptIn false [.ref 0, .int (nI k)] h Q := by
  rcases hx.2.2.2.2.1.1 k hk with h1 | ⟨q, h1, h2, h3, h4, h5, h6⟩
  · exact me_keptIn_n hx hk h1.1 hQ
  · exact me_keptIn_z hx hk h1 h4 (h5 he) hQ
theorem me_keptIn_R {X : Nat × (Nat → Int32)} {Q : Option Value → bw_H → Prop} {h : bw_H} {S : ST} {k : Nat} {A : AC} (hx : XR h S) (hk : k < 3) (he : sK S k = some A) (hQ : ∀ q, bw_r h 37 k = some q → 62 ≤ q → q + 13 ≤ bw_n h → co_s h q → xco h q A (cT A.1) → ac_k A → 0 < cN A.1 → Q (some (.ref q)) h) : bw_me X 0 bm_X7_keptIn false [.ref 0, .int (nI k)] h Q := by
  rcases hx.2.2.2.2.1.1 k hk with h1 | ⟨q, h1, h2, h3, h4, h5, h6⟩
  · rw [h1.2] at he; cases he
  · obtain ⟨g1, g2, g3⟩ := h6 A he
    exact me_keptIn_r hx hk h1 h4 g1.1.2.1.1 g3 g1.1.2.2.1 (hQ q h1 h2 h3 h4 g1 g2 g3)
set_option maxRecDepth 100000 in
set_option maxHeartbeats 4000000 in
theorem me_X7_forgetKept {X : Nat × (Nat → Int32)} {Q : Option Value → bw_H → Prop} {h : bw_H} {S : ST} {k : Nat} (hx : XR h S) (hk : k < 3) (hQ : ∀ g, XR g (wK S (bw_up (sK S) k none)) → frM h g → Q none g) : bw_me X 1 bm_X7_forgetKept false [.ref 0, .int (nI k)] h Q := by
  show bw_go _ 1 7 3 false none cX7_forgetKept 0 [(0, .ref _), (1, .int _)] [] _ _
  cases e9 : sK S k with
  | none =>
    refine go_aload_n dX7_forgetKept_0 rfl ?_
    refine go_iload_n dX7_forgetKept_1 rfl ?_
    refine go_cv (as := [.int _]) 0 dX7_forgetKept_2 mt_7_171 (Or.inl rfl) rfl rfl hx.1.1.1 hx.1.1.2.1 (Nat.le_of_ble_eq_true rfl) (Nat.le_of_ble_eq_true rfl) (Nat.le_of_ble_eq_true rfl) (Nat.le_of_ble_eq_true rfl) (Nat.le_of_ble_eq_true rfl) ?_
    refine me_keptIn_N hx hk e9 ?_
    show bw_go _ _ _ _ _ _ _ 5 [(0, .ref _), (1, .int _)] (.null :: []) _ _
    refine go_astoreN_n dX7_forgetKept_5 (Nat.lt_of_lt_of_le (Nat.lt_succ_self _) (Nat.le_of_ble_eq_true rfl)) ?_
    show bw_go _ _ _ _ _ _ _ 6 [(2, .null), (0, .ref _), (1, .int _)] ([]) _ _
    refine go_aloadN_n dX7_forgetKept_6 rfl ?_
    refine go_nuN (pc' := 14) dX7_forgetKept_7 rfl ?_
    show bw_go _ _ _ _ _ _ _ 14 [(2, .null), (0, .ref _), (1, .int _)] ([]) _ _
    refine go_vret dX7_forgetKept_14 rfl ?_
    exact hQ h (by rw [wK_id e9]; exact hx) (frM_r h)
  | some A =>
    refine go_aload_n dX7_forgetKept_0 rfl ?_
    refine go_iload_n dX7_forgetKept_1 rfl ?_
    refine go_cv (as := [.int _]) 0 dX7_forgetKept_2 mt_7_171 (Or.inl rfl) rfl rfl hx.1.1.1 hx.1.1.2.1 (Nat.le_of_ble_eq_true rfl) (Nat.le_of_ble_eq_true rfl) (Nat.le_of_ble_eq_true rfl) (Nat.le_of_ble_eq_true rfl) (Nat.le_of_ble_eq_true rfl) ?_
    refine me_keptIn_R hx hk e9 (fun q r1 r2 r3 hq r5 r6 r7 => ?_)
    show bw_go _ _ _ _ _ _ _ 5 [(0, .ref _), (1, .int _)] ((.ref _) :: []) _ _
    refine go_astore_n dX7_forgetKept_5 (Nat.lt_of_lt_of_le (Nat.lt_succ_self _) (Nat.le_of_ble_eq_true rfl)) ?_
    show bw_go _ _ _ _ _ _ _ 6 [(2, .ref _), (0, .ref _), (1, .int _)] ([]) _ _
    refine go_aload_n dX7_forgetKept_6 rfl ?_
    refine go_nuR dX7_forgetKept_7 ?_
    show bw_go _ _ _ _ _ _ _ 10 [(2, .ref _), (0, .ref _), (1, .int _)] ([]) _ _
    refine go_aload_n dX7_forgetKept_10 rfl ?_
    refine go_cv (as := []) 0 dX7_forgetKept_11 mt_7_346 (Or.inr rfl) rfl rfl hq.1.1 hq.1.2.1 (Nat.le_of_ble_eq_true rfl) (Nat.le_of_ble_eq_true rfl) (Nat.le_of_ble_eq_true rfl) (Nat.le_of_ble_eq_true rfl) (Nat.le_of_ble_eq_true rfl) ?_
    refine me_X1_clear hq (fun I hI => ?_)
    show bw_go _ _ _ _ _ _ _ 14 [(2, .ref _), (0, .ref _), (1, .int _)] ([]) _ _
    refine go_vret dX7_forgetKept_14 rfl ?_
    exact hQ (bw_wi h I) (xr_kp hx (fun x hx1 => hI.2.2.2.2 x (by omega)) (xkp_clear hx.2.2.2.2.1 hk r1 hI.2.2.2.2 hI.1)) (frM_wi (g := bw_wi h I) rfl (fun x h1 h2 => hI.2.2.2.2 x (by omega)))
set_option maxRecDepth 100000 in
set_option maxHeartbeats 4000000 in
theorem me_X7_on {X : Nat × (Nat → Int32)} {Q : Option Value → bw_H → Prop} {h : bw_H} {S : ST} {k : Int32} (hx : XR h S) (hQ : PX h Q (yOn k S)) : bw_me X 3 bm_X7_on false [.ref 0, .int k] h Q := by
  have hc : bw_ct h 11 (nowC S) := hx.2.2.2.1.1.1
  have hN := hc.2.2.1
  show bw_go _ 3 7 3 false (some .int) cX7_on 0 [(0, .ref _), (1, .int _)] [] _ _
  refine go_iload_n dX7_on_0 rfl ?_
  refine go_if_lt (pc' := 9) dX7_on_1 rfl (fun c_1 => ?_) (fun c_1 => ?_)
  · -- lt at 1: yes
    show bw_go _ _ _ _ _ _ _ 9 [(0, .ref _), (1, .int _)] ([]) _ _
    refine go_iconst (-1) dX7_on_9 rfl ?_
    refine go_iret dX7_on_10 rfl rfl ?_
    refine q_x hQ ?_ hx (frM_r h)
    unfold yOn
    have l_0 := i_0
    simp only [i_lt] at c_1
    rw [if_neg (fun z => by have z2 := of_decide_eq_true (show decide (0 ≤ k.toInt ∧ k.toInt < (3 : Nat)) = true from z); omega)]
  · -- lt at 1: no
    show bw_go _ _ _ _ _ _ _ 4 [(0, .ref _), (1, .int _)] ([]) _ _
    refine go_iload_n dX7_on_4 rfl ?_
    refine go_iconst (3) dX7_on_5 rfl ?_
    refine go_icmp_lt (pc' := 11) dX7_on_6 rfl (fun c_6 => ?_) (fun c_6 => ?_)
    · -- lt at 6: yes
      have hk3 : 0 ≤ k.toInt ∧ k.toInt < (3 : Nat) := by have l_0 := i_0; have l_3 : (3 : Int32).toInt = 3 := rfl; simp only [i_lt] at c_1 c_6; omega
      obtain ⟨k, hk, rfl⟩ := isn_ex (r := k) (num := 3) (decide_eq_true hk3) (by decide)
      cases e9 : sK S k with
      | none =>
        refine go_aload_n dX7_on_11 rfl ?_
        refine go_iload_n dX7_on_12 rfl ?_
        refine go_cv (as := [.int _]) 0 dX7_on_13 mt_7_171 (Or.inl rfl) rfl rfl hx.1.1.1 hx.1.1.2.1 (Nat.le_of_ble_eq_true rfl) (Nat.le_of_ble_eq_true rfl) (Nat.le_of_ble_eq_true rfl) (Nat.le_of_ble_eq_true rfl) (Nat.le_of_ble_eq_true rfl) ?_
        refine me_keptIn_N hx hk e9 ?_
        show bw_go _ _ _ _ _ _ _ 16 [(0, .ref _), (1, .int _)] (.null :: []) _ _
        refine go_astoreN_n dX7_on_16 (Nat.lt_of_lt_of_le (Nat.lt_succ_self _) (Nat.le_of_ble_eq_true rfl)) ?_
        show bw_go _ _ _ _ _ _ _ 17 [(2, .null), (0, .ref _), (1, .int _)] ([]) _ _
        refine go_aloadN_n dX7_on_17 rfl ?_
        refine go_nnN dX7_on_18 ?_
        show bw_go _ _ _ _ _ _ _ 21 [(2, .null), (0, .ref _), (1, .int _)] ([]) _ _
        refine go_aload_n dX7_on_21 rfl ?_
        refine go_iconst (1) dX7_on_22 rfl ?_
        refine go_cv (as := [.int _]) 1 dX7_on_23 mt_7_90 (Or.inl rfl) rfl rfl hx.1.1.1 hx.1.1.2.1 (Nat.le_of_ble_eq_true rfl) (Nat.le_of_ble_eq_true rfl) (Nat.le_of_ble_eq_true rfl) (Nat.le_of_ble_eq_true rfl) (Nat.le_of_ble_eq_true rfl) ?_
        rw [show (1 : Int32) = nI 1 from rfl]
        refine me_X7_found hx (f := 1) (by decide) (fun g hg hf => ?_)
        show bw_go _ _ _ _ _ _ _ 26 [(2, .null), (0, .ref _), (1, .int _)] ((.int _) :: []) _ _
        refine go_iret dX7_on_26 rfl rfl ?_
        refine q_x hQ ?_ hg hf
        unfold yOn
        rw [if_pos (show isn (nI k) 3 = true from decide_eq_true hk3), rn_n (by omega), e9]
      | some A =>
        refine go_aload_n dX7_on_11 rfl ?_
        refine go_iload_n dX7_on_12 rfl ?_
        refine go_cv (as := [.int _]) 0 dX7_on_13 mt_7_171 (Or.inl rfl) rfl rfl hx.1.1.1 hx.1.1.2.1 (Nat.le_of_ble_eq_true rfl) (Nat.le_of_ble_eq_true rfl) (Nat.le_of_ble_eq_true rfl) (Nat.le_of_ble_eq_true rfl) (Nat.le_of_ble_eq_true rfl) ?_
        refine me_keptIn_R hx hk e9 (fun q r1 r2 r3 hq r5 r6 r7 => ?_)
        show bw_go _ _ _ _ _ _ _ 16 [(0, .ref _), (1, .int _)] ((.ref _) :: []) _ _
        refine go_astore_n dX7_on_16 (Nat.lt_of_lt_of_le (Nat.lt_succ_self _) (Nat.le_of_ble_eq_true rfl)) ?_
        show bw_go _ _ _ _ _ _ _ 17 [(2, .ref _), (0, .ref _), (1, .int _)] ([]) _ _
        refine go_aload_n dX7_on_17 rfl ?_
        refine go_nnR (pc' := 27) dX7_on_18 rfl ?_
        show bw_go _ _ _ _ _ _ _ 27 [(2, .ref _), (0, .ref _), (1, .int _)] ([]) _ _
        refine go_aload_n dX7_on_27 rfl ?_
        refine go_gfr dX7_on_28 fl_7_24 rfl hx.1.1.1 hx.1.1.2.1 hx.1.1.2.2.2.2.1 ?_
        refine go_aload_n dX7_on_31 rfl ?_
        refine go_cv (as := [.ref _]) 2 dX7_on_32 mt_7_134 (Or.inr rfl) rfl rfl hc.1.1.1 hc.1.1.2.1 (Nat.le_of_ble_eq_true rfl) (Nat.le_of_ble_eq_true rfl) (Nat.le_of_ble_eq_true rfl) (Nat.le_of_ble_eq_true rfl) (Nat.le_of_ble_eq_true rfl) ?_
        refine me_X1_take hx.2.2.2.1.1.1.1 hq (Or.inl (by omega)) (fun I hI => ?_)
        have hA2 : xco (bw_wi h I) 11 A (cT A.1) := xco_take r5 r6 hx.2.2.2.1.1.1.1 hI.1 hI.2.1 hI.2.2.1
        show bw_go _ _ _ _ _ _ _ 35 [(2, .ref _), (0, .ref _), (1, .int _)] ([]) _ _
        refine go_aload_n dX7_on_35 rfl ?_
        refine go_gfr dX7_on_36 fl_7_24 rfl hx.1.1.1 hx.1.1.2.1 hx.1.1.2.2.2.2.1 ?_
        refine go_gfi dX7_on_39 fl_7_165 rfl hc.1.1.1 hc.1.1.2.1 ?_
        rw [show bw_i (bw_wi h I) 11 3 = nI (cT A.1) from hA2.1.2.1.2.2.2.1]
        refine go_iret dX7_on_42 rfl rfl ?_
        refine q_x hQ ?_ (xr_now hx hI.2.2.2 hA2 r6) (frM_wi (g := bw_wi h I) rfl (fun x h1 h2 => hI.2.2.2 x (by unfold co_pl; omega)))
        unfold yOn
        rw [if_pos (show isn (nI k) 3 = true from decide_eq_true hk3), rn_n (by omega), e9]
    · -- lt at 6: no
      show bw_go _ _ _ _ _ _ _ 9 [(0, .ref _), (1, .int _)] ([]) _ _
      refine go_iconst (-1) dX7_on_9 rfl ?_
      refine go_iret dX7_on_10 rfl rfl ?_
      refine q_x hQ ?_ hx (frM_r h)
      unfold yOn
      have l_0 := i_0
      have l_3 : (3 : Int32).toInt = 3 := rfl
      simp only [i_lt] at c_6
      rw [if_neg (fun z => by have z2 := of_decide_eq_true (show decide (0 ≤ k.toInt ∧ k.toInt < (3 : Nat)) = true from z); omega)]
