/-! what lies elsewhere changes nothing of a state; keep -/
theorem co_s_tr {h g : bw_H} {p : Nat} (hc : co_s h p) (hn : bw_n h ≤ bw_n g) (hs : ∀ q, p ≤ q → q ≤ p + 12 → sm4 h g q) : co_s g p := by
  obtain ⟨⟨a1, a2, a3⟩, b1, b2, b3, b4, b5, b6⟩ := hc
  refine ⟨⟨by omega, (hs p (by omega) (by omega)).1.trans a2, by rw [(hs p (by omega) (by omega)).2.2.2]; exact a3⟩, ce_tr b1 hn (hs _ (by omega) (by omega)) (hs _ (by omega) (by omega)), ce_tr b2 hn (hs _ (by omega) (by omega)) (hs _ (by omega) (by omega)), ce_tr b3 hn (hs _ (by omega) (by omega)) (hs _ (by omega) (by omega)), ce_tr b4 hn (hs _ (by omega) (by omega)) (hs _ (by omega) (by omega)), ce_tr b5 hn (hs _ (by omega) (by omega)) (hs _ (by omega) (by omega)), ce_tr b6 hn (hs _ (by omega) (by omega)) (hs _ (by omega) (by omega))⟩
theorem lk_s_tr {h g : bw_H} {p : Nat} (hc : lk_s h p) (hn : bw_n h ≤ bw_n g) (hs : ∀ q, p ≤ q → q ≤ p + 6 → sm4 h g q) : lk_s g p := by
  obtain ⟨⟨a1, a2, a3⟩, b1, b2, b3⟩ := hc
  refine ⟨⟨by omega, (hs p (by omega) (by omega)).1.trans a2, by rw [(hs p (by omega) (by omega)).2.2.2]; exact a3⟩, ce_tr b1 hn (hs _ (by omega) (by omega)) (hs _ (by omega) (by omega)), ce_tr b2 hn (hs _ (by omega) (by omega)) (hs _ (by omega) (by omega)), ce_tr b3 hn (hs _ (by omega) (by omega)) (hs _ (by omega) (by omega))⟩
theorem tt_s_tr {h g : bw_H} {p : Nat} (hc : tt_s h p) (hn : bw_n h ≤ bw_n g) (hs : ∀ q, p ≤ q → q ≤ p + 6 → sm4 h g q) : tt_s g p := by
  obtain ⟨⟨a1, a2, a3⟩, b1, b2, b3⟩ := hc
  refine ⟨⟨by omega, (hs p (by omega) (by omega)).1.trans a2, by rw [(hs p (by omega) (by omega)).2.2.2]; exact a3⟩, ce_tr b1 hn (hs _ (by omega) (by omega)) (hs _ (by omega) (by omega)), ce_tr b2 hn (hs _ (by omega) (by omega)) (hs _ (by omega) (by omega)), ce_tr b3 hn (hs _ (by omega) (by omega)) (hs _ (by omega) (by omega))⟩
theorem ta_s_tr {h g : bw_H} {p : Nat} (hc : ta_s h p) (hn : bw_n h ≤ bw_n g) (hs : ∀ q, p ≤ q → q ≤ p + 4 → sm4 h g q) : ta_s g p := by
  obtain ⟨⟨a1, a2, a3⟩, b1, b2⟩ := hc
  refine ⟨⟨by omega, (hs p (by omega) (by omega)).1.trans a2, by rw [(hs p (by omega) (by omega)).2.2.2]; exact a3⟩, ce_tr b1 hn (hs _ (by omega) (by omega)) (hs _ (by omega) (by omega)), ce_tr b2 hn (hs _ (by omega) (by omega)) (hs _ (by omega) (by omega))⟩
theorem sf_tr {h g : bw_H} {p num wid : Nat} (hc : bw_sf h p num wid) (hn : bw_n h ≤ bw_n g) (hs : ∀ q, p ≤ q → q ≤ p + 4 → sm4 h g q) : bw_sf g p num wid := by
  obtain ⟨⟨a1, a2, a3⟩, b1, b2, b3, b4, b5⟩ := hc
  refine ⟨⟨by omega, (hs p (by omega) (by omega)).1.trans a2, by rw [(hs p (by omega) (by omega)).2.2.2]; exact a3⟩, ce_tr b1 hn (hs _ (by omega) (by omega)) (hs _ (by omega) (by omega)), ce_tr b2 hn (hs _ (by omega) (by omega)) (hs _ (by omega) (by omega)), ?_, ?_, b5⟩
  · rw [(hs p (by omega) (by omega)).2.1]; exact b3
  · rw [(hs p (by omega) (by omega)).2.1]; exact b4
theorem shR_tr {h g : bw_H} {p num wid : Nat} {s : Nat → Option Nat} {c : Nat → Nat → Int32} (hc : shR h p num wid s c) (hn : bw_n h ≤ bw_n g) (hs : ∀ q, p ≤ q → q ≤ p + 4 → sm4 h g q) : shR g p num wid s c := by
  refine ⟨sf_tr hc.1 hn hs, fun r hr => ?_⟩
  rw [(hs (p + 2) (by omega) (by omega)).2.1, (hs (p + 4) (by omega) (by omega)).2.1]
  exact hc.2 r hr
theorem xco_tr {h g : bw_H} {p k : Nat} {A : AC} (hx : xco h p A k) (hn : bw_n h ≤ bw_n g) (hs : ∀ q, p ≤ q → q ≤ p + 12 → sm4 h g q) : xco g p A k := by
  refine ⟨ct_i hx.1 (co_s_tr hx.1.1 hn hs) (hs _ (by omega) (by omega)).2.1 (hs _ (by omega) (by omega)).2.1 (hs _ (by omega) (by omega)).2.1 (hs _ (by omega) (by omega)).2.1 (hs _ (by omega) (by omega)).2.1, fun j hj => ?_⟩
  rw [(hs (p + 10) (by omega) (by omega)).2.1, (hs (p + 12) (by omega) (by omega)).2.1]
  exact hx.2 j hj
theorem xkp_tr {h g : bw_H} {kp : Nat → Option AC} (hx : xkp h kp) (hn : bw_n h ≤ bw_n g) (hs : ∀ q, 62 ≤ q → q < bw_n h → sm4 h g q) (e : bw_r g 37 = bw_r h 37) : xkp g kp := by
  refine ⟨fun k hk => ?_, fun k l hk hl hkl q q2 h1 h2 => ?_⟩
  · rw [e]
    rcases hx.1 k hk with h1 | ⟨q, h1, h2, h3, h4, h5, h6⟩
    · exact Or.inl h1
    · refine Or.inr ⟨q, h1, h2, by omega, co_s_tr h4 hn (fun x a b => hs x (by omega) (by omega)), fun z => ?_, fun A hA => ?_⟩
      · rw [(hs q h2 (by omega)).2.1]; exact h5 z
      · obtain ⟨g1, g2, g3⟩ := h6 A hA
        exact ⟨xco_tr g1 hn (fun x a b => hs x (by omega) (by omega)), g2, g3⟩
  · rw [e] at h1 h2
    exact hx.2 k l hk hl hkl q q2 h1 h2
theorem xr_tr {h g : bw_H} {S : ST} (hx : XR h S) (hn : bw_n h ≤ bw_n g) (hs : ∀ q, (q < 60 ∨ 60 ≤ q) → q < bw_n h → q ≠ 37 → sm4 h g q) (e37 : bw_k g 37 = bw_k h 37) (hk : xkp g (sK S)) : XR g S := by
  obtain ⟨⟨⟨a1, a2, a3⟩, ⟨a4, a5⟩, ⟨a6, a7, a7b, a7c⟩, a8, a9, a10, a11, a12, a13⟩, h2, h3, ⟨h4, h5⟩, h6, h7, h8⟩ := hx
  have s0 := hs 0 (by omega) (by omega) (by omega)
  refine ⟨⟨⟨by omega, s0.1.trans a2, by rw [s0.2.2.2]; exact a3⟩, ⟨by omega, e37.trans a5⟩, ⟨by omega, (hs 38 (by omega) (by omega) (by omega)).1.trans a7, by rw [(hs 38 (by omega) (by omega) (by omega)).2.2.2]; exact a7b, ce_tr a7c hn (hs 60 (by omega) (by omega) (by omega)) (hs 61 (by omega) (by omega) (by omega))⟩, co_s_tr a8 hn (fun q x y => hs q (by omega) (by omega) (by omega)), lk_s_tr a9 hn (fun q x y => hs q (by omega) (by omega) (by omega)), ta_s_tr a10 hn (fun q x y => hs q (by omega) (by omega) (by omega)), tt_s_tr a11 hn (fun q x y => hs q (by omega) (by omega) (by omega)), ce_tr a12 hn (hs _ (by omega) (by omega) (by omega)) (hs _ (by omega) (by omega) (by omega)), by omega⟩, shR_tr h2 hn (fun q x y => hs q (by omega) (by omega) (by omega)), shR_tr h3 hn (fun q x y => hs q (by omega) (by omega) (by omega)), ⟨xco_tr h4 hn (fun q x y => hs q (by omega) (by omega) (by omega)), h5⟩, hk, ?_, ?_⟩
  · rw [(hs 59 (by omega) (by omega) (by omega)).2.1]; exact h7
  · unfold xfl; rw [s0.2.1, s0.2.2.1]; exact h8
theorem xkp_put {h : bw_H} {kp : Nat → Option AC} {I : Nat → Nat → Int32} {k q : Nat} {A : AC} (hx : xkp h kp) (hk : k < 3) (hr : bw_r h 37 k = some q) (e : ∀ x, ¬ co_pl q x → I x = bw_i h x) (h1 : xco (bw_wi h I) q A (cT A.1)) (h2 : ac_k A) (h3 : 0 < cN A.1) : xkp (bw_wi h I) (bw_up kp k (some A)) := by
  refine ⟨fun l hl => ?_, hx.2⟩
  by_cases hlk : l = k
  · subst hlk
    rw [bw_up_s]
    rcases hx.1 l hl with g1 | ⟨q2, g1, g2, g3, g4, g5, g6⟩
    · rw [hr] at g1; cases g1.1
    · rw [hr] at g1; cases g1
      exact Or.inr ⟨q, hr, g2, g3, g4, (fun z => by cases z), (fun B hB => by cases hB; exact ⟨h1, h2, h3⟩)⟩
  · rw [bw_up_o hlk]
    rcases hx.1 l hl with g1 | ⟨q2, g1, g2, g3, g4, g5, g6⟩
    · exact Or.inl g1
    · have hap := hx.2 l k hl hk hlk q2 q g1 hr
      unfold bw_apart at hap
      refine Or.inr ⟨q2, g1, g2, g3, g4, fun z => ?_, fun B hB => ?_⟩
      · rw [i_wi, e q2 (by unfold co_pl; omega)]; exact g5 z
      · obtain ⟨f1, f2, f3⟩ := g6 B hB
        exact ⟨xco_wi f1 (fun x hx1 => e x (by unfold co_pl at hx1 ⊢; omega)), f2, f3⟩
theorem xr_new {h g : bw_H} {S : ST} {k : Nat} (hx : XR h S) (hk : k < 3) (hr : bw_r h 37 k = none) (hn : bw_n g = bw_n h + 13) (hc : co_s g (bw_n h)) (h0 : bw_i g (bw_n h) 0 = 0) (hs : ∀ q, q < bw_n h → sm4 h g q) : XR (bw_sr g 37 k (some (bw_n h))) S := by
  have h76 : 62 ≤ bw_n h := hx.1.2.2.2.2.2.2.2.2
  have hsr : ∀ q, q < bw_n h → q ≠ 37 → sm4 h (bw_sr g 37 k (some (bw_n h))) q := fun q h1 h2 => sm4_t (hs q h1) (sr_o h2)
  have hn2 : bw_n h ≤ bw_n (bw_sr g 37 k (some (bw_n h))) := by show bw_n h ≤ bw_n g; omega
  have hr37 : bw_r (bw_sr g 37 k (some (bw_n h))) 37 = bw_up (bw_r h 37) k (some (bw_n h)) := by rw [r_sr_s, (hs 37 (by omega)).2.2.2]
  refine xr_tr hx hn2 (fun q _ h1 h2 => hsr q h1 h2) ((hs 37 (by omega)).1) ⟨fun l hl => ?_, fun l m hl hm hlm q q2 h1 h2 => ?_⟩
  · rw [hr37]
    have hx6 := hx.2.2.2.2.1
    by_cases hlk : l = k
    · subst hlk
      rw [bw_up_s]
      have hno : sK S l = none := by
        rcases hx6.1 l hl with g1 | ⟨q2, g1, _⟩
        · exact g1.2
        · rw [hr] at g1; cases g1
      refine Or.inr ⟨bw_n h, rfl, h76, by show bw_n h + 13 ≤ bw_n g; omega, co_s_tr hc (by show bw_n g ≤ bw_n g; omega) (fun q a b => sr_o (by omega)), fun _ => h0, fun A hA => ?_⟩
      rw [hno] at hA; cases hA
    · rw [bw_up_o hlk]
      rcases hx6.1 l hl with g1 | ⟨q2, g1, g2, g3, g4, g5, g6⟩
      · exact Or.inl g1
      · refine Or.inr ⟨q2, g1, g2, by omega, co_s_tr g4 hn2 (fun q a b => hsr q (by omega) (by omega)), fun z => ?_, fun A hA => ?_⟩
        · rw [(hsr q2 (by omega) (by omega)).2.1]; exact g5 z
        · obtain ⟨f1, f2, f3⟩ := g6 A hA
          exact ⟨xco_tr f1 hn2 (fun x a b => hsr x (by omega) (by omega)), f2, f3⟩
  · rw [hr37] at h1 h2
    have hx6 := hx.2.2.2.2.1
    have hub : ∀ l q, l < 3 → bw_r h 37 l = some q → q + 13 ≤ bw_n h := fun l q hl hq => by
      rcases hx6.1 l hl with g1 | ⟨q2, g1, g2, g3, _⟩
      · rw [hq] at g1; cases g1.1
      · rw [hq] at g1; cases g1; exact g3
    unfold bw_apart
    by_cases e1 : l = k
    · subst e1
      rw [bw_up_s] at h1
      rw [bw_up_o (by omega)] at h2
      cases h1
      have := hub m q2 hm h2
      omega
    · rw [bw_up_o e1] at h1
      by_cases e2 : m = k
      · subst e2
        rw [bw_up_s] at h2
        cases h2
        have := hub l q hl h1
        omega
      · rw [bw_up_o e2] at h2
        exact hx6.2 l m hl hm hlm q q2 h1 h2
theorem pot_put {h g : bw_H} {k v : Nat} (hk : k < 3) (hr : bw_r h 37 k = none) (e : bw_r g 37 = bw_up (bw_r h 37) k (some v)) : pot g + 1 = pot h := by
  unfold pot pot1
  rw [e]
  have hv : ¬ (some v : Option Nat) = none := fun z => by cases z
  rcases (show k = 0 ∨ k = 1 ∨ k = 2 by omega) with rfl | rfl | rfl
  · rw [bw_up_s, bw_up_o (by decide), bw_up_o (by decide), if_neg hv, if_pos hr]; omega
  · rw [bw_up_o (by decide), bw_up_s, bw_up_o (by decide), if_neg hv, if_pos hr]; omega
  · rw [bw_up_o (by decide), bw_up_o (by decide), bw_up_s, if_neg hv, if_pos hr]
abbrev PK (h : bw_H) (Q : Option Value → bw_H → Prop) (y : Int32 × ST) : Prop := ∀ g, XR g y.2 → (bw_n g = bw_n h ∨ bw_n g = bw_n h + 13) → Q (some (.int y.1)) g
theorem q_k {y : Int32 × ST} {Q : Option Value → bw_H → Prop} {h : bw_H} {res : Int32} {S' : ST} (hQ : PK h Q y) (e : y = (res, S')) {g : bw_H} (hg : XR g S') (hf : bw_n g = bw_n h ∨ bw_n g = bw_n h + 13) : Q (some (.int res)) g := by
  subst e; exact hQ g hg hf
def yKeep (k : Int32) (S : ST) : Int32 × ST := if isn k 3 = true then (if cN (nowC S) = 0 then (-4, S) else (nI (cT (sA S).1), wK S (bw_up (sK S) (rn k) (some (sA S))))) else (-1, S)
set_option maxRecDepth 100000 in
set_option maxHeartbeats 4000000 in
theorem me_X7_keep {X : Nat × (Nat → Int32)} {Q : Option Value → bw_H → Prop} {h : bw_H} {S : ST} {k : Int32} (hx : XR h S) (hQ : PK h Q (yKeep k S)) : bw_me X 3 bm_X7_keep false [.ref 0, .int k] h Q := by
  have hc : bw_ct h 11 (nowC S) := hx.2.2.2.1.1.1
  have hN := hc.2.2.1
  show bw_go _ 3 7 3 false (some .int) cX7_keep 0 [(0, .ref _), (1, .int _)] [] _ _
  refine go_iload_n dX7_keep_0 rfl ?_
  refine go_if_lt (pc' := 13) dX7_keep_1 rfl (fun c_1 => ?_) (fun c_1 => ?_)
  · -- lt at 1: yes
    show bw_go _ _ _ _ _ _ _ 13 [(0, .ref _), (1, .int _)] ([]) _ _
    refine go_iconst (-1) dX7_keep_13 rfl ?_
    refine go_iret dX7_keep_14 rfl rfl ?_
    refine q_k hQ ?_ hx (Or.inl rfl)
    unfold yKeep
    have l_0 := i_0
    simp only [i_lt] at c_1
    rw [if_neg (fun z => by have z2 := of_decide_eq_true (show decide (0 ≤ k.toInt ∧ k.toInt < (3 : Nat)) = true from z); omega)]
  · -- lt at 1: no
    show bw_go _ _ _ _ _ _ _ 4 [(0, .ref _), (1, .int _)] ([]) _ _
    refine go_iload_n dX7_keep_4 rfl ?_
    refine go_aload_n dX7_keep_5 rfl ?_
    refine go_gfr dX7_keep_6 fl_7_31 rfl hx.1.1.1 hx.1.1.2.1 hx.1.1.2.2.2.2.2.2.1 ?_
    refine go_len dX7_keep_9 hx.1.2.1.2 hx.1.2.1.1 (Or.inr (Or.inr rfl)) ?_
    refine go_icmp_lt (pc' := 15) dX7_keep_10 rfl (fun c_10 => ?_) (fun c_10 => ?_)
    · -- lt at 10: yes
      show bw_go _ _ _ _ _ _ _ 15 [(0, .ref _), (1, .int _)] ([]) _ _
      refine go_aload_n dX7_keep_15 rfl ?_
      refine go_gfr dX7_keep_16 fl_7_24 rfl hx.1.1.1 hx.1.1.2.1 hx.1.1.2.2.2.2.1 ?_
      refine go_gfi dX7_keep_19 fl_7_141 rfl hc.1.1.1 hc.1.1.2.1 ?_
      rw [hc.2.1.1]
      refine go_if_ne (pc' := 28) dX7_keep_22 rfl (fun c_22 => ?_) (fun c_22 => ?_)
      · -- ne at 22: yes
        have h0 : ¬ cN (nowC S) = 0 := fun z => c_22 ((nI_eq (a := cN (nowC S)) (b := 0) (by omega) (by omega)).mpr z)
        have hk3 : 0 ≤ k.toInt ∧ k.toInt < (3 : Nat) := by have l_0 := i_0; have t_3 := nI_toInt (n := 3) (by decide); simp only [i_lt] at c_1 c_10; omega
        obtain ⟨k, hk, rfl⟩ := isn_ex (r := k) (num := 3) (decide_eq_true hk3) (by decide)
        have h76 : 62 ≤ bw_n h := hx.1.2.2.2.2.2.2.2.2
        rcases hx.2.2.2.2.1.1 k hk with hno | ⟨q, hrq, hq76, hqn, hqs, _, _⟩
        · skip
          refine go_aload_n dX7_keep_28 rfl ?_
          refine go_gfr dX7_keep_29 fl_7_31 rfl hx.1.1.1 hx.1.1.2.1 hx.1.1.2.2.2.2.2.2.1 ?_
          refine go_iload_n dX7_keep_32 rfl ?_
          refine go_aaN dX7_keep_33 hx.1.2.1.2 hx.1.2.1.1 (n_in (N := 3) hk (by decide)) (by rw [nI_clamp (by omega)]; exact hno.1) ?_
          refine go_astoreN_n dX7_keep_34 (Nat.lt_of_lt_of_le (Nat.lt_succ_self _) (Nat.le_of_ble_eq_true rfl)) ?_
          show bw_go _ _ _ _ _ _ _ 35 [(2, .null), (0, .ref _), (1, .int _)] ([]) _ _
          refine go_aloadN_n dX7_keep_35 rfl ?_
          refine go_nnN dX7_keep_36 ?_
          refine go_new dX7_keep_39 (c := 1) rfl (Nat.le_of_ble_eq_true rfl) ?_
          refine go_dupA dX7_keep_42 ?_
          refine go_ci (as := []) 1 dX7_keep_43 rfl mt_7_23 (Or.inr rfl) rfl rfl rfl rfl (Nat.le_of_ble_eq_true rfl) (Nat.le_of_ble_eq_true rfl) (Nat.le_of_ble_eq_true rfl) (Nat.le_of_ble_eq_true rfl) ?_
          refine me_X1_init (p := bw_n h) (h := bw_nw h (.inl 1) (bw_N 1)) rfl (nwk_ _ _ _) (fun g ho hi => ?_)
          have hqs : co_s g (bw_n h) := ob_co ho
          have hn : bw_n g = bw_n h + 13 := ho.1
          have hs0 : ∀ q, q < bw_n h → sm4 h g q := fun q hq => sm4_t (nw_o (by omega)) (ho.2.2.2.2 q hq)
          show bw_go _ _ _ _ _ _ _ 46 [(2, .null), (0, .ref _), (1, .int _)] ((.ref _) :: []) _ _
          refine go_astore_n dX7_keep_46 (Nat.lt_of_lt_of_le (Nat.lt_succ_self _) (Nat.le_of_ble_eq_true rfl)) ?_
          show bw_go _ _ _ _ _ _ _ 47 [(2, .ref _), (0, .ref _), (1, .int _)] ([]) _ _
          refine go_aload_n dX7_keep_47 rfl ?_
          refine go_gfr dX7_keep_48 fl_7_31 rfl (by omega) ((hs0 0 (by omega)).1.trans hx.1.1.2.1) (by rw [(hs0 0 (by omega)).2.2.2]; exact hx.1.1.2.2.2.2.2.2.1) ?_
          refine go_iload_n dX7_keep_51 rfl ?_
          refine go_aload_n dX7_keep_52 rfl ?_
          refine go_ast dX7_keep_53 ((hs0 37 (by omega)).1.trans hx.1.2.1.2) (by omega) (by omega) hqs.1.2.1 (n_in (N := 3) hk (by decide)) ?_
          show bw_go _ _ _ _ _ _ _ 54 [(2, .ref _), (0, .ref _), (1, .int _)] ([]) _ _
          rw [nI_clamp (by omega)]
          have hx2 := xr_new hx hk hno.1 hn hqs hi.1 hs0
          have hr37 : bw_r (bw_sr g 37 k (some (bw_n h))) 37 k = some (bw_n h) := by rw [r_sr_s, bw_up_s]
          have hpp := pot_put (g := bw_sr g 37 k (some (bw_n h))) hk hno.1 (by rw [r_sr_s, (hs0 37 (by omega)).2.2.2])
          have hf2 : bw_n (bw_sr g 37 k (some (bw_n h))) = bw_n h + 13 := hn
          have hqs0 := hqs
          have hqs : co_s (bw_sr g 37 k (some (bw_n h))) (bw_n h) := co_s_tr hqs0 (Nat.le_refl _) (fun q a b => sr_o (by omega))
          have hx0 := hx
          have hx := hx2
          have hrq := hr37
          have hc : bw_ct (bw_sr g 37 k (some (bw_n h))) 11 (nowC S) := hx.2.2.2.1.1.1
          refine go_aload_n dX7_keep_54 rfl ?_
          refine go_aload_n dX7_keep_55 rfl ?_
          refine go_gfr dX7_keep_56 fl_7_24 rfl hx.1.1.1 hx.1.1.2.1 hx.1.1.2.2.2.2.1 ?_
          refine go_cv (as := [.ref _]) 2 dX7_keep_59 mt_7_134 (Or.inr rfl) rfl rfl hqs.1.1 hqs.1.2.1 (Nat.le_of_ble_eq_true rfl) (Nat.le_of_ble_eq_true rfl) (Nat.le_of_ble_eq_true rfl) (Nat.le_of_ble_eq_true rfl) (Nat.le_of_ble_eq_true rfl) ?_
          refine me_X1_take hqs hx.2.2.2.1.1.1.1 (Or.inr (by omega)) (fun I hI => ?_)
          have hA2 : xco (bw_wi (bw_sr g 37 k (some (bw_n h))) I) (bw_n h) (sA S) (cT (sA S).1) := xco_take hx.2.2.2.1.1 hx.2.2.2.1.2 hqs hI.1 hI.2.1 hI.2.2.1
          have hx3 : XR (bw_wi (bw_sr g 37 k (some (bw_n h))) I) (wK S (bw_up (sK S) k (some (sA S)))) := xr_kp hx (fun x hx1 => hI.2.2.2 x (by unfold co_pl; omega)) (xkp_put hx.2.2.2.2.1 hk hrq hI.2.2.2 hA2 hx.2.2.2.1.2 (by show 0 < cN (nowC S); omega))
          have hf3 : frM (bw_sr g 37 k (some (bw_n h))) (bw_wi (bw_sr g 37 k (some (bw_n h))) I) := frM_wi (g := bw_wi (bw_sr g 37 k (some (bw_n h))) I) rfl (fun x h1 h2 => hI.2.2.2 x (by unfold co_pl; omega))
          show bw_go _ _ _ _ _ _ _ 62 [(2, .ref _), (0, .ref _), (1, .int _)] ([]) _ _
          refine go_aload_n dX7_keep_62 rfl ?_
          refine go_gfr dX7_keep_63 fl_7_24 rfl hx.1.1.1 hx.1.1.2.1 hx.1.1.2.2.2.2.1 ?_
          refine go_gfi dX7_keep_66 fl_7_165 rfl hc.1.1.1 hc.1.1.2.1 ?_
          rw [show bw_i (bw_wi (bw_sr g 37 k (some (bw_n h))) I) 11 3 = nI (cT (sA S).1) from hx3.2.2.2.1.1.1.2.1.2.2.2.1]
          refine go_iret dX7_keep_69 rfl rfl ?_
          refine q_k hQ ?_ hx3 (Or.inr (Eq.trans hf3 hf2))
          unfold yKeep
          rw [if_pos (show isn (nI k) 3 = true from decide_eq_true hk3), if_neg h0, rn_n (by omega)]
        · skip
          refine go_aload_n dX7_keep_28 rfl ?_
          refine go_gfr dX7_keep_29 fl_7_31 rfl hx.1.1.1 hx.1.1.2.1 hx.1.1.2.2.2.2.2.2.1 ?_
          refine go_iload_n dX7_keep_32 rfl ?_
          refine go_aaR dX7_keep_33 hx.1.2.1.2 hx.1.2.1.1 (n_in (N := 3) hk (by decide)) (by rw [nI_clamp (by omega)]; exact hrq) ?_
          refine go_astore_n dX7_keep_34 (Nat.lt_of_lt_of_le (Nat.lt_succ_self _) (Nat.le_of_ble_eq_true rfl)) ?_
          show bw_go _ _ _ _ _ _ _ 35 [(2, .ref _), (0, .ref _), (1, .int _)] ([]) _ _
          refine go_aload_n dX7_keep_35 rfl ?_
          refine go_nnR (pc' := 54) dX7_keep_36 rfl ?_
          refine go_aload_n dX7_keep_54 rfl ?_
          refine go_aload_n dX7_keep_55 rfl ?_
          refine go_gfr dX7_keep_56 fl_7_24 rfl hx.1.1.1 hx.1.1.2.1 hx.1.1.2.2.2.2.1 ?_
          refine go_cv (as := [.ref _]) 2 dX7_keep_59 mt_7_134 (Or.inr rfl) rfl rfl hqs.1.1 hqs.1.2.1 (Nat.le_of_ble_eq_true rfl) (Nat.le_of_ble_eq_true rfl) (Nat.le_of_ble_eq_true rfl) (Nat.le_of_ble_eq_true rfl) (Nat.le_of_ble_eq_true rfl) ?_
          refine me_X1_take hqs hx.2.2.2.1.1.1.1 (Or.inr (by omega)) (fun I hI => ?_)
          have hA2 : xco (bw_wi h I) q (sA S) (cT (sA S).1) := xco_take hx.2.2.2.1.1 hx.2.2.2.1.2 hqs hI.1 hI.2.1 hI.2.2.1
          have hx3 : XR (bw_wi h I) (wK S (bw_up (sK S) k (some (sA S)))) := xr_kp hx (fun x hx1 => hI.2.2.2 x (by unfold co_pl; omega)) (xkp_put hx.2.2.2.2.1 hk hrq hI.2.2.2 hA2 hx.2.2.2.1.2 (by show 0 < cN (nowC S); omega))
          have hf3 : frM h (bw_wi h I) := frM_wi (g := bw_wi h I) rfl (fun x h1 h2 => hI.2.2.2 x (by unfold co_pl; omega))
          show bw_go _ _ _ _ _ _ _ 62 [(2, .ref _), (0, .ref _), (1, .int _)] ([]) _ _
          refine go_aload_n dX7_keep_62 rfl ?_
          refine go_gfr dX7_keep_63 fl_7_24 rfl hx.1.1.1 hx.1.1.2.1 hx.1.1.2.2.2.2.1 ?_
          refine go_gfi dX7_keep_66 fl_7_165 rfl hc.1.1.1 hc.1.1.2.1 ?_
          rw [show bw_i (bw_wi h I) 11 3 = nI (cT (sA S).1) from hx3.2.2.2.1.1.1.2.1.2.2.2.1]
          refine go_iret dX7_keep_69 rfl rfl ?_
          refine q_k hQ ?_ hx3 (Or.inl hf3)
          unfold yKeep
          rw [if_pos (show isn (nI k) 3 = true from decide_eq_true hk3), if_neg h0, rn_n (by omega)]
      · -- ne at 22: no
        show bw_go _ _ _ _ _ _ _ 25 [(0, .ref _), (1, .int _)] ([]) _ _
        refine go_bipush (-4) dX7_keep_25 rfl ?_
        refine go_iret dX7_keep_27 rfl rfl ?_
        have hk3 : 0 ≤ k.toInt ∧ k.toInt < (3 : Nat) := by have l_0 := i_0; have t_3 := nI_toInt (n := 3) (by decide); simp only [i_lt] at c_1 c_10; omega
        refine q_k hQ ?_ hx (Or.inl rfl)
        unfold yKeep
        rw [if_pos (show isn k 3 = true from decide_eq_true hk3), if_pos ((nI_eq (a := cN (nowC S)) (b := 0) (by omega) (by omega)).mp (Decidable.of_not_not c_22))]
    · -- lt at 10: no
      show bw_go _ _ _ _ _ _ _ 13 [(0, .ref _), (1, .int _)] ([]) _ _
      refine go_iconst (-1) dX7_keep_13 rfl ?_
      refine go_iret dX7_keep_14 rfl rfl ?_
      refine q_k hQ ?_ hx (Or.inl rfl)
      unfold yKeep
      have l_0 := i_0
      have t_3 := nI_toInt (n := 3) (by decide)
      simp only [i_lt] at c_10
      rw [if_neg (fun z => by have z2 := of_decide_eq_true (show decide (0 ≤ k.toInt ∧ k.toInt < (3 : Nat)) = true from z); omega)]
