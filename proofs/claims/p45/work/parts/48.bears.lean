/-! BearWitness: one bear -/
def nowC (S : ST) : CT := hsT (sA S) (cT (sA S).1)
def yTells (i x : Int32) (S : ST) : Int32 × ST := if isn i (cN (nowC S)) = true ∧ isn x 6 = true then (ans (cW (nowC S)) (rn i) (cK (nowC S) (rn i)) (cR (nowC S) (rn i)) (cV (nowC S) (rn i)) (cE (nowC S) (rn i)) (rn x) (cD (nowC S)), S) else (-1, S)
def yMark (i k : Int32) (S : ST) : Int32 × ST := if isn i (cN (nowC S)) = true ∧ 1 ≤ k.toInt ∧ k.toInt < 6 then (if ofk (cK (nowC S) (rn i)) (rn k) = true then (nI (mkf (nowC S) (rn k) (rn i)), S) else (-3, fnd S 3)) else (-1, S)
def obf (C : CT) (i w : Nat) : Nat := if w = 0 then cK C i else if w = 1 then cE C i else if w = 2 then cR C i else if w = 3 then cV C i else if w = 4 then (if (cW C).testBit i = true then 1 else 0) else tol (cW C) i (cK C i) (cR C i) (cV C i) (cE C i)
def yBear (i w : Int32) (S : ST) : Int32 × ST := if isn i (cN (nowC S)) = true ∧ isn w 6 = true then (1, wQ S (nI (obf (nowC S) (rn i) (rn w)))) else (-1, S)
def yUndo (n : Int32) (S : ST) : Int32 × ST := if 0 ≤ n.toInt ∧ n.toInt ≤ cT (sA S).1 then (nI (cT (sA S).1 - rn n), wA S (acT (sA S) (rn n))) else (-1, S)
theorem xr_now {h : bw_H} {S : ST} {I : Nat → Nat → Int32} {A : AC} (hx : XR h S) (e : ∀ q, ¬ co_pl 11 q → I q = bw_i h q) (hn : xco (bw_wi h I) 11 A (cT A.1)) (ha : ac_k A) : XR (bw_wi h I) (wA S A) := by
  obtain ⟨h1, h2, h3, ⟨h4, h5⟩, h6, h7, h8⟩ := hx
  unfold co_pl at e
  refine ⟨h1, shR_wi h2 (e _ (by omega)) (e _ (by omega)) (e _ (by omega)), shR_wi h3 (e _ (by omega)) (e _ (by omega)) (e _ (by omega)), ⟨hn, ha⟩, xkp_wi h6 (fun q hq => e q (by omega)), ?_, ?_⟩
  · rw [i_wi, e _ (by omega)]; exact h7
  · unfold xfl; rw [i_wi, e _ (by omega)]; exact h8
set_option maxRecDepth 100000 in
set_option maxHeartbeats 4000000 in
theorem me_X7_tells {X : Nat × (Nat → Int32)} {Q : Option Value → bw_H → Prop} {h : bw_H} {S : ST} {i x : Int32} (hx : XR h S) (hQ : PX h Q (yTells i x S)) : bw_me X 5 bm_X7_tells false [.ref 0, .int i, .int x] h Q := by
  have hc : bw_ct h 11 (nowC S) := hx.2.2.2.1.1.1
  have hN := hc.2.2.1
  show bw_go _ 5 7 3 false (some .int) cX7_tells 0 [(0, .ref _), (1, .int _), (2, .int _)] [] _ _
  refine go_aload_n dX7_tells_0 rfl ?_
  refine go_gfr dX7_tells_1 fl_7_24 rfl hx.1.1.1 hx.1.1.2.1 hx.1.1.2.2.2.2.1 ?_
  refine go_iload_n dX7_tells_4 rfl ?_
  refine go_cv (as := [.int _]) 0 dX7_tells_5 mt_7_144 (Or.inr rfl) rfl rfl hc.1.1.1 hc.1.1.2.1 (Nat.le_of_ble_eq_true rfl) (Nat.le_of_ble_eq_true rfl) (Nat.le_of_ble_eq_true rfl) (Nat.le_of_ble_eq_true rfl) (Nat.le_of_ble_eq_true rfl) ?_
  refine me_X1_hasBear hc ?_
  show bw_go _ _ _ _ _ _ _ 8 [(0, .ref _), (1, .int _), (2, .int _)] ((.int _) :: []) _ _
  refine go_ifb_eq (pc' := 18) dX7_tells_8 rfl (fun c_8 => ?_) (fun c_8 => ?_)
  · -- eq at 8: yes
    show bw_go _ _ _ _ _ _ _ 18 [(0, .ref _), (1, .int _), (2, .int _)] ([]) _ _
    refine go_iconst (-1) dX7_tells_18 rfl ?_
    refine go_iret dX7_tells_19 rfl rfl ?_
    refine q_x hQ ?_ hx (frM_r h)
    unfold yTells
    rw [if_neg (fun z => Bool.noConfusion ((show isn i (cN (nowC S)) = false from c_8).symm.trans z.1))]
  · -- eq at 8: no
    show bw_go _ _ _ _ _ _ _ 11 [(0, .ref _), (1, .int _), (2, .int _)] ([]) _ _
    refine go_iload_n dX7_tells_11 rfl ?_
    refine go_cs (as := [.int _]) 0 dX7_tells_12 rfl rfl mt_7_175 (Nat.le_of_ble_eq_true rfl) rfl rfl (Nat.le_of_ble_eq_true rfl) (Nat.le_of_ble_eq_true rfl) (Nat.le_of_ble_eq_true rfl) (Nat.le_of_ble_eq_true rfl) ?_
    refine me_X7_isThing ?_
    show bw_go _ _ _ _ _ _ _ 15 [(0, .ref _), (1, .int _), (2, .int _)] ((.int _) :: []) _ _
    refine go_ifb_ne (pc' := 20) dX7_tells_15 rfl (fun c_15 => ?_) (fun c_15 => ?_)
    · -- ne at 15: yes
      show bw_go _ _ _ _ _ _ _ 20 [(0, .ref _), (1, .int _), (2, .int _)] ([]) _ _
      obtain ⟨i, hi, rfl⟩ := isn_ex (num := cN (nowC S)) c_8 (by omega)
      obtain ⟨y, hy, rfl⟩ := isn_ex (num := 6) c_15 (by decide)
      refine go_aload_n dX7_tells_20 rfl ?_
      refine go_gfr dX7_tells_21 fl_7_24 rfl hx.1.1.1 hx.1.1.2.1 hx.1.1.2.2.2.2.1 ?_
      refine go_iload_n dX7_tells_24 rfl ?_
      refine go_iload_n dX7_tells_25 rfl ?_
      refine go_cv (as := [.int _, .int _]) 4 dX7_tells_26 mt_7_178 (Or.inr rfl) rfl rfl hc.1.1.1 hc.1.1.2.1 (Nat.le_of_ble_eq_true rfl) (Nat.le_of_ble_eq_true rfl) (Nat.le_of_ble_eq_true rfl) (Nat.le_of_ble_eq_true rfl) (Nat.le_of_ble_eq_true rfl) ?_
      refine me_X1_answerOf hc hi hy ?_
      show bw_go _ _ _ _ _ _ _ 29 [(0, .ref _), (1, .int _), (2, .int _)] ((.int _) :: []) _ _
      refine go_iret dX7_tells_29 rfl rfl ?_
      refine q_x hQ ?_ hx (frM_r h)
      unfold yTells
      rw [if_pos ⟨(show isn (nI i) (cN (nowC S)) = true from c_8), (show isn (nI y) 6 = true from c_15)⟩, rn_n (by omega), rn_n (by omega)]
    · -- ne at 15: no
      show bw_go _ _ _ _ _ _ _ 18 [(0, .ref _), (1, .int _), (2, .int _)] ([]) _ _
      refine go_iconst (-1) dX7_tells_18 rfl ?_
      refine go_iret dX7_tells_19 rfl rfl ?_
      refine q_x hQ ?_ hx (frM_r h)
      unfold yTells
      have c15 := c_15
      rw [if_neg (fun z => by exact Bool.noConfusion ((show isn x 6 = false from c15).symm.trans z.2))]
set_option maxRecDepth 100000 in
set_option maxHeartbeats 4000000 in
theorem me_X7_undo {X : Nat × (Nat → Int32)} {Q : Option Value → bw_H → Prop} {h : bw_H} {S : ST} {n : Int32} (hx : XR h S) (hQ : PX h Q (yUndo n S)) : bw_me X 3 bm_X7_undo false [.ref 0, .int n] h Q := by
  have hc : bw_ct h 11 (nowC S) := hx.2.2.2.1.1.1
  have hN := hc.2.2.1
  have hT : cT (sA S).1 ≤ 40 := hx.2.2.2.1.2.2.1
  show bw_go _ 3 7 3 false (some .int) cX7_undo 0 [(0, .ref _), (1, .int _)] [] _ _
  refine go_iload_n dX7_undo_0 rfl ?_
  refine go_if_lt (pc' := 15) dX7_undo_1 rfl (fun c_1 => ?_) (fun c_1 => ?_)
  · -- lt at 1: yes
    show bw_go _ _ _ _ _ _ _ 15 [(0, .ref _), (1, .int _)] ([]) _ _
    refine go_iconst (-1) dX7_undo_15 rfl ?_
    refine go_iret dX7_undo_16 rfl rfl ?_
    refine q_x hQ ?_ hx (frM_r h)
    unfold yUndo
    simp only [i_lt, i_0] at c_1
    rw [if_neg (by omega)]
  · -- lt at 1: no
    show bw_go _ _ _ _ _ _ _ 4 [(0, .ref _), (1, .int _)] ([]) _ _
    refine go_iload_n dX7_undo_4 rfl ?_
    refine go_aload_n dX7_undo_5 rfl ?_
    refine go_gfr dX7_undo_6 fl_7_24 rfl hx.1.1.1 hx.1.1.2.1 hx.1.1.2.2.2.2.1 ?_
    refine go_gfi dX7_undo_9 fl_7_165 rfl hc.1.1.1 hc.1.1.2.1 ?_
    rw [hc.2.1.2.2.2.1]
    refine go_icmp_le (pc' := 17) dX7_undo_12 rfl (fun c_12 => ?_) (fun c_12 => ?_)
    · -- le at 12: yes
      show bw_go _ _ _ _ _ _ _ 17 [(0, .ref _), (1, .int _)] ([]) _ _
      have hn : 0 ≤ n.toInt ∧ n.toInt ≤ cT (sA S).1 := by
        have l_0 := i_0
        have t_0 := nI_toInt (n := cT (sA S).1) (by omega)
        simp only [i_lt] at c_1
        have c12 : n ≤ nI (cT (sA S).1) := c_12
        simp only [i_le] at c12
        omega
      obtain ⟨y, hy, rfl⟩ := isn_ex (r := n) (num := cT (sA S).1 + 1) (decide_eq_true (by omega)) (by omega)
      refine go_aload_n dX7_undo_17 rfl ?_
      refine go_gfr dX7_undo_18 fl_7_24 rfl hx.1.1.1 hx.1.1.2.1 hx.1.1.2.2.2.2.1 ?_
      refine go_gfi dX7_undo_21 fl_7_165 rfl hc.1.1.1 hc.1.1.2.1 ?_
      rw [hc.2.1.2.2.2.1]
      refine go_iload_n dX7_undo_24 rfl ?_
      refine go_isub dX7_undo_25 ?_
      refine go_istore_n dX7_undo_26 (Nat.lt_of_lt_of_le (Nat.lt_succ_self _) (Nat.le_of_ble_eq_true rfl)) ?_
      show bw_go _ _ _ _ _ _ _ 27 [(2, .int _), (0, .ref _), (1, .int _)] ([]) _ _
      refine go_aload_n dX7_undo_27 rfl ?_
      refine go_gfr dX7_undo_28 fl_7_24 rfl hx.1.1.1 hx.1.1.2.1 hx.1.1.2.2.2.2.1 ?_
      refine go_iload_n dX7_undo_31 rfl ?_
      refine go_cv (as := [.int _]) 2 dX7_undo_32 mt_7_168 (Or.inr rfl) rfl rfl hc.1.1.1 hc.1.1.2.1 (Nat.le_of_ble_eq_true rfl) (Nat.le_of_ble_eq_true rfl) (Nat.le_of_ble_eq_true rfl) (Nat.le_of_ble_eq_true rfl) (Nat.le_of_ble_eq_true rfl) ?_
      refine me_X1_takeBackTo hx.2.2.2.1.2 hx.2.2.2.1.1 (Nat.le_of_lt_succ hy) (fun I hI => ?_)
      show bw_go _ _ _ _ _ _ _ 35 [(2, .int _), (0, .ref _), (1, .int _)] ([]) _ _
      refine go_iload_n dX7_undo_35 rfl ?_
      refine go_iret dX7_undo_36 rfl rfl ?_
      refine q_x hQ ?_ (xr_now (A := acT (sA S) y) hx hI.2 ⟨by rw [hsT_acT]; exact hI.1.1, hI.1.2⟩ (ac_acT hx.2.2.2.1.2 (Nat.le_of_lt_succ hy))) (frM_wi (g := bw_wi h I) rfl (fun q h1 h2 => hI.2 q (by unfold co_pl; omega)))
      unfold yUndo
      rw [if_pos hn, rn_n (by omega)]
      have e1 : nI (cT (sA S).1 - y) = nI (cT (nowC S)) - nI y := by
        show _ = nI (cT (sA S).1) - nI y
        have e2 : nI (cT (sA S).1) = nI (cT (sA S).1 - y) + nI y := by rw [nI_add, Nat.sub_add_cancel (Nat.le_of_lt_succ hy)]
        rw [e2, Int32.add_sub_cancel]
      rw [e1]
    · -- le at 12: no
      show bw_go _ _ _ _ _ _ _ 15 [(0, .ref _), (1, .int _)] ([]) _ _
      refine go_iconst (-1) dX7_undo_15 rfl ?_
      refine go_iret dX7_undo_16 rfl rfl ?_
      refine q_x hQ ?_ hx (frM_r h)
      unfold yUndo
      have t_0 := nI_toInt (n := cT (sA S).1) (by omega)
      have c12 : ¬ n ≤ nI (cT (sA S).1) := c_12
      simp only [i_le] at c12
      rw [if_neg (by omega)]
