/-! BearWitness: looks read -/
def yRL (r : Int32) (S : ST) : Int32 × ST := if isn r 6 = true then (if cN (nowC S) = 0 then (-4, S) else if rdf (sR S (rn r)) (sRc S (rn r)) 0 (cN (nowC S)) = 0 then (0, S) else (-3, fnd S (rdf (sR S (rn r)) (sRc S (rn r)) 0 (cN (nowC S))))) else (-1, S)
def lkA (S : ST) (r : Int32) : LK := rdA (sRc S (rn r)) 0 (osz (sR S (rn r)))
theorem okR_c {F G : Nat → Int32} {b n m q : Nat} (h : ∀ i, i < m → F (b + i) = G i) (hq : 2 * q ≤ m) : okR F b n q = okR G 0 n q := by
  induction q with
  | zero => rfl
  | succ q ih =>
    show (okR F b n q && okp (F (b + 2 * q)) (F (b + 2 * q + 1)) n) = (okR G 0 n q && okp (G (0 + 2 * q)) (G (0 + 2 * q + 1)) n)
    rw [ih (by omega), h (2 * q) (by omega), show b + 2 * q + 1 = b + (2 * q + 1) from rfl, h (2 * q + 1) (by omega), Nat.zero_add]
theorem rdf_c {F G : Nat → Int32} {b n : Nat} {s : Option Nat} (h : ∀ m, s = some m → ∀ i, i < m → F (b + i) = G i) : rdf s F b n = rdf s G 0 n := by
  cases s with
  | none => rfl
  | some m =>
    unfold rdf
    simp only
    rw [okR_c (h m rfl) (by omega)]
theorem rdf_lt (s : Option Nat) (F : Nat → Int32) (b n : Nat) : rdf s F b n < 6 := by
  unfold rdf
  repeat' split
  all_goals decide
theorem lk_c {F G : Nat → Int32} {b m p n : Nat} {h : bw_H} (hl : lk_v h p (rdA F b m) n) (e : ∀ i, i < m → F (b + i) = G i) : lk_v h p (rdA G 0 m) n := by
  refine ⟨hl.1, hl.2.1, fun q hq => ?_⟩
  have hq2 : q < m / 2 := hq
  have e1 : F (b + 2 * q) = G (0 + 2 * q) := by rw [e (2 * q) (by omega), Nat.zero_add]
  have e2 : F (b + 2 * q + 1) = G (0 + 2 * q + 1) := by rw [show b + 2 * q + 1 = b + (2 * q + 1) from rfl, e (2 * q + 1) (by omega), Nat.zero_add]
  have h1 := hl.2.2 q hq
  have f1 : (rdA F b m).2.1 q = (rdA G 0 m).2.1 q := congrArg (fun z : Int32 => z.toNatClampNeg / 8) e1
  have f2 : (rdA F b m).2.2.1 q = (rdA G 0 m).2.2.1 q := congrArg (fun z : Int32 => z.toNatClampNeg % 8) e1
  have f3 : (rdA F b m).2.2.2 q = (rdA G 0 m).2.2.2 q := congrArg (fun z : Int32 => z.toNatClampNeg) e2
  rw [f1, f2, f3] at h1
  exact h1
theorem q_l {r : Int32} {S S' : ST} {Q : Option Value → bw_H → Prop} {h : bw_H} {res : Int32} (hQ : ∀ g, XR g (yRL r S).2 → frM h g → ((yRL r S).1 = 0 → bw_lk g 39 (lkA S r) (cN (nowC S)) ∧ (yRL r S).2 = S ∧ 0 < cN (nowC S)) → Q (some (.int (yRL r S).1)) g) (e : yRL r S = (res, S')) {g : bw_H} (hg : XR g S') (hf : frM h g) (hl : res = 0 → bw_lk g 39 (lkA S r) (cN (nowC S)) ∧ S' = S ∧ 0 < cN (nowC S)) : Q (some (.int res)) g := by
  have e1 : (yRL r S).1 = res := by rw [e]
  have e2 : (yRL r S).2 = S' := by rw [e]
  rw [← e1]
  exact hQ g (by rw [e2]; exact hg) hf (fun z => by rw [e2]; exact hl (by rw [← e1]; exact z))
set_option maxRecDepth 100000 in
set_option maxHeartbeats 4000000 in
theorem me_X7_readLooks {X : Nat × (Nat → Int32)} {Q : Option Value → bw_H → Prop} {h : bw_H} {S : ST} {r : Int32} (hx : XR h S) (hQ : ∀ g, XR g (yRL r S).2 → frM h g → ((yRL r S).1 = 0 → bw_lk g 39 (lkA S r) (cN (nowC S)) ∧ (yRL r S).2 = S ∧ 0 < cN (nowC S)) → Q (some (.int (yRL r S).1)) g) : bw_me X 5 bm_X7_readLooks false [.ref 0, .int r] h Q := by
  have hc : bw_ct h 11 (nowC S) := hx.2.2.2.1.1.1
  have hN := hc.2.2.1
  show bw_go _ 5 7 3 false (some .int) cX7_readLooks 0 [(0, .ref _), (1, .int _)] [] _ _
  refine go_aload_n dX7_readLooks_0 rfl ?_
  refine go_gfr dX7_readLooks_1 fl_7_14 rfl hx.1.1.1 hx.1.1.2.1 hx.1.1.2.2.1 ?_
  refine go_iload_n dX7_readLooks_4 rfl ?_
  refine go_cv (as := [.int _]) 0 dX7_readLooks_5 mt_7_86 (Or.inr rfl) rfl rfl hx.2.1.1.1.1 hx.2.1.1.1.2.1 (Nat.le_of_ble_eq_true rfl) (Nat.le_of_ble_eq_true rfl) (Nat.le_of_ble_eq_true rfl) (Nat.le_of_ble_eq_true rfl) (Nat.le_of_ble_eq_true rfl) ?_
  refine me_X4_isNumber hx.2.1.1 ?_
  show bw_go _ _ _ _ _ _ _ 8 [(0, .ref _), (1, .int _)] ((.int _) :: []) _ _
  refine go_ifb_ne (pc' := 13) dX7_readLooks_8 rfl (fun c_8 => ?_) (fun c_8 => ?_)
  · -- ne at 8: yes
    show bw_go _ _ _ _ _ _ _ 13 [(0, .ref _), (1, .int _)] ([]) _ _
    obtain ⟨j, hj, rfl⟩ := isn_ex (num := 6) c_8 (by decide)
    refine go_aload_n dX7_readLooks_13 rfl ?_
    refine go_gfr dX7_readLooks_14 fl_7_24 rfl hx.1.1.1 hx.1.1.2.1 hx.1.1.2.2.2.2.1 ?_
    refine go_gfi dX7_readLooks_17 fl_7_141 rfl hc.1.1.1 hc.1.1.2.1 ?_
    rw [hc.2.1.1]
    refine go_if_ne (pc' := 26) dX7_readLooks_20 rfl (fun c_20 => ?_) (fun c_20 => ?_)
    · -- ne at 20: yes
      show bw_go _ _ _ _ _ _ _ 26 [(0, .ref _), (1, .int _)] ([]) _ _
      refine go_aload_n dX7_readLooks_26 rfl ?_
      refine go_gfr dX7_readLooks_27 fl_7_45 rfl hx.1.1.1 hx.1.1.2.1 hx.1.1.2.2.2.2.2.2.2.2.1 ?_
      refine go_aload_n dX7_readLooks_30 rfl ?_
      refine go_gfr dX7_readLooks_31 fl_7_14 rfl hx.1.1.1 hx.1.1.2.1 hx.1.1.2.2.1 ?_
      refine go_iload_n dX7_readLooks_34 rfl ?_
      refine go_aload_n dX7_readLooks_35 rfl ?_
      refine go_gfr dX7_readLooks_36 fl_7_24 rfl hx.1.1.1 hx.1.1.2.1 hx.1.1.2.2.2.2.1 ?_
      refine go_gfi dX7_readLooks_39 fl_7_141 rfl hc.1.1.1 hc.1.1.2.1 ?_
      rw [hc.2.1.1]
      refine go_cv (as := [.ref _, .int _, .int _]) 4 dX7_readLooks_42 mt_7_349 (Or.inr rfl) rfl rfl hx.1.2.2.2.2.1.1.1 hx.1.2.2.2.2.1.1.2.1 (Nat.le_of_ble_eq_true rfl) (Nat.le_of_ble_eq_true rfl) (Nat.le_of_ble_eq_true rfl) (Nat.le_of_ble_eq_true rfl) (Nat.le_of_ble_eq_true rfl) ?_
      refine me_X2_readFrom (n := cN (nowC S)) hx.1.2.2.2.2.1 hx.2.1.1 hj (hx.2.1.2 j hj).1 (hx.2.1.2 j hj).2.1 hN (Or.inr (by decide)) (fun I hI hl => ?_)
      have hx2 : XR (bw_wi h I) S := xr_sc hx (fun q hq => hI q (by omega) (by omega) (by omega) (by omega))
      have hf2 : frM h (bw_wi h I) := frM_wi rfl (fun q h1 h2 => hI q (by omega) (by omega) (by omega) (by omega))
      have er : rdf (sR S j) (bw_i h (1 + 4)) (j * 40) (cN (nowC S)) = rdf (sR S j) (sRc S j) 0 (cN (nowC S)) := rdf_c (fun m e i hi => (hx.2.1.2 j hj).2.2 m e i hi)
      have hr6 := rdf_lt (sR S j) (sRc S j) 0 (cN (nowC S))
      rw [er]
      rw [er] at hl
      show bw_go _ _ _ _ _ _ _ 45 [(0, .ref _), (1, .int _)] ((.int _) :: []) _ _
      refine go_istore_n dX7_readLooks_45 (Nat.lt_of_lt_of_le (Nat.lt_succ_self _) (Nat.le_of_ble_eq_true rfl)) ?_
      show bw_go _ _ _ _ _ _ _ 46 [(2, .int _), (0, .ref _), (1, .int _)] ([]) _ _
      refine go_iload_n dX7_readLooks_46 rfl ?_
      refine go_if_ne (pc' := 54) dX7_readLooks_47 rfl (fun c_47 => ?_) (fun c_47 => ?_)
      · -- ne at 47: yes
        show bw_go _ _ _ _ _ _ _ 54 [(2, .int _), (0, .ref _), (1, .int _)] ([]) _ _
        refine go_aload_n dX7_readLooks_54 rfl ?_
        refine go_iload_n dX7_readLooks_55 rfl ?_
        refine go_cv (as := [.int _]) 1 dX7_readLooks_56 mt_7_90 (Or.inl rfl) rfl rfl hx.1.1.1 hx.1.1.2.1 (Nat.le_of_ble_eq_true rfl) (Nat.le_of_ble_eq_true rfl) (Nat.le_of_ble_eq_true rfl) (Nat.le_of_ble_eq_true rfl) (Nat.le_of_ble_eq_true rfl) ?_
        refine me_X7_found hx2 hr6 (fun g hg hf => ?_)
        show bw_go _ _ _ _ _ _ _ 59 [(2, .int _), (0, .ref _), (1, .int _)] ((.int _) :: []) _ _
        refine go_iret dX7_readLooks_59 rfl rfl ?_
        have h0 : ¬ cN (nowC S) = 0 := fun z => c_20 ((nI_eq (a := cN (nowC S)) (b := 0) (by omega) (by omega)).mpr z)
        have hz : ¬ rdf (sR S j) (sRc S j) 0 (cN (nowC S)) = 0 := fun z => c_47 ((nI_eq (a := rdf (sR S j) (sRc S j) 0 (cN (nowC S))) (b := 0) (by omega) (by omega)).mpr z)
        refine q_l hQ ?_ hg (frM_t hf2 hf) (fun z => absurd z (by decide))
        unfold yRL
        rw [if_pos (show isn (nI j) 6 = true from c_8), if_neg h0, rn_n (by omega), if_neg hz]
      · -- ne at 47: no
        show bw_go _ _ _ _ _ _ _ 50 [(2, .int _), (0, .ref _), (1, .int _)] ([]) _ _
        refine go_iconst (0) dX7_readLooks_50 rfl ?_
        refine go_goto (pc' := 59) dX7_readLooks_51 rfl ?_
        show bw_go _ _ _ _ _ _ _ 59 [(2, .int _), (0, .ref _), (1, .int _)] ((.int _) :: []) _ _
        refine go_iret dX7_readLooks_59 rfl rfl ?_
        have h0 : ¬ cN (nowC S) = 0 := fun z => c_20 ((nI_eq (a := cN (nowC S)) (b := 0) (by omega) (by omega)).mpr z)
        have hz : rdf (sR S j) (sRc S j) 0 (cN (nowC S)) = 0 := (nI_eq (a := rdf (sR S j) (sRc S j) 0 (cN (nowC S))) (b := 0) (by omega) (by omega)).mp (Decidable.of_not_not c_47)
        refine q_l hQ ?_ hx2 hf2 (fun _ => ⟨⟨hx.1.2.2.2.2.1, ?_⟩, rfl, by omega⟩)
        · unfold yRL
          rw [if_pos (show isn (nI j) 6 = true from c_8), if_neg h0, rn_n (by omega), if_pos hz]
        · unfold lkA
          rw [rn_n (by omega)]
          cases e : sR S j with
          | none => rw [e] at hz; cases hz
          | some m => exact lk_c (hl m e hz) (fun i hi => (hx.2.1.2 j hj).2.2 m e i hi)
    · -- ne at 20: no
      show bw_go _ _ _ _ _ _ _ 23 [(0, .ref _), (1, .int _)] ([]) _ _
      refine go_bipush (-4) dX7_readLooks_23 rfl ?_
      refine go_iret dX7_readLooks_25 rfl rfl ?_
      refine q_l hQ ?_ hx (frM_r h) (fun z => absurd z (by decide))
      unfold yRL
      rw [if_pos (show isn (nI j) 6 = true from c_8), if_pos ((nI_eq (a := cN (nowC S)) (b := 0) (by omega) (by omega)).mp (Decidable.of_not_not c_20))]
  · -- ne at 8: no
    show bw_go _ _ _ _ _ _ _ 11 [(0, .ref _), (1, .int _)] ([]) _ _
    refine go_iconst (-1) dX7_readLooks_11 rfl ?_
    refine go_iret dX7_readLooks_12 rfl rfl ?_
    refine q_l hQ ?_ hx (frM_r h) (fun z => absurd z (by decide))
    unfold yRL
    rw [if_neg (fun z => Bool.noConfusion ((show isn r 6 = false from c_8).symm.trans z))]
