/-! BearWitness: walls, kinds by looks -/
def yWalls (r : Int32) (S : ST) : Int32 × ST := if (yRL r S).1 = 0 then (nI (kpb (nowC S) (lkA S r) &&& (63 ^^^ spk (lkA S r))), wQ S (nI (spk (lkA S r)))) else yRL r S
def kis (S : ST) (A : LK) (i : Nat) : Nat := orf (fun k => if fkk (nowC S) A i k A.1 = true then 2 ^ k else 0) 6
def yKinds (i r : Int32) (S : ST) : Int32 × ST := if isn i (cN (nowC S)) = true then (if (yRL r S).1 = 0 then (nI (kis S (lkA S r) (rn i)), S) else yRL r S) else (-1, S)
theorem lk_si {h : bw_H} {A : LK} {v : Int32} {n : Nat} (hl : bw_lk h 39 A n) : bw_lk (bw_si h 0 11 v) 39 A n := by
  refine ⟨hl.1, ?_⟩
  unfold lk_v
  rw [i_si_o (by decide), i_si_o (by decide), i_si_o (by decide), i_si_o (by decide)]
  exact hl.2
theorem spk_lt {h : bw_H} {p n : Nat} {A : LK} (hl : bw_lk h p A n) (hn : n ≤ 6) : spk A < 64 := by
  refine orf_lt' A.1 (fun q hq => ?_)
  have h1 := (hl.2.2.2 q hq).2.1
  have h2 := p2_lt (A.2.1 q) (by omega)
  show (if A.2.2.2 q = 2 then 0 else 2 ^ A.2.1 q) < 64
  split
  · omega
  · exact h2
theorem kpb_lt {h : bw_H} {p n : Nat} {C : CT} {A : LK} (hl : bw_lk h p A n) (hn : n ≤ 6) : kpb C A < 64 := by
  refine orf_lt' A.1 (fun q hq => ?_)
  have h1 := (hl.2.2.2 q hq).2.1
  have h2 := p2_lt (A.2.1 q) (by omega)
  show (if A.2.2.2 q = 2 ∧ (see (cK C (A.2.1 q)) (cR C (A.2.1 q)) (cV C (A.2.1 q)) (cE C (A.2.1 q))).testBit (A.2.2.1 q) = true then 2 ^ A.2.1 q else 0) < 64
  split
  · exact h2
  · omega
set_option maxRecDepth 100000 in
set_option maxHeartbeats 4000000 in
theorem me_X7_walls {X : Nat × (Nat → Int32)} {Q : Option Value → bw_H → Prop} {h : bw_H} {S : ST} {r : Int32} (hx : XR h S) (hQ : PX h Q (yWalls r S)) : bw_me X 6 bm_X7_walls false [.ref 0, .int r] h Q := by
  have hc : bw_ct h 11 (nowC S) := hx.2.2.2.1.1.1
  have hN := hc.2.2.1
  show bw_go _ 6 7 4 false (some .int) cX7_walls 0 [(0, .ref _), (1, .int _)] [] _ _
  refine go_aload_n dX7_walls_0 rfl ?_
  refine go_iload_n dX7_walls_1 rfl ?_
  refine go_cv (as := [.int _]) 5 dX7_walls_2 mt_7_227 (Or.inl rfl) rfl rfl hx.1.1.1 hx.1.1.2.1 (Nat.le_of_ble_eq_true rfl) (Nat.le_of_ble_eq_true rfl) (Nat.le_of_ble_eq_true rfl) (Nat.le_of_ble_eq_true rfl) (Nat.le_of_ble_eq_true rfl) ?_
  refine me_X7_readLooks hx (fun g hg hf hl => ?_)
  show bw_go _ _ _ _ _ _ _ 5 [(0, .ref _), (1, .int _)] ((.int _) :: []) _ _
  refine go_istore_n dX7_walls_5 (Nat.lt_of_lt_of_le (Nat.lt_succ_self _) (Nat.le_of_ble_eq_true rfl)) ?_
  show bw_go _ _ _ _ _ _ _ 6 [(2, .int _), (0, .ref _), (1, .int _)] ([]) _ _
  refine go_iload_n dX7_walls_6 rfl ?_
  refine go_if_eq (pc' := 12) dX7_walls_7 rfl (fun c_7 => ?_) (fun c_7 => ?_)
  · -- eq at 7: yes
    show bw_go _ _ _ _ _ _ _ 12 [(2, .int _), (0, .ref _), (1, .int _)] ([]) _ _
    obtain ⟨hlk, e2, hpos⟩ := hl c_7
    rw [e2] at hg
    have hx0 := hx
    have hx := hg
    have hc : bw_ct g 11 (nowC S) := hx.2.2.2.1.1.1
    refine go_aload_n dX7_walls_12 rfl ?_
    refine go_gfr dX7_walls_13 fl_7_45 rfl hx.1.1.1 hx.1.1.2.1 hx.1.1.2.2.2.2.2.2.2.2.1 ?_
    refine go_cv (as := []) 1 dX7_walls_16 mt_7_259 (Or.inr rfl) rfl rfl hx.1.2.2.2.2.1.1.1 hx.1.2.2.2.2.1.1.2.1 (Nat.le_of_ble_eq_true rfl) (Nat.le_of_ble_eq_true rfl) (Nat.le_of_ble_eq_true rfl) (Nat.le_of_ble_eq_true rfl) (Nat.le_of_ble_eq_true rfl) ?_
    refine me_X2_whoSpoke hlk hN ?_
    show bw_go _ _ _ _ _ _ _ 19 [(2, .int _), (0, .ref _), (1, .int _)] ((.int _) :: []) _ _
    refine go_istore_n dX7_walls_19 (Nat.lt_of_lt_of_le (Nat.lt_succ_self _) (Nat.le_of_ble_eq_true rfl)) ?_
    show bw_go _ _ _ _ _ _ _ 20 [(3, .int _), (2, .int _), (0, .ref _), (1, .int _)] ([]) _ _
    refine go_aload_n dX7_walls_20 rfl ?_
    refine go_iload_n dX7_walls_21 rfl ?_
    refine go_pfi dX7_walls_22 fl_7_76 rfl hx.1.1.1 hx.1.1.2.1 (Nat.le_of_ble_eq_true rfl) (Or.inl rfl) ?_
    show bw_go _ _ _ _ _ _ _ 25 [(3, .int _), (2, .int _), (0, .ref _), (1, .int _)] ([]) _ _
    refine go_aload_n dX7_walls_25 rfl ?_
    refine go_gfr dX7_walls_26 fl_7_45 rfl hx.1.1.1 hx.1.1.2.1 hx.1.1.2.2.2.2.2.2.2.2.1 ?_
    refine go_aload_n dX7_walls_29 rfl ?_
    refine go_gfr dX7_walls_30 fl_7_24 rfl hx.1.1.1 hx.1.1.2.1 hx.1.1.2.2.2.2.1 ?_
    refine go_cv (as := [.ref _]) 2 dX7_walls_33 mt_7_262 (Or.inr rfl) rfl rfl hx.1.2.2.2.2.1.1.1 hx.1.2.2.2.2.1.1.2.1 (Nat.le_of_ble_eq_true rfl) (Nat.le_of_ble_eq_true rfl) (Nat.le_of_ble_eq_true rfl) (Nat.le_of_ble_eq_true rfl) (Nat.le_of_ble_eq_true rfl) ?_
    refine me_X2_whoKeptBack (lk_si hlk) (show bw_ct (bw_si g 0 11 (nI (spk (lkA S r)))) 11 (nowC S) from (xr_la hx _).2.2.2.1.1.1) ?_
    show bw_go _ _ _ _ _ _ _ 36 [(3, .int _), (2, .int _), (0, .ref _), (1, .int _)] ((.int _) :: []) _ _
    refine go_iload_n dX7_walls_36 rfl ?_
    refine go_iconst (-1) dX7_walls_37 rfl ?_
    refine go_ixor dX7_walls_38 ?_
    refine go_iand dX7_walls_39 ?_
    refine go_iret dX7_walls_40 rfl rfl ?_
    rw [not_n _ (spk_lt hlk hN) _ (kpb_lt hlk hN)]
    refine q_x hQ ?_ (xr_la hx _) (frM_t hf (frM_wi rfl (fun q h1 h2 => ?_)))
    · unfold yWalls
      rw [if_pos c_7]
    · rw [i_si_o (by omega)]
  · -- eq at 7: no
    show bw_go _ _ _ _ _ _ _ 10 [(2, .int _), (0, .ref _), (1, .int _)] ([]) _ _
    refine go_iload_n dX7_walls_10 rfl ?_
    refine go_iret dX7_walls_11 rfl rfl ?_
    refine q_x hQ ?_ hg hf
    unfold yWalls
    rw [if_neg c_7]
set_option maxRecDepth 100000 in
set_option maxHeartbeats 4000000 in
theorem me_X7_kinds {X : Nat × (Nat → Int32)} {Q : Option Value → bw_H → Prop} {h : bw_H} {S : ST} {i r : Int32} (hx : XR h S) (hQ : PX h Q (yKinds i r S)) : bw_me X 6 bm_X7_kinds false [.ref 0, .int i, .int r] h Q := by
  have hc : bw_ct h 11 (nowC S) := hx.2.2.2.1.1.1
  have hN := hc.2.2.1
  show bw_go _ 6 7 6 false (some .int) cX7_kinds 0 [(0, .ref _), (1, .int _), (2, .int _)] [] _ _
  refine go_aload_n dX7_kinds_0 rfl ?_
  refine go_gfr dX7_kinds_1 fl_7_24 rfl hx.1.1.1 hx.1.1.2.1 hx.1.1.2.2.2.2.1 ?_
  refine go_iload_n dX7_kinds_4 rfl ?_
  refine go_cv (as := [.int _]) 0 dX7_kinds_5 mt_7_144 (Or.inr rfl) rfl rfl hc.1.1.1 hc.1.1.2.1 (Nat.le_of_ble_eq_true rfl) (Nat.le_of_ble_eq_true rfl) (Nat.le_of_ble_eq_true rfl) (Nat.le_of_ble_eq_true rfl) (Nat.le_of_ble_eq_true rfl) ?_
  refine me_X1_hasBear hc ?_
  show bw_go _ _ _ _ _ _ _ 8 [(0, .ref _), (1, .int _), (2, .int _)] ((.int _) :: []) _ _
  refine go_ifb_ne (pc' := 13) dX7_kinds_8 rfl (fun c_8 => ?_) (fun c_8 => ?_)
  · -- ne at 8: yes
    show bw_go _ _ _ _ _ _ _ 13 [(0, .ref _), (1, .int _), (2, .int _)] ([]) _ _
    obtain ⟨i, hi, rfl⟩ := isn_ex (num := cN (nowC S)) c_8 (by omega)
    refine go_aload_n dX7_kinds_13 rfl ?_
    refine go_iload_n dX7_kinds_14 rfl ?_
    refine go_cv (as := [.int _]) 5 dX7_kinds_15 mt_7_227 (Or.inl rfl) rfl rfl hx.1.1.1 hx.1.1.2.1 (Nat.le_of_ble_eq_true rfl) (Nat.le_of_ble_eq_true rfl) (Nat.le_of_ble_eq_true rfl) (Nat.le_of_ble_eq_true rfl) (Nat.le_of_ble_eq_true rfl) ?_
    refine me_X7_readLooks hx (fun g hg hf hl => ?_)
    show bw_go _ _ _ _ _ _ _ 18 [(0, .ref _), (1, .int _), (2, .int _)] ((.int _) :: []) _ _
    refine go_istore_n dX7_kinds_18 (Nat.lt_of_lt_of_le (Nat.lt_succ_self _) (Nat.le_of_ble_eq_true rfl)) ?_
    show bw_go _ _ _ _ _ _ _ 19 [(3, .int _), (0, .ref _), (1, .int _), (2, .int _)] ([]) _ _
    refine go_iload_n dX7_kinds_19 rfl ?_
    refine go_if_eq (pc' := 25) dX7_kinds_20 rfl (fun c_20 => ?_) (fun c_20 => ?_)
    · -- eq at 20: yes
      show bw_go _ _ _ _ _ _ _ 25 [(3, .int _), (0, .ref _), (1, .int _), (2, .int _)] ([]) _ _
      obtain ⟨hlk, e2, hpos⟩ := hl c_20
      rw [e2] at hg
      have hx0 := hx
      have hx := hg
      have hc : bw_ct g 11 (nowC S) := hx.2.2.2.1.1.1
      refine go_iconst (0) dX7_kinds_25 rfl ?_
      refine go_istore dX7_kinds_26 (Nat.lt_of_lt_of_le (Nat.lt_succ_self _) (Nat.le_of_ble_eq_true rfl)) ?_
      show bw_go _ _ _ _ _ _ _ 28 [(4, .int _), (3, .int _), (0, .ref _), (1, .int _), (2, .int _)] ([]) _ _
      refine go_iconst (0) dX7_kinds_28 rfl ?_
      refine go_istore dX7_kinds_29 (Nat.lt_of_lt_of_le (Nat.lt_succ_self _) (Nat.le_of_ble_eq_true rfl)) ?_
      show bw_go _ _ _ _ _ _ _ 31 [(5, .int _), (4, .int _), (3, .int _), (0, .ref _), (1, .int _), (2, .int _)] ([]) _ _
      refine go_ls [(5, .int _), (4, .int _), (0, .ref _), (1, .int _), (2, .int _), (3, .int _)] (by show List.Nodup ([5, 4, 0, 1, 2, 3] : List Nat); decide) (by show List.Nodup ([5, 4, 3, 0, 1, 2] : List Nat); decide) (le_cons rfl (le_cons rfl (le_cons rfl (le_cons rfl (le_cons rfl (le_cons rfl (le_nil _))))))) ?_
      refine go_for (P := fun k => bw_go X 6 7 6 false (some .int) cX7_kinds 31 [(5, .int (nI k)), (4, .int (nI (orf (fun k => if fkk (nowC S) (lkA S r) i k (lkA S r).1 = true then 2 ^ k else 0) k))), (0, .ref (0)), (1, .int (nI i)), (2, .int (r)), (3, .int ((yRL r S).1))] [] g Q) (N := 6) (fun k hk K => ?_) ?_ (0) (Nat.zero_le _)
      · -- a turn
        show bw_go _ _ _ _ _ _ _ 31 [(5, .int _), (4, .int _), (0, .ref _), (1, .int _), (2, .int _), (3, .int _)] ([]) _ _
        refine go_iload dX7_kinds_31 rfl ?_
        refine go_bipush (6) dX7_kinds_33 rfl ?_
        refine go_icmp_ge (pc' := 70) dX7_kinds_35 rfl (fun c_35 => ?_) (fun c_35 => ?_)
        · -- ge at 35: yes
          exfalso; have t_0 := nI_toInt (n := k) (by omega); have l_0 : (6 : Int32).toInt = 6 := rfl; simp only [i_le, i_lt, i_eq, bi_eq] at c_35; omega
        · -- ge at 35: no
          show bw_go _ _ _ _ _ _ _ 38 [(5, .int _), (4, .int _), (0, .ref _), (1, .int _), (2, .int _), (3, .int _)] ([]) _ _
          refine go_aload_n dX7_kinds_38 rfl ?_
          refine go_gfr dX7_kinds_39 fl_7_45 rfl hx.1.1.1 hx.1.1.2.1 hx.1.1.2.2.2.2.2.2.2.2.1 ?_
          refine go_aload_n dX7_kinds_42 rfl ?_
          refine go_gfr dX7_kinds_43 fl_7_24 rfl hx.1.1.1 hx.1.1.2.1 hx.1.1.2.2.2.2.1 ?_
          refine go_iload_n dX7_kinds_46 rfl ?_
          refine go_iload dX7_kinds_47 rfl ?_
          refine go_cv (as := [.ref _, .int _, .int _]) 5 dX7_kinds_49 mt_7_255 (Or.inr rfl) rfl rfl hx.1.2.2.2.2.1.1.1 hx.1.2.2.2.2.1.1.2.1 (Nat.le_of_ble_eq_true rfl) (Nat.le_of_ble_eq_true rfl) (Nat.le_of_ble_eq_true rfl) (Nat.le_of_ble_eq_true rfl) (Nat.le_of_ble_eq_true rfl) ?_
          refine me_X2_fitKind hlk hc (by omega) hk ?_
          show bw_go _ _ _ _ _ _ _ 52 [(5, .int _), (4, .int _), (0, .ref _), (1, .int _), (2, .int _), (3, .int _)] ((.int _) :: []) _ _
          refine go_ifb_eq (pc' := 64) dX7_kinds_52 rfl (fun c_52 => ?_) (fun c_52 => ?_)
          · -- eq at 52: yes
            show bw_go _ _ _ _ _ _ _ 64 [(5, .int _), (4, .int _), (0, .ref _), (1, .int _), (2, .int _), (3, .int _)] ([]) _ _
            refine go_iinc dX7_kinds_64 rfl (nI_1 k) (Nat.lt_of_lt_of_le (Nat.lt_succ_self _) (Nat.le_of_ble_eq_true rfl)) ?_
            show bw_go _ _ _ _ _ _ _ 67 [(5, .int _), (4, .int _), (0, .ref _), (1, .int _), (2, .int _), (3, .int _)] ([]) _ _
            refine go_goto (pc' := 31) dX7_kinds_67 rfl ?_
            have e1 : orf (fun k => if fkk (nowC S) (lkA S r) i k (lkA S r).1 = true then 2 ^ k else 0) (k + 1) = orf (fun k => if fkk (nowC S) (lkA S r) i k (lkA S r).1 = true then 2 ^ k else 0) k ||| (if fkk (nowC S) (lkA S r) i k (lkA S r).1 = true then 2 ^ k else 0) := rfl
            first | (rw [if_pos c_52] at e1; rw [sh_t k (by omega), or_n, ← e1]; exact K) | (rw [if_neg (by rw [c_52]; decide), Nat.or_zero] at e1; rw [← e1]; exact K)
          · -- eq at 52: no
            show bw_go _ _ _ _ _ _ _ 55 [(5, .int _), (4, .int _), (0, .ref _), (1, .int _), (2, .int _), (3, .int _)] ([]) _ _
            refine go_iload dX7_kinds_55 rfl ?_
            refine go_iconst (1) dX7_kinds_57 rfl ?_
            refine go_iload dX7_kinds_58 rfl ?_
            refine go_ishl dX7_kinds_60 ?_
            refine go_ior dX7_kinds_61 ?_
            refine go_istore dX7_kinds_62 (Nat.lt_of_lt_of_le (Nat.lt_succ_self _) (Nat.le_of_ble_eq_true rfl)) ?_
            show bw_go _ _ _ _ _ _ _ 64 [(4, .int _), (5, .int _), (0, .ref _), (1, .int _), (2, .int _), (3, .int _)] ([]) _ _
            refine go_iinc dX7_kinds_64 rfl (nI_1 k) (Nat.lt_of_lt_of_le (Nat.lt_succ_self _) (Nat.le_of_ble_eq_true rfl)) ?_
            show bw_go _ _ _ _ _ _ _ 67 [(5, .int _), (4, .int _), (0, .ref _), (1, .int _), (2, .int _), (3, .int _)] ([]) _ _
            refine go_goto (pc' := 31) dX7_kinds_67 rfl ?_
            have e1 : orf (fun k => if fkk (nowC S) (lkA S r) i k (lkA S r).1 = true then 2 ^ k else 0) (k + 1) = orf (fun k => if fkk (nowC S) (lkA S r) i k (lkA S r).1 = true then 2 ^ k else 0) k ||| (if fkk (nowC S) (lkA S r) i k (lkA S r).1 = true then 2 ^ k else 0) := rfl
            first | (rw [if_pos c_52] at e1; rw [sh_t k (by omega), or_n, ← e1]; exact K) | (rw [if_neg (by rw [c_52]; decide), Nat.or_zero] at e1; rw [← e1]; exact K)
      · -- behind the last
        show bw_go _ _ _ _ _ _ _ 31 [(5, .int _), (4, .int _), (0, .ref _), (1, .int _), (2, .int _), (3, .int _)] ([]) _ _
        refine go_iload dX7_kinds_31 rfl ?_
        refine go_bipush (6) dX7_kinds_33 rfl ?_
        refine go_icmp_ge (pc' := 70) dX7_kinds_35 rfl (fun c_35 => ?_) (fun c_35 => ?_)
        · -- ge at 35: yes
          show bw_go _ _ _ _ _ _ _ 70 [(5, .int _), (4, .int _), (0, .ref _), (1, .int _), (2, .int _), (3, .int _)] ([]) _ _
          refine go_iload dX7_kinds_70 rfl ?_
          refine go_iret dX7_kinds_72 rfl rfl ?_
          refine q_x hQ ?_ hx hf
          unfold yKinds kis
          rw [if_pos (show isn (nI i) (cN (nowC S)) = true from c_8), if_pos c_20, rn_n (by omega)]
        · -- ge at 35: no
          exfalso; have t_0 := nI_toInt (n := 6) (by omega); have l_0 : (6 : Int32).toInt = 6 := rfl; simp only [i_le, i_lt, i_eq, bi_eq] at c_35; omega
    · -- eq at 20: no
      show bw_go _ _ _ _ _ _ _ 23 [(3, .int _), (0, .ref _), (1, .int _), (2, .int _)] ([]) _ _
      refine go_iload_n dX7_kinds_23 rfl ?_
      refine go_iret dX7_kinds_24 rfl rfl ?_
      refine q_x hQ ?_ hg hf
      unfold yKinds
      rw [if_pos (show isn (nI i) (cN (nowC S)) = true from c_8), if_neg c_20]
  · -- ne at 8: no
    show bw_go _ _ _ _ _ _ _ 11 [(0, .ref _), (1, .int _), (2, .int _)] ([]) _ _
    refine go_iconst (-1) dX7_kinds_11 rfl ?_
    refine go_iret dX7_kinds_12 rfl rfl ?_
    refine q_x hQ ?_ hx (frM_r h)
    unfold yKinds
    rw [if_neg (fun z => Bool.noConfusion ((show isn i (cN (nowC S)) = false from c_8).symm.trans z))]
