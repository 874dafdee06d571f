/-! the law: a row of looks, laid -/
def vC (C : CT) (i t : Nat) : Nat := if (tlC C i).testBit t = true then (if (onC C i).testBit t = true then 1 else 0) else 2
theorem vC_2 {C : CT} {i t : Nat} (h : (tlC C i).testBit t = false) : vC C i t = 2 := by unfold vC; rw [h]; rfl
theorem vC_0 {C : CT} {i t : Nat} (h : (tlC C i).testBit t = true) (h2 : (onC C i).testBit t = false) : vC C i t = 0 := by unfold vC; rw [if_pos h, h2]; rfl
theorem vC_1 {C : CT} {i t : Nat} (h : (tlC C i).testBit t = true) (h2 : (onC C i).testBit t = true) : vC C i t = 1 := by unfold vC; rw [if_pos h, if_pos h2]
theorem vC_le (C : CT) (i t : Nat) : vC C i t ≤ 2 := by unfold vC; repeat' split
                                                        all_goals omega
theorem vC_an (C : CT) (i t : Nat) : tvI (vC C i t) = anC C i t := by
  rcases an_c C i t with ⟨e, _, h1⟩ | ⟨e, _, h1, h2⟩ | ⟨e, _, h1, h2⟩
  · rw [e, vC_2 h1]; rfl
  · rw [e, vC_0 h1 h2]; rfl
  · rw [e, vC_1 h1 h2]; rfl
def spf (R : Nat → Int32) : Nat → Nat := orf (fun j => if (R (2 * j + 1)).toNatClampNeg = 2 then 0 else 2 ^ ((R (2 * j)).toNatClampNeg / 8))
def lkp (R : Nat → Int32) (C : CT) (k : Nat) : Prop := ∀ j, j < k → ∃ i t, i < cN C ∧ t < 6 ∧ R (2 * j) = nI (8 * i + t) ∧ R (2 * j + 1) = nI (vC C i t)
def wr2 (R : Nat → Int32) (k a v : Nat) : Nat → Int32 := bw_up (bw_up R (2 * k) (nI a)) (2 * k + 1) (nI v)
theorem wr2_o {R : Nat → Int32} {k a v p : Nat} (h : p < 2 * k) : wr2 R k a v p = R p := by
  unfold wr2; rw [bw_up_o (by omega), bw_up_o (by omega)]
theorem wr2_0 {R : Nat → Int32} {k a v : Nat} : wr2 R k a v (2 * k) = nI a := by
  unfold wr2; rw [bw_up_o (by omega), bw_up_s]
theorem wr2_1 {R : Nat → Int32} {k a v : Nat} : wr2 R k a v (2 * k + 1) = nI v := by
  unfold wr2; rw [bw_up_s]
theorem spf_s {R : Nat → Int32} {k i t v : Nat} (hi : i < 6) (ht : t < 6) (hv : v ≤ 2) : spf (wr2 R k (8 * i + t) v) (k + 1) = spf R k ||| (if v = 2 then 0 else 2 ^ i) := by
  show spf (wr2 R k (8 * i + t) v) k ||| _ = _
  have e1 : spf (wr2 R k (8 * i + t) v) k = spf R k := by
    refine orf_c k (fun j hj => ?_)
    rw [wr2_o (by omega), wr2_o (by omega)]
  rw [e1]
  rw [show (fun j => if (wr2 R k (8 * i + t) v (2 * j + 1)).toNatClampNeg = 2 then 0 else 2 ^ ((wr2 R k (8 * i + t) v (2 * j)).toNatClampNeg / 8)) k = (if v = 2 then 0 else 2 ^ i) from by
    show (if (wr2 R k (8 * i + t) v (2 * k + 1)).toNatClampNeg = 2 then 0 else 2 ^ ((wr2 R k (8 * i + t) v (2 * k)).toNatClampNeg / 8)) = _
    rw [wr2_0, wr2_1, nI_clamp (by omega), nI_clamp (by omega), show (8 * i + t) / 8 = i by omega]]
theorem lkp_s {R : Nat → Int32} {C : CT} {k i t : Nat} (hi : i < cN C) (ht : t < 6) (h : lkp R C k) : lkp (wr2 R k (8 * i + t) (vC C i t)) C (k + 1) := by
  intro j hj
  by_cases e : j = k
  · subst e
    exact ⟨i, t, hi, ht, wr2_0, wr2_1⟩
  · obtain ⟨i2, t2, h1, h2, h3, h4⟩ := h j (by omega)
    exact ⟨i2, t2, h1, h2, by rw [wr2_o (by omega)]; exact h3, by rw [wr2_o (by omega)]; exact h4⟩
theorem lx_row3 {X : Nat × (Nat → Int32)} {Q : Option Value → bw_H → Prop} {h : bw_H} {z c : Nat} {S : ST} {A : LY} {W T0 : RW} {B : AC} {K0 : Nat → Option AC} (hl : LX z c h S A W T0 B K0) {q : Nat} (hq8 : q ≤ 8) (hQ : ∀ G S', LX z c G S' A (bw_up W.1 3 (some (2 * q)), bw_up W.2 3 (fun _ => 0)) T0 B K0 → Q (some (.int (nI (2 * q)))) G) : bw_me X 2 bm_X7_row false [.ref 0, .int (nI 3), .int (nI (2 * q))] h Q := by
  obtain ⟨hb, rfl, rfl, rfl, rfl⟩ := hl
  have hk := lb_6 hb
  have hN := hk.1
  refine lb_me hb (fun h Q hx hq => me_X7_row hx hq) (fun _ => rfl) (fun _ => rfl) (fun G hG => ?_)
  have e : yRow (nI 3) (nI (2 * q)) S = (nI (2 * q), wR S (bw_up (sR S) 3 (some (2 * q))) (bw_up (sRc S) 3 (fun _ => 0))) := by
    have t_0 := nI_toInt (n := 2 * q) (by omega)
    unfold yRow
    rw [if_pos ⟨isn_t (by decide) (by decide), by omega⟩, if_neg (by omega), rn_n (by omega), rn_n (by omega)]
  rw [e] at hG ⊢
  exact hQ G _ ⟨hG, rfl, rfl, rfl, rfl⟩
theorem lx_lay3 {X : Nat × (Nat → Int32)} {Q : Option Value → bw_H → Prop} {h : bw_H} {z c : Nat} {S : ST} {A : LY} {W T0 : RW} {B : AC} {K0 : Nat → Option AC} (hl : LX z c h S A W T0 B K0) {k m : Nat} {v : Int32} (hm : W.1 3 = some m) (hkm : k < m) (hQ : ∀ G S', LX z c G S' A (W.1, bw_up W.2 3 (bw_up (W.2 3) k v)) T0 B K0 → Q (some (.int 1)) G) : bw_me X 4 bm_X7_lay false [.ref 0, .int (nI 3), .int (nI k), .int v] h Q := by
  obtain ⟨hb, rfl, rfl, rfl, rfl⟩ := hl
  have hk := lb_6 hb
  have hN := hk.1
  refine lb_me hb (fun h Q hx hq => me_X7_lay hx hq) (fun _ => rfl) (fun _ => rfl) (fun G hG => ?_)
  have hm40 := lb_rk hb (r := 3) (by decide) hm
  have t_0 := nI_toInt (n := k) (by omega)
  have e : yLay (nI 3) (nI k) v S = (1, wR (wQ S (sRc S 3 k)) (sR S) (bw_up (sRc S) 3 (bw_up (sRc S 3) k v))) := by
    have hm : sR S 3 = some m := hm
    have hp : pin (some m) (nI k) = true := by
      unfold pin
      exact decide_eq_true (by omega)
    have h0 : mis (some m) (nI k) = 0 := by
      unfold mis
      simp only
      rw [if_pos hp]
    unfold yLay
    rw [if_pos (isn_t (by decide) (by decide)), rn_n (by decide), rn_n (by omega), hm, if_pos h0]
  rw [e] at hG ⊢
  exact hQ G _ ⟨hG, rfl, rfl, rfl, rfl⟩
set_option maxRecDepth 100000 in
set_option maxHeartbeats 4000000 in
theorem law_I {X : Nat × (Nat → Int32)} {Q : Option Value → bw_H → Prop} {h : bw_H} {S : ST} {W T0 : RW} {B : AC} {K0 : Nat → Option AC} {F T : Nat → Int32} {x : Nat} (hx : LX 2 75 h S (A2 F T) W T0 B K0) (hf : LF F B) (hL : X.1 ≤ 260) (K9 : ∀ G S' W' q, q ≤ 8 → LX 2 75 G S' (A2 F T) W' T0 B K0 → W'.1 3 = some (2 * q) → lkp (W'.2 3) (cc B) q → bw_go X 12 9 48 false (some .boolean) cL_law 1462 [(0, .retAddr 1), (1, .ref (0)), (2, .ref (62)), (3, .int (nI (cN (cc B)))), (4, .int (nI (2 ^ cN (cc B) - 1))), (5, .int (nI (cT B.1))), (6, .int (nI (cD (cc B)))), (7, .int (nI (cW (cc B)))), (8, .int (nI (sho (taC (cc B)) (2 ^ cN (cc B) - 1)))), (9, .int (nI (smN (cR (cc B)) (cN (cc B))))), (11, .ref (76)), (12, .int (nI x)), (26, .int (nI (spf (W'.2 3) q)))] [] G Q) : bw_go X 12 9 48 false (some .boolean) cL_law 1302 [(0, .retAddr 1), (1, .ref (0)), (2, .ref (62)), (3, .int (nI (cN (cc B)))), (4, .int (nI (2 ^ cN (cc B) - 1))), (5, .int (nI (cT B.1))), (6, .int (nI (cD (cc B)))), (7, .int (nI (cW (cc B)))), (8, .int (nI (sho (taC (cc B)) (2 ^ cN (cc B) - 1)))), (9, .int (nI (smN (cR (cc B)) (cN (cc B))))), (11, .ref (76)), (12, .int (nI x))] [] h Q := by
  have hk := lx_k hx
  have hN := hk.1
  have hp := p2N hN
  have hp1 : 1 ≤ 2 ^ cN (cc B) := Nat.one_le_two_pow
  have hn1 := hf.1.2.1
  show bw_go _ _ _ _ _ _ _ 1302 [(0, .retAddr _), (1, .ref _), (2, .ref _), (3, .int _), (4, .int _), (5, .int _), (6, .int _), (7, .int _), (8, .int _), (9, .int _), (11, .ref _), (12, .int _)] ([]) _ _
  refine go_aloadA_n dL_law_1302 rfl ?_
  refine go_bipush (12) dL_law_1303 rfl ?_
  refine go_cs (as := [.retAddr _, .int _]) 0 dL_law_1305 rfl rfl mt_9_9 (Nat.le_of_ble_eq_true rfl) rfl rfl (Nat.le_of_ble_eq_true rfl) (Nat.le_of_ble_eq_true rfl) (Nat.le_of_ble_eq_true rfl) (Nat.le_of_ble_eq_true rfl) ?_
  refine me_L_cell (k := 12) hL (by decide) ?_
  show bw_go _ _ _ _ _ _ _ 1308 [(0, .retAddr _), (1, .ref _), (2, .ref _), (3, .int _), (4, .int _), (5, .int _), (6, .int _), (7, .int _), (8, .int _), (9, .int _), (11, .ref _), (12, .int _)] ((.int _) :: []) _ _
  refine go_bipush (9) dL_law_1308 rfl ?_
  refine go_cs (as := [.int _, .int _]) 0 dL_law_1310 rfl rfl mt_9_15 (Nat.le_of_ble_eq_true rfl) rfl rfl (Nat.le_of_ble_eq_true rfl) (Nat.le_of_ble_eq_true rfl) (Nat.le_of_ble_eq_true rfl) (Nat.le_of_ble_eq_true rfl) ?_
  refine me_L_up (n := 9) (by decide) (by decide) ?_
  generalize hqe : upn (clx X 12) 9 = q
  have hq9 : q < 9 := by rw [← hqe]; exact upn_lt (by decide)
  show bw_go _ _ _ _ _ _ _ 1313 [(0, .retAddr _), (1, .ref _), (2, .ref _), (3, .int _), (4, .int _), (5, .int _), (6, .int _), (7, .int _), (8, .int _), (9, .int _), (11, .ref _), (12, .int _)] ((.int _) :: []) _ _
  refine go_istore dL_law_1313 (Nat.lt_of_lt_of_le (Nat.lt_succ_self _) (Nat.le_of_ble_eq_true rfl)) ?_
  show bw_go _ _ _ _ _ _ _ 1315 [(25, .int _), (0, .retAddr _), (1, .ref _), (2, .ref _), (3, .int _), (4, .int _), (5, .int _), (6, .int _), (7, .int _), (8, .int _), (9, .int _), (11, .ref _), (12, .int _)] ([]) _ _
  refine go_aload_n dL_law_1315 rfl ?_
  refine go_iconst (3) dL_law_1316 rfl ?_
  refine go_iconst (2) dL_law_1317 rfl ?_
  refine go_iload dL_law_1318 rfl ?_
  refine go_imul dL_law_1320 ?_
  rw [show (3 : Int32) = nI 3 from rfl, show (2 : Int32) = nI 2 from rfl, nmul]
  refine go_cv (as := [.int _, .int _]) 2 dL_law_1321 mt_9_108 (Or.inl rfl) rfl rfl (lb_lt hx.1) (lb_k hx.1) (Nat.le_of_ble_eq_true rfl) (Nat.le_of_ble_eq_true rfl) (Nat.le_of_ble_eq_true rfl) (Nat.le_of_ble_eq_true rfl) (Nat.le_of_ble_eq_true rfl) ?_
  refine lx_row3 hx (by omega) (fun G S' hx => ?_)
  show bw_go _ _ _ _ _ _ _ 1324 [(25, .int _), (0, .retAddr _), (1, .ref _), (2, .ref _), (3, .int _), (4, .int _), (5, .int _), (6, .int _), (7, .int _), (8, .int _), (9, .int _), (11, .ref _), (12, .int _)] ((.int _) :: []) _ _
  refine go_iconst (2) dL_law_1324 rfl ?_
  refine go_iload dL_law_1325 rfl ?_
  refine go_imul dL_law_1327 ?_
  rw [show (2 : Int32) = nI 2 from rfl, nmul]
  refine go_icmp_eq (pc' := 1333) dL_law_1328 rfl (fun c_1328 => ?_) (fun c_1328 => ?_)
  · -- eq at 1328: yes
    show bw_go _ _ _ _ _ _ _ 1333 [(25, .int _), (0, .retAddr _), (1, .ref _), (2, .ref _), (3, .int _), (4, .int _), (5, .int _), (6, .int _), (7, .int _), (8, .int _), (9, .int _), (11, .ref _), (12, .int _)] ([]) _ _
    refine go_iconst (0) dL_law_1333 rfl ?_
    refine go_istore dL_law_1334 (Nat.lt_of_lt_of_le (Nat.lt_succ_self _) (Nat.le_of_ble_eq_true rfl)) ?_
    show bw_go _ _ _ _ _ _ _ 1336 [(26, .int _), (25, .int _), (0, .retAddr _), (1, .ref _), (2, .ref _), (3, .int _), (4, .int _), (5, .int _), (6, .int _), (7, .int _), (8, .int _), (9, .int _), (11, .ref _), (12, .int _)] ([]) _ _
    refine go_iconst (0) dL_law_1336 rfl ?_
    refine go_istore dL_law_1337 (Nat.lt_of_lt_of_le (Nat.lt_succ_self _) (Nat.le_of_ble_eq_true rfl)) ?_
    show bw_go _ _ _ _ _ _ _ 1339 [(27, .int _), (26, .int _), (25, .int _), (0, .retAddr _), (1, .ref _), (2, .ref _), (3, .int _), (4, .int _), (5, .int _), (6, .int _), (7, .int _), (8, .int _), (9, .int _), (11, .ref _), (12, .int _)] ([]) _ _
    refine go_ls [(0, .retAddr _), (1, .ref _), (2, .ref _), (3, .int _), (4, .int _), (5, .int _), (6, .int _), (7, .int _), (8, .int _), (9, .int _), (11, .ref _), (12, .int _), (25, .int _), (26, .int _), (27, .int _)] (by show List.Nodup ([0, 1, 2, 3, 4, 5, 6, 7, 8, 9, 11, 12, 25, 26, 27] : List Nat); decide) (by show List.Nodup ([27, 26, 25, 0, 1, 2, 3, 4, 5, 6, 7, 8, 9, 11, 12] : List Nat); decide) (le_cons rfl (le_cons rfl (le_cons rfl (le_cons rfl (le_cons rfl (le_cons rfl (le_cons rfl (le_cons rfl (le_cons rfl (le_cons rfl (le_cons rfl (le_cons rfl (le_cons rfl (le_cons rfl (le_cons rfl (le_nil _)))))))))))))))) ?_
    refine go_for (P := fun k => ∀ (g : bw_H) (S : ST) (W2 : RW), (LX 2 75 g S (A2 F T) W2 T0 B K0 ∧ W2.1 3 = some (2 * q) ∧ lkp (W2.2 3) (cc B) k) → bw_go X 12 9 48 false (some .boolean) cL_law 1339 [(0, .retAddr 1), (1, .ref (0)), (2, .ref (62)), (3, .int (nI (cN (cc B)))), (4, .int (nI (2 ^ cN (cc B) - 1))), (5, .int (nI (cT B.1))), (6, .int (nI (cD (cc B)))), (7, .int (nI (cW (cc B)))), (8, .int (nI (sho (taC (cc B)) (2 ^ cN (cc B) - 1)))), (9, .int (nI (smN (cR (cc B)) (cN (cc B))))), (11, .ref (76)), (12, .int (nI x)), (25, .int (nI q)), (26, .int (nI (spf (W2.2 3) k))), (27, .int (nI k))] [] g Q) (N := q) (fun k hkq KI => ?_) ?_ (0) (Nat.zero_le _) _ _ _ ⟨hx, bw_up_s W.1 3 (some (2 * q)), fun j hj => absurd hj (Nat.not_lt_zero j)⟩
    · -- a turn
      intro g S W2 hv
      obtain ⟨hx, h2, h3⟩ := hv
      show bw_go _ _ _ _ _ _ _ 1339 [(0, .retAddr _), (1, .ref _), (2, .ref _), (3, .int _), (4, .int _), (5, .int _), (6, .int _), (7, .int _), (8, .int _), (9, .int _), (11, .ref _), (12, .int _), (25, .int _), (26, .int _), (27, .int _)] ([]) _ _
      refine go_iload dL_law_1339 rfl ?_
      refine go_iload dL_law_1341 rfl ?_
      refine go_icmp_ge (pc' := 1462) dL_law_1343 rfl (fun c_1343 => ?_) (fun c_1343 => ?_)
      · -- ge at 1343: yes
        exfalso; have t_0 := nI_toInt (n := k) (by omega); have t_1 := nI_toInt (n := q) (by omega); simp only [i_le, i_lt, i_eq, bi_eq] at c_1343; omega
      · -- ge at 1343: no
        show bw_go _ _ _ _ _ _ _ 1346 [(0, .retAddr _), (1, .ref _), (2, .ref _), (3, .int _), (4, .int _), (5, .int _), (6, .int _), (7, .int _), (8, .int _), (9, .int _), (11, .ref _), (12, .int _), (25, .int _), (26, .int _), (27, .int _)] ([]) _ _
        refine go_aloadA_n dL_law_1346 rfl ?_
        refine go_bipush (13) dL_law_1347 rfl ?_
        refine go_iload dL_law_1349 rfl ?_
        refine go_iadd dL_law_1351 ?_
        rw [show (13 : Int32) = nI 13 from rfl, nI_add]
        refine go_cs (as := [.retAddr _, .int _]) 0 dL_law_1352 rfl rfl mt_9_9 (Nat.le_of_ble_eq_true rfl) rfl rfl (Nat.le_of_ble_eq_true rfl) (Nat.le_of_ble_eq_true rfl) (Nat.le_of_ble_eq_true rfl) (Nat.le_of_ble_eq_true rfl) ?_
        refine me_L_cell (k := 13 + k) hL (by omega) ?_
        show bw_go _ _ _ _ _ _ _ 1355 [(0, .retAddr _), (1, .ref _), (2, .ref _), (3, .int _), (4, .int _), (5, .int _), (6, .int _), (7, .int _), (8, .int _), (9, .int _), (11, .ref _), (12, .int _), (25, .int _), (26, .int _), (27, .int _)] ((.int _) :: []) _ _
        refine go_iload_n dL_law_1355 rfl ?_
        refine go_cs (as := [.int _, .int _]) 0 dL_law_1356 rfl rfl mt_9_15 (Nat.le_of_ble_eq_true rfl) rfl rfl (Nat.le_of_ble_eq_true rfl) (Nat.le_of_ble_eq_true rfl) (Nat.le_of_ble_eq_true rfl) (Nat.le_of_ble_eq_true rfl) ?_
        refine me_L_up (n := cN (cc B)) (by omega) (by omega) ?_
        generalize hie : upn (clx X (13 + k)) (cN (cc B)) = i
        have hi : i < cN (cc B) := by rw [← hie]; exact upn_lt (by omega)
        show bw_go _ _ _ _ _ _ _ 1359 [(0, .retAddr _), (1, .ref _), (2, .ref _), (3, .int _), (4, .int _), (5, .int _), (6, .int _), (7, .int _), (8, .int _), (9, .int _), (11, .ref _), (12, .int _), (25, .int _), (26, .int _), (27, .int _)] ((.int _) :: []) _ _
        refine go_istore dL_law_1359 (Nat.lt_of_lt_of_le (Nat.lt_succ_self _) (Nat.le_of_ble_eq_true rfl)) ?_
        show bw_go _ _ _ _ _ _ _ 1361 [(28, .int _), (0, .retAddr _), (1, .ref _), (2, .ref _), (3, .int _), (4, .int _), (5, .int _), (6, .int _), (7, .int _), (8, .int _), (9, .int _), (11, .ref _), (12, .int _), (25, .int _), (26, .int _), (27, .int _)] ([]) _ _
        refine go_aloadA_n dL_law_1361 rfl ?_
        refine go_bipush (13) dL_law_1362 rfl ?_
        refine go_iload dL_law_1364 rfl ?_
        refine go_iadd dL_law_1366 ?_
        rw [show (13 : Int32) = nI 13 from rfl, nI_add]
        refine go_cs (as := [.retAddr _, .int _]) 0 dL_law_1367 rfl rfl mt_9_9 (Nat.le_of_ble_eq_true rfl) rfl rfl (Nat.le_of_ble_eq_true rfl) (Nat.le_of_ble_eq_true rfl) (Nat.le_of_ble_eq_true rfl) (Nat.le_of_ble_eq_true rfl) ?_
        refine me_L_cell (k := 13 + k) hL (by omega) ?_
        show bw_go _ _ _ _ _ _ _ 1370 [(28, .int _), (0, .retAddr _), (1, .ref _), (2, .ref _), (3, .int _), (4, .int _), (5, .int _), (6, .int _), (7, .int _), (8, .int _), (9, .int _), (11, .ref _), (12, .int _), (25, .int _), (26, .int _), (27, .int _)] ((.int _) :: []) _ _
        refine go_iconst (3) dL_law_1370 rfl ?_
        refine go_ishr dL_law_1371 ?_
        refine go_bipush (6) dL_law_1372 rfl ?_
        refine go_cs (as := [.int _, .int _]) 0 dL_law_1374 rfl rfl mt_9_15 (Nat.le_of_ble_eq_true rfl) rfl rfl (Nat.le_of_ble_eq_true rfl) (Nat.le_of_ble_eq_true rfl) (Nat.le_of_ble_eq_true rfl) (Nat.le_of_ble_eq_true rfl) ?_
        refine me_L_up (n := 6) (by decide) (by decide) ?_
        generalize hte : upn _ 6 = t
        have ht : t < 6 := by rw [← hte]; exact upn_lt (by decide)
        show bw_go _ _ _ _ _ _ _ 1377 [(28, .int _), (0, .retAddr _), (1, .ref _), (2, .ref _), (3, .int _), (4, .int _), (5, .int _), (6, .int _), (7, .int _), (8, .int _), (9, .int _), (11, .ref _), (12, .int _), (25, .int _), (26, .int _), (27, .int _)] ((.int _) :: []) _ _
        refine go_istore dL_law_1377 (Nat.lt_of_lt_of_le (Nat.lt_succ_self _) (Nat.le_of_ble_eq_true rfl)) ?_
        show bw_go _ _ _ _ _ _ _ 1379 [(29, .int _), (28, .int _), (0, .retAddr _), (1, .ref _), (2, .ref _), (3, .int _), (4, .int _), (5, .int _), (6, .int _), (7, .int _), (8, .int _), (9, .int _), (11, .ref _), (12, .int _), (25, .int _), (26, .int _), (27, .int _)] ([]) _ _
        refine go_aload_n dL_law_1379 rfl ?_
        refine go_iload dL_law_1380 rfl ?_
        refine go_iload dL_law_1382 rfl ?_
        refine go_cv (as := [.int _, .int _]) 5 dL_law_1384 mt_9_72 (Or.inl rfl) rfl rfl (lb_lt hx.1) (lb_k hx.1) (Nat.le_of_ble_eq_true rfl) (Nat.le_of_ble_eq_true rfl) (Nat.le_of_ble_eq_true rfl) (Nat.le_of_ble_eq_true rfl) (Nat.le_of_ble_eq_true rfl) ?_
        refine lx_tells hx hi ht (fun G S' hx => ?_)
        rcases an_c (cc B) i t with ⟨e1, _, e2⟩ | ⟨e1, _, e2, e3⟩ | ⟨e1, _, e2, e3⟩
        · rw [e1]
          show bw_go _ _ _ _ _ _ _ 1387 [(29, .int _), (28, .int _), (0, .retAddr _), (1, .ref _), (2, .ref _), (3, .int _), (4, .int _), (5, .int _), (6, .int _), (7, .int _), (8, .int _), (9, .int _), (11, .ref _), (12, .int _), (25, .int _), (26, .int _), (27, .int _)] ((.int _) :: []) _ _
          refine go_istore dL_law_1387 (Nat.lt_of_lt_of_le (Nat.lt_succ_self _) (Nat.le_of_ble_eq_true rfl)) ?_
          show bw_go _ _ _ _ _ _ _ 1389 [(30, .int _), (29, .int _), (28, .int _), (0, .retAddr _), (1, .ref _), (2, .ref _), (3, .int _), (4, .int _), (5, .int _), (6, .int _), (7, .int _), (8, .int _), (9, .int _), (11, .ref _), (12, .int _), (25, .int _), (26, .int _), (27, .int _)] ([]) _ _
          refine go_iload dL_law_1389 rfl ?_
          refine go_iload dL_law_1391 rfl ?_
          refine go_if_lt (pc' := 1403) dL_law_1393 rfl (fun _ => ?_) (fun c => absurd (by decide) c)
          show bw_go _ _ _ _ _ _ _ 1403 [(30, .int _), (29, .int _), (28, .int _), (0, .retAddr _), (1, .ref _), (2, .ref _), (3, .int _), (4, .int _), (5, .int _), (6, .int _), (7, .int _), (8, .int _), (9, .int _), (11, .ref _), (12, .int _), (25, .int _), (26, .int _), (27, .int _)] ((.int _) :: []) _ _
          refine go_iconst (0) dL_law_1403 rfl ?_
          rw [show (0 : Int32) = nI 0 from rfl]
          refine go_ior dL_law_1404 ?_
          rw [or_n]
          refine go_istore dL_law_1405 (Nat.lt_of_lt_of_le (Nat.lt_succ_self _) (Nat.le_of_ble_eq_true rfl)) ?_
          show bw_go _ _ _ _ _ _ _ 1407 [(26, .int _), (30, .int _), (29, .int _), (28, .int _), (0, .retAddr _), (1, .ref _), (2, .ref _), (3, .int _), (4, .int _), (5, .int _), (6, .int _), (7, .int _), (8, .int _), (9, .int _), (11, .ref _), (12, .int _), (25, .int _), (27, .int _)] ([]) _ _
          refine go_aload_n dL_law_1407 rfl ?_
          refine go_iconst (3) dL_law_1408 rfl ?_
          refine go_iconst (2) dL_law_1409 rfl ?_
          refine go_iload dL_law_1410 rfl ?_
          refine go_imul dL_law_1412 ?_
          refine go_bipush (8) dL_law_1413 rfl ?_
          refine go_iload dL_law_1415 rfl ?_
          refine go_imul dL_law_1417 ?_
          refine go_iload dL_law_1418 rfl ?_
          refine go_iadd dL_law_1420 ?_
          rw [show (3 : Int32) = nI 3 from rfl, show (2 : Int32) = nI 2 from rfl, show (8 : Int32) = nI 8 from rfl, nmul, nmul, nI_add]
          refine go_cv (as := [.int _, .int _, .int _]) 4 dL_law_1421 mt_9_111 (Or.inl rfl) rfl rfl (lb_lt hx.1) (lb_k hx.1) (Nat.le_of_ble_eq_true rfl) (Nat.le_of_ble_eq_true rfl) (Nat.le_of_ble_eq_true rfl) (Nat.le_of_ble_eq_true rfl) (Nat.le_of_ble_eq_true rfl) ?_
          refine lx_lay3 hx (m := 2 * q) h2 (by omega) (fun G S' hx => ?_)
          show bw_go _ _ _ _ _ _ _ 1424 [(26, .int _), (30, .int _), (29, .int _), (28, .int _), (0, .retAddr _), (1, .ref _), (2, .ref _), (3, .int _), (4, .int _), (5, .int _), (6, .int _), (7, .int _), (8, .int _), (9, .int _), (11, .ref _), (12, .int _), (25, .int _), (27, .int _)] ((.int _) :: []) _ _
          refine go_iconst (1) dL_law_1424 rfl ?_
          refine go_icmp_ne (pc' := 1454) dL_law_1425 rfl (fun c => absurd c (by decide)) (fun _ => ?_)
          show bw_go _ _ _ _ _ _ _ 1428 [(26, .int _), (30, .int _), (29, .int _), (28, .int _), (0, .retAddr _), (1, .ref _), (2, .ref _), (3, .int _), (4, .int _), (5, .int _), (6, .int _), (7, .int _), (8, .int _), (9, .int _), (11, .ref _), (12, .int _), (25, .int _), (27, .int _)] ([]) _ _
          refine go_aload_n dL_law_1428 rfl ?_
          refine go_iconst (3) dL_law_1429 rfl ?_
          refine go_iconst (2) dL_law_1430 rfl ?_
          refine go_iload dL_law_1431 rfl ?_
          refine go_imul dL_law_1433 ?_
          refine go_iconst (1) dL_law_1434 rfl ?_
          refine go_iadd dL_law_1435 ?_
          refine go_iload dL_law_1436 rfl ?_
          refine go_if_ge (pc' := 1445) dL_law_1438 rfl (fun c => absurd c (by decide)) (fun _ => ?_)
          show bw_go _ _ _ _ _ _ _ 1441 [(26, .int _), (30, .int _), (29, .int _), (28, .int _), (0, .retAddr _), (1, .ref _), (2, .ref _), (3, .int _), (4, .int _), (5, .int _), (6, .int _), (7, .int _), (8, .int _), (9, .int _), (11, .ref _), (12, .int _), (25, .int _), (27, .int _)] ((.int _) :: (.int _) :: (.ref _) :: []) _ _
          refine go_iconst (2) dL_law_1441 rfl ?_
          refine go_goto (pc' := 1447) dL_law_1442 rfl ?_
          show bw_go _ _ _ _ _ _ _ 1447 [(26, .int _), (30, .int _), (29, .int _), (28, .int _), (0, .retAddr _), (1, .ref _), (2, .ref _), (3, .int _), (4, .int _), (5, .int _), (6, .int _), (7, .int _), (8, .int _), (9, .int _), (11, .ref _), (12, .int _), (25, .int _), (27, .int _)] ((.int _) :: (.int _) :: (.int _) :: (.ref _) :: []) _ _
          rw [show (3 : Int32) = nI 3 from rfl, show (2 : Int32) = nI 2 from rfl, show (1 : Int32) = nI 1 from rfl, nmul, nI_add]
          refine go_cv (as := [.int _, .int _, .int _]) 4 dL_law_1447 mt_9_111 (Or.inl rfl) rfl rfl (lb_lt hx.1) (lb_k hx.1) (Nat.le_of_ble_eq_true rfl) (Nat.le_of_ble_eq_true rfl) (Nat.le_of_ble_eq_true rfl) (Nat.le_of_ble_eq_true rfl) (Nat.le_of_ble_eq_true rfl) ?_
          refine lx_lay3 hx (m := 2 * q) h2 (by omega) (fun G S' hx => ?_)
          show bw_go _ _ _ _ _ _ _ 1450 [(26, .int _), (30, .int _), (29, .int _), (28, .int _), (0, .retAddr _), (1, .ref _), (2, .ref _), (3, .int _), (4, .int _), (5, .int _), (6, .int _), (7, .int _), (8, .int _), (9, .int _), (11, .ref _), (12, .int _), (25, .int _), (27, .int _)] ((.int _) :: []) _ _
          refine go_iconst (1) dL_law_1450 rfl ?_
          refine go_icmp_eq (pc' := 1456) dL_law_1451 rfl (fun _ => ?_) (fun c => absurd (by decide) c)
          show bw_go _ _ _ _ _ _ _ 1456 [(26, .int _), (30, .int _), (29, .int _), (28, .int _), (0, .retAddr _), (1, .ref _), (2, .ref _), (3, .int _), (4, .int _), (5, .int _), (6, .int _), (7, .int _), (8, .int _), (9, .int _), (11, .ref _), (12, .int _), (25, .int _), (27, .int _)] ([]) _ _
          refine go_iinc dL_law_1456 rfl (nI_1 k) (Nat.lt_of_lt_of_le (Nat.lt_succ_self _) (Nat.le_of_ble_eq_true rfl)) ?_
          show bw_go _ _ _ _ _ _ _ 1459 [(27, .int _), (26, .int _), (30, .int _), (29, .int _), (28, .int _), (0, .retAddr _), (1, .ref _), (2, .ref _), (3, .int _), (4, .int _), (5, .int _), (6, .int _), (7, .int _), (8, .int _), (9, .int _), (11, .ref _), (12, .int _), (25, .int _)] ([]) _ _
          refine go_goto (pc' := 1339) dL_law_1459 rfl ?_
          refine go_ls [(0, .retAddr _), (1, .ref _), (2, .ref _), (3, .int _), (4, .int _), (5, .int _), (6, .int _), (7, .int _), (8, .int _), (9, .int _), (11, .ref _), (12, .int _), (25, .int _), (26, .int _), (27, .int _)] (by show List.Nodup ([0, 1, 2, 3, 4, 5, 6, 7, 8, 9, 11, 12, 25, 26, 27] : List Nat); decide) (by show List.Nodup ([27, 26, 30, 29, 28, 0, 1, 2, 3, 4, 5, 6, 7, 8, 9, 11, 12, 25] : List Nat); decide) (le_cons rfl (le_cons rfl (le_cons rfl (le_cons rfl (le_cons rfl (le_cons rfl (le_cons rfl (le_cons rfl (le_cons rfl (le_cons rfl (le_cons rfl (le_cons rfl (le_cons rfl (le_cons rfl (le_cons rfl (le_nil _)))))))))))))))) ?_
          have e8 := spf_s (R := W2.2 3) (k := k) (i := i) (t := t) (v := vC (cc B) i t) (by omega) ht (vC_le _ _ _)
          have e9 := lkp_s hi ht h3
          rw [vC_2 e2] at e8 e9
          dsimp only at hx
          rw [upup, bw_up_s] at hx
          have K2 := KI _ _ (W2.1, bw_up W2.2 3 (wr2 (W2.2 3) k (8 * i + t) 2)) ⟨hx, h2, by rw [show (W2.1, bw_up W2.2 3 (wr2 (W2.2 3) k (8 * i + t) 2)).2 3 = wr2 (W2.2 3) k (8 * i + t) 2 from bw_up_s W2.2 3 _]; exact e9⟩
          rw [show (W2.1, bw_up W2.2 3 (wr2 (W2.2 3) k (8 * i + t) 2)).2 3 = wr2 (W2.2 3) k (8 * i + t) 2 from bw_up_s W2.2 3 _, e8] at K2
          exact K2
        · rw [e1]
          show bw_go _ _ _ _ _ _ _ 1387 [(29, .int _), (28, .int _), (0, .retAddr _), (1, .ref _), (2, .ref _), (3, .int _), (4, .int _), (5, .int _), (6, .int _), (7, .int _), (8, .int _), (9, .int _), (11, .ref _), (12, .int _), (25, .int _), (26, .int _), (27, .int _)] ((.int _) :: []) _ _
          refine go_istore dL_law_1387 (Nat.lt_of_lt_of_le (Nat.lt_succ_self _) (Nat.le_of_ble_eq_true rfl)) ?_
          show bw_go _ _ _ _ _ _ _ 1389 [(30, .int _), (29, .int _), (28, .int _), (0, .retAddr _), (1, .ref _), (2, .ref _), (3, .int _), (4, .int _), (5, .int _), (6, .int _), (7, .int _), (8, .int _), (9, .int _), (11, .ref _), (12, .int _), (25, .int _), (26, .int _), (27, .int _)] ([]) _ _
          refine go_iload dL_law_1389 rfl ?_
          refine go_iload dL_law_1391 rfl ?_
          refine go_if_lt (pc' := 1403) dL_law_1393 rfl (fun c => absurd c (by decide)) (fun _ => ?_)
          show bw_go _ _ _ _ _ _ _ 1396 [(30, .int _), (29, .int _), (28, .int _), (0, .retAddr _), (1, .ref _), (2, .ref _), (3, .int _), (4, .int _), (5, .int _), (6, .int _), (7, .int _), (8, .int _), (9, .int _), (11, .ref _), (12, .int _), (25, .int _), (26, .int _), (27, .int _)] ((.int _) :: []) _ _
          refine go_iconst (1) dL_law_1396 rfl ?_
          refine go_iload dL_law_1397 rfl ?_
          refine go_ishl dL_law_1399 ?_
          refine go_goto (pc' := 1404) dL_law_1400 rfl ?_
          show bw_go _ _ _ _ _ _ _ 1404 [(30, .int _), (29, .int _), (28, .int _), (0, .retAddr _), (1, .ref _), (2, .ref _), (3, .int _), (4, .int _), (5, .int _), (6, .int _), (7, .int _), (8, .int _), (9, .int _), (11, .ref _), (12, .int _), (25, .int _), (26, .int _), (27, .int _)] ((.int _) :: (.int _) :: []) _ _
          rw [sh_t _ (by omega)]
          refine go_ior dL_law_1404 ?_
          rw [or_n]
          refine go_istore dL_law_1405 (Nat.lt_of_lt_of_le (Nat.lt_succ_self _) (Nat.le_of_ble_eq_true rfl)) ?_
          show bw_go _ _ _ _ _ _ _ 1407 [(26, .int _), (30, .int _), (29, .int _), (28, .int _), (0, .retAddr _), (1, .ref _), (2, .ref _), (3, .int _), (4, .int _), (5, .int _), (6, .int _), (7, .int _), (8, .int _), (9, .int _), (11, .ref _), (12, .int _), (25, .int _), (27, .int _)] ([]) _ _
          refine go_aload_n dL_law_1407 rfl ?_
          refine go_iconst (3) dL_law_1408 rfl ?_
          refine go_iconst (2) dL_law_1409 rfl ?_
          refine go_iload dL_law_1410 rfl ?_
          refine go_imul dL_law_1412 ?_
          refine go_bipush (8) dL_law_1413 rfl ?_
          refine go_iload dL_law_1415 rfl ?_
          refine go_imul dL_law_1417 ?_
          refine go_iload dL_law_1418 rfl ?_
          refine go_iadd dL_law_1420 ?_
          rw [show (3 : Int32) = nI 3 from rfl, show (2 : Int32) = nI 2 from rfl, show (8 : Int32) = nI 8 from rfl, nmul, nmul, nI_add]
          refine go_cv (as := [.int _, .int _, .int _]) 4 dL_law_1421 mt_9_111 (Or.inl rfl) rfl rfl (lb_lt hx.1) (lb_k hx.1) (Nat.le_of_ble_eq_true rfl) (Nat.le_of_ble_eq_true rfl) (Nat.le_of_ble_eq_true rfl) (Nat.le_of_ble_eq_true rfl) (Nat.le_of_ble_eq_true rfl) ?_
          refine lx_lay3 hx (m := 2 * q) h2 (by omega) (fun G S' hx => ?_)
          show bw_go _ _ _ _ _ _ _ 1424 [(26, .int _), (30, .int _), (29, .int _), (28, .int _), (0, .retAddr _), (1, .ref _), (2, .ref _), (3, .int _), (4, .int _), (5, .int _), (6, .int _), (7, .int _), (8, .int _), (9, .int _), (11, .ref _), (12, .int _), (25, .int _), (27, .int _)] ((.int _) :: []) _ _
          refine go_iconst (1) dL_law_1424 rfl ?_
          refine go_icmp_ne (pc' := 1454) dL_law_1425 rfl (fun c => absurd c (by decide)) (fun _ => ?_)
          show bw_go _ _ _ _ _ _ _ 1428 [(26, .int _), (30, .int _), (29, .int _), (28, .int _), (0, .retAddr _), (1, .ref _), (2, .ref _), (3, .int _), (4, .int _), (5, .int _), (6, .int _), (7, .int _), (8, .int _), (9, .int _), (11, .ref _), (12, .int _), (25, .int _), (27, .int _)] ([]) _ _
          refine go_aload_n dL_law_1428 rfl ?_
          refine go_iconst (3) dL_law_1429 rfl ?_
          refine go_iconst (2) dL_law_1430 rfl ?_
          refine go_iload dL_law_1431 rfl ?_
          refine go_imul dL_law_1433 ?_
          refine go_iconst (1) dL_law_1434 rfl ?_
          refine go_iadd dL_law_1435 ?_
          refine go_iload dL_law_1436 rfl ?_
          refine go_if_ge (pc' := 1445) dL_law_1438 rfl (fun _ => ?_) (fun c => absurd (by decide) c)
          show bw_go _ _ _ _ _ _ _ 1445 [(26, .int _), (30, .int _), (29, .int _), (28, .int _), (0, .retAddr _), (1, .ref _), (2, .ref _), (3, .int _), (4, .int _), (5, .int _), (6, .int _), (7, .int _), (8, .int _), (9, .int _), (11, .ref _), (12, .int _), (25, .int _), (27, .int _)] ((.int _) :: (.int _) :: (.ref _) :: []) _ _
          refine go_iload dL_law_1445 rfl ?_
          rw [show (3 : Int32) = nI 3 from rfl, show (2 : Int32) = nI 2 from rfl, show (1 : Int32) = nI 1 from rfl, nmul, nI_add]
          refine go_cv (as := [.int _, .int _, .int _]) 4 dL_law_1447 mt_9_111 (Or.inl rfl) rfl rfl (lb_lt hx.1) (lb_k hx.1) (Nat.le_of_ble_eq_true rfl) (Nat.le_of_ble_eq_true rfl) (Nat.le_of_ble_eq_true rfl) (Nat.le_of_ble_eq_true rfl) (Nat.le_of_ble_eq_true rfl) ?_
          refine lx_lay3 hx (m := 2 * q) h2 (by omega) (fun G S' hx => ?_)
          show bw_go _ _ _ _ _ _ _ 1450 [(26, .int _), (30, .int _), (29, .int _), (28, .int _), (0, .retAddr _), (1, .ref _), (2, .ref _), (3, .int _), (4, .int _), (5, .int _), (6, .int _), (7, .int _), (8, .int _), (9, .int _), (11, .ref _), (12, .int _), (25, .int _), (27, .int _)] ((.int _) :: []) _ _
          refine go_iconst (1) dL_law_1450 rfl ?_
          refine go_icmp_eq (pc' := 1456) dL_law_1451 rfl (fun _ => ?_) (fun c => absurd (by decide) c)
          show bw_go _ _ _ _ _ _ _ 1456 [(26, .int _), (30, .int _), (29, .int _), (28, .int _), (0, .retAddr _), (1, .ref _), (2, .ref _), (3, .int _), (4, .int _), (5, .int _), (6, .int _), (7, .int _), (8, .int _), (9, .int _), (11, .ref _), (12, .int _), (25, .int _), (27, .int _)] ([]) _ _
          refine go_iinc dL_law_1456 rfl (nI_1 k) (Nat.lt_of_lt_of_le (Nat.lt_succ_self _) (Nat.le_of_ble_eq_true rfl)) ?_
          show bw_go _ _ _ _ _ _ _ 1459 [(27, .int _), (26, .int _), (30, .int _), (29, .int _), (28, .int _), (0, .retAddr _), (1, .ref _), (2, .ref _), (3, .int _), (4, .int _), (5, .int _), (6, .int _), (7, .int _), (8, .int _), (9, .int _), (11, .ref _), (12, .int _), (25, .int _)] ([]) _ _
          refine go_goto (pc' := 1339) dL_law_1459 rfl ?_
          refine go_ls [(0, .retAddr _), (1, .ref _), (2, .ref _), (3, .int _), (4, .int _), (5, .int _), (6, .int _), (7, .int _), (8, .int _), (9, .int _), (11, .ref _), (12, .int _), (25, .int _), (26, .int _), (27, .int _)] (by show List.Nodup ([0, 1, 2, 3, 4, 5, 6, 7, 8, 9, 11, 12, 25, 26, 27] : List Nat); decide) (by show List.Nodup ([27, 26, 30, 29, 28, 0, 1, 2, 3, 4, 5, 6, 7, 8, 9, 11, 12, 25] : List Nat); decide) (le_cons rfl (le_cons rfl (le_cons rfl (le_cons rfl (le_cons rfl (le_cons rfl (le_cons rfl (le_cons rfl (le_cons rfl (le_cons rfl (le_cons rfl (le_cons rfl (le_cons rfl (le_cons rfl (le_cons rfl (le_nil _)))))))))))))))) ?_
          have e8 := spf_s (R := W2.2 3) (k := k) (i := i) (t := t) (v := vC (cc B) i t) (by omega) ht (vC_le _ _ _)
          have e9 := lkp_s hi ht h3
          rw [vC_0 e2 e3] at e8 e9
          dsimp only at hx
          rw [upup, bw_up_s] at hx
          have K2 := KI _ _ (W2.1, bw_up W2.2 3 (wr2 (W2.2 3) k (8 * i + t) 0)) ⟨hx, h2, by rw [show (W2.1, bw_up W2.2 3 (wr2 (W2.2 3) k (8 * i + t) 0)).2 3 = wr2 (W2.2 3) k (8 * i + t) 0 from bw_up_s W2.2 3 _]; exact e9⟩
          rw [show (W2.1, bw_up W2.2 3 (wr2 (W2.2 3) k (8 * i + t) 0)).2 3 = wr2 (W2.2 3) k (8 * i + t) 0 from bw_up_s W2.2 3 _, e8] at K2
          exact K2
        · rw [e1]
          show bw_go _ _ _ _ _ _ _ 1387 [(29, .int _), (28, .int _), (0, .retAddr _), (1, .ref _), (2, .ref _), (3, .int _), (4, .int _), (5, .int _), (6, .int _), (7, .int _), (8, .int _), (9, .int _), (11, .ref _), (12, .int _), (25, .int _), (26, .int _), (27, .int _)] ((.int _) :: []) _ _
          refine go_istore dL_law_1387 (Nat.lt_of_lt_of_le (Nat.lt_succ_self _) (Nat.le_of_ble_eq_true rfl)) ?_
          show bw_go _ _ _ _ _ _ _ 1389 [(30, .int _), (29, .int _), (28, .int _), (0, .retAddr _), (1, .ref _), (2, .ref _), (3, .int _), (4, .int _), (5, .int _), (6, .int _), (7, .int _), (8, .int _), (9, .int _), (11, .ref _), (12, .int _), (25, .int _), (26, .int _), (27, .int _)] ([]) _ _
          refine go_iload dL_law_1389 rfl ?_
          refine go_iload dL_law_1391 rfl ?_
          refine go_if_lt (pc' := 1403) dL_law_1393 rfl (fun c => absurd c (by decide)) (fun _ => ?_)
          show bw_go _ _ _ _ _ _ _ 1396 [(30, .int _), (29, .int _), (28, .int _), (0, .retAddr _), (1, .ref _), (2, .ref _), (3, .int _), (4, .int _), (5, .int _), (6, .int _), (7, .int _), (8, .int _), (9, .int _), (11, .ref _), (12, .int _), (25, .int _), (26, .int _), (27, .int _)] ((.int _) :: []) _ _
          refine go_iconst (1) dL_law_1396 rfl ?_
          refine go_iload dL_law_1397 rfl ?_
          refine go_ishl dL_law_1399 ?_
          refine go_goto (pc' := 1404) dL_law_1400 rfl ?_
          show bw_go _ _ _ _ _ _ _ 1404 [(30, .int _), (29, .int _), (28, .int _), (0, .retAddr _), (1, .ref _), (2, .ref _), (3, .int _), (4, .int _), (5, .int _), (6, .int _), (7, .int _), (8, .int _), (9, .int _), (11, .ref _), (12, .int _), (25, .int _), (26, .int _), (27, .int _)] ((.int _) :: (.int _) :: []) _ _
          rw [sh_t _ (by omega)]
          refine go_ior dL_law_1404 ?_
          rw [or_n]
          refine go_istore dL_law_1405 (Nat.lt_of_lt_of_le (Nat.lt_succ_self _) (Nat.le_of_ble_eq_true rfl)) ?_
          show bw_go _ _ _ _ _ _ _ 1407 [(26, .int _), (30, .int _), (29, .int _), (28, .int _), (0, .retAddr _), (1, .ref _), (2, .ref _), (3, .int _), (4, .int _), (5, .int _), (6, .int _), (7, .int _), (8, .int _), (9, .int _), (11, .ref _), (12, .int _), (25, .int _), (27, .int _)] ([]) _ _
          refine go_aload_n dL_law_1407 rfl ?_
          refine go_iconst (3) dL_law_1408 rfl ?_
          refine go_iconst (2) dL_law_1409 rfl ?_
          refine go_iload dL_law_1410 rfl ?_
          refine go_imul dL_law_1412 ?_
          refine go_bipush (8) dL_law_1413 rfl ?_
          refine go_iload dL_law_1415 rfl ?_
          refine go_imul dL_law_1417 ?_
          refine go_iload dL_law_1418 rfl ?_
          refine go_iadd dL_law_1420 ?_
          rw [show (3 : Int32) = nI 3 from rfl, show (2 : Int32) = nI 2 from rfl, show (8 : Int32) = nI 8 from rfl, nmul, nmul, nI_add]
          refine go_cv (as := [.int _, .int _, .int _]) 4 dL_law_1421 mt_9_111 (Or.inl rfl) rfl rfl (lb_lt hx.1) (lb_k hx.1) (Nat.le_of_ble_eq_true rfl) (Nat.le_of_ble_eq_true rfl) (Nat.le_of_ble_eq_true rfl) (Nat.le_of_ble_eq_true rfl) (Nat.le_of_ble_eq_true rfl) ?_
          refine lx_lay3 hx (m := 2 * q) h2 (by omega) (fun G S' hx => ?_)
          show bw_go _ _ _ _ _ _ _ 1424 [(26, .int _), (30, .int _), (29, .int _), (28, .int _), (0, .retAddr _), (1, .ref _), (2, .ref _), (3, .int _), (4, .int _), (5, .int _), (6, .int _), (7, .int _), (8, .int _), (9, .int _), (11, .ref _), (12, .int _), (25, .int _), (27, .int _)] ((.int _) :: []) _ _
          refine go_iconst (1) dL_law_1424 rfl ?_
          refine go_icmp_ne (pc' := 1454) dL_law_1425 rfl (fun c => absurd c (by decide)) (fun _ => ?_)
          show bw_go _ _ _ _ _ _ _ 1428 [(26, .int _), (30, .int _), (29, .int _), (28, .int _), (0, .retAddr _), (1, .ref _), (2, .ref _), (3, .int _), (4, .int _), (5, .int _), (6, .int _), (7, .int _), (8, .int _), (9, .int _), (11, .ref _), (12, .int _), (25, .int _), (27, .int _)] ([]) _ _
          refine go_aload_n dL_law_1428 rfl ?_
          refine go_iconst (3) dL_law_1429 rfl ?_
          refine go_iconst (2) dL_law_1430 rfl ?_
          refine go_iload dL_law_1431 rfl ?_
          refine go_imul dL_law_1433 ?_
          refine go_iconst (1) dL_law_1434 rfl ?_
          refine go_iadd dL_law_1435 ?_
          refine go_iload dL_law_1436 rfl ?_
          refine go_if_ge (pc' := 1445) dL_law_1438 rfl (fun _ => ?_) (fun c => absurd (by decide) c)
          show bw_go _ _ _ _ _ _ _ 1445 [(26, .int _), (30, .int _), (29, .int _), (28, .int _), (0, .retAddr _), (1, .ref _), (2, .ref _), (3, .int _), (4, .int _), (5, .int _), (6, .int _), (7, .int _), (8, .int _), (9, .int _), (11, .ref _), (12, .int _), (25, .int _), (27, .int _)] ((.int _) :: (.int _) :: (.ref _) :: []) _ _
          refine go_iload dL_law_1445 rfl ?_
          rw [show (3 : Int32) = nI 3 from rfl, show (2 : Int32) = nI 2 from rfl, show (1 : Int32) = nI 1 from rfl, nmul, nI_add]
          refine go_cv (as := [.int _, .int _, .int _]) 4 dL_law_1447 mt_9_111 (Or.inl rfl) rfl rfl (lb_lt hx.1) (lb_k hx.1) (Nat.le_of_ble_eq_true rfl) (Nat.le_of_ble_eq_true rfl) (Nat.le_of_ble_eq_true rfl) (Nat.le_of_ble_eq_true rfl) (Nat.le_of_ble_eq_true rfl) ?_
          refine lx_lay3 hx (m := 2 * q) h2 (by omega) (fun G S' hx => ?_)
          show bw_go _ _ _ _ _ _ _ 1450 [(26, .int _), (30, .int _), (29, .int _), (28, .int _), (0, .retAddr _), (1, .ref _), (2, .ref _), (3, .int _), (4, .int _), (5, .int _), (6, .int _), (7, .int _), (8, .int _), (9, .int _), (11, .ref _), (12, .int _), (25, .int _), (27, .int _)] ((.int _) :: []) _ _
          refine go_iconst (1) dL_law_1450 rfl ?_
          refine go_icmp_eq (pc' := 1456) dL_law_1451 rfl (fun _ => ?_) (fun c => absurd (by decide) c)
          show bw_go _ _ _ _ _ _ _ 1456 [(26, .int _), (30, .int _), (29, .int _), (28, .int _), (0, .retAddr _), (1, .ref _), (2, .ref _), (3, .int _), (4, .int _), (5, .int _), (6, .int _), (7, .int _), (8, .int _), (9, .int _), (11, .ref _), (12, .int _), (25, .int _), (27, .int _)] ([]) _ _
          refine go_iinc dL_law_1456 rfl (nI_1 k) (Nat.lt_of_lt_of_le (Nat.lt_succ_self _) (Nat.le_of_ble_eq_true rfl)) ?_
          show bw_go _ _ _ _ _ _ _ 1459 [(27, .int _), (26, .int _), (30, .int _), (29, .int _), (28, .int _), (0, .retAddr _), (1, .ref _), (2, .ref _), (3, .int _), (4, .int _), (5, .int _), (6, .int _), (7, .int _), (8, .int _), (9, .int _), (11, .ref _), (12, .int _), (25, .int _)] ([]) _ _
          refine go_goto (pc' := 1339) dL_law_1459 rfl ?_
          refine go_ls [(0, .retAddr _), (1, .ref _), (2, .ref _), (3, .int _), (4, .int _), (5, .int _), (6, .int _), (7, .int _), (8, .int _), (9, .int _), (11, .ref _), (12, .int _), (25, .int _), (26, .int _), (27, .int _)] (by show List.Nodup ([0, 1, 2, 3, 4, 5, 6, 7, 8, 9, 11, 12, 25, 26, 27] : List Nat); decide) (by show List.Nodup ([27, 26, 30, 29, 28, 0, 1, 2, 3, 4, 5, 6, 7, 8, 9, 11, 12, 25] : List Nat); decide) (le_cons rfl (le_cons rfl (le_cons rfl (le_cons rfl (le_cons rfl (le_cons rfl (le_cons rfl (le_cons rfl (le_cons rfl (le_cons rfl (le_cons rfl (le_cons rfl (le_cons rfl (le_cons rfl (le_cons rfl (le_nil _)))))))))))))))) ?_
          have e8 := spf_s (R := W2.2 3) (k := k) (i := i) (t := t) (v := vC (cc B) i t) (by omega) ht (vC_le _ _ _)
          have e9 := lkp_s hi ht h3
          rw [vC_1 e2 e3] at e8 e9
          dsimp only at hx
          rw [upup, bw_up_s] at hx
          have K2 := KI _ _ (W2.1, bw_up W2.2 3 (wr2 (W2.2 3) k (8 * i + t) 1)) ⟨hx, h2, by rw [show (W2.1, bw_up W2.2 3 (wr2 (W2.2 3) k (8 * i + t) 1)).2 3 = wr2 (W2.2 3) k (8 * i + t) 1 from bw_up_s W2.2 3 _]; exact e9⟩
          rw [show (W2.1, bw_up W2.2 3 (wr2 (W2.2 3) k (8 * i + t) 1)).2 3 = wr2 (W2.2 3) k (8 * i + t) 1 from bw_up_s W2.2 3 _, e8] at K2
          exact K2
    · -- behind the last
      intro g S W2 hv
      obtain ⟨hx, h2, h3⟩ := hv
      show bw_go _ _ _ _ _ _ _ 1339 [(0, .retAddr _), (1, .ref _), (2, .ref _), (3, .int _), (4, .int _), (5, .int _), (6, .int _), (7, .int _), (8, .int _), (9, .int _), (11, .ref _), (12, .int _), (25, .int _), (26, .int _), (27, .int _)] ([]) _ _
      refine go_iload dL_law_1339 rfl ?_
      refine go_iload dL_law_1341 rfl ?_
      refine go_icmp_ge (pc' := 1462) dL_law_1343 rfl (fun c_1343 => ?_) (fun c_1343 => ?_)
      · -- ge at 1343: yes
        refine go_ls [(0, .retAddr _), (1, .ref _), (2, .ref _), (3, .int _), (4, .int _), (5, .int _), (6, .int _), (7, .int _), (8, .int _), (9, .int _), (11, .ref _), (12, .int _), (26, .int _)] (by show List.Nodup ([0, 1, 2, 3, 4, 5, 6, 7, 8, 9, 11, 12, 26] : List Nat); decide) (by show List.Nodup ([0, 1, 2, 3, 4, 5, 6, 7, 8, 9, 11, 12, 25, 26, 27] : List Nat); decide) (le_cons rfl (le_cons rfl (le_cons rfl (le_cons rfl (le_cons rfl (le_cons rfl (le_cons rfl (le_cons rfl (le_cons rfl (le_cons rfl (le_cons rfl (le_cons rfl (le_cons rfl (le_nil _)))))))))))))) ?_
        exact K9 _ _ W2 q (by omega) hx h2 h3
      · -- ge at 1343: no
        exfalso; have t_0 := nI_toInt (n := q) (by omega); simp only [i_le, i_lt, i_eq, bi_eq] at c_1343; omega
  · -- eq at 1328: no
    show bw_go _ _ _ _ _ _ _ 1331 [(25, .int _), (0, .retAddr _), (1, .ref _), (2, .ref _), (3, .int _), (4, .int _), (5, .int _), (6, .int _), (7, .int _), (8, .int _), (9, .int _), (11, .ref _), (12, .int _)] ([]) _ _
    refine go_iconst (0) dL_law_1331 rfl ?_
    exact absurd rfl c_1328
