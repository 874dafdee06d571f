/-! the law: what true looks tell, asked -/
set_option maxRecDepth 100000 in
set_option maxHeartbeats 4000000 in
theorem law_J {X : Nat × (Nat → Int32)} {Q : Option Value → bw_H → Prop} {h : bw_H} {S : ST} {W T0 : RW} {B : AC} {K0 : Nat → Option AC} {F T : Nat → Int32} {x q : Nat} (hx : LX 2 75 h S (A2 F T) W T0 B K0) (hf : LF F B) (hm : W.1 3 = some (2 * q)) (hq8 : q ≤ 8) (hlk : lkp (W.2 3) (cc B) q) (K9 : ∀ G S', LX 2 75 G S' (A2 F T) W T0 B K0 → bw_go X 12 9 48 false (some .boolean) cL_law 1680 [(0, .retAddr 1), (1, .ref (0)), (2, .ref (62)), (3, .int (nI (cN (cc B)))), (4, .int (nI (2 ^ cN (cc B) - 1))), (5, .int (nI (cT B.1))), (6, .int (nI (cD (cc B)))), (7, .int (nI (cW (cc B)))), (8, .int (nI (sho (taC (cc B)) (2 ^ cN (cc B) - 1)))), (9, .int (nI (smN (cR (cc B)) (cN (cc B))))), (11, .ref (76)), (12, .int (nI x))] [] G Q) : bw_go X 12 9 48 false (some .boolean) cL_law 1462 [(0, .retAddr 1), (1, .ref (0)), (2, .ref (62)), (3, .int (nI (cN (cc B)))), (4, .int (nI (2 ^ cN (cc B) - 1))), (5, .int (nI (cT B.1))), (6, .int (nI (cD (cc B)))), (7, .int (nI (cW (cc B)))), (8, .int (nI (sho (taC (cc B)) (2 ^ cN (cc B) - 1)))), (9, .int (nI (smN (cR (cc B)) (cN (cc B))))), (11, .ref (76)), (12, .int (nI x)), (26, .int (nI (spf (W.2 3) q)))] [] h Q := by
  have hk := lx_k hx
  have hN := hk.1
  have hp := p2N hN
  have hp1 : 1 ≤ 2 ^ cN (cc B) := Nat.one_le_two_pow
  have hn1 := hf.1.2.1
  have hd6 := hk.2.1
  show bw_go _ _ _ _ _ _ _ 1462 [(0, .retAddr _), (1, .ref _), (2, .ref _), (3, .int _), (4, .int _), (5, .int _), (6, .int _), (7, .int _), (8, .int _), (9, .int _), (11, .ref _), (12, .int _), (26, .int _)] ([]) _ _
  refine go_aload_n dL_law_1462 rfl ?_
  refine go_iconst (3) dL_law_1463 rfl ?_
  rw [show (3 : Int32) = nI 3 from rfl]
  refine go_cv (as := [.int _]) 6 dL_law_1464 mt_9_113 (Or.inl rfl) rfl rfl (lb_lt hx.1) (lb_k hx.1) (Nat.le_of_ble_eq_true rfl) (Nat.le_of_ble_eq_true rfl) (Nat.le_of_ble_eq_true rfl) (Nat.le_of_ble_eq_true rfl) (Nat.le_of_ble_eq_true rfl) ?_
  refine lx_truths hx hm hq8 (by omega) hlk (fun G S' d hx t1 t2 tu td t3 => ?_)
  show bw_go _ _ _ _ _ _ _ 1467 [(0, .retAddr _), (1, .ref _), (2, .ref _), (3, .int _), (4, .int _), (5, .int _), (6, .int _), (7, .int _), (8, .int _), (9, .int _), (11, .ref _), (12, .int _), (26, .int _)] ((.int _) :: []) _ _
  refine go_iconst (1) dL_law_1467 rfl ?_
  refine go_icmp_ne (pc' := 1500) dL_law_1468 rfl (fun c => absurd c (by decide)) (fun _ => ?_)
  show bw_go _ _ _ _ _ _ _ 1471 [(0, .retAddr _), (1, .ref _), (2, .ref _), (3, .int _), (4, .int _), (5, .int _), (6, .int _), (7, .int _), (8, .int _), (9, .int _), (11, .ref _), (12, .int _), (26, .int _)] ([]) _ _
  refine go_aload_n dL_law_1471 rfl ?_
  refine go_cv (as := []) 0 dL_law_1472 mt_9_116 (Or.inl rfl) rfl rfl (lb_lt hx.1) (lb_k hx.1) (Nat.le_of_ble_eq_true rfl) (Nat.le_of_ble_eq_true rfl) (Nat.le_of_ble_eq_true rfl) (Nat.le_of_ble_eq_true rfl) (Nat.le_of_ble_eq_true rfl) ?_
  refine lx_upper hx (fun G hx => ?_)
  rw [tu]
  show bw_go _ _ _ _ _ _ _ 1475 [(0, .retAddr _), (1, .ref _), (2, .ref _), (3, .int _), (4, .int _), (5, .int _), (6, .int _), (7, .int _), (8, .int _), (9, .int _), (11, .ref _), (12, .int _), (26, .int _)] ((.long _) :: []) _ _
  refine go_lconst (1) dL_law_1475 rfl ?_
  refine go_lcmp dL_law_1476 ?_
  refine go_if_lt (pc' := 1500) dL_law_1477 rfl (fun c_1477 => ?_) (fun c_1477 => ?_)
  · -- lt at 1477: yes
    exfalso
    rw [lg_cmp_lt, show (1 : Int64) = lN 1 from rfl, pk_lLT (by omega) (by decide)] at c_1477
    omega
  · -- lt at 1477: no
    show bw_go _ _ _ _ _ _ _ 1480 [(0, .retAddr _), (1, .ref _), (2, .ref _), (3, .int _), (4, .int _), (5, .int _), (6, .int _), (7, .int _), (8, .int _), (9, .int _), (11, .ref _), (12, .int _), (26, .int _)] ([]) _ _
    refine go_aload_n dL_law_1480 rfl ?_
    refine go_cv (as := []) 0 dL_law_1481 mt_9_116 (Or.inl rfl) rfl rfl (lb_lt hx.1) (lb_k hx.1) (Nat.le_of_ble_eq_true rfl) (Nat.le_of_ble_eq_true rfl) (Nat.le_of_ble_eq_true rfl) (Nat.le_of_ble_eq_true rfl) (Nat.le_of_ble_eq_true rfl) ?_
    refine lx_upper hx (fun G hx => ?_)
    rw [tu]
    show bw_go _ _ _ _ _ _ _ 1484 [(0, .retAddr _), (1, .ref _), (2, .ref _), (3, .int _), (4, .int _), (5, .int _), (6, .int _), (7, .int _), (8, .int _), (9, .int _), (11, .ref _), (12, .int _), (26, .int _)] ((.long _) :: []) _ _
    refine go_ldc2_w dL_law_1484 kc_9_120 ?_
    refine go_lcmp dL_law_1487 ?_
    refine go_if_gt (pc' := 1500) dL_law_1488 rfl (fun c_1488 => ?_) (fun c_1488 => ?_)
    · -- gt at 1488: yes
      exfalso
      rw [lg_cmp_gt, show (64 : Int64) = lN 64 from rfl, pk_lLT (by decide) (by omega)] at c_1488
      omega
    · -- gt at 1488: no
      show bw_go _ _ _ _ _ _ _ 1491 [(0, .retAddr _), (1, .ref _), (2, .ref _), (3, .int _), (4, .int _), (5, .int _), (6, .int _), (7, .int _), (8, .int _), (9, .int _), (11, .ref _), (12, .int _), (26, .int _)] ([]) _ _
      refine go_aload_n dL_law_1491 rfl ?_
      refine go_cv (as := []) 0 dL_law_1492 mt_9_42 (Or.inl rfl) rfl rfl (lb_lt hx.1) (lb_k hx.1) (Nat.le_of_ble_eq_true rfl) (Nat.le_of_ble_eq_true rfl) (Nat.le_of_ble_eq_true rfl) (Nat.le_of_ble_eq_true rfl) (Nat.le_of_ble_eq_true rfl) ?_
      refine lx_asked hx (fun G hx => ?_)
      rw [td]
      show bw_go _ _ _ _ _ _ _ 1495 [(0, .retAddr _), (1, .ref _), (2, .ref _), (3, .int _), (4, .int _), (5, .int _), (6, .int _), (7, .int _), (8, .int _), (9, .int _), (11, .ref _), (12, .int _), (26, .int _)] ((.int _) :: []) _ _
      refine go_iload dL_law_1495 rfl ?_
      refine go_icmp_le (pc' := 1502) dL_law_1497 rfl (fun c_1497 => ?_) (fun c_1497 => ?_)
      · -- le at 1497: yes
        show bw_go _ _ _ _ _ _ _ 1502 [(0, .retAddr _), (1, .ref _), (2, .ref _), (3, .int _), (4, .int _), (5, .int _), (6, .int _), (7, .int _), (8, .int _), (9, .int _), (11, .ref _), (12, .int _), (26, .int _)] ([]) _ _
        refine go_aload_n dL_law_1502 rfl ?_
        refine go_cv (as := []) 0 dL_law_1503 mt_9_116 (Or.inl rfl) rfl rfl (lb_lt hx.1) (lb_k hx.1) (Nat.le_of_ble_eq_true rfl) (Nat.le_of_ble_eq_true rfl) (Nat.le_of_ble_eq_true rfl) (Nat.le_of_ble_eq_true rfl) (Nat.le_of_ble_eq_true rfl) ?_
        refine lx_upper hx (fun G hx => ?_)
        rw [tu]
        show bw_go _ _ _ _ _ _ _ 1506 [(0, .retAddr _), (1, .ref _), (2, .ref _), (3, .int _), (4, .int _), (5, .int _), (6, .int _), (7, .int _), (8, .int _), (9, .int _), (11, .ref _), (12, .int _), (26, .int _)] ((.long _) :: []) _ _
        refine go_lstore dL_law_1506 (Nat.lt_of_lt_of_le (Nat.lt_succ_self _) (Nat.le_of_ble_eq_true rfl)) ?_
        show bw_go _ _ _ _ _ _ _ 1508 [(27, .long _), (0, .retAddr _), (1, .ref _), (2, .ref _), (3, .int _), (4, .int _), (5, .int _), (6, .int _), (7, .int _), (8, .int _), (9, .int _), (11, .ref _), (12, .int _), (26, .int _)] ([]) _ _
        refine go_aload_n dL_law_1508 rfl ?_
        refine go_iconst (3) dL_law_1509 rfl ?_
        rw [show (3 : Int32) = nI 3 from rfl]
        refine go_cv (as := [.int _]) 6 dL_law_1510 mt_9_122 (Or.inl rfl) rfl rfl (lb_lt hx.1) (lb_k hx.1) (Nat.le_of_ble_eq_true rfl) (Nat.le_of_ble_eq_true rfl) (Nat.le_of_ble_eq_true rfl) (Nat.le_of_ble_eq_true rfl) (Nat.le_of_ble_eq_true rfl) ?_
        refine lx_sure hx hm hq8 (by omega) hlk (fun G S' e n hx e1 e2 e3 e4 e5 => ?_)
        show bw_go _ _ _ _ _ _ _ 1513 [(27, .long _), (0, .retAddr _), (1, .ref _), (2, .ref _), (3, .int _), (4, .int _), (5, .int _), (6, .int _), (7, .int _), (8, .int _), (9, .int _), (11, .ref _), (12, .int _), (26, .int _)] ((.int _) :: []) _ _
        refine go_istore dL_law_1513 (Nat.lt_of_lt_of_le (Nat.lt_succ_self _) (Nat.le_of_ble_eq_true rfl)) ?_
        show bw_go _ _ _ _ _ _ _ 1515 [(29, .int _), (27, .long _), (0, .retAddr _), (1, .ref _), (2, .ref _), (3, .int _), (4, .int _), (5, .int _), (6, .int _), (7, .int _), (8, .int _), (9, .int _), (11, .ref _), (12, .int _), (26, .int _)] ([]) _ _
        refine go_aload_n dL_law_1515 rfl ?_
        refine go_cv (as := []) 0 dL_law_1516 mt_9_42 (Or.inl rfl) rfl rfl (lb_lt hx.1) (lb_k hx.1) (Nat.le_of_ble_eq_true rfl) (Nat.le_of_ble_eq_true rfl) (Nat.le_of_ble_eq_true rfl) (Nat.le_of_ble_eq_true rfl) (Nat.le_of_ble_eq_true rfl) ?_
        refine lx_asked hx (fun G hx => ?_)
        rw [e5]
        show bw_go _ _ _ _ _ _ _ 1519 [(29, .int _), (27, .long _), (0, .retAddr _), (1, .ref _), (2, .ref _), (3, .int _), (4, .int _), (5, .int _), (6, .int _), (7, .int _), (8, .int _), (9, .int _), (11, .ref _), (12, .int _), (26, .int _)] ((.int _) :: []) _ _
        refine go_istore dL_law_1519 (Nat.lt_of_lt_of_le (Nat.lt_succ_self _) (Nat.le_of_ble_eq_true rfl)) ?_
        show bw_go _ _ _ _ _ _ _ 1521 [(30, .int _), (29, .int _), (27, .long _), (0, .retAddr _), (1, .ref _), (2, .ref _), (3, .int _), (4, .int _), (5, .int _), (6, .int _), (7, .int _), (8, .int _), (9, .int _), (11, .ref _), (12, .int _), (26, .int _)] ([]) _ _
        refine go_aload_n dL_law_1521 rfl ?_
        refine go_iconst (3) dL_law_1522 rfl ?_
        rw [show (3 : Int32) = nI 3 from rfl]
        refine go_cv (as := [.int _]) 6 dL_law_1523 mt_9_125 (Or.inl rfl) rfl rfl (lb_lt hx.1) (lb_k hx.1) (Nat.le_of_ble_eq_true rfl) (Nat.le_of_ble_eq_true rfl) (Nat.le_of_ble_eq_true rfl) (Nat.le_of_ble_eq_true rfl) (Nat.le_of_ble_eq_true rfl) ?_
        refine lx_next hx hm hq8 (by omega) hlk (fun G S' mm p hx n1 n2 n3 n4 n5 => ?_)
        show bw_go _ _ _ _ _ _ _ 1526 [(30, .int _), (29, .int _), (27, .long _), (0, .retAddr _), (1, .ref _), (2, .ref _), (3, .int _), (4, .int _), (5, .int _), (6, .int _), (7, .int _), (8, .int _), (9, .int _), (11, .ref _), (12, .int _), (26, .int _)] ((.int _) :: []) _ _
        refine go_istore dL_law_1526 (Nat.lt_of_lt_of_le (Nat.lt_succ_self _) (Nat.le_of_ble_eq_true rfl)) ?_
        show bw_go _ _ _ _ _ _ _ 1528 [(31, .int _), (30, .int _), (29, .int _), (27, .long _), (0, .retAddr _), (1, .ref _), (2, .ref _), (3, .int _), (4, .int _), (5, .int _), (6, .int _), (7, .int _), (8, .int _), (9, .int _), (11, .ref _), (12, .int _), (26, .int _)] ([]) _ _
        refine go_aload_n dL_law_1528 rfl ?_
        refine go_cv (as := []) 0 dL_law_1529 mt_9_42 (Or.inl rfl) rfl rfl (lb_lt hx.1) (lb_k hx.1) (Nat.le_of_ble_eq_true rfl) (Nat.le_of_ble_eq_true rfl) (Nat.le_of_ble_eq_true rfl) (Nat.le_of_ble_eq_true rfl) (Nat.le_of_ble_eq_true rfl) ?_
        refine lx_asked hx (fun G hx => ?_)
        rw [n5]
        show bw_go _ _ _ _ _ _ _ 1532 [(31, .int _), (30, .int _), (29, .int _), (27, .long _), (0, .retAddr _), (1, .ref _), (2, .ref _), (3, .int _), (4, .int _), (5, .int _), (6, .int _), (7, .int _), (8, .int _), (9, .int _), (11, .ref _), (12, .int _), (26, .int _)] ((.int _) :: []) _ _
        refine go_istore dL_law_1532 (Nat.lt_of_lt_of_le (Nat.lt_succ_self _) (Nat.le_of_ble_eq_true rfl)) ?_
        show bw_go _ _ _ _ _ _ _ 1534 [(32, .int _), (31, .int _), (30, .int _), (29, .int _), (27, .long _), (0, .retAddr _), (1, .ref _), (2, .ref _), (3, .int _), (4, .int _), (5, .int _), (6, .int _), (7, .int _), (8, .int _), (9, .int _), (11, .ref _), (12, .int _), (26, .int _)] ([]) _ _
        refine go_aload_n dL_law_1534 rfl ?_
        refine go_iconst (3) dL_law_1535 rfl ?_
        rw [show (3 : Int32) = nI 3 from rfl]
        refine go_cv (as := [.int _]) 6 dL_law_1536 mt_9_128 (Or.inl rfl) rfl rfl (lb_lt hx.1) (lb_k hx.1) (Nat.le_of_ble_eq_true rfl) (Nat.le_of_ble_eq_true rfl) (Nat.le_of_ble_eq_true rfl) (Nat.le_of_ble_eq_true rfl) (Nat.le_of_ble_eq_true rfl) ?_
        refine lx_walls hx hm hq8 (by omega) hlk (fun G S' mu hx w1 w2 w3 w4 => ?_)
        show bw_go _ _ _ _ _ _ _ 1539 [(32, .int _), (31, .int _), (30, .int _), (29, .int _), (27, .long _), (0, .retAddr _), (1, .ref _), (2, .ref _), (3, .int _), (4, .int _), (5, .int _), (6, .int _), (7, .int _), (8, .int _), (9, .int _), (11, .ref _), (12, .int _), (26, .int _)] ((.int _) :: []) _ _
        refine go_istore dL_law_1539 (Nat.lt_of_lt_of_le (Nat.lt_succ_self _) (Nat.le_of_ble_eq_true rfl)) ?_
        show bw_go _ _ _ _ _ _ _ 1541 [(33, .int _), (32, .int _), (31, .int _), (30, .int _), (29, .int _), (27, .long _), (0, .retAddr _), (1, .ref _), (2, .ref _), (3, .int _), (4, .int _), (5, .int _), (6, .int _), (7, .int _), (8, .int _), (9, .int _), (11, .ref _), (12, .int _), (26, .int _)] ([]) _ _
        refine go_aload_n dL_law_1541 rfl ?_
        refine go_cv (as := []) 0 dL_law_1542 mt_9_42 (Or.inl rfl) rfl rfl (lb_lt hx.1) (lb_k hx.1) (Nat.le_of_ble_eq_true rfl) (Nat.le_of_ble_eq_true rfl) (Nat.le_of_ble_eq_true rfl) (Nat.le_of_ble_eq_true rfl) (Nat.le_of_ble_eq_true rfl) ?_
        refine lx_asked hx (fun G hx => ?_)
        rw [w4]
        show bw_go _ _ _ _ _ _ _ 1545 [(33, .int _), (32, .int _), (31, .int _), (30, .int _), (29, .int _), (27, .long _), (0, .retAddr _), (1, .ref _), (2, .ref _), (3, .int _), (4, .int _), (5, .int _), (6, .int _), (7, .int _), (8, .int _), (9, .int _), (11, .ref _), (12, .int _), (26, .int _)] ((.int _) :: []) _ _
        refine go_istore dL_law_1545 (Nat.lt_of_lt_of_le (Nat.lt_succ_self _) (Nat.le_of_ble_eq_true rfl)) ?_
        show bw_go _ _ _ _ _ _ _ 1547 [(34, .int _), (33, .int _), (32, .int _), (31, .int _), (30, .int _), (29, .int _), (27, .long _), (0, .retAddr _), (1, .ref _), (2, .ref _), (3, .int _), (4, .int _), (5, .int _), (6, .int _), (7, .int _), (8, .int _), (9, .int _), (11, .ref _), (12, .int _), (26, .int _)] ([]) _ _
        refine go_iload dL_law_1547 rfl ?_
        refine go_iload dL_law_1549 rfl ?_
        refine go_iconst (-1) dL_law_1551 rfl ?_
        refine go_ixor dL_law_1552 ?_
        refine go_iand dL_law_1553 ?_
        rw [not_n _ hk.2.1 _ e1, e3, show nI 0 = (0 : Int32) from rfl]
        refine go_if_ne (pc' := 1641) dL_law_1554 rfl (fun c => absurd c (by decide)) (fun _ => ?_)
        show bw_go _ _ _ _ _ _ _ 1557 [(34, .int _), (33, .int _), (32, .int _), (31, .int _), (30, .int _), (29, .int _), (27, .long _), (0, .retAddr _), (1, .ref _), (2, .ref _), (3, .int _), (4, .int _), (5, .int _), (6, .int _), (7, .int _), (8, .int _), (9, .int _), (11, .ref _), (12, .int _), (26, .int _)] ([]) _ _
        refine go_iload dL_law_1557 rfl ?_
        refine go_iload dL_law_1559 rfl ?_
        refine go_iand dL_law_1561 ?_
        rw [and_n, e4, show nI 0 = (0 : Int32) from rfl]
        refine go_if_ne (pc' := 1641) dL_law_1562 rfl (fun c => absurd c (by decide)) (fun _ => ?_)
        show bw_go _ _ _ _ _ _ _ 1565 [(34, .int _), (33, .int _), (32, .int _), (31, .int _), (30, .int _), (29, .int _), (27, .long _), (0, .retAddr _), (1, .ref _), (2, .ref _), (3, .int _), (4, .int _), (5, .int _), (6, .int _), (7, .int _), (8, .int _), (9, .int _), (11, .ref _), (12, .int _), (26, .int _)] ([]) _ _
        refine go_iload dL_law_1565 rfl ?_
        refine go_if_lt (pc' := 1641) dL_law_1567 rfl (fun c_1567 => ?_) (fun c_1567 => ?_)
        · -- lt at 1567: yes
          exfalso
          have l_0 := i_0
          have l_1 : (1 : Int32).toInt = 1 := rfl
          have l_5 : (5 : Int32).toInt = 5 := rfl
          have t_0 := nI_toInt (n := mm) (by omega)
          simp only [i_lt] at c_1567; omega
        · -- lt at 1567: no
          show bw_go _ _ _ _ _ _ _ 1570 [(34, .int _), (33, .int _), (32, .int _), (31, .int _), (30, .int _), (29, .int _), (27, .long _), (0, .retAddr _), (1, .ref _), (2, .ref _), (3, .int _), (4, .int _), (5, .int _), (6, .int _), (7, .int _), (8, .int _), (9, .int _), (11, .ref _), (12, .int _), (26, .int _)] ([]) _ _
          refine go_iload dL_law_1570 rfl ?_
          refine go_bipush (8) dL_law_1572 rfl ?_
          refine go_iload_n dL_law_1574 rfl ?_
          refine go_imul dL_law_1575 ?_
          rw [show (8 : Int32) = nI 8 from rfl, nmul]
          refine go_icmp_ge (pc' := 1641) dL_law_1576 rfl (fun c_1576 => ?_) (fun c_1576 => ?_)
          · -- ge at 1576: yes
            exfalso
            have l_0 := i_0
            have l_1 : (1 : Int32).toInt = 1 := rfl
            have l_5 : (5 : Int32).toInt = 5 := rfl
            have t_0 := nI_toInt (n := mm) (by omega)
            have t_1 := nI_toInt (n := 8 * cN (cc B)) (by omega); simp only [i_le] at c_1576; omega
          · -- ge at 1576: no
            show bw_go _ _ _ _ _ _ _ 1579 [(34, .int _), (33, .int _), (32, .int _), (31, .int _), (30, .int _), (29, .int _), (27, .long _), (0, .retAddr _), (1, .ref _), (2, .ref _), (3, .int _), (4, .int _), (5, .int _), (6, .int _), (7, .int _), (8, .int _), (9, .int _), (11, .ref _), (12, .int _), (26, .int _)] ([]) _ _
            refine go_iload dL_law_1579 rfl ?_
            refine go_bipush (8) dL_law_1581 rfl ?_
            refine go_irem dL_law_1583 (by decide) ?_
            rw [show (8 : Int32) = nI 8 from rfl, nI_rem (by omega) (by decide) (by decide)]
            refine go_iconst (5) dL_law_1584 rfl ?_
            refine go_icmp_gt (pc' := 1641) dL_law_1585 rfl (fun c_1585 => ?_) (fun c_1585 => ?_)
            · -- gt at 1585: yes
              exfalso
              have l_0 := i_0
              have l_1 : (1 : Int32).toInt = 1 := rfl
              have l_5 : (5 : Int32).toInt = 5 := rfl
              have t_0 := nI_toInt (n := mm) (by omega)
              have t_1 := nI_toInt (n := mm % 8) (by omega); simp only [i_lt] at c_1585; omega
            · -- gt at 1585: no
              show bw_go _ _ _ _ _ _ _ 1588 [(34, .int _), (33, .int _), (32, .int _), (31, .int _), (30, .int _), (29, .int _), (27, .long _), (0, .retAddr _), (1, .ref _), (2, .ref _), (3, .int _), (4, .int _), (5, .int _), (6, .int _), (7, .int _), (8, .int _), (9, .int _), (11, .ref _), (12, .int _), (26, .int _)] ([]) _ _
              refine go_iload dL_law_1588 rfl ?_
              refine go_iconst (1) dL_law_1590 rfl ?_
              refine go_icmp_lt (pc' := 1641) dL_law_1591 rfl (fun c_1591 => ?_) (fun c_1591 => ?_)
              · -- lt at 1591: yes
                exfalso
                have l_0 := i_0
                have l_1 : (1 : Int32).toInt = 1 := rfl
                have l_5 : (5 : Int32).toInt = 5 := rfl
                have t_0 := nI_toInt (n := mm) (by omega)
                have t_1 := nI_toInt (n := p) (by omega); simp only [i_lt] at c_1591; omega
              · -- lt at 1591: no
                show bw_go _ _ _ _ _ _ _ 1594 [(34, .int _), (33, .int _), (32, .int _), (31, .int _), (30, .int _), (29, .int _), (27, .long _), (0, .retAddr _), (1, .ref _), (2, .ref _), (3, .int _), (4, .int _), (5, .int _), (6, .int _), (7, .int _), (8, .int _), (9, .int _), (11, .ref _), (12, .int _), (26, .int _)] ([]) _ _
                refine go_iload dL_law_1594 rfl ?_
                refine go_i2l dL_law_1596 ?_
                rw [nI_l (by omega)]
                refine go_lload dL_law_1597 rfl ?_
                refine go_lcmp dL_law_1599 ?_
                refine go_if_gt (pc' := 1641) dL_law_1600 rfl (fun c_1600 => ?_) (fun c_1600 => ?_)
                · -- gt at 1600: yes
                  exfalso
                  have l_0 := i_0
                  have l_1 : (1 : Int32).toInt = 1 := rfl
                  have l_5 : (5 : Int32).toInt = 5 := rfl
                  have t_0 := nI_toInt (n := mm) (by omega)
                  rw [lg_cmp_gt, pk_lLT (by omega) (by omega)] at c_1600
                  omega
                · -- gt at 1600: no
                  show bw_go _ _ _ _ _ _ _ 1603 [(34, .int _), (33, .int _), (32, .int _), (31, .int _), (30, .int _), (29, .int _), (27, .long _), (0, .retAddr _), (1, .ref _), (2, .ref _), (3, .int _), (4, .int _), (5, .int _), (6, .int _), (7, .int _), (8, .int _), (9, .int _), (11, .ref _), (12, .int _), (26, .int _)] ([]) _ _
                  refine go_ldc2_w dL_law_1603 kc_9_131 ?_
                  refine go_iload dL_law_1606 rfl ?_
                  refine go_i2l dL_law_1608 ?_
                  rw [nI_l (by omega)]
                  refine go_lmul dL_law_1609 ?_
                  rw [show (2 : Int64) = lN 2 from rfl, lN_mul]
                  refine go_lload dL_law_1610 rfl ?_
                  refine go_lcmp dL_law_1612 ?_
                  refine go_if_lt (pc' := 1641) dL_law_1613 rfl (fun c_1613 => ?_) (fun c_1613 => ?_)
                  · -- lt at 1613: yes
                    exfalso
                    have l_0 := i_0
                    have l_1 : (1 : Int32).toInt = 1 := rfl
                    have l_5 : (5 : Int32).toInt = 5 := rfl
                    have t_0 := nI_toInt (n := mm) (by omega)
                    rw [lg_cmp_lt, pk_lLT (by omega) (by omega)] at c_1613
                    omega
                  · -- lt at 1613: no
                    show bw_go _ _ _ _ _ _ _ 1616 [(34, .int _), (33, .int _), (32, .int _), (31, .int _), (30, .int _), (29, .int _), (27, .long _), (0, .retAddr _), (1, .ref _), (2, .ref _), (3, .int _), (4, .int _), (5, .int _), (6, .int _), (7, .int _), (8, .int _), (9, .int _), (11, .ref _), (12, .int _), (26, .int _)] ([]) _ _
                    refine go_iload dL_law_1616 rfl ?_
                    refine go_iload dL_law_1618 rfl ?_
                    refine go_iconst (-1) dL_law_1620 rfl ?_
                    refine go_ixor dL_law_1621 ?_
                    refine go_iand dL_law_1622 ?_
                    rw [not_n _ hk.2.2.1 _ w1, w2, show nI 0 = (0 : Int32) from rfl]
                    refine go_if_ne (pc' := 1641) dL_law_1623 rfl (fun c => absurd c (by decide)) (fun _ => ?_)
                    show bw_go _ _ _ _ _ _ _ 1626 [(34, .int _), (33, .int _), (32, .int _), (31, .int _), (30, .int _), (29, .int _), (27, .long _), (0, .retAddr _), (1, .ref _), (2, .ref _), (3, .int _), (4, .int _), (5, .int _), (6, .int _), (7, .int _), (8, .int _), (9, .int _), (11, .ref _), (12, .int _), (26, .int _)] ([]) _ _
                    refine go_iload dL_law_1626 rfl ?_
                    refine go_iload dL_law_1628 rfl ?_
                    refine go_icmp_ne (pc' := 1641) dL_law_1630 rfl (fun c_1630 => ?_) (fun c_1630 => ?_)
                    · -- ne at 1630: yes
                      exact absurd rfl c_1630
                    · -- ne at 1630: no
                      show bw_go _ _ _ _ _ _ _ 1633 [(34, .int _), (33, .int _), (32, .int _), (31, .int _), (30, .int _), (29, .int _), (27, .long _), (0, .retAddr _), (1, .ref _), (2, .ref _), (3, .int _), (4, .int _), (5, .int _), (6, .int _), (7, .int _), (8, .int _), (9, .int _), (11, .ref _), (12, .int _), (26, .int _)] ([]) _ _
                      refine go_iload dL_law_1633 rfl ?_
                      refine go_iload dL_law_1635 rfl ?_
                      refine go_iand dL_law_1637 ?_
                      rw [and_n, w3, show nI 0 = (0 : Int32) from rfl]
                      refine go_if_eq (pc' := 1643) dL_law_1638 rfl (fun _ => ?_) (fun c => absurd (by decide) c)
                      show bw_go _ _ _ _ _ _ _ 1643 [(34, .int _), (33, .int _), (32, .int _), (31, .int _), (30, .int _), (29, .int _), (27, .long _), (0, .retAddr _), (1, .ref _), (2, .ref _), (3, .int _), (4, .int _), (5, .int _), (6, .int _), (7, .int _), (8, .int _), (9, .int _), (11, .ref _), (12, .int _), (26, .int _)] ([]) _ _
                      refine go_iconst (0) dL_law_1643 rfl ?_
                      refine go_istore dL_law_1644 (Nat.lt_of_lt_of_le (Nat.lt_succ_self _) (Nat.le_of_ble_eq_true rfl)) ?_
                      show bw_go _ _ _ _ _ _ _ 1646 [(35, .int _), (34, .int _), (33, .int _), (32, .int _), (31, .int _), (30, .int _), (29, .int _), (27, .long _), (0, .retAddr _), (1, .ref _), (2, .ref _), (3, .int _), (4, .int _), (5, .int _), (6, .int _), (7, .int _), (8, .int _), (9, .int _), (11, .ref _), (12, .int _), (26, .int _)] ([]) _ _
                      refine go_ls [(0, .retAddr _), (1, .ref _), (2, .ref _), (3, .int _), (4, .int _), (5, .int _), (6, .int _), (7, .int _), (8, .int _), (9, .int _), (11, .ref _), (12, .int _), (35, .int _)] (by show List.Nodup ([0, 1, 2, 3, 4, 5, 6, 7, 8, 9, 11, 12, 35] : List Nat); decide) (by show List.Nodup ([35, 34, 33, 32, 31, 30, 29, 27, 0, 1, 2, 3, 4, 5, 6, 7, 8, 9, 11, 12, 26] : List Nat); decide) (le_cons rfl (le_cons rfl (le_cons rfl (le_cons rfl (le_cons rfl (le_cons rfl (le_cons rfl (le_cons rfl (le_cons rfl (le_cons rfl (le_cons rfl (le_cons rfl (le_cons rfl (le_nil _)))))))))))))) ?_
                      refine go_for (P := fun i => ∀ (g : bw_H) (S : ST), (LX 2 75 g S (A2 F T) W T0 B K0) → bw_go X 12 9 48 false (some .boolean) cL_law 1646 [(0, .retAddr 1), (1, .ref (0)), (2, .ref (62)), (3, .int (nI (cN (cc B)))), (4, .int (nI (2 ^ cN (cc B) - 1))), (5, .int (nI (cT B.1))), (6, .int (nI (cD (cc B)))), (7, .int (nI (cW (cc B)))), (8, .int (nI (sho (taC (cc B)) (2 ^ cN (cc B) - 1)))), (9, .int (nI (smN (cR (cc B)) (cN (cc B))))), (11, .ref (76)), (12, .int (nI x)), (35, .int (nI i))] [] g Q) (N := (cN (cc B))) (fun i hi K => ?_) ?_ (0) (Nat.zero_le _) _ _ hx
                      · -- a turn
                        intro g S hv
                        have hx := hv
                        have hk6 := (hk.2.2.2.2 i hi).1
                        show bw_go _ _ _ _ _ _ _ 1646 [(0, .retAddr _), (1, .ref _), (2, .ref _), (3, .int _), (4, .int _), (5, .int _), (6, .int _), (7, .int _), (8, .int _), (9, .int _), (11, .ref _), (12, .int _), (35, .int _)] ([]) _ _
                        refine go_iload dL_law_1646 rfl ?_
                        refine go_iload_n dL_law_1648 rfl ?_
                        refine go_icmp_ge (pc' := 1680) dL_law_1649 rfl (fun c_1649 => ?_) (fun c_1649 => ?_)
                        · -- ge at 1649: yes
                          exfalso; have t_0 := nI_toInt (n := i) (by omega); have t_1 := nI_toInt (n := cN (cc B)) (by omega); simp only [i_le, i_lt, i_eq, bi_eq] at c_1649; omega
                        · -- ge at 1649: no
                          show bw_go _ _ _ _ _ _ _ 1652 [(0, .retAddr _), (1, .ref _), (2, .ref _), (3, .int _), (4, .int _), (5, .int _), (6, .int _), (7, .int _), (8, .int _), (9, .int _), (11, .ref _), (12, .int _), (35, .int _)] ([]) _ _
                          refine go_aload_n dL_law_1652 rfl ?_
                          refine go_iload dL_law_1653 rfl ?_
                          refine go_iconst (3) dL_law_1655 rfl ?_
                          rw [show (3 : Int32) = nI 3 from rfl]
                          refine go_cv (as := [.int _, .int _]) 6 dL_law_1656 mt_9_133 (Or.inl rfl) rfl rfl (lb_lt hx.1) (lb_k hx.1) (Nat.le_of_ble_eq_true rfl) (Nat.le_of_ble_eq_true rfl) (Nat.le_of_ble_eq_true rfl) (Nat.le_of_ble_eq_true rfl) (Nat.le_of_ble_eq_true rfl) ?_
                          refine lx_kinds hx hm hq8 (by omega) hlk hi (fun G S' s hx s1 s2 => ?_)
                          show bw_go _ _ _ _ _ _ _ 1659 [(0, .retAddr _), (1, .ref _), (2, .ref _), (3, .int _), (4, .int _), (5, .int _), (6, .int _), (7, .int _), (8, .int _), (9, .int _), (11, .ref _), (12, .int _), (35, .int _)] ((.int _) :: []) _ _
                          refine go_aload_n dL_law_1659 rfl ?_
                          refine go_iconst (2) dL_law_1660 rfl ?_
                          refine go_iload dL_law_1661 rfl ?_
                          refine go_iadd dL_law_1663 ?_
                          rw [show (2 : Int32) = nI 2 from rfl, nI_add]
                          refine go_ia dL_law_1664 (lb_a hx.1 (q := 62) rfl).2.1 (lb_a hx.1 (q := 62) rfl).1 (n_in (N := 28) (by omega) (by decide)) ?_
                          rw [nI_clamp (by omega), (lb_a hx.1 (q := 62) rfl).2.2, (rk_f hf.1.2.2.2.2.2 hi).1.1, ← (hf.2.2 i hi).1]
                          refine go_ishr dL_law_1665 ?_
                          refine go_iconst (1) dL_law_1666 rfl ?_
                          refine go_iand dL_law_1667 ?_
                          rw [bit_t _ s1 _ (by omega), s2, show nI (if true = true then 1 else 0) = 1 from rfl]
                          refine go_iconst (1) dL_law_1668 rfl ?_
                          refine go_icmp_eq (pc' := 1674) dL_law_1669 rfl (fun _ => ?_) (fun c => absurd (by decide) c)
                          show bw_go _ _ _ _ _ _ _ 1674 [(0, .retAddr _), (1, .ref _), (2, .ref _), (3, .int _), (4, .int _), (5, .int _), (6, .int _), (7, .int _), (8, .int _), (9, .int _), (11, .ref _), (12, .int _), (35, .int _)] ([]) _ _
                          refine go_iinc dL_law_1674 rfl (nI_1 i) (Nat.lt_of_lt_of_le (Nat.lt_succ_self _) (Nat.le_of_ble_eq_true rfl)) ?_
                          show bw_go _ _ _ _ _ _ _ 1677 [(35, .int _), (0, .retAddr _), (1, .ref _), (2, .ref _), (3, .int _), (4, .int _), (5, .int _), (6, .int _), (7, .int _), (8, .int _), (9, .int _), (11, .ref _), (12, .int _)] ([]) _ _
                          refine go_goto (pc' := 1646) dL_law_1677 rfl ?_
                          refine go_ls [(0, .retAddr _), (1, .ref _), (2, .ref _), (3, .int _), (4, .int _), (5, .int _), (6, .int _), (7, .int _), (8, .int _), (9, .int _), (11, .ref _), (12, .int _), (35, .int _)] (by show List.Nodup ([0, 1, 2, 3, 4, 5, 6, 7, 8, 9, 11, 12, 35] : List Nat); decide) (by show List.Nodup ([35, 0, 1, 2, 3, 4, 5, 6, 7, 8, 9, 11, 12] : List Nat); decide) (le_cons rfl (le_cons rfl (le_cons rfl (le_cons rfl (le_cons rfl (le_cons rfl (le_cons rfl (le_cons rfl (le_cons rfl (le_cons rfl (le_cons rfl (le_cons rfl (le_cons rfl (le_nil _)))))))))))))) ?_
                          exact K _ _ hx
                      · -- behind the last
                        intro g S hv
                        have hx := hv
                        show bw_go _ _ _ _ _ _ _ 1646 [(0, .retAddr _), (1, .ref _), (2, .ref _), (3, .int _), (4, .int _), (5, .int _), (6, .int _), (7, .int _), (8, .int _), (9, .int _), (11, .ref _), (12, .int _), (35, .int _)] ([]) _ _
                        refine go_iload dL_law_1646 rfl ?_
                        refine go_iload_n dL_law_1648 rfl ?_
                        refine go_icmp_ge (pc' := 1680) dL_law_1649 rfl (fun c_1649 => ?_) (fun c_1649 => ?_)
                        · -- ge at 1649: yes
                          refine go_ls [(0, .retAddr _), (1, .ref _), (2, .ref _), (3, .int _), (4, .int _), (5, .int _), (6, .int _), (7, .int _), (8, .int _), (9, .int _), (11, .ref _), (12, .int _)] (by show List.Nodup ([0, 1, 2, 3, 4, 5, 6, 7, 8, 9, 11, 12] : List Nat); decide) (by show List.Nodup ([0, 1, 2, 3, 4, 5, 6, 7, 8, 9, 11, 12, 35] : List Nat); decide) (le_cons rfl (le_cons rfl (le_cons rfl (le_cons rfl (le_cons rfl (le_cons rfl (le_cons rfl (le_cons rfl (le_cons rfl (le_cons rfl (le_cons rfl (le_cons rfl (le_nil _))))))))))))) ?_
                          exact K9 _ _ hx
                        · -- ge at 1649: no
                          exfalso; have t_0 := nI_toInt (n := cN (cc B)) (by omega); simp only [i_le, i_lt, i_eq, bi_eq] at c_1649; omega
      · -- le at 1497: no
        exfalso
        have t_0 := nI_toInt (n := d) (by omega); have t_1 := nI_toInt (n := cD (cc B)) (by omega); simp only [i_le] at c_1497; omega
