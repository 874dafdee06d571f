/-! the law: turns and chances, asked -/
set_option maxRecDepth 100000 in
set_option maxHeartbeats 4000000 in
theorem law_K {X : Nat × (Nat → Int32)} {Q : Option Value → bw_H → Prop} {h : bw_H} {S : ST} {W T0 : RW} {B : AC} {K0 : Nat → Option AC} {F T : Nat → Int32} {x : Nat} (hx : LX 2 75 h S (A2 F T) W T0 B K0) (hf : LF F B) (hx6 : x < 6) (hL : X.1 ≤ 260) (K9 : ∀ G S', LX 2 75 G S' (A2 F T) W T0 B K0 → bw_go X 12 9 48 false (some .boolean) cL_law 1909 [(0, .retAddr 1), (1, .ref (0)), (2, .ref (62)), (3, .int (nI (cN (cc B)))), (4, .int (nI (2 ^ cN (cc B) - 1))), (5, .int (nI (cT B.1))), (6, .int (nI (cD (cc B)))), (7, .int (nI (cW (cc B)))), (8, .int (nI (sho (taC (cc B)) (2 ^ cN (cc B) - 1)))), (9, .int (nI (smN (cR (cc B)) (cN (cc B))))), (11, .ref (76))] [] G Q) : bw_go X 12 9 48 false (some .boolean) cL_law 1680 [(0, .retAddr 1), (1, .ref (0)), (2, .ref (62)), (3, .int (nI (cN (cc B)))), (4, .int (nI (2 ^ cN (cc B) - 1))), (5, .int (nI (cT B.1))), (6, .int (nI (cD (cc B)))), (7, .int (nI (cW (cc B)))), (8, .int (nI (sho (taC (cc B)) (2 ^ cN (cc B) - 1)))), (9, .int (nI (smN (cR (cc B)) (cN (cc B))))), (11, .ref (76)), (12, .int (nI x))] [] h Q := by
  have hk := lx_k hx
  have hN := hk.1
  have hp := p2N hN
  have hp1 : 1 ≤ 2 ^ cN (cc B) := Nat.one_le_two_pow
  have hn1 := hf.1.2.1
  have hb7 := bc_lt (sho (taC (cc B)) (2 ^ cN (cc B) - 1))
  show bw_go _ _ _ _ _ _ _ 1680 [(0, .retAddr _), (1, .ref _), (2, .ref _), (3, .int _), (4, .int _), (5, .int _), (6, .int _), (7, .int _), (8, .int _), (9, .int _), (11, .ref _), (12, .int _)] ([]) _ _
  refine go_aloadA_n dL_law_1680 rfl ?_
  refine go_bipush (21) dL_law_1681 rfl ?_
  refine go_cs (as := [.retAddr _, .int _]) 0 dL_law_1683 rfl rfl mt_9_9 (Nat.le_of_ble_eq_true rfl) rfl rfl (Nat.le_of_ble_eq_true rfl) (Nat.le_of_ble_eq_true rfl) (Nat.le_of_ble_eq_true rfl) (Nat.le_of_ble_eq_true rfl) ?_
  refine me_L_cell (k := 21) hL (by decide) ?_
  show bw_go _ _ _ _ _ _ _ 1686 [(0, .retAddr _), (1, .ref _), (2, .ref _), (3, .int _), (4, .int _), (5, .int _), (6, .int _), (7, .int _), (8, .int _), (9, .int _), (11, .ref _), (12, .int _)] ((.int _) :: []) _ _
  refine go_bipush (13) dL_law_1686 rfl ?_
  refine go_cs (as := [.int _, .int _]) 0 dL_law_1688 rfl rfl mt_9_15 (Nat.le_of_ble_eq_true rfl) rfl rfl (Nat.le_of_ble_eq_true rfl) (Nat.le_of_ble_eq_true rfl) (Nat.le_of_ble_eq_true rfl) (Nat.le_of_ble_eq_true rfl) ?_
  refine me_L_up (n := 13) (by decide) (by decide) ?_
  generalize hce : upn (clx X 21) 13 = c
  have hc13 : c < 13 := by rw [← hce]; exact upn_lt (by decide)
  show bw_go _ _ _ _ _ _ _ 1691 [(0, .retAddr _), (1, .ref _), (2, .ref _), (3, .int _), (4, .int _), (5, .int _), (6, .int _), (7, .int _), (8, .int _), (9, .int _), (11, .ref _), (12, .int _)] ((.int _) :: []) _ _
  refine go_istore dL_law_1691 (Nat.lt_of_lt_of_le (Nat.lt_succ_self _) (Nat.le_of_ble_eq_true rfl)) ?_
  show bw_go _ _ _ _ _ _ _ 1693 [(35, .int _), (0, .retAddr _), (1, .ref _), (2, .ref _), (3, .int _), (4, .int _), (5, .int _), (6, .int _), (7, .int _), (8, .int _), (9, .int _), (11, .ref _), (12, .int _)] ([]) _ _
  refine go_iload dL_law_1693 rfl ?_
  refine go_cs (as := [.int _]) 0 dL_law_1695 rfl rfl mt_9_62 (Nat.le_of_ble_eq_true rfl) rfl rfl (Nat.le_of_ble_eq_true rfl) (Nat.le_of_ble_eq_true rfl) (Nat.le_of_ble_eq_true rfl) (Nat.le_of_ble_eq_true rfl) ?_
  refine me_L_bits (sho_lt _ _) ?_
  show bw_go _ _ _ _ _ _ _ 1698 [(35, .int _), (0, .retAddr _), (1, .ref _), (2, .ref _), (3, .int _), (4, .int _), (5, .int _), (6, .int _), (7, .int _), (8, .int _), (9, .int _), (11, .ref _), (12, .int _)] ((.int _) :: []) _ _
  refine go_istore dL_law_1698 (Nat.lt_of_lt_of_le (Nat.lt_succ_self _) (Nat.le_of_ble_eq_true rfl)) ?_
  show bw_go _ _ _ _ _ _ _ 1700 [(36, .int _), (35, .int _), (0, .retAddr _), (1, .ref _), (2, .ref _), (3, .int _), (4, .int _), (5, .int _), (6, .int _), (7, .int _), (8, .int _), (9, .int _), (11, .ref _), (12, .int _)] ([]) _ _
  refine go_aload_n dL_law_1700 rfl ?_
  refine go_iload dL_law_1701 rfl ?_
  refine go_iconst (0) dL_law_1703 rfl ?_
  rw [show (0 : Int32) = nI 0 from rfl]
  refine go_cv (as := [.int _, .int _]) 8 dL_law_1704 mt_9_78 (Or.inl rfl) rfl rfl (lb_lt hx.1) (lb_k hx.1) (Nat.le_of_ble_eq_true rfl) (Nat.le_of_ble_eq_true rfl) (Nat.le_of_ble_eq_true rfl) (Nat.le_of_ble_eq_true rfl) (Nat.le_of_ble_eq_true rfl) ?_
  refine lx_duel (n := 0) hx hx6 (by decide) (by omega) (fun G S' hx q0 => ?_)
  show bw_go _ _ _ _ _ _ _ 1707 [(36, .int _), (35, .int _), (0, .retAddr _), (1, .ref _), (2, .ref _), (3, .int _), (4, .int _), (5, .int _), (6, .int _), (7, .int _), (8, .int _), (9, .int _), (11, .ref _), (12, .int _)] ((.int _) :: []) _ _
  refine go_iconst (1) dL_law_1707 rfl ?_
  refine go_icmp_ne (pc' := 1718) dL_law_1708 rfl (fun c => absurd c (by decide)) (fun _ => ?_)
  show bw_go _ _ _ _ _ _ _ 1711 [(36, .int _), (35, .int _), (0, .retAddr _), (1, .ref _), (2, .ref _), (3, .int _), (4, .int _), (5, .int _), (6, .int _), (7, .int _), (8, .int _), (9, .int _), (11, .ref _), (12, .int _)] ([]) _ _
  refine go_aload_n dL_law_1711 rfl ?_
  refine go_cv (as := []) 0 dL_law_1712 mt_9_42 (Or.inl rfl) rfl rfl (lb_lt hx.1) (lb_k hx.1) (Nat.le_of_ble_eq_true rfl) (Nat.le_of_ble_eq_true rfl) (Nat.le_of_ble_eq_true rfl) (Nat.le_of_ble_eq_true rfl) (Nat.le_of_ble_eq_true rfl) ?_
  refine lx_asked hx (fun G hx => ?_)
  rw [q0]
  show bw_go _ _ _ _ _ _ _ 1715 [(36, .int _), (35, .int _), (0, .retAddr _), (1, .ref _), (2, .ref _), (3, .int _), (4, .int _), (5, .int _), (6, .int _), (7, .int _), (8, .int _), (9, .int _), (11, .ref _), (12, .int _)] ((.int _) :: []) _ _
  refine go_goto (pc' := 1720) dL_law_1715 rfl ?_
  show bw_go _ _ _ _ _ _ _ 1720 [(36, .int _), (35, .int _), (0, .retAddr _), (1, .ref _), (2, .ref _), (3, .int _), (4, .int _), (5, .int _), (6, .int _), (7, .int _), (8, .int _), (9, .int _), (11, .ref _), (12, .int _)] ((.int _) :: []) _ _
  refine go_istore dL_law_1720 (Nat.lt_of_lt_of_le (Nat.lt_succ_self _) (Nat.le_of_ble_eq_true rfl)) ?_
  show bw_go _ _ _ _ _ _ _ 1722 [(37, .int _), (36, .int _), (35, .int _), (0, .retAddr _), (1, .ref _), (2, .ref _), (3, .int _), (4, .int _), (5, .int _), (6, .int _), (7, .int _), (8, .int _), (9, .int _), (11, .ref _), (12, .int _)] ([]) _ _
  refine go_aload_n dL_law_1722 rfl ?_
  refine go_iload dL_law_1723 rfl ?_
  refine go_iconst (1) dL_law_1725 rfl ?_
  rw [show (1 : Int32) = nI 1 from rfl]
  refine go_cv (as := [.int _, .int _]) 8 dL_law_1726 mt_9_78 (Or.inl rfl) rfl rfl (lb_lt hx.1) (lb_k hx.1) (Nat.le_of_ble_eq_true rfl) (Nat.le_of_ble_eq_true rfl) (Nat.le_of_ble_eq_true rfl) (Nat.le_of_ble_eq_true rfl) (Nat.le_of_ble_eq_true rfl) ?_
  refine lx_duel (n := 1) hx hx6 (by decide) (by omega) (fun G S' hx q1 => ?_)
  show bw_go _ _ _ _ _ _ _ 1729 [(37, .int _), (36, .int _), (35, .int _), (0, .retAddr _), (1, .ref _), (2, .ref _), (3, .int _), (4, .int _), (5, .int _), (6, .int _), (7, .int _), (8, .int _), (9, .int _), (11, .ref _), (12, .int _)] ((.int _) :: []) _ _
  refine go_iconst (1) dL_law_1729 rfl ?_
  refine go_icmp_ne (pc' := 1740) dL_law_1730 rfl (fun c => absurd c (by decide)) (fun _ => ?_)
  show bw_go _ _ _ _ _ _ _ 1733 [(37, .int _), (36, .int _), (35, .int _), (0, .retAddr _), (1, .ref _), (2, .ref _), (3, .int _), (4, .int _), (5, .int _), (6, .int _), (7, .int _), (8, .int _), (9, .int _), (11, .ref _), (12, .int _)] ([]) _ _
  refine go_aload_n dL_law_1733 rfl ?_
  refine go_cv (as := []) 0 dL_law_1734 mt_9_42 (Or.inl rfl) rfl rfl (lb_lt hx.1) (lb_k hx.1) (Nat.le_of_ble_eq_true rfl) (Nat.le_of_ble_eq_true rfl) (Nat.le_of_ble_eq_true rfl) (Nat.le_of_ble_eq_true rfl) (Nat.le_of_ble_eq_true rfl) ?_
  refine lx_asked hx (fun G hx => ?_)
  rw [q1]
  show bw_go _ _ _ _ _ _ _ 1737 [(37, .int _), (36, .int _), (35, .int _), (0, .retAddr _), (1, .ref _), (2, .ref _), (3, .int _), (4, .int _), (5, .int _), (6, .int _), (7, .int _), (8, .int _), (9, .int _), (11, .ref _), (12, .int _)] ((.int _) :: []) _ _
  refine go_goto (pc' := 1742) dL_law_1737 rfl ?_
  show bw_go _ _ _ _ _ _ _ 1742 [(37, .int _), (36, .int _), (35, .int _), (0, .retAddr _), (1, .ref _), (2, .ref _), (3, .int _), (4, .int _), (5, .int _), (6, .int _), (7, .int _), (8, .int _), (9, .int _), (11, .ref _), (12, .int _)] ((.int _) :: []) _ _
  refine go_istore dL_law_1742 (Nat.lt_of_lt_of_le (Nat.lt_succ_self _) (Nat.le_of_ble_eq_true rfl)) ?_
  show bw_go _ _ _ _ _ _ _ 1744 [(38, .int _), (37, .int _), (36, .int _), (35, .int _), (0, .retAddr _), (1, .ref _), (2, .ref _), (3, .int _), (4, .int _), (5, .int _), (6, .int _), (7, .int _), (8, .int _), (9, .int _), (11, .ref _), (12, .int _)] ([]) _ _
  refine go_iload dL_law_1744 rfl ?_
  refine go_iload dL_law_1746 rfl ?_
  refine go_iconst (2) dL_law_1748 rfl ?_
  refine go_iadd dL_law_1749 ?_
  refine go_icmp_gt (pc' := 1907) dL_law_1750 rfl (fun c_1750 => ?_) (fun c_1750 => ?_)
  · -- gt at 1750: yes
    exfalso
    have p2 := pl2 (opT_k hk (s := 2 ^ cN (cc B) - 1) (t := x) (by omega))
    have pb := plv_b 2 _ (opT_k hk (s := 2 ^ cN (cc B) - 1) (t := x) (by omega))
    have p0 : plv (2 * 0) (opT (cc B) (2 ^ cN (cc B) - 1) x) = mT (opT (cc B) (2 ^ cN (cc B) - 1) x) := rfl
    have p1 : plv (2 * 1) (opT (cc B) (2 ^ cN (cc B) - 1) x) = plv 2 (opT (cc B) (2 ^ cN (cc B) - 1) x) := rfl
    rw [p0, p1] at c_1750
    rw [show (2 : Int32) = Int32.ofInt 2 from rfl, ofI_add, i_lt, ofI_t (by omega) (by omega), ofI_t (by omega) (by omega)] at c_1750
    omega
  · -- gt at 1750: no
    show bw_go _ _ _ _ _ _ _ 1753 [(38, .int _), (37, .int _), (36, .int _), (35, .int _), (0, .retAddr _), (1, .ref _), (2, .ref _), (3, .int _), (4, .int _), (5, .int _), (6, .int _), (7, .int _), (8, .int _), (9, .int _), (11, .ref _), (12, .int _)] ([]) _ _
    refine go_iload dL_law_1753 rfl ?_
    refine go_iload dL_law_1755 rfl ?_
    refine go_iconst (2) dL_law_1757 rfl ?_
    refine go_isub dL_law_1758 ?_
    refine go_icmp_lt (pc' := 1907) dL_law_1759 rfl (fun c_1759 => ?_) (fun c_1759 => ?_)
    · -- lt at 1759: yes
      exfalso
      have p2 := pl2 (opT_k hk (s := 2 ^ cN (cc B) - 1) (t := x) (by omega))
      have pb := plv_b 2 _ (opT_k hk (s := 2 ^ cN (cc B) - 1) (t := x) (by omega))
      have p0 : plv (2 * 0) (opT (cc B) (2 ^ cN (cc B) - 1) x) = mT (opT (cc B) (2 ^ cN (cc B) - 1) x) := rfl
      have p1 : plv (2 * 1) (opT (cc B) (2 ^ cN (cc B) - 1) x) = plv 2 (opT (cc B) (2 ^ cN (cc B) - 1) x) := rfl
      rw [p0, p1] at c_1759
      rw [show (2 : Int32) = Int32.ofInt 2 from rfl, ofI_sub, i_lt, ofI_t (by omega) (by omega), ofI_t (by omega) (by omega)] at c_1759
      omega
    · -- lt at 1759: no
      show bw_go _ _ _ _ _ _ _ 1762 [(38, .int _), (37, .int _), (36, .int _), (35, .int _), (0, .retAddr _), (1, .ref _), (2, .ref _), (3, .int _), (4, .int _), (5, .int _), (6, .int _), (7, .int _), (8, .int _), (9, .int _), (11, .ref _), (12, .int _)] ([]) _ _
      refine go_aload_n dL_law_1762 rfl ?_
      refine go_iload dL_law_1763 rfl ?_
      refine go_iconst (0) dL_law_1765 rfl ?_
      rw [show (0 : Int32) = nI 0 from rfl]
      refine go_cv (as := [.int _, .int _]) 4 dL_law_1766 mt_9_136 (Or.inl rfl) rfl rfl (lb_lt hx.1) (lb_k hx.1) (Nat.le_of_ble_eq_true rfl) (Nat.le_of_ble_eq_true rfl) (Nat.le_of_ble_eq_true rfl) (Nat.le_of_ble_eq_true rfl) (Nat.le_of_ble_eq_true rfl) ?_
      refine lx_odds (p := 0) hx hx6 (by omega) (by omega) (fun G S' u0 o0 hx a0 b0 d0 => ?_)
      show bw_go _ _ _ _ _ _ _ 1769 [(38, .int _), (37, .int _), (36, .int _), (35, .int _), (0, .retAddr _), (1, .ref _), (2, .ref _), (3, .int _), (4, .int _), (5, .int _), (6, .int _), (7, .int _), (8, .int _), (9, .int _), (11, .ref _), (12, .int _)] ((.int _) :: []) _ _
      refine go_iconst (1) dL_law_1769 rfl ?_
      refine go_icmp_ne (pc' := 1907) dL_law_1770 rfl (fun c => absurd c (by decide)) (fun _ => ?_)
      show bw_go _ _ _ _ _ _ _ 1773 [(38, .int _), (37, .int _), (36, .int _), (35, .int _), (0, .retAddr _), (1, .ref _), (2, .ref _), (3, .int _), (4, .int _), (5, .int _), (6, .int _), (7, .int _), (8, .int _), (9, .int _), (11, .ref _), (12, .int _)] ([]) _ _
      refine go_aload_n dL_law_1773 rfl ?_
      refine go_cv (as := []) 0 dL_law_1774 mt_9_116 (Or.inl rfl) rfl rfl (lb_lt hx.1) (lb_k hx.1) (Nat.le_of_ble_eq_true rfl) (Nat.le_of_ble_eq_true rfl) (Nat.le_of_ble_eq_true rfl) (Nat.le_of_ble_eq_true rfl) (Nat.le_of_ble_eq_true rfl) ?_
      refine lx_upper hx (fun G hx => ?_)
      rw [a0]
      show bw_go _ _ _ _ _ _ _ 1777 [(38, .int _), (37, .int _), (36, .int _), (35, .int _), (0, .retAddr _), (1, .ref _), (2, .ref _), (3, .int _), (4, .int _), (5, .int _), (6, .int _), (7, .int _), (8, .int _), (9, .int _), (11, .ref _), (12, .int _)] ((.long _) :: []) _ _
      refine go_iload dL_law_1777 rfl ?_
      refine go_iload dL_law_1779 rfl ?_
      refine go_ishr dL_law_1781 ?_
      refine go_iconst (1) dL_law_1782 rfl ?_
      refine go_iand dL_law_1783 ?_
      rw [bit_t _ (sho_lt _ _) x (by omega)]
      refine go_i2l dL_law_1784 ?_
      rw [nI_l (by split <;> omega)]
      refine go_lcmp dL_law_1785 ?_
      refine go_if_ne (pc' := 1907) dL_law_1786 rfl (fun c_1786 => ?_) (fun c_1786 => ?_)
      · -- ne at 1786: yes
        exact absurd ((lg_cmp_eq _ _).mpr (by rw [(d0.2.2.1 rfl).1])) c_1786
      · -- ne at 1786: no
        show bw_go _ _ _ _ _ _ _ 1789 [(38, .int _), (37, .int _), (36, .int _), (35, .int _), (0, .retAddr _), (1, .ref _), (2, .ref _), (3, .int _), (4, .int _), (5, .int _), (6, .int _), (7, .int _), (8, .int _), (9, .int _), (11, .ref _), (12, .int _)] ([]) _ _
        refine go_aload_n dL_law_1789 rfl ?_
        refine go_cv (as := []) 0 dL_law_1790 mt_9_139 (Or.inl rfl) rfl rfl (lb_lt hx.1) (lb_k hx.1) (Nat.le_of_ble_eq_true rfl) (Nat.le_of_ble_eq_true rfl) (Nat.le_of_ble_eq_true rfl) (Nat.le_of_ble_eq_true rfl) (Nat.le_of_ble_eq_true rfl) ?_
        refine lx_lower hx (fun G hx => ?_)
        rw [b0]
        show bw_go _ _ _ _ _ _ _ 1793 [(38, .int _), (37, .int _), (36, .int _), (35, .int _), (0, .retAddr _), (1, .ref _), (2, .ref _), (3, .int _), (4, .int _), (5, .int _), (6, .int _), (7, .int _), (8, .int _), (9, .int _), (11, .ref _), (12, .int _)] ((.long _) :: []) _ _
        refine go_lconst (1) dL_law_1793 rfl ?_
        refine go_lcmp dL_law_1794 ?_
        refine go_if_ne (pc' := 1907) dL_law_1795 rfl (fun c_1795 => ?_) (fun c_1795 => ?_)
        · -- ne at 1795: yes
          exact absurd ((lg_cmp_eq _ _).mpr (by rw [(d0.2.2.1 rfl).2]; rfl)) c_1795
        · -- ne at 1795: no
          show bw_go _ _ _ _ _ _ _ 1798 [(38, .int _), (37, .int _), (36, .int _), (35, .int _), (0, .retAddr _), (1, .ref _), (2, .ref _), (3, .int _), (4, .int _), (5, .int _), (6, .int _), (7, .int _), (8, .int _), (9, .int _), (11, .ref _), (12, .int _)] ([]) _ _
          refine go_aload_n dL_law_1798 rfl ?_
          refine go_iload dL_law_1799 rfl ?_
          refine go_bipush (12) dL_law_1801 rfl ?_
          rw [show (12 : Int32) = nI 12 from rfl]
          refine go_cv (as := [.int _, .int _]) 4 dL_law_1803 mt_9_136 (Or.inl rfl) rfl rfl (lb_lt hx.1) (lb_k hx.1) (Nat.le_of_ble_eq_true rfl) (Nat.le_of_ble_eq_true rfl) (Nat.le_of_ble_eq_true rfl) (Nat.le_of_ble_eq_true rfl) (Nat.le_of_ble_eq_true rfl) ?_
          refine lx_odds (p := 12) hx hx6 (by omega) (by omega) (fun G S' u1 o1 hx a1 b1 d1 => ?_)
          show bw_go _ _ _ _ _ _ _ 1806 [(38, .int _), (37, .int _), (36, .int _), (35, .int _), (0, .retAddr _), (1, .ref _), (2, .ref _), (3, .int _), (4, .int _), (5, .int _), (6, .int _), (7, .int _), (8, .int _), (9, .int _), (11, .ref _), (12, .int _)] ((.int _) :: []) _ _
          refine go_iconst (1) dL_law_1806 rfl ?_
          refine go_icmp_ne (pc' := 1907) dL_law_1807 rfl (fun c => absurd c (by decide)) (fun _ => ?_)
          show bw_go _ _ _ _ _ _ _ 1810 [(38, .int _), (37, .int _), (36, .int _), (35, .int _), (0, .retAddr _), (1, .ref _), (2, .ref _), (3, .int _), (4, .int _), (5, .int _), (6, .int _), (7, .int _), (8, .int _), (9, .int _), (11, .ref _), (12, .int _)] ([]) _ _
          refine go_aload_n dL_law_1810 rfl ?_
          refine go_cv (as := []) 0 dL_law_1811 mt_9_116 (Or.inl rfl) rfl rfl (lb_lt hx.1) (lb_k hx.1) (Nat.le_of_ble_eq_true rfl) (Nat.le_of_ble_eq_true rfl) (Nat.le_of_ble_eq_true rfl) (Nat.le_of_ble_eq_true rfl) (Nat.le_of_ble_eq_true rfl) ?_
          refine lx_upper hx (fun G hx => ?_)
          rw [a1]
          show bw_go _ _ _ _ _ _ _ 1814 [(38, .int _), (37, .int _), (36, .int _), (35, .int _), (0, .retAddr _), (1, .ref _), (2, .ref _), (3, .int _), (4, .int _), (5, .int _), (6, .int _), (7, .int _), (8, .int _), (9, .int _), (11, .ref _), (12, .int _)] ((.long _) :: []) _ _
          refine go_lconst (0) dL_law_1814 rfl ?_
          refine go_lcmp dL_law_1815 ?_
          refine go_if_ne (pc' := 1907) dL_law_1816 rfl (fun c_1816 => ?_) (fun c_1816 => ?_)
          · -- ne at 1816: yes
            exact absurd ((lg_cmp_eq _ _).mpr (by rw [d1.2.2.2 rfl]; rfl)) c_1816
          · -- ne at 1816: no
            show bw_go _ _ _ _ _ _ _ 1819 [(38, .int _), (37, .int _), (36, .int _), (35, .int _), (0, .retAddr _), (1, .ref _), (2, .ref _), (3, .int _), (4, .int _), (5, .int _), (6, .int _), (7, .int _), (8, .int _), (9, .int _), (11, .ref _), (12, .int _)] ([]) _ _
            refine go_aload_n dL_law_1819 rfl ?_
            refine go_iload dL_law_1820 rfl ?_
            refine go_iload dL_law_1822 rfl ?_
            refine go_cv (as := [.int _, .int _]) 4 dL_law_1824 mt_9_136 (Or.inl rfl) rfl rfl (lb_lt hx.1) (lb_k hx.1) (Nat.le_of_ble_eq_true rfl) (Nat.le_of_ble_eq_true rfl) (Nat.le_of_ble_eq_true rfl) (Nat.le_of_ble_eq_true rfl) (Nat.le_of_ble_eq_true rfl) ?_
            refine lx_odds (p := c) hx hx6 (by omega) (by omega) (fun G S' u2 o2 hx a2 b2 d2 => ?_)
            show bw_go _ _ _ _ _ _ _ 1827 [(38, .int _), (37, .int _), (36, .int _), (35, .int _), (0, .retAddr _), (1, .ref _), (2, .ref _), (3, .int _), (4, .int _), (5, .int _), (6, .int _), (7, .int _), (8, .int _), (9, .int _), (11, .ref _), (12, .int _)] ((.int _) :: []) _ _
            refine go_iconst (1) dL_law_1827 rfl ?_
            refine go_icmp_ne (pc' := 1907) dL_law_1828 rfl (fun c => absurd c (by decide)) (fun _ => ?_)
            show bw_go _ _ _ _ _ _ _ 1831 [(38, .int _), (37, .int _), (36, .int _), (35, .int _), (0, .retAddr _), (1, .ref _), (2, .ref _), (3, .int _), (4, .int _), (5, .int _), (6, .int _), (7, .int _), (8, .int _), (9, .int _), (11, .ref _), (12, .int _)] ([]) _ _
            refine go_aload_n dL_law_1831 rfl ?_
            refine go_cv (as := []) 0 dL_law_1832 mt_9_116 (Or.inl rfl) rfl rfl (lb_lt hx.1) (lb_k hx.1) (Nat.le_of_ble_eq_true rfl) (Nat.le_of_ble_eq_true rfl) (Nat.le_of_ble_eq_true rfl) (Nat.le_of_ble_eq_true rfl) (Nat.le_of_ble_eq_true rfl) ?_
            refine lx_upper hx (fun G hx => ?_)
            rw [a2]
            show bw_go _ _ _ _ _ _ _ 1835 [(38, .int _), (37, .int _), (36, .int _), (35, .int _), (0, .retAddr _), (1, .ref _), (2, .ref _), (3, .int _), (4, .int _), (5, .int _), (6, .int _), (7, .int _), (8, .int _), (9, .int _), (11, .ref _), (12, .int _)] ((.long _) :: []) _ _
            refine go_lconst (0) dL_law_1835 rfl ?_
            refine go_lcmp dL_law_1836 ?_
            refine go_if_lt (pc' := 1907) dL_law_1837 rfl (fun c_1837 => ?_) (fun c_1837 => ?_)
            · -- lt at 1837: yes
              exfalso
              have d4 := d2.1
              have d5 := d2.2.1
              rw [lg_cmp_lt, show (0 : Int64) = lN 0 from rfl, pk_lLT (by omega) (by decide)] at c_1837
              omega
            · -- lt at 1837: no
              show bw_go _ _ _ _ _ _ _ 1840 [(38, .int _), (37, .int _), (36, .int _), (35, .int _), (0, .retAddr _), (1, .ref _), (2, .ref _), (3, .int _), (4, .int _), (5, .int _), (6, .int _), (7, .int _), (8, .int _), (9, .int _), (11, .ref _), (12, .int _)] ([]) _ _
              refine go_aload_n dL_law_1840 rfl ?_
              refine go_cv (as := []) 0 dL_law_1841 mt_9_116 (Or.inl rfl) rfl rfl (lb_lt hx.1) (lb_k hx.1) (Nat.le_of_ble_eq_true rfl) (Nat.le_of_ble_eq_true rfl) (Nat.le_of_ble_eq_true rfl) (Nat.le_of_ble_eq_true rfl) (Nat.le_of_ble_eq_true rfl) ?_
              refine lx_upper hx (fun G hx => ?_)
              rw [a2]
              show bw_go _ _ _ _ _ _ _ 1844 [(38, .int _), (37, .int _), (36, .int _), (35, .int _), (0, .retAddr _), (1, .ref _), (2, .ref _), (3, .int _), (4, .int _), (5, .int _), (6, .int _), (7, .int _), (8, .int _), (9, .int _), (11, .ref _), (12, .int _)] ((.long _) :: []) _ _
              refine go_aload_n dL_law_1844 rfl ?_
              refine go_cv (as := []) 0 dL_law_1845 mt_9_139 (Or.inl rfl) rfl rfl (lb_lt hx.1) (lb_k hx.1) (Nat.le_of_ble_eq_true rfl) (Nat.le_of_ble_eq_true rfl) (Nat.le_of_ble_eq_true rfl) (Nat.le_of_ble_eq_true rfl) (Nat.le_of_ble_eq_true rfl) ?_
              refine lx_lower hx (fun G hx => ?_)
              rw [b2]
              show bw_go _ _ _ _ _ _ _ 1848 [(38, .int _), (37, .int _), (36, .int _), (35, .int _), (0, .retAddr _), (1, .ref _), (2, .ref _), (3, .int _), (4, .int _), (5, .int _), (6, .int _), (7, .int _), (8, .int _), (9, .int _), (11, .ref _), (12, .int _)] ((.long _) :: (.long _) :: []) _ _
              refine go_lcmp dL_law_1848 ?_
              refine go_if_gt (pc' := 1907) dL_law_1849 rfl (fun c_1849 => ?_) (fun c_1849 => ?_)
              · -- gt at 1849: yes
                exfalso
                have d4 := d2.1
                have d5 := d2.2.1
                rw [lg_cmp_gt, pk_lLT (by omega) (by omega)] at c_1849
                omega
              · -- gt at 1849: no
                show bw_go _ _ _ _ _ _ _ 1852 [(38, .int _), (37, .int _), (36, .int _), (35, .int _), (0, .retAddr _), (1, .ref _), (2, .ref _), (3, .int _), (4, .int _), (5, .int _), (6, .int _), (7, .int _), (8, .int _), (9, .int _), (11, .ref _), (12, .int _)] ([]) _ _
                refine go_aload_n dL_law_1852 rfl ?_
                refine go_iconst (0) dL_law_1853 rfl ?_
                rw [show (0 : Int32) = nI 0 from rfl]
                refine go_cv (as := [.int _]) 4 dL_law_1854 mt_9_142 (Or.inl rfl) rfl rfl (lb_lt hx.1) (lb_k hx.1) (Nat.le_of_ble_eq_true rfl) (Nat.le_of_ble_eq_true rfl) (Nat.le_of_ble_eq_true rfl) (Nat.le_of_ble_eq_true rfl) (Nat.le_of_ble_eq_true rfl) ?_
                refine lx_mid (p := 0) hx (by omega) (by omega) (fun G S' u3 o3 hx a3 b3 d3 => ?_)
                show bw_go _ _ _ _ _ _ _ 1857 [(38, .int _), (37, .int _), (36, .int _), (35, .int _), (0, .retAddr _), (1, .ref _), (2, .ref _), (3, .int _), (4, .int _), (5, .int _), (6, .int _), (7, .int _), (8, .int _), (9, .int _), (11, .ref _), (12, .int _)] ((.int _) :: []) _ _
                refine go_iconst (1) dL_law_1857 rfl ?_
                refine go_icmp_ne (pc' := 1907) dL_law_1858 rfl (fun c => absurd c (by decide)) (fun _ => ?_)
                show bw_go _ _ _ _ _ _ _ 1861 [(38, .int _), (37, .int _), (36, .int _), (35, .int _), (0, .retAddr _), (1, .ref _), (2, .ref _), (3, .int _), (4, .int _), (5, .int _), (6, .int _), (7, .int _), (8, .int _), (9, .int _), (11, .ref _), (12, .int _)] ([]) _ _
                refine go_aload_n dL_law_1861 rfl ?_
                refine go_cv (as := []) 0 dL_law_1862 mt_9_116 (Or.inl rfl) rfl rfl (lb_lt hx.1) (lb_k hx.1) (Nat.le_of_ble_eq_true rfl) (Nat.le_of_ble_eq_true rfl) (Nat.le_of_ble_eq_true rfl) (Nat.le_of_ble_eq_true rfl) (Nat.le_of_ble_eq_true rfl) ?_
                refine lx_upper hx (fun G hx => ?_)
                rw [a3]
                show bw_go _ _ _ _ _ _ _ 1865 [(38, .int _), (37, .int _), (36, .int _), (35, .int _), (0, .retAddr _), (1, .ref _), (2, .ref _), (3, .int _), (4, .int _), (5, .int _), (6, .int _), (7, .int _), (8, .int _), (9, .int _), (11, .ref _), (12, .int _)] ((.long _) :: []) _ _
                refine go_iload dL_law_1865 rfl ?_
                refine go_i2l dL_law_1867 ?_
                rw [nI_l (by omega)]
                refine go_lcmp dL_law_1868 ?_
                refine go_if_ne (pc' := 1907) dL_law_1869 rfl (fun c_1869 => ?_) (fun c_1869 => ?_)
                · -- ne at 1869: yes
                  exact absurd ((lg_cmp_eq _ _).mpr (by rw [d3.2.2 rfl])) c_1869
                · -- ne at 1869: no
                  show bw_go _ _ _ _ _ _ _ 1872 [(38, .int _), (37, .int _), (36, .int _), (35, .int _), (0, .retAddr _), (1, .ref _), (2, .ref _), (3, .int _), (4, .int _), (5, .int _), (6, .int _), (7, .int _), (8, .int _), (9, .int _), (11, .ref _), (12, .int _)] ([]) _ _
                  refine go_aload_n dL_law_1872 rfl ?_
                  refine go_iload dL_law_1873 rfl ?_
                  refine go_cv (as := [.int _]) 4 dL_law_1875 mt_9_142 (Or.inl rfl) rfl rfl (lb_lt hx.1) (lb_k hx.1) (Nat.le_of_ble_eq_true rfl) (Nat.le_of_ble_eq_true rfl) (Nat.le_of_ble_eq_true rfl) (Nat.le_of_ble_eq_true rfl) (Nat.le_of_ble_eq_true rfl) ?_
                  refine lx_mid (p := c) hx (by omega) (by omega) (fun G S' u4 o4 hx a4 b4 d4 => ?_)
                  show bw_go _ _ _ _ _ _ _ 1878 [(38, .int _), (37, .int _), (36, .int _), (35, .int _), (0, .retAddr _), (1, .ref _), (2, .ref _), (3, .int _), (4, .int _), (5, .int _), (6, .int _), (7, .int _), (8, .int _), (9, .int _), (11, .ref _), (12, .int _)] ((.int _) :: []) _ _
                  refine go_iconst (1) dL_law_1878 rfl ?_
                  refine go_icmp_ne (pc' := 1907) dL_law_1879 rfl (fun c => absurd c (by decide)) (fun _ => ?_)
                  show bw_go _ _ _ _ _ _ _ 1882 [(38, .int _), (37, .int _), (36, .int _), (35, .int _), (0, .retAddr _), (1, .ref _), (2, .ref _), (3, .int _), (4, .int _), (5, .int _), (6, .int _), (7, .int _), (8, .int _), (9, .int _), (11, .ref _), (12, .int _)] ([]) _ _
                  refine go_aload_n dL_law_1882 rfl ?_
                  refine go_cv (as := []) 0 dL_law_1883 mt_9_116 (Or.inl rfl) rfl rfl (lb_lt hx.1) (lb_k hx.1) (Nat.le_of_ble_eq_true rfl) (Nat.le_of_ble_eq_true rfl) (Nat.le_of_ble_eq_true rfl) (Nat.le_of_ble_eq_true rfl) (Nat.le_of_ble_eq_true rfl) ?_
                  refine lx_upper hx (fun G hx => ?_)
                  rw [a4]
                  show bw_go _ _ _ _ _ _ _ 1886 [(38, .int _), (37, .int _), (36, .int _), (35, .int _), (0, .retAddr _), (1, .ref _), (2, .ref _), (3, .int _), (4, .int _), (5, .int _), (6, .int _), (7, .int _), (8, .int _), (9, .int _), (11, .ref _), (12, .int _)] ((.long _) :: []) _ _
                  refine go_ldc2_w dL_law_1886 kc_9_145 ?_
                  refine go_aload_n dL_law_1889 rfl ?_
                  refine go_cv (as := []) 0 dL_law_1890 mt_9_139 (Or.inl rfl) rfl rfl (lb_lt hx.1) (lb_k hx.1) (Nat.le_of_ble_eq_true rfl) (Nat.le_of_ble_eq_true rfl) (Nat.le_of_ble_eq_true rfl) (Nat.le_of_ble_eq_true rfl) (Nat.le_of_ble_eq_true rfl) ?_
                  refine lx_lower hx (fun G hx => ?_)
                  rw [b4]
                  show bw_go _ _ _ _ _ _ _ 1893 [(38, .int _), (37, .int _), (36, .int _), (35, .int _), (0, .retAddr _), (1, .ref _), (2, .ref _), (3, .int _), (4, .int _), (5, .int _), (6, .int _), (7, .int _), (8, .int _), (9, .int _), (11, .ref _), (12, .int _)] ((.long _) :: (.long _) :: (.long _) :: []) _ _
                  refine go_lmul dL_law_1893 ?_
                  rw [show (6 : Int64) = lN 6 from rfl, lN_mul]
                  refine go_lcmp dL_law_1894 ?_
                  refine go_if_gt (pc' := 1907) dL_law_1895 rfl (fun c_1895 => ?_) (fun c_1895 => ?_)
                  · -- gt at 1895: yes
                    exfalso
                    have d5 := d4.1
                    have d6 := d4.2.1
                    rw [lg_cmp_gt, pk_lLT (by omega) (by omega)] at c_1895
                    omega
                  · -- gt at 1895: no
                    show bw_go _ _ _ _ _ _ _ 1898 [(38, .int _), (37, .int _), (36, .int _), (35, .int _), (0, .retAddr _), (1, .ref _), (2, .ref _), (3, .int _), (4, .int _), (5, .int _), (6, .int _), (7, .int _), (8, .int _), (9, .int _), (11, .ref _), (12, .int _)] ([]) _ _
                    refine go_aload_n dL_law_1898 rfl ?_
                    refine go_cv (as := []) 0 dL_law_1899 mt_9_116 (Or.inl rfl) rfl rfl (lb_lt hx.1) (lb_k hx.1) (Nat.le_of_ble_eq_true rfl) (Nat.le_of_ble_eq_true rfl) (Nat.le_of_ble_eq_true rfl) (Nat.le_of_ble_eq_true rfl) (Nat.le_of_ble_eq_true rfl) ?_
                    refine lx_upper hx (fun G hx => ?_)
                    rw [a4]
                    show bw_go _ _ _ _ _ _ _ 1902 [(38, .int _), (37, .int _), (36, .int _), (35, .int _), (0, .retAddr _), (1, .ref _), (2, .ref _), (3, .int _), (4, .int _), (5, .int _), (6, .int _), (7, .int _), (8, .int _), (9, .int _), (11, .ref _), (12, .int _)] ((.long _) :: []) _ _
                    refine go_lconst (0) dL_law_1902 rfl ?_
                    refine go_lcmp dL_law_1903 ?_
                    refine go_if_ge (pc' := 1909) dL_law_1904 rfl (fun c_1904 => ?_) (fun c_1904 => ?_)
                    · -- ge at 1904: yes
                      refine go_ls [(0, .retAddr _), (1, .ref _), (2, .ref _), (3, .int _), (4, .int _), (5, .int _), (6, .int _), (7, .int _), (8, .int _), (9, .int _), (11, .ref _)] (by show List.Nodup ([0, 1, 2, 3, 4, 5, 6, 7, 8, 9, 11] : List Nat); decide) (by show List.Nodup ([38, 37, 36, 35, 0, 1, 2, 3, 4, 5, 6, 7, 8, 9, 11, 12] : List Nat); decide) (le_cons rfl (le_cons rfl (le_cons rfl (le_cons rfl (le_cons rfl (le_cons rfl (le_cons rfl (le_cons rfl (le_cons rfl (le_cons rfl (le_cons rfl (le_nil _)))))))))))) ?_
                      exact K9 _ _ hx
                    · -- ge at 1904: no
                      exfalso
                      have d5 := d4.1
                      have d6 := d4.2.1
                      rw [lg_cmp_ge, show (0 : Int64) = lN 0 from rfl, pk_lLE (by decide) (by omega)] at c_1904
                      omega
