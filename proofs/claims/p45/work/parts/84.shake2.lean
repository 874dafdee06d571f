/-! the law: presses that shake -/
theorem tb_m {C : CT} {s x : Nat} (hx : x < 6) (h : 0 < mor (opT C s x).1 (opT C s x).2.2.1 (opT C s x).2.2.2) : (sho (taC C) s).testBit x = true := by
  rw [sho_tb hx]
  have h2 : 0 < mor (cN C) (cR C) (opW C s x) := h
  rw [mor_b2 hx] at h2
  exact h2
theorem tb_n {C : CT} {s x : Nat} (hx : x < 6) (h : mor (opT C s x).1 (opT C s x).2.2.1 (opT C s x).2.2.2 ≤ 0) : (sho (taC C) s).testBit x = false := by
  cases e : (sho (taC C) s).testBit x with
  | false => rfl
  | true =>
    rw [sho_tb hx] at e
    have h2 : mor (cN C) (cR C) (opW C s x) ≤ 0 := h
    rw [mor_b2 hx] at h2
    have e : 0 < bal (taC C) s x (cN C) := e
    omega
set_option maxRecDepth 100000 in
set_option maxHeartbeats 4000000 in
theorem f754_n {X : Nat × (Nat → Int32)} {Q : Option Value → bw_H → Prop} {h : bw_H} {S : ST} {W T0 : RW} {B : AC} {K0 : Nat → Option AC} {F T : Nat → Int32} {x s : Nat} (hx : LX 2 75 h S (A2 F T) W T0 B K0) (hf : LF F B) (hK0 : K0 0 = some B) (hx6 : x < 6) (hs : s < 2 ^ cN (cc B)) (hb : (sho (taC (cc B)) s).testBit x = true) (K : ∀ G S' W' x, x < 6 → LX 2 75 G S' (A2 F T) W' T0 B K0 → bw_go X 12 9 48 false (some .boolean) cL_law 961 [(0, .retAddr 1), (1, .ref (0)), (2, .ref (62)), (3, .int (nI (cN (cc B)))), (4, .int (nI (2 ^ cN (cc B) - 1))), (5, .int (nI (cT B.1))), (6, .int (nI (cD (cc B)))), (7, .int (nI (cW (cc B)))), (8, .int (nI (sho (taC (cc B)) (2 ^ cN (cc B) - 1)))), (9, .int (nI (smN (cR (cc B)) (cN (cc B))))), (11, .ref (76)), (12, .int (nI x))] [] G Q) : bw_go X 12 9 48 false (some .boolean) cL_law 754 [(0, .retAddr 1), (1, .ref (0)), (2, .ref (62)), (3, .int (nI (cN (cc B)))), (4, .int (nI (2 ^ cN (cc B) - 1))), (5, .int (nI (cT B.1))), (6, .int (nI (cD (cc B)))), (7, .int (nI (cW (cc B)))), (8, .int (nI (sho (taC (cc B)) (2 ^ cN (cc B) - 1)))), (9, .int (nI (smN (cR (cc B)) (cN (cc B))))), (11, .ref (76)), (12, .int (nI x)), (13, .int (nI s))] [.int (-9)] h Q := by
  have hk := lx_k hx
  have hN := hk.1
  have hp := p2N hN
  have hp1 : 1 ≤ 2 ^ cN (cc B) := Nat.one_le_two_pow
  have hn1 := hf.1.2.1
  show bw_go _ _ _ _ _ _ _ 754 [(0, .retAddr _), (1, .ref _), (2, .ref _), (3, .int _), (4, .int _), (5, .int _), (6, .int _), (7, .int _), (8, .int _), (9, .int _), (11, .ref _), (12, .int _), (13, .int _)] ((.int _) :: []) _ _
  refine go_istore dL_law_754 (Nat.lt_of_lt_of_le (Nat.lt_succ_self _) (Nat.le_of_ble_eq_true rfl)) ?_
  show bw_go _ _ _ _ _ _ _ 756 [(14, .int _), (0, .retAddr _), (1, .ref _), (2, .ref _), (3, .int _), (4, .int _), (5, .int _), (6, .int _), (7, .int _), (8, .int _), (9, .int _), (11, .ref _), (12, .int _), (13, .int _)] ([]) _ _
  refine go_aload_n dL_law_756 rfl ?_
  refine go_iload dL_law_757 rfl ?_
  refine go_cv (as := [.int _]) 4 dL_law_759 mt_9_75 (Or.inl rfl) rfl rfl (lb_lt hx.1) (lb_k hx.1) (Nat.le_of_ble_eq_true rfl) (Nat.le_of_ble_eq_true rfl) (Nat.le_of_ble_eq_true rfl) (Nat.le_of_ble_eq_true rfl) (Nat.le_of_ble_eq_true rfl) ?_
  refine lx_shown hx hs (by omega) (fun G S' hx _ => ?_)
  show bw_go _ _ _ _ _ _ _ 762 [(14, .int _), (0, .retAddr _), (1, .ref _), (2, .ref _), (3, .int _), (4, .int _), (5, .int _), (6, .int _), (7, .int _), (8, .int _), (9, .int _), (11, .ref _), (12, .int _), (13, .int _)] ((.int _) :: []) _ _
  refine go_iload dL_law_762 rfl ?_
  refine go_ishr dL_law_764 ?_
  refine go_iconst (1) dL_law_765 rfl ?_
  refine go_iand dL_law_766 ?_
  rw [bit_t _ (sho_lt _ _) x (by omega), hb, show nI (if true = true then 1 else 0) = 1 from rfl]
  refine go_iconst (1) dL_law_767 rfl ?_
  refine go_icmp_ne (pc' := 775) dL_law_768 rfl (fun c => absurd c (by decide)) (fun _ => ?_)
  show bw_go _ _ _ _ _ _ _ 771 [(14, .int _), (0, .retAddr _), (1, .ref _), (2, .ref _), (3, .int _), (4, .int _), (5, .int _), (6, .int _), (7, .int _), (8, .int _), (9, .int _), (11, .ref _), (12, .int _), (13, .int _)] ([]) _ _
  refine go_iconst (1) dL_law_771 rfl ?_
  refine go_goto (pc' := 776) dL_law_772 rfl ?_
  show bw_go _ _ _ _ _ _ _ 776 [(14, .int _), (0, .retAddr _), (1, .ref _), (2, .ref _), (3, .int _), (4, .int _), (5, .int _), (6, .int _), (7, .int _), (8, .int _), (9, .int _), (11, .ref _), (12, .int _), (13, .int _)] ((.int _) :: []) _ _
  refine go_istore dL_law_776 (Nat.lt_of_lt_of_le (Nat.lt_succ_self _) (Nat.le_of_ble_eq_true rfl)) ?_
  show bw_go _ _ _ _ _ _ _ 778 [(15, .int _), (14, .int _), (0, .retAddr _), (1, .ref _), (2, .ref _), (3, .int _), (4, .int _), (5, .int _), (6, .int _), (7, .int _), (8, .int _), (9, .int _), (11, .ref _), (12, .int _), (13, .int _)] ([]) _ _
  refine go_iload dL_law_778 rfl ?_
  refine go_bipush (-9) dL_law_780 rfl ?_
  refine go_icmp_lt (pc' := 826) dL_law_782 rfl (fun c => absurd c (by decide)) (fun _ => ?_)
  show bw_go _ _ _ _ _ _ _ 785 [(15, .int _), (14, .int _), (0, .retAddr _), (1, .ref _), (2, .ref _), (3, .int _), (4, .int _), (5, .int _), (6, .int _), (7, .int _), (8, .int _), (9, .int _), (11, .ref _), (12, .int _), (13, .int _)] ([]) _ _
  refine go_iload dL_law_785 rfl ?_
  refine go_iconst (4) dL_law_787 rfl ?_
  refine go_icmp_gt (pc' := 826) dL_law_788 rfl (fun c => absurd c (by decide)) (fun _ => ?_)
  show bw_go _ _ _ _ _ _ _ 791 [(15, .int _), (14, .int _), (0, .retAddr _), (1, .ref _), (2, .ref _), (3, .int _), (4, .int _), (5, .int _), (6, .int _), (7, .int _), (8, .int _), (9, .int _), (11, .ref _), (12, .int _), (13, .int _)] ([]) _ _
  refine go_iload dL_law_791 rfl ?_
  refine go_if_ge (pc' := 803) dL_law_793 rfl (fun c => absurd c (by decide)) (fun _ => ?_)
  show bw_go _ _ _ _ _ _ _ 796 [(15, .int _), (14, .int _), (0, .retAddr _), (1, .ref _), (2, .ref _), (3, .int _), (4, .int _), (5, .int _), (6, .int _), (7, .int _), (8, .int _), (9, .int _), (11, .ref _), (12, .int _), (13, .int _)] ([]) _ _
  refine go_iload dL_law_796 rfl ?_
  refine go_bipush (-9) dL_law_798 rfl ?_
  refine go_icmp_ne (pc' := 826) dL_law_800 rfl (fun c => absurd c (by decide)) (fun _ => ?_)
  show bw_go _ _ _ _ _ _ _ 803 [(15, .int _), (14, .int _), (0, .retAddr _), (1, .ref _), (2, .ref _), (3, .int _), (4, .int _), (5, .int _), (6, .int _), (7, .int _), (8, .int _), (9, .int _), (11, .ref _), (12, .int _), (13, .int _)] ([]) _ _
  refine go_iload dL_law_803 rfl ?_
  refine go_if_ne (pc' := 812) dL_law_805 rfl (fun _ => ?_) (fun c => absurd (by decide) c)
  show bw_go _ _ _ _ _ _ _ 812 [(15, .int _), (14, .int _), (0, .retAddr _), (1, .ref _), (2, .ref _), (3, .int _), (4, .int _), (5, .int _), (6, .int _), (7, .int _), (8, .int _), (9, .int _), (11, .ref _), (12, .int _), (13, .int _)] ([]) _ _
  refine go_iconst (0) dL_law_812 rfl ?_
  refine go_iload dL_law_813 rfl ?_
  refine go_if_ne (pc' := 822) dL_law_815 rfl (fun _ => ?_) (fun c => absurd (by decide) c)
  show bw_go _ _ _ _ _ _ _ 822 [(15, .int _), (14, .int _), (0, .retAddr _), (1, .ref _), (2, .ref _), (3, .int _), (4, .int _), (5, .int _), (6, .int _), (7, .int _), (8, .int _), (9, .int _), (11, .ref _), (12, .int _), (13, .int _)] ((.int _) :: []) _ _
  refine go_iconst (0) dL_law_822 rfl ?_
  refine go_icmp_eq (pc' := 828) dL_law_823 rfl (fun _ => ?_) (fun c => absurd (by decide) c)
  show bw_go _ _ _ _ _ _ _ 828 [(15, .int _), (14, .int _), (0, .retAddr _), (1, .ref _), (2, .ref _), (3, .int _), (4, .int _), (5, .int _), (6, .int _), (7, .int _), (8, .int _), (9, .int _), (11, .ref _), (12, .int _), (13, .int _)] ([]) _ _
  refine go_iconst (0) dL_law_828 rfl ?_
  refine go_istore dL_law_829 (Nat.lt_of_lt_of_le (Nat.lt_succ_self _) (Nat.le_of_ble_eq_true rfl)) ?_
  show bw_go _ _ _ _ _ _ _ 831 [(16, .int _), (15, .int _), (14, .int _), (0, .retAddr _), (1, .ref _), (2, .ref _), (3, .int _), (4, .int _), (5, .int _), (6, .int _), (7, .int _), (8, .int _), (9, .int _), (11, .ref _), (12, .int _), (13, .int _)] ([]) _ _
  refine go_iconst (0) dL_law_831 rfl ?_
  refine go_istore dL_law_832 (Nat.lt_of_lt_of_le (Nat.lt_succ_self _) (Nat.le_of_ble_eq_true rfl)) ?_
  show bw_go _ _ _ _ _ _ _ 834 [(17, .int _), (16, .int _), (15, .int _), (14, .int _), (0, .retAddr _), (1, .ref _), (2, .ref _), (3, .int _), (4, .int _), (5, .int _), (6, .int _), (7, .int _), (8, .int _), (9, .int _), (11, .ref _), (12, .int _), (13, .int _)] ([]) _ _
  refine go_iload dL_law_834 rfl ?_
  refine go_iload dL_law_836 rfl ?_
  refine go_icmp_ge (pc' := 917) dL_law_838 rfl (fun _ => ?_) (fun c => absurd (by decide) c)
  show bw_go _ _ _ _ _ _ _ 917 [(17, .int _), (16, .int _), (15, .int _), (14, .int _), (0, .retAddr _), (1, .ref _), (2, .ref _), (3, .int _), (4, .int _), (5, .int _), (6, .int _), (7, .int _), (8, .int _), (9, .int _), (11, .ref _), (12, .int _), (13, .int _)] ([]) _ _
  refine go_iload dL_law_917 rfl ?_
  refine go_if_lt (pc' := 949) dL_law_919 rfl (fun _ => ?_) (fun c => absurd (by decide) c)
  show bw_go _ _ _ _ _ _ _ 949 [(17, .int _), (16, .int _), (15, .int _), (14, .int _), (0, .retAddr _), (1, .ref _), (2, .ref _), (3, .int _), (4, .int _), (5, .int _), (6, .int _), (7, .int _), (8, .int _), (9, .int _), (11, .ref _), (12, .int _), (13, .int _)] ([]) _ _
  refine go_aload_n dL_law_949 rfl ?_
  refine go_iconst (0) dL_law_950 rfl ?_
  refine go_cv (as := [.int _]) 3 dL_law_951 mt_9_96 (Or.inl rfl) rfl rfl (lb_lt hx.1) (lb_k hx.1) (Nat.le_of_ble_eq_true rfl) (Nat.le_of_ble_eq_true rfl) (Nat.le_of_ble_eq_true rfl) (Nat.le_of_ble_eq_true rfl) (Nat.le_of_ble_eq_true rfl) ?_
  refine lx_on0 hx hK0 (fun G S' hx => ?_)
  show bw_go _ _ _ _ _ _ _ 954 [(17, .int _), (16, .int _), (15, .int _), (14, .int _), (0, .retAddr _), (1, .ref _), (2, .ref _), (3, .int _), (4, .int _), (5, .int _), (6, .int _), (7, .int _), (8, .int _), (9, .int _), (11, .ref _), (12, .int _), (13, .int _)] ((.int _) :: []) _ _
  refine go_iload dL_law_954 rfl ?_
  refine go_icmp_eq (pc' := 961) dL_law_956 rfl (fun c_956 => ?_) (fun c_956 => ?_)
  · -- eq at 956: yes
    refine go_ls [(0, .retAddr _), (1, .ref _), (2, .ref _), (3, .int _), (4, .int _), (5, .int _), (6, .int _), (7, .int _), (8, .int _), (9, .int _), (11, .ref _), (12, .int _)] (by show List.Nodup ([0, 1, 2, 3, 4, 5, 6, 7, 8, 9, 11, 12] : List Nat); decide) (by show List.Nodup ([17, 16, 15, 14, 0, 1, 2, 3, 4, 5, 6, 7, 8, 9, 11, 12, 13] : List Nat); decide) (le_cons rfl (le_cons rfl (le_cons rfl (le_cons rfl (le_cons rfl (le_cons rfl (le_cons rfl (le_cons rfl (le_cons rfl (le_cons rfl (le_cons rfl (le_cons rfl (le_nil _))))))))))))) ?_
    exact K _ _ _ x hx6 hx
  · -- eq at 956: no
    exact absurd rfl c_956
set_option maxRecDepth 100000 in
set_option maxHeartbeats 4000000 in
theorem f922 {X : Nat × (Nat → Int32)} {Q : Option Value → bw_H → Prop} {h : bw_H} {S : ST} {W T0 : RW} {B : AC} {K0 : Nat → Option AC} {F T : Nat → Int32} {x s : Nat} {B2 : AC} {W2 : RW} (hx : LX 2 75 h S (A2 F T) W2 T0 B2 K0) (hf : LF F B) (hK0 : K0 0 = some B) (hx6 : x < 6) (hN2 : cN (cc B2) = cN (cc B)) (hs : s < 2 ^ cN (cc B)) (hm : mor (opT (cc B2) s x).1 (opT (cc B2) s x).2.2.1 (opT (cc B2) s x).2.2.2 ≤ 0) (K : ∀ G S' W' x, x < 6 → LX 2 75 G S' (A2 F T) W' T0 B K0 → bw_go X 12 9 48 false (some .boolean) cL_law 961 [(0, .retAddr 1), (1, .ref (0)), (2, .ref (62)), (3, .int (nI (cN (cc B)))), (4, .int (nI (2 ^ cN (cc B) - 1))), (5, .int (nI (cT B.1))), (6, .int (nI (cD (cc B)))), (7, .int (nI (cW (cc B)))), (8, .int (nI (sho (taC (cc B)) (2 ^ cN (cc B) - 1)))), (9, .int (nI (smN (cR (cc B)) (cN (cc B))))), (11, .ref (76)), (12, .int (nI x))] [] G Q) : bw_go X 12 9 48 false (some .boolean) cL_law 922 [(0, .retAddr 1), (1, .ref (0)), (2, .ref (62)), (3, .int (nI (cN (cc B)))), (4, .int (nI (2 ^ cN (cc B) - 1))), (5, .int (nI (cT B.1))), (6, .int (nI (cD (cc B)))), (7, .int (nI (cW (cc B)))), (8, .int (nI (sho (taC (cc B)) (2 ^ cN (cc B) - 1)))), (9, .int (nI (smN (cR (cc B)) (cN (cc B))))), (11, .ref (76)), (12, .int (nI x)), (13, .int (nI s))] [] h Q := by
  have hn1 := hf.1.2.1
  show bw_go _ _ _ _ _ _ _ 922 [(0, .retAddr _), (1, .ref _), (2, .ref _), (3, .int _), (4, .int _), (5, .int _), (6, .int _), (7, .int _), (8, .int _), (9, .int _), (11, .ref _), (12, .int _), (13, .int _)] ([]) _ _
  refine go_aload_n dL_law_922 rfl ?_
  refine go_iload dL_law_923 rfl ?_
  refine go_cv (as := [.int _]) 4 dL_law_925 mt_9_75 (Or.inl rfl) rfl rfl (lb_lt hx.1) (lb_k hx.1) (Nat.le_of_ble_eq_true rfl) (Nat.le_of_ble_eq_true rfl) (Nat.le_of_ble_eq_true rfl) (Nat.le_of_ble_eq_true rfl) (Nat.le_of_ble_eq_true rfl) ?_
  refine lx_shown hx (by rw [hN2]; exact hs) (by omega) (fun G S' hx _ => ?_)
  show bw_go _ _ _ _ _ _ _ 928 [(0, .retAddr _), (1, .ref _), (2, .ref _), (3, .int _), (4, .int _), (5, .int _), (6, .int _), (7, .int _), (8, .int _), (9, .int _), (11, .ref _), (12, .int _), (13, .int _)] ((.int _) :: []) _ _
  refine go_iload dL_law_928 rfl ?_
  refine go_ishr dL_law_930 ?_
  refine go_iconst (1) dL_law_931 rfl ?_
  refine go_iand dL_law_932 ?_
  rw [bit_t _ (sho_lt _ _) x (by omega), tb_n hx6 hm, show nI (if false = true then 1 else 0) = 0 from rfl]
  refine go_iconst (1) dL_law_933 rfl ?_
  refine go_icmp_eq (pc' := 959) dL_law_934 rfl (fun c => absurd c (by decide)) (fun _ => ?_)
  show bw_go _ _ _ _ _ _ _ 937 [(0, .retAddr _), (1, .ref _), (2, .ref _), (3, .int _), (4, .int _), (5, .int _), (6, .int _), (7, .int _), (8, .int _), (9, .int _), (11, .ref _), (12, .int _), (13, .int _)] ([]) _ _
  refine go_aload_n dL_law_937 rfl ?_
  refine go_iload dL_law_938 rfl ?_
  refine go_iload dL_law_940 rfl ?_
  refine go_iconst (5) dL_law_942 rfl ?_
  refine go_cv (as := [.int _, .int _, .int _]) 9 dL_law_943 mt_9_87 (Or.inl rfl) rfl rfl (lb_lt hx.1) (lb_k hx.1) (Nat.le_of_ble_eq_true rfl) (Nat.le_of_ble_eq_true rfl) (Nat.le_of_ble_eq_true rfl) (Nat.le_of_ble_eq_true rfl) (Nat.le_of_ble_eq_true rfl) ?_
  refine lx_shake hx hx6 (by rw [hN2]; exact hs) (by omega) (fun G S' hx e => ?_) (fun G S' l2 hx e => ?_)
  · rw [fpr_0 hm] at e; cases e
  · rw [fpr_0 hm] at e
    cases e
    rw [show nI ([] : List Nat).length = (0 : Int32) from rfl]
    show bw_go _ _ _ _ _ _ _ 946 [(0, .retAddr _), (1, .ref _), (2, .ref _), (3, .int _), (4, .int _), (5, .int _), (6, .int _), (7, .int _), (8, .int _), (9, .int _), (11, .ref _), (12, .int _), (13, .int _)] ((.int _) :: []) _ _
    refine go_if_ne (pc' := 959) dL_law_946 rfl (fun c => absurd c (by decide)) (fun _ => ?_)
    show bw_go _ _ _ _ _ _ _ 949 [(0, .retAddr _), (1, .ref _), (2, .ref _), (3, .int _), (4, .int _), (5, .int _), (6, .int _), (7, .int _), (8, .int _), (9, .int _), (11, .ref _), (12, .int _), (13, .int _)] ([]) _ _
    refine go_aload_n dL_law_949 rfl ?_
    refine go_iconst (0) dL_law_950 rfl ?_
    refine go_cv (as := [.int _]) 3 dL_law_951 mt_9_96 (Or.inl rfl) rfl rfl (lb_lt hx.1) (lb_k hx.1) (Nat.le_of_ble_eq_true rfl) (Nat.le_of_ble_eq_true rfl) (Nat.le_of_ble_eq_true rfl) (Nat.le_of_ble_eq_true rfl) (Nat.le_of_ble_eq_true rfl) ?_
    refine lx_on0 hx hK0 (fun G S' hx => ?_)
    show bw_go _ _ _ _ _ _ _ 954 [(0, .retAddr _), (1, .ref _), (2, .ref _), (3, .int _), (4, .int _), (5, .int _), (6, .int _), (7, .int _), (8, .int _), (9, .int _), (11, .ref _), (12, .int _), (13, .int _)] ((.int _) :: []) _ _
    refine go_iload dL_law_954 rfl ?_
    refine go_icmp_eq (pc' := 961) dL_law_956 rfl (fun c_956 => ?_) (fun c_956 => ?_)
    · -- eq at 956: yes
      refine go_ls [(0, .retAddr _), (1, .ref _), (2, .ref _), (3, .int _), (4, .int _), (5, .int _), (6, .int _), (7, .int _), (8, .int _), (9, .int _), (11, .ref _), (12, .int _)] (by show List.Nodup ([0, 1, 2, 3, 4, 5, 6, 7, 8, 9, 11, 12] : List Nat); decide) (by show List.Nodup ([0, 1, 2, 3, 4, 5, 6, 7, 8, 9, 11, 12, 13] : List Nat); decide) (le_cons rfl (le_cons rfl (le_cons rfl (le_cons rfl (le_cons rfl (le_cons rfl (le_cons rfl (le_cons rfl (le_cons rfl (le_cons rfl (le_cons rfl (le_cons rfl (le_nil _))))))))))))) ?_
      exact K _ _ _ x hx6 hx
    · -- eq at 956: no
      exact absurd rfl c_956
set_option maxRecDepth 100000 in
set_option maxHeartbeats 4000000 in
theorem f754_0 {X : Nat × (Nat → Int32)} {Q : Option Value → bw_H → Prop} {h : bw_H} {S : ST} {W T0 : RW} {B : AC} {K0 : Nat → Option AC} {F T : Nat → Int32} {x s : Nat} (hx : LX 2 75 h S (A2 F T) W T0 B K0) (hf : LF F B) (hK0 : K0 0 = some B) (hx6 : x < 6) (hs : s < 2 ^ cN (cc B)) (hm : mor (opT (cc B) s x).1 (opT (cc B) s x).2.2.1 (opT (cc B) s x).2.2.2 ≤ 0) (K : ∀ G S' W' x, x < 6 → LX 2 75 G S' (A2 F T) W' T0 B K0 → bw_go X 12 9 48 false (some .boolean) cL_law 961 [(0, .retAddr 1), (1, .ref (0)), (2, .ref (62)), (3, .int (nI (cN (cc B)))), (4, .int (nI (2 ^ cN (cc B) - 1))), (5, .int (nI (cT B.1))), (6, .int (nI (cD (cc B)))), (7, .int (nI (cW (cc B)))), (8, .int (nI (sho (taC (cc B)) (2 ^ cN (cc B) - 1)))), (9, .int (nI (smN (cR (cc B)) (cN (cc B))))), (11, .ref (76)), (12, .int (nI x))] [] G Q) : bw_go X 12 9 48 false (some .boolean) cL_law 754 [(0, .retAddr 1), (1, .ref (0)), (2, .ref (62)), (3, .int (nI (cN (cc B)))), (4, .int (nI (2 ^ cN (cc B) - 1))), (5, .int (nI (cT B.1))), (6, .int (nI (cD (cc B)))), (7, .int (nI (cW (cc B)))), (8, .int (nI (sho (taC (cc B)) (2 ^ cN (cc B) - 1)))), (9, .int (nI (smN (cR (cc B)) (cN (cc B))))), (11, .ref (76)), (12, .int (nI x)), (13, .int (nI s))] [.int 0] h Q := by
  have hk := lx_k hx
  have hN := hk.1
  have hp := p2N hN
  have hp1 : 1 ≤ 2 ^ cN (cc B) := Nat.one_le_two_pow
  have hn1 := hf.1.2.1
  show bw_go _ _ _ _ _ _ _ 754 [(0, .retAddr _), (1, .ref _), (2, .ref _), (3, .int _), (4, .int _), (5, .int _), (6, .int _), (7, .int _), (8, .int _), (9, .int _), (11, .ref _), (12, .int _), (13, .int _)] ((.int _) :: []) _ _
  refine go_istore dL_law_754 (Nat.lt_of_lt_of_le (Nat.lt_succ_self _) (Nat.le_of_ble_eq_true rfl)) ?_
  show bw_go _ _ _ _ _ _ _ 756 [(14, .int _), (0, .retAddr _), (1, .ref _), (2, .ref _), (3, .int _), (4, .int _), (5, .int _), (6, .int _), (7, .int _), (8, .int _), (9, .int _), (11, .ref _), (12, .int _), (13, .int _)] ([]) _ _
  refine go_aload_n dL_law_756 rfl ?_
  refine go_iload dL_law_757 rfl ?_
  refine go_cv (as := [.int _]) 4 dL_law_759 mt_9_75 (Or.inl rfl) rfl rfl (lb_lt hx.1) (lb_k hx.1) (Nat.le_of_ble_eq_true rfl) (Nat.le_of_ble_eq_true rfl) (Nat.le_of_ble_eq_true rfl) (Nat.le_of_ble_eq_true rfl) (Nat.le_of_ble_eq_true rfl) ?_
  refine lx_shown hx hs (by omega) (fun G S' hx _ => ?_)
  show bw_go _ _ _ _ _ _ _ 762 [(14, .int _), (0, .retAddr _), (1, .ref _), (2, .ref _), (3, .int _), (4, .int _), (5, .int _), (6, .int _), (7, .int _), (8, .int _), (9, .int _), (11, .ref _), (12, .int _), (13, .int _)] ((.int _) :: []) _ _
  refine go_iload dL_law_762 rfl ?_
  refine go_ishr dL_law_764 ?_
  refine go_iconst (1) dL_law_765 rfl ?_
  refine go_iand dL_law_766 ?_
  rw [bit_t _ (sho_lt _ _) x (by omega), tb_n hx6 hm, show nI (if false = true then 1 else 0) = 0 from rfl]
  refine go_iconst (1) dL_law_767 rfl ?_
  refine go_icmp_ne (pc' := 775) dL_law_768 rfl (fun _ => ?_) (fun c => absurd (by decide) c)
  show bw_go _ _ _ _ _ _ _ 775 [(14, .int _), (0, .retAddr _), (1, .ref _), (2, .ref _), (3, .int _), (4, .int _), (5, .int _), (6, .int _), (7, .int _), (8, .int _), (9, .int _), (11, .ref _), (12, .int _), (13, .int _)] ([]) _ _
  refine go_iconst (0) dL_law_775 rfl ?_
  refine go_istore dL_law_776 (Nat.lt_of_lt_of_le (Nat.lt_succ_self _) (Nat.le_of_ble_eq_true rfl)) ?_
  show bw_go _ _ _ _ _ _ _ 778 [(15, .int _), (14, .int _), (0, .retAddr _), (1, .ref _), (2, .ref _), (3, .int _), (4, .int _), (5, .int _), (6, .int _), (7, .int _), (8, .int _), (9, .int _), (11, .ref _), (12, .int _), (13, .int _)] ([]) _ _
  refine go_iload dL_law_778 rfl ?_
  refine go_bipush (-9) dL_law_780 rfl ?_
  refine go_icmp_lt (pc' := 826) dL_law_782 rfl (fun c => absurd c (by decide)) (fun _ => ?_)
  show bw_go _ _ _ _ _ _ _ 785 [(15, .int _), (14, .int _), (0, .retAddr _), (1, .ref _), (2, .ref _), (3, .int _), (4, .int _), (5, .int _), (6, .int _), (7, .int _), (8, .int _), (9, .int _), (11, .ref _), (12, .int _), (13, .int _)] ([]) _ _
  refine go_iload dL_law_785 rfl ?_
  refine go_iconst (4) dL_law_787 rfl ?_
  refine go_icmp_gt (pc' := 826) dL_law_788 rfl (fun c => absurd c (by decide)) (fun _ => ?_)
  show bw_go _ _ _ _ _ _ _ 791 [(15, .int _), (14, .int _), (0, .retAddr _), (1, .ref _), (2, .ref _), (3, .int _), (4, .int _), (5, .int _), (6, .int _), (7, .int _), (8, .int _), (9, .int _), (11, .ref _), (12, .int _), (13, .int _)] ([]) _ _
  refine go_iload dL_law_791 rfl ?_
  refine go_if_ge (pc' := 803) dL_law_793 rfl (fun _ => ?_) (fun c => absurd (by decide) c)
  show bw_go _ _ _ _ _ _ _ 803 [(15, .int _), (14, .int _), (0, .retAddr _), (1, .ref _), (2, .ref _), (3, .int _), (4, .int _), (5, .int _), (6, .int _), (7, .int _), (8, .int _), (9, .int _), (11, .ref _), (12, .int _), (13, .int _)] ([]) _ _
  refine go_iload dL_law_803 rfl ?_
  refine go_if_ne (pc' := 812) dL_law_805 rfl (fun c => absurd c (by decide)) (fun _ => ?_)
  show bw_go _ _ _ _ _ _ _ 808 [(15, .int _), (14, .int _), (0, .retAddr _), (1, .ref _), (2, .ref _), (3, .int _), (4, .int _), (5, .int _), (6, .int _), (7, .int _), (8, .int _), (9, .int _), (11, .ref _), (12, .int _), (13, .int _)] ([]) _ _
  refine go_iconst (1) dL_law_808 rfl ?_
  refine go_goto (pc' := 813) dL_law_809 rfl ?_
  show bw_go _ _ _ _ _ _ _ 813 [(15, .int _), (14, .int _), (0, .retAddr _), (1, .ref _), (2, .ref _), (3, .int _), (4, .int _), (5, .int _), (6, .int _), (7, .int _), (8, .int _), (9, .int _), (11, .ref _), (12, .int _), (13, .int _)] ((.int _) :: []) _ _
  refine go_iload dL_law_813 rfl ?_
  refine go_if_ne (pc' := 822) dL_law_815 rfl (fun c => absurd c (by decide)) (fun _ => ?_)
  show bw_go _ _ _ _ _ _ _ 818 [(15, .int _), (14, .int _), (0, .retAddr _), (1, .ref _), (2, .ref _), (3, .int _), (4, .int _), (5, .int _), (6, .int _), (7, .int _), (8, .int _), (9, .int _), (11, .ref _), (12, .int _), (13, .int _)] ((.int _) :: []) _ _
  refine go_iconst (1) dL_law_818 rfl ?_
  refine go_goto (pc' := 823) dL_law_819 rfl ?_
  show bw_go _ _ _ _ _ _ _ 823 [(15, .int _), (14, .int _), (0, .retAddr _), (1, .ref _), (2, .ref _), (3, .int _), (4, .int _), (5, .int _), (6, .int _), (7, .int _), (8, .int _), (9, .int _), (11, .ref _), (12, .int _), (13, .int _)] ((.int _) :: (.int _) :: []) _ _
  refine go_icmp_eq (pc' := 828) dL_law_823 rfl (fun _ => ?_) (fun c => absurd (by decide) c)
  show bw_go _ _ _ _ _ _ _ 828 [(15, .int _), (14, .int _), (0, .retAddr _), (1, .ref _), (2, .ref _), (3, .int _), (4, .int _), (5, .int _), (6, .int _), (7, .int _), (8, .int _), (9, .int _), (11, .ref _), (12, .int _), (13, .int _)] ([]) _ _
  refine go_iconst (0) dL_law_828 rfl ?_
  refine go_istore dL_law_829 (Nat.lt_of_lt_of_le (Nat.lt_succ_self _) (Nat.le_of_ble_eq_true rfl)) ?_
  show bw_go _ _ _ _ _ _ _ 831 [(16, .int _), (15, .int _), (14, .int _), (0, .retAddr _), (1, .ref _), (2, .ref _), (3, .int _), (4, .int _), (5, .int _), (6, .int _), (7, .int _), (8, .int _), (9, .int _), (11, .ref _), (12, .int _), (13, .int _)] ([]) _ _
  refine go_iconst (0) dL_law_831 rfl ?_
  refine go_istore dL_law_832 (Nat.lt_of_lt_of_le (Nat.lt_succ_self _) (Nat.le_of_ble_eq_true rfl)) ?_
  show bw_go _ _ _ _ _ _ _ 834 [(17, .int _), (16, .int _), (15, .int _), (14, .int _), (0, .retAddr _), (1, .ref _), (2, .ref _), (3, .int _), (4, .int _), (5, .int _), (6, .int _), (7, .int _), (8, .int _), (9, .int _), (11, .ref _), (12, .int _), (13, .int _)] ([]) _ _
  refine go_iload dL_law_834 rfl ?_
  refine go_iload dL_law_836 rfl ?_
  refine go_icmp_ge (pc' := 917) dL_law_838 rfl (fun _ => ?_) (fun c => absurd (by decide) c)
  show bw_go _ _ _ _ _ _ _ 917 [(17, .int _), (16, .int _), (15, .int _), (14, .int _), (0, .retAddr _), (1, .ref _), (2, .ref _), (3, .int _), (4, .int _), (5, .int _), (6, .int _), (7, .int _), (8, .int _), (9, .int _), (11, .ref _), (12, .int _), (13, .int _)] ([]) _ _
  refine go_iload dL_law_917 rfl ?_
  refine go_if_lt (pc' := 949) dL_law_919 rfl (fun c => absurd c (by decide)) (fun _ => ?_)
  refine go_ls [(0, .retAddr _), (1, .ref _), (2, .ref _), (3, .int _), (4, .int _), (5, .int _), (6, .int _), (7, .int _), (8, .int _), (9, .int _), (11, .ref _), (12, .int _), (13, .int _)] (by show List.Nodup ([0, 1, 2, 3, 4, 5, 6, 7, 8, 9, 11, 12, 13] : List Nat); decide) (by show List.Nodup ([17, 16, 15, 14, 0, 1, 2, 3, 4, 5, 6, 7, 8, 9, 11, 12, 13] : List Nat); decide) (le_cons rfl (le_cons rfl (le_cons rfl (le_cons rfl (le_cons rfl (le_cons rfl (le_cons rfl (le_cons rfl (le_cons rfl (le_cons rfl (le_cons rfl (le_cons rfl (le_cons rfl (le_nil _)))))))))))))) ?_
  exact f922 (W := T0) hx hf hK0 hx6 rfl hs hm K
set_option maxRecDepth 100000 in
set_option maxHeartbeats 4000000 in
theorem f754_l {X : Nat × (Nat → Int32)} {Q : Option Value → bw_H → Prop} {h : bw_H} {S : ST} {W T0 : RW} {B : AC} {K0 : Nat → Option AC} {F T : Nat → Int32} {x s : Nat} {l : List Nat} (hx : LX 2 75 h S (A2 F T) (bw_up W.1 5 (some l.length), bw_up W.2 5 (fun i => nI (l.getD i 0))) T0 B K0) (hf : LF F B) (hK0 : K0 0 = some B) (hx6 : x < 6) (hs : s < 2 ^ cN (cc B)) (hl1 : 1 ≤ l.length) (hl4 : l.length ≤ 4) (hvs : vsq l (opT (cc B) s x) 0) (hme : mor (pfin l (opT (cc B) s x)).1 (pfin l (opT (cc B) s x)).2.2.1 (pfin l (opT (cc B) s x)).2.2.2 ≤ 0) (hmo : ∀ k, k < l.length → 0 < mor (pfin (l.take k) (opT (cc B) s x)).1 (pfin (l.take k) (opT (cc B) s x)).2.2.1 (pfin (l.take k) (opT (cc B) s x)).2.2.2) (K : ∀ G S' W' x, x < 6 → LX 2 75 G S' (A2 F T) W' T0 B K0 → bw_go X 12 9 48 false (some .boolean) cL_law 961 [(0, .retAddr 1), (1, .ref (0)), (2, .ref (62)), (3, .int (nI (cN (cc B)))), (4, .int (nI (2 ^ cN (cc B) - 1))), (5, .int (nI (cT B.1))), (6, .int (nI (cD (cc B)))), (7, .int (nI (cW (cc B)))), (8, .int (nI (sho (taC (cc B)) (2 ^ cN (cc B) - 1)))), (9, .int (nI (smN (cR (cc B)) (cN (cc B))))), (11, .ref (76)), (12, .int (nI x))] [] G Q) : bw_go X 12 9 48 false (some .boolean) cL_law 754 [(0, .retAddr 1), (1, .ref (0)), (2, .ref (62)), (3, .int (nI (cN (cc B)))), (4, .int (nI (2 ^ cN (cc B) - 1))), (5, .int (nI (cT B.1))), (6, .int (nI (cD (cc B)))), (7, .int (nI (cW (cc B)))), (8, .int (nI (sho (taC (cc B)) (2 ^ cN (cc B) - 1)))), (9, .int (nI (smN (cR (cc B)) (cN (cc B))))), (11, .ref (76)), (12, .int (nI x)), (13, .int (nI s))] [.int (nI l.length)] h Q := by
  have hk := lx_k hx
  have hN := hk.1
  have hp := p2N hN
  have hp1 : 1 ≤ 2 ^ cN (cc B) := Nat.one_le_two_pow
  have hn1 := hf.1.2.1
  have hT9 := hf.2.1
  have h64 : s < 64 := by omega
  have hb : (sho (taC (cc B)) s).testBit x = true := tb_m hx6 (hmo 0 (by omega))
  show bw_go _ _ _ _ _ _ _ 754 [(0, .retAddr _), (1, .ref _), (2, .ref _), (3, .int _), (4, .int _), (5, .int _), (6, .int _), (7, .int _), (8, .int _), (9, .int _), (11, .ref _), (12, .int _), (13, .int _)] ((.int _) :: []) _ _
  refine go_istore dL_law_754 (Nat.lt_of_lt_of_le (Nat.lt_succ_self _) (Nat.le_of_ble_eq_true rfl)) ?_
  show bw_go _ _ _ _ _ _ _ 756 [(14, .int _), (0, .retAddr _), (1, .ref _), (2, .ref _), (3, .int _), (4, .int _), (5, .int _), (6, .int _), (7, .int _), (8, .int _), (9, .int _), (11, .ref _), (12, .int _), (13, .int _)] ([]) _ _
  refine go_aload_n dL_law_756 rfl ?_
  refine go_iload dL_law_757 rfl ?_
  refine go_cv (as := [.int _]) 4 dL_law_759 mt_9_75 (Or.inl rfl) rfl rfl (lb_lt hx.1) (lb_k hx.1) (Nat.le_of_ble_eq_true rfl) (Nat.le_of_ble_eq_true rfl) (Nat.le_of_ble_eq_true rfl) (Nat.le_of_ble_eq_true rfl) (Nat.le_of_ble_eq_true rfl) ?_
  refine lx_shown hx hs (by omega) (fun G S' hx _ => ?_)
  show bw_go _ _ _ _ _ _ _ 762 [(14, .int _), (0, .retAddr _), (1, .ref _), (2, .ref _), (3, .int _), (4, .int _), (5, .int _), (6, .int _), (7, .int _), (8, .int _), (9, .int _), (11, .ref _), (12, .int _), (13, .int _)] ((.int _) :: []) _ _
  refine go_iload dL_law_762 rfl ?_
  refine go_ishr dL_law_764 ?_
  refine go_iconst (1) dL_law_765 rfl ?_
  refine go_iand dL_law_766 ?_
  rw [bit_t _ (sho_lt _ _) x (by omega), hb, show nI (if true = true then 1 else 0) = 1 from rfl]
  refine go_iconst (1) dL_law_767 rfl ?_
  refine go_icmp_ne (pc' := 775) dL_law_768 rfl (fun c => absurd c (by decide)) (fun _ => ?_)
  show bw_go _ _ _ _ _ _ _ 771 [(14, .int _), (0, .retAddr _), (1, .ref _), (2, .ref _), (3, .int _), (4, .int _), (5, .int _), (6, .int _), (7, .int _), (8, .int _), (9, .int _), (11, .ref _), (12, .int _), (13, .int _)] ([]) _ _
  refine go_iconst (1) dL_law_771 rfl ?_
  refine go_goto (pc' := 776) dL_law_772 rfl ?_
  show bw_go _ _ _ _ _ _ _ 776 [(14, .int _), (0, .retAddr _), (1, .ref _), (2, .ref _), (3, .int _), (4, .int _), (5, .int _), (6, .int _), (7, .int _), (8, .int _), (9, .int _), (11, .ref _), (12, .int _), (13, .int _)] ((.int _) :: []) _ _
  refine go_istore dL_law_776 (Nat.lt_of_lt_of_le (Nat.lt_succ_self _) (Nat.le_of_ble_eq_true rfl)) ?_
  show bw_go _ _ _ _ _ _ _ 778 [(15, .int _), (14, .int _), (0, .retAddr _), (1, .ref _), (2, .ref _), (3, .int _), (4, .int _), (5, .int _), (6, .int _), (7, .int _), (8, .int _), (9, .int _), (11, .ref _), (12, .int _), (13, .int _)] ([]) _ _
  refine go_iload dL_law_778 rfl ?_
  refine go_bipush (-9) dL_law_780 rfl ?_
  refine go_icmp_lt (pc' := 826) dL_law_782 rfl (fun c_782 => ?_) (fun c_782 => ?_)
  · -- lt at 782: yes
    exfalso; have t_0 := nI_toInt (n := l.length) (by omega); have l_9 : (-9 : Int32).toInt = -9 := rfl; have l_4 : (4 : Int32).toInt = 4 := rfl; have l_0 := i_0; simp only [i_lt] at c_782; omega
  · -- lt at 782: no
    show bw_go _ _ _ _ _ _ _ 785 [(15, .int _), (14, .int _), (0, .retAddr _), (1, .ref _), (2, .ref _), (3, .int _), (4, .int _), (5, .int _), (6, .int _), (7, .int _), (8, .int _), (9, .int _), (11, .ref _), (12, .int _), (13, .int _)] ([]) _ _
    refine go_iload dL_law_785 rfl ?_
    refine go_iconst (4) dL_law_787 rfl ?_
    refine go_icmp_gt (pc' := 826) dL_law_788 rfl (fun c_788 => ?_) (fun c_788 => ?_)
    · -- gt at 788: yes
      exfalso; have t_0 := nI_toInt (n := l.length) (by omega); have l_9 : (-9 : Int32).toInt = -9 := rfl; have l_4 : (4 : Int32).toInt = 4 := rfl; have l_0 := i_0; simp only [i_lt] at c_788; omega
    · -- gt at 788: no
      show bw_go _ _ _ _ _ _ _ 791 [(15, .int _), (14, .int _), (0, .retAddr _), (1, .ref _), (2, .ref _), (3, .int _), (4, .int _), (5, .int _), (6, .int _), (7, .int _), (8, .int _), (9, .int _), (11, .ref _), (12, .int _), (13, .int _)] ([]) _ _
      refine go_iload dL_law_791 rfl ?_
      refine go_if_ge (pc' := 803) dL_law_793 rfl (fun c_793 => ?_) (fun c_793 => ?_)
      · -- ge at 793: yes
        show bw_go _ _ _ _ _ _ _ 803 [(15, .int _), (14, .int _), (0, .retAddr _), (1, .ref _), (2, .ref _), (3, .int _), (4, .int _), (5, .int _), (6, .int _), (7, .int _), (8, .int _), (9, .int _), (11, .ref _), (12, .int _), (13, .int _)] ([]) _ _
        refine go_iload dL_law_803 rfl ?_
        refine go_if_ne (pc' := 812) dL_law_805 rfl (fun c_805 => ?_) (fun c_805 => ?_)
        · -- ne at 805: yes
          show bw_go _ _ _ _ _ _ _ 812 [(15, .int _), (14, .int _), (0, .retAddr _), (1, .ref _), (2, .ref _), (3, .int _), (4, .int _), (5, .int _), (6, .int _), (7, .int _), (8, .int _), (9, .int _), (11, .ref _), (12, .int _), (13, .int _)] ([]) _ _
          refine go_iconst (0) dL_law_812 rfl ?_
          refine go_iload dL_law_813 rfl ?_
          refine go_if_ne (pc' := 822) dL_law_815 rfl (fun _ => ?_) (fun c => absurd (by decide) c)
          show bw_go _ _ _ _ _ _ _ 822 [(15, .int _), (14, .int _), (0, .retAddr _), (1, .ref _), (2, .ref _), (3, .int _), (4, .int _), (5, .int _), (6, .int _), (7, .int _), (8, .int _), (9, .int _), (11, .ref _), (12, .int _), (13, .int _)] ((.int _) :: []) _ _
          refine go_iconst (0) dL_law_822 rfl ?_
          refine go_icmp_eq (pc' := 828) dL_law_823 rfl (fun _ => ?_) (fun c => absurd (by decide) c)
          show bw_go _ _ _ _ _ _ _ 828 [(15, .int _), (14, .int _), (0, .retAddr _), (1, .ref _), (2, .ref _), (3, .int _), (4, .int _), (5, .int _), (6, .int _), (7, .int _), (8, .int _), (9, .int _), (11, .ref _), (12, .int _), (13, .int _)] ([]) _ _
          refine go_iconst (0) dL_law_828 rfl ?_
          refine go_istore dL_law_829 (Nat.lt_of_lt_of_le (Nat.lt_succ_self _) (Nat.le_of_ble_eq_true rfl)) ?_
          show bw_go _ _ _ _ _ _ _ 831 [(16, .int _), (15, .int _), (14, .int _), (0, .retAddr _), (1, .ref _), (2, .ref _), (3, .int _), (4, .int _), (5, .int _), (6, .int _), (7, .int _), (8, .int _), (9, .int _), (11, .ref _), (12, .int _), (13, .int _)] ([]) _ _
          refine go_iconst (0) dL_law_831 rfl ?_
          refine go_istore dL_law_832 (Nat.lt_of_lt_of_le (Nat.lt_succ_self _) (Nat.le_of_ble_eq_true rfl)) ?_
          show bw_go _ _ _ _ _ _ _ 834 [(17, .int _), (16, .int _), (15, .int _), (14, .int _), (0, .retAddr _), (1, .ref _), (2, .ref _), (3, .int _), (4, .int _), (5, .int _), (6, .int _), (7, .int _), (8, .int _), (9, .int _), (11, .ref _), (12, .int _), (13, .int _)] ([]) _ _
          refine go_ls [(0, .retAddr _), (1, .ref _), (2, .ref _), (3, .int _), (4, .int _), (5, .int _), (6, .int _), (7, .int _), (8, .int _), (9, .int _), (11, .ref _), (12, .int _), (13, .int _), (14, .int _), (16, .int _), (17, .int _)] (by show List.Nodup ([0, 1, 2, 3, 4, 5, 6, 7, 8, 9, 11, 12, 13, 14, 16, 17] : List Nat); decide) (by show List.Nodup ([17, 16, 15, 14, 0, 1, 2, 3, 4, 5, 6, 7, 8, 9, 11, 12, 13] : List Nat); decide) (le_cons rfl (le_cons rfl (le_cons rfl (le_cons rfl (le_cons rfl (le_cons rfl (le_cons rfl (le_cons rfl (le_cons rfl (le_cons rfl (le_cons rfl (le_cons rfl (le_cons rfl (le_cons rfl (le_cons rfl (le_cons rfl (le_nil _))))))))))))))))) ?_
          refine go_for (P := fun k => ∀ (g : bw_H) (S : ST) (B2 : AC), (LX 2 75 g S (A2 F T) (bw_up W.1 5 (some l.length), bw_up W.2 5 (fun i => nI (l.getD i 0))) T0 B2 K0 ∧ opT (cc B2) s x = pfin (l.take k) (opT (cc B) s x) ∧ cT B2.1 = cT B.1 + k ∧ cN (cc B2) = cN (cc B)) → bw_go X 12 9 48 false (some .boolean) cL_law 834 [(0, .retAddr 1), (1, .ref (0)), (2, .ref (62)), (3, .int (nI (cN (cc B)))), (4, .int (nI (2 ^ cN (cc B) - 1))), (5, .int (nI (cT B.1))), (6, .int (nI (cD (cc B)))), (7, .int (nI (cW (cc B)))), (8, .int (nI (sho (taC (cc B)) (2 ^ cN (cc B) - 1)))), (9, .int (nI (smN (cR (cc B)) (cN (cc B))))), (11, .ref (76)), (12, .int (nI x)), (13, .int (nI s)), (14, .int (nI l.length)), (16, .int (nI (if k = 0 then 0 else l.getD (k - 1) 0))), (17, .int (nI k))] [] g Q) (N := l.length) (fun k hk K9 => ?_) ?_ (0) (Nat.zero_le _) _ _ _ ⟨hx, rfl, rfl, rfl⟩
          · -- a turn
            intro g S B2 hv
            obtain ⟨hx, h2, h3, h4⟩ := hv
            have hk9 := lx_k hx
            have hv := vsq_at l _ 0 k hvs hk
            rw [← h2] at hv
            have hv1 : l.getD k 0 < cN (cc B) := hv.2.1
            have hbit : s.testBit (l.getD k 0) = true := hv.2.2.1
            have htb : (sho (taC (cc B2)) s).testBit x = true := tb_m hx6 (by rw [h2]; exact hmo k hk)
            have hr9 : cR (cc B2) (l.getD k 0) < 9 := hv.2.2.2
            have hlk : (if k = 0 then 0 else l.getD (k - 1) 0) < 6 := by have := hv.1; omega
            show bw_go _ _ _ _ _ _ _ 834 [(0, .retAddr _), (1, .ref _), (2, .ref _), (3, .int _), (4, .int _), (5, .int _), (6, .int _), (7, .int _), (8, .int _), (9, .int _), (11, .ref _), (12, .int _), (13, .int _), (14, .int _), (16, .int _), (17, .int _)] ([]) _ _
            refine go_iload dL_law_834 rfl ?_
            refine go_iload dL_law_836 rfl ?_
            refine go_icmp_ge (pc' := 917) dL_law_838 rfl (fun c_838 => ?_) (fun c_838 => ?_)
            · -- ge at 838: yes
              exfalso; have t_0 := nI_toInt (n := k) (by omega); have t_1 := nI_toInt (n := l.length) (by omega); simp only [i_le, i_lt, i_eq, bi_eq] at c_838; omega
            · -- ge at 838: no
              show bw_go _ _ _ _ _ _ _ 841 [(0, .retAddr _), (1, .ref _), (2, .ref _), (3, .int _), (4, .int _), (5, .int _), (6, .int _), (7, .int _), (8, .int _), (9, .int _), (11, .ref _), (12, .int _), (13, .int _), (14, .int _), (16, .int _), (17, .int _)] ([]) _ _
              refine go_aload_n dL_law_841 rfl ?_
              refine go_iconst (5) dL_law_842 rfl ?_
              refine go_iload dL_law_843 rfl ?_
              refine go_cv (as := [.int _, .int _]) 4 dL_law_845 mt_9_90 (Or.inl rfl) rfl rfl (lb_lt hx.1) (lb_k hx.1) (Nat.le_of_ble_eq_true rfl) (Nat.le_of_ble_eq_true rfl) (Nat.le_of_ble_eq_true rfl) (Nat.le_of_ble_eq_true rfl) (Nat.le_of_ble_eq_true rfl) ?_
              refine lx_at5 hx (m := l.length) (bw_up_s W.1 5 (some l.length)) hk (by omega) (fun G S' hx hq => ?_)
              show bw_go _ _ _ _ _ _ _ 848 [(0, .retAddr _), (1, .ref _), (2, .ref _), (3, .int _), (4, .int _), (5, .int _), (6, .int _), (7, .int _), (8, .int _), (9, .int _), (11, .ref _), (12, .int _), (13, .int _), (14, .int _), (16, .int _), (17, .int _)] ((.int _) :: []) _ _
              refine go_istore dL_law_848 (Nat.lt_of_lt_of_le (Nat.lt_succ_self _) (Nat.le_of_ble_eq_true rfl)) ?_
              show bw_go _ _ _ _ _ _ _ 850 [(18, .int _), (0, .retAddr _), (1, .ref _), (2, .ref _), (3, .int _), (4, .int _), (5, .int _), (6, .int _), (7, .int _), (8, .int _), (9, .int _), (11, .ref _), (12, .int _), (13, .int _), (14, .int _), (16, .int _), (17, .int _)] ([]) _ _
              refine go_aload_n dL_law_850 rfl ?_
              refine go_cv (as := []) 0 dL_law_851 mt_9_42 (Or.inl rfl) rfl rfl (lb_lt hx.1) (lb_k hx.1) (Nat.le_of_ble_eq_true rfl) (Nat.le_of_ble_eq_true rfl) (Nat.le_of_ble_eq_true rfl) (Nat.le_of_ble_eq_true rfl) (Nat.le_of_ble_eq_true rfl) ?_
              refine lx_asked hx (fun G hx => ?_)
              rw [hq, show ((bw_up W.1 5 (some l.length), bw_up W.2 5 (fun i => nI (l.getD i 0))) : RW).2 5 k = nI (l.getD k 0) from congrFun (bw_up_s W.2 5 (fun i => nI (l.getD i 0))) k]
              show bw_go _ _ _ _ _ _ _ 854 [(18, .int _), (0, .retAddr _), (1, .ref _), (2, .ref _), (3, .int _), (4, .int _), (5, .int _), (6, .int _), (7, .int _), (8, .int _), (9, .int _), (11, .ref _), (12, .int _), (13, .int _), (14, .int _), (16, .int _), (17, .int _)] ((.int _) :: []) _ _
              refine go_istore dL_law_854 (Nat.lt_of_lt_of_le (Nat.lt_succ_self _) (Nat.le_of_ble_eq_true rfl)) ?_
              show bw_go _ _ _ _ _ _ _ 856 [(19, .int _), (18, .int _), (0, .retAddr _), (1, .ref _), (2, .ref _), (3, .int _), (4, .int _), (5, .int _), (6, .int _), (7, .int _), (8, .int _), (9, .int _), (11, .ref _), (12, .int _), (13, .int _), (14, .int _), (16, .int _), (17, .int _)] ([]) _ _
              refine go_iload dL_law_856 rfl ?_
              refine go_iconst (1) dL_law_858 rfl ?_
              refine go_icmp_ne (pc' := 905) dL_law_859 rfl (fun c => absurd c (by decide)) (fun _ => ?_)
              show bw_go _ _ _ _ _ _ _ 862 [(19, .int _), (18, .int _), (0, .retAddr _), (1, .ref _), (2, .ref _), (3, .int _), (4, .int _), (5, .int _), (6, .int _), (7, .int _), (8, .int _), (9, .int _), (11, .ref _), (12, .int _), (13, .int _), (14, .int _), (16, .int _), (17, .int _)] ([]) _ _
              refine go_iload dL_law_862 rfl ?_
              refine go_iload dL_law_864 rfl ?_
              refine go_icmp_lt (pc' := 905) dL_law_866 rfl (fun c_866 => ?_) (fun c_866 => ?_)
              · -- lt at 866: yes
                exfalso; have t_0 := nI_toInt (n := l.getD k 0) (by omega); have t_1 := nI_toInt (n := if k = 0 then 0 else l.getD (k - 1) 0) (by omega); simp only [i_lt] at c_866; omega
              · -- lt at 866: no
                show bw_go _ _ _ _ _ _ _ 869 [(19, .int _), (18, .int _), (0, .retAddr _), (1, .ref _), (2, .ref _), (3, .int _), (4, .int _), (5, .int _), (6, .int _), (7, .int _), (8, .int _), (9, .int _), (11, .ref _), (12, .int _), (13, .int _), (14, .int _), (16, .int _), (17, .int _)] ([]) _ _
                refine go_iload dL_law_869 rfl ?_
                refine go_iload dL_law_871 rfl ?_
                refine go_ishr dL_law_873 ?_
                refine go_iconst (1) dL_law_874 rfl ?_
                refine go_iand dL_law_875 ?_
                rw [bit_t _ h64 _ (by omega), hbit, show nI (if true = true then 1 else 0) = 1 from rfl]
                refine go_iconst (1) dL_law_876 rfl ?_
                refine go_icmp_ne (pc' := 905) dL_law_877 rfl (fun c => absurd c (by decide)) (fun _ => ?_)
                show bw_go _ _ _ _ _ _ _ 880 [(19, .int _), (18, .int _), (0, .retAddr _), (1, .ref _), (2, .ref _), (3, .int _), (4, .int _), (5, .int _), (6, .int _), (7, .int _), (8, .int _), (9, .int _), (11, .ref _), (12, .int _), (13, .int _), (14, .int _), (16, .int _), (17, .int _)] ([]) _ _
                refine go_aload_n dL_law_880 rfl ?_
                refine go_iload dL_law_881 rfl ?_
                refine go_cv (as := [.int _]) 4 dL_law_883 mt_9_75 (Or.inl rfl) rfl rfl (lb_lt hx.1) (lb_k hx.1) (Nat.le_of_ble_eq_true rfl) (Nat.le_of_ble_eq_true rfl) (Nat.le_of_ble_eq_true rfl) (Nat.le_of_ble_eq_true rfl) (Nat.le_of_ble_eq_true rfl) ?_
                refine lx_shown hx (by rw [h4]; exact hs) (by omega) (fun G S' hx _ => ?_)
                show bw_go _ _ _ _ _ _ _ 886 [(19, .int _), (18, .int _), (0, .retAddr _), (1, .ref _), (2, .ref _), (3, .int _), (4, .int _), (5, .int _), (6, .int _), (7, .int _), (8, .int _), (9, .int _), (11, .ref _), (12, .int _), (13, .int _), (14, .int _), (16, .int _), (17, .int _)] ((.int _) :: []) _ _
                refine go_iload dL_law_886 rfl ?_
                refine go_ishr dL_law_888 ?_
                refine go_iconst (1) dL_law_889 rfl ?_
                refine go_iand dL_law_890 ?_
                rw [bit_t _ (sho_lt _ _) x (by omega), htb, show nI (if true = true then 1 else 0) = 1 from rfl]
                refine go_iconst (1) dL_law_891 rfl ?_
                refine go_icmp_ne (pc' := 905) dL_law_892 rfl (fun c => absurd c (by decide)) (fun _ => ?_)
                show bw_go _ _ _ _ _ _ _ 895 [(19, .int _), (18, .int _), (0, .retAddr _), (1, .ref _), (2, .ref _), (3, .int _), (4, .int _), (5, .int _), (6, .int _), (7, .int _), (8, .int _), (9, .int _), (11, .ref _), (12, .int _), (13, .int _), (14, .int _), (16, .int _), (17, .int _)] ([]) _ _
                refine go_aload_n dL_law_895 rfl ?_
                refine go_iload dL_law_896 rfl ?_
                refine go_cv (as := [.int _]) 4 dL_law_898 mt_9_93 (Or.inl rfl) rfl rfl (lb_lt hx.1) (lb_k hx.1) (Nat.le_of_ble_eq_true rfl) (Nat.le_of_ble_eq_true rfl) (Nat.le_of_ble_eq_true rfl) (Nat.le_of_ble_eq_true rfl) (Nat.le_of_ble_eq_true rfl) ?_
                refine lx_press hx (by omega) (by omega) (fun G S' hx hcb => ?_) (fun G S' hx hcb => ?_)
                · rw [show cR (cc (acP B2 0 (l.getD k 0))) (l.getD k 0) = cR (cc B2) (l.getD k 0) + 1 from (congrFun (ccP B2 0 (l.getD k 0)).2.2 _).trans (bw_up_s _ _ _)]
                  show bw_go _ _ _ _ _ _ _ 901 [(19, .int _), (18, .int _), (0, .retAddr _), (1, .ref _), (2, .ref _), (3, .int _), (4, .int _), (5, .int _), (6, .int _), (7, .int _), (8, .int _), (9, .int _), (11, .ref _), (12, .int _), (13, .int _), (14, .int _), (16, .int _), (17, .int _)] ((.int _) :: []) _ _
                  refine go_iconst (1) dL_law_901 rfl ?_
                  refine go_icmp_ge (pc' := 907) dL_law_902 rfl (fun c_902 => ?_) (fun c_902 => ?_)
                  · -- ge at 902: yes
                    show bw_go _ _ _ _ _ _ _ 907 [(19, .int _), (18, .int _), (0, .retAddr _), (1, .ref _), (2, .ref _), (3, .int _), (4, .int _), (5, .int _), (6, .int _), (7, .int _), (8, .int _), (9, .int _), (11, .ref _), (12, .int _), (13, .int _), (14, .int _), (16, .int _), (17, .int _)] ([]) _ _
                    refine go_iload dL_law_907 rfl ?_
                    refine go_istore dL_law_909 (Nat.lt_of_lt_of_le (Nat.lt_succ_self _) (Nat.le_of_ble_eq_true rfl)) ?_
                    show bw_go _ _ _ _ _ _ _ 911 [(16, .int _), (19, .int _), (18, .int _), (0, .retAddr _), (1, .ref _), (2, .ref _), (3, .int _), (4, .int _), (5, .int _), (6, .int _), (7, .int _), (8, .int _), (9, .int _), (11, .ref _), (12, .int _), (13, .int _), (14, .int _), (17, .int _)] ([]) _ _
                    refine go_iinc dL_law_911 rfl (nI_1 k) (Nat.lt_of_lt_of_le (Nat.lt_succ_self _) (Nat.le_of_ble_eq_true rfl)) ?_
                    show bw_go _ _ _ _ _ _ _ 914 [(17, .int _), (16, .int _), (19, .int _), (18, .int _), (0, .retAddr _), (1, .ref _), (2, .ref _), (3, .int _), (4, .int _), (5, .int _), (6, .int _), (7, .int _), (8, .int _), (9, .int _), (11, .ref _), (12, .int _), (13, .int _), (14, .int _)] ([]) _ _
                    refine go_goto (pc' := 834) dL_law_914 rfl ?_
                    refine go_ls [(0, .retAddr _), (1, .ref _), (2, .ref _), (3, .int _), (4, .int _), (5, .int _), (6, .int _), (7, .int _), (8, .int _), (9, .int _), (11, .ref _), (12, .int _), (13, .int _), (14, .int _), (16, .int _), (17, .int _)] (by show List.Nodup ([0, 1, 2, 3, 4, 5, 6, 7, 8, 9, 11, 12, 13, 14, 16, 17] : List Nat); decide) (by show List.Nodup ([17, 16, 19, 18, 0, 1, 2, 3, 4, 5, 6, 7, 8, 9, 11, 12, 13, 14] : List Nat); decide) (le_cons rfl (le_cons rfl (le_cons rfl (le_cons rfl (le_cons rfl (le_cons rfl (le_cons rfl (le_cons rfl (le_cons rfl (le_cons rfl (le_cons rfl (le_cons rfl (le_cons rfl (le_cons rfl (le_cons rfl (le_cons rfl (le_nil _))))))))))))))))) ?_
                    have K2 := K9 _ _ (acP B2 0 (l.getD k 0)) ⟨hx, by rw [opP, h2, pfin_s l _ k hk], by show cT B2.1 + 1 = _; omega, h4⟩
                    rw [show (if k + 1 = 0 then 0 else l.getD (k + 1 - 1) 0) = l.getD k 0 from if_neg (by omega)] at K2
                    exact K2
                  · -- ge at 902: no
                    exfalso; have t_0 := nI_toInt (n := cR (cc B2) (l.getD k 0) + 1) (by omega); have l_1 : (1 : Int32).toInt = 1 := rfl; simp only [i_le] at c_902; omega
                · have h9 : cbe (cc B2) 0 (l.getD k 0) = true := decide_eq_true hv.2.2.2
                  rw [h9] at hcb; cases hcb
          · -- behind the last
            intro g S B2 hv
            obtain ⟨hx, h2, h3, h4⟩ := hv
            have hk9 := lx_k hx
            show bw_go _ _ _ _ _ _ _ 834 [(0, .retAddr _), (1, .ref _), (2, .ref _), (3, .int _), (4, .int _), (5, .int _), (6, .int _), (7, .int _), (8, .int _), (9, .int _), (11, .ref _), (12, .int _), (13, .int _), (14, .int _), (16, .int _), (17, .int _)] ([]) _ _
            refine go_iload dL_law_834 rfl ?_
            refine go_iload dL_law_836 rfl ?_
            refine go_icmp_ge (pc' := 917) dL_law_838 rfl (fun c_838 => ?_) (fun c_838 => ?_)
            · -- ge at 838: yes
              show bw_go _ _ _ _ _ _ _ 917 [(0, .retAddr _), (1, .ref _), (2, .ref _), (3, .int _), (4, .int _), (5, .int _), (6, .int _), (7, .int _), (8, .int _), (9, .int _), (11, .ref _), (12, .int _), (13, .int _), (14, .int _), (16, .int _), (17, .int _)] ([]) _ _
              refine go_iload dL_law_917 rfl ?_
              refine go_if_lt (pc' := 949) dL_law_919 rfl (fun c_919 => ?_) (fun c_919 => ?_)
              · -- lt at 919: yes
                exfalso; have t_0 := nI_toInt (n := l.length) (by omega); have l_0 := i_0; simp only [i_lt] at c_919; omega
              · -- lt at 919: no
                refine go_ls [(0, .retAddr _), (1, .ref _), (2, .ref _), (3, .int _), (4, .int _), (5, .int _), (6, .int _), (7, .int _), (8, .int _), (9, .int _), (11, .ref _), (12, .int _), (13, .int _)] (by show List.Nodup ([0, 1, 2, 3, 4, 5, 6, 7, 8, 9, 11, 12, 13] : List Nat); decide) (by show List.Nodup ([0, 1, 2, 3, 4, 5, 6, 7, 8, 9, 11, 12, 13, 14, 16, 17] : List Nat); decide) (le_cons rfl (le_cons rfl (le_cons rfl (le_cons rfl (le_cons rfl (le_cons rfl (le_cons rfl (le_cons rfl (le_cons rfl (le_cons rfl (le_cons rfl (le_cons rfl (le_cons rfl (le_nil _)))))))))))))) ?_
                exact f922 (W := T0) hx hf hK0 hx6 h4 hs (by rw [h2, List.take_length]; exact hme) K
            · -- ge at 838: no
              exfalso; have t_0 := nI_toInt (n := l.length) (by omega); simp only [i_le, i_lt, i_eq, bi_eq] at c_838; omega
        · -- ne at 805: no
          show bw_go _ _ _ _ _ _ _ 808 [(15, .int _), (14, .int _), (0, .retAddr _), (1, .ref _), (2, .ref _), (3, .int _), (4, .int _), (5, .int _), (6, .int _), (7, .int _), (8, .int _), (9, .int _), (11, .ref _), (12, .int _), (13, .int _)] ([]) _ _
          refine go_iconst (1) dL_law_808 rfl ?_
          refine go_goto (pc' := 813) dL_law_809 rfl ?_
          show bw_go _ _ _ _ _ _ _ 813 [(15, .int _), (14, .int _), (0, .retAddr _), (1, .ref _), (2, .ref _), (3, .int _), (4, .int _), (5, .int _), (6, .int _), (7, .int _), (8, .int _), (9, .int _), (11, .ref _), (12, .int _), (13, .int _)] ((.int _) :: []) _ _
          refine go_iload dL_law_813 rfl ?_
          refine go_if_ne (pc' := 822) dL_law_815 rfl (fun _ => ?_) (fun c => absurd (by decide) c)
          show bw_go _ _ _ _ _ _ _ 822 [(15, .int _), (14, .int _), (0, .retAddr _), (1, .ref _), (2, .ref _), (3, .int _), (4, .int _), (5, .int _), (6, .int _), (7, .int _), (8, .int _), (9, .int _), (11, .ref _), (12, .int _), (13, .int _)] ((.int _) :: []) _ _
          refine go_iconst (0) dL_law_822 rfl ?_
          refine go_icmp_eq (pc' := 828) dL_law_823 rfl (fun c => absurd c (by decide)) (fun _ => ?_)
          exfalso; have t_0 := nI_toInt (n := l.length) (by omega); have l_9 : (-9 : Int32).toInt = -9 := rfl; have l_4 : (4 : Int32).toInt = 4 := rfl; have l_0 := i_0; have z := congrArg Int32.toInt (Decidable.of_not_not c_805); omega
      · -- ge at 793: no
        show bw_go _ _ _ _ _ _ _ 796 [(15, .int _), (14, .int _), (0, .retAddr _), (1, .ref _), (2, .ref _), (3, .int _), (4, .int _), (5, .int _), (6, .int _), (7, .int _), (8, .int _), (9, .int _), (11, .ref _), (12, .int _), (13, .int _)] ([]) _ _
        refine go_iload dL_law_796 rfl ?_
        refine go_bipush (-9) dL_law_798 rfl ?_
        refine go_icmp_ne (pc' := 826) dL_law_800 rfl (fun c_800 => ?_) (fun c_800 => ?_)
        · -- ne at 800: yes
          exfalso; have t_0 := nI_toInt (n := l.length) (by omega); have l_9 : (-9 : Int32).toInt = -9 := rfl; have l_4 : (4 : Int32).toInt = 4 := rfl; have l_0 := i_0; simp only [i_le] at c_793; omega
        · -- ne at 800: no
          show bw_go _ _ _ _ _ _ _ 803 [(15, .int _), (14, .int _), (0, .retAddr _), (1, .ref _), (2, .ref _), (3, .int _), (4, .int _), (5, .int _), (6, .int _), (7, .int _), (8, .int _), (9, .int _), (11, .ref _), (12, .int _), (13, .int _)] ([]) _ _
          refine go_iload dL_law_803 rfl ?_
          refine go_if_ne (pc' := 812) dL_law_805 rfl (fun c_805 => ?_) (fun c_805 => ?_)
          · -- ne at 805: yes
            show bw_go _ _ _ _ _ _ _ 812 [(15, .int _), (14, .int _), (0, .retAddr _), (1, .ref _), (2, .ref _), (3, .int _), (4, .int _), (5, .int _), (6, .int _), (7, .int _), (8, .int _), (9, .int _), (11, .ref _), (12, .int _), (13, .int _)] ([]) _ _
            refine go_iconst (0) dL_law_812 rfl ?_
            refine go_iload dL_law_813 rfl ?_
            refine go_if_ne (pc' := 822) dL_law_815 rfl (fun _ => ?_) (fun c => absurd (by decide) c)
            show bw_go _ _ _ _ _ _ _ 822 [(15, .int _), (14, .int _), (0, .retAddr _), (1, .ref _), (2, .ref _), (3, .int _), (4, .int _), (5, .int _), (6, .int _), (7, .int _), (8, .int _), (9, .int _), (11, .ref _), (12, .int _), (13, .int _)] ((.int _) :: []) _ _
            refine go_iconst (0) dL_law_822 rfl ?_
            refine go_icmp_eq (pc' := 828) dL_law_823 rfl (fun _ => ?_) (fun c => absurd (by decide) c)
            show bw_go _ _ _ _ _ _ _ 828 [(15, .int _), (14, .int _), (0, .retAddr _), (1, .ref _), (2, .ref _), (3, .int _), (4, .int _), (5, .int _), (6, .int _), (7, .int _), (8, .int _), (9, .int _), (11, .ref _), (12, .int _), (13, .int _)] ([]) _ _
            refine go_iconst (0) dL_law_828 rfl ?_
            refine go_istore dL_law_829 (Nat.lt_of_lt_of_le (Nat.lt_succ_self _) (Nat.le_of_ble_eq_true rfl)) ?_
            show bw_go _ _ _ _ _ _ _ 831 [(16, .int _), (15, .int _), (14, .int _), (0, .retAddr _), (1, .ref _), (2, .ref _), (3, .int _), (4, .int _), (5, .int _), (6, .int _), (7, .int _), (8, .int _), (9, .int _), (11, .ref _), (12, .int _), (13, .int _)] ([]) _ _
            refine go_iconst (0) dL_law_831 rfl ?_
            refine go_istore dL_law_832 (Nat.lt_of_lt_of_le (Nat.lt_succ_self _) (Nat.le_of_ble_eq_true rfl)) ?_
            show bw_go _ _ _ _ _ _ _ 834 [(17, .int _), (16, .int _), (15, .int _), (14, .int _), (0, .retAddr _), (1, .ref _), (2, .ref _), (3, .int _), (4, .int _), (5, .int _), (6, .int _), (7, .int _), (8, .int _), (9, .int _), (11, .ref _), (12, .int _), (13, .int _)] ([]) _ _
            refine go_ls [(0, .retAddr _), (1, .ref _), (2, .ref _), (3, .int _), (4, .int _), (5, .int _), (6, .int _), (7, .int _), (8, .int _), (9, .int _), (11, .ref _), (12, .int _), (13, .int _), (14, .int _), (16, .int _), (17, .int _)] (by show List.Nodup ([0, 1, 2, 3, 4, 5, 6, 7, 8, 9, 11, 12, 13, 14, 16, 17] : List Nat); decide) (by show List.Nodup ([17, 16, 15, 14, 0, 1, 2, 3, 4, 5, 6, 7, 8, 9, 11, 12, 13] : List Nat); decide) (le_cons rfl (le_cons rfl (le_cons rfl (le_cons rfl (le_cons rfl (le_cons rfl (le_cons rfl (le_cons rfl (le_cons rfl (le_cons rfl (le_cons rfl (le_cons rfl (le_cons rfl (le_cons rfl (le_cons rfl (le_cons rfl (le_nil _))))))))))))))))) ?_
            refine go_for (P := fun k => ∀ (g : bw_H) (S : ST) (B2 : AC), (LX 2 75 g S (A2 F T) (bw_up W.1 5 (some l.length), bw_up W.2 5 (fun i => nI (l.getD i 0))) T0 B2 K0 ∧ opT (cc B2) s x = pfin (l.take k) (opT (cc B) s x) ∧ cT B2.1 = cT B.1 + k ∧ cN (cc B2) = cN (cc B)) → bw_go X 12 9 48 false (some .boolean) cL_law 834 [(0, .retAddr 1), (1, .ref (0)), (2, .ref (62)), (3, .int (nI (cN (cc B)))), (4, .int (nI (2 ^ cN (cc B) - 1))), (5, .int (nI (cT B.1))), (6, .int (nI (cD (cc B)))), (7, .int (nI (cW (cc B)))), (8, .int (nI (sho (taC (cc B)) (2 ^ cN (cc B) - 1)))), (9, .int (nI (smN (cR (cc B)) (cN (cc B))))), (11, .ref (76)), (12, .int (nI x)), (13, .int (nI s)), (14, .int (nI l.length)), (16, .int (nI (if k = 0 then 0 else l.getD (k - 1) 0))), (17, .int (nI k))] [] g Q) (N := l.length) (fun k hk K9 => ?_) ?_ (0) (Nat.zero_le _) _ _ _ ⟨hx, rfl, rfl, rfl⟩
            · -- a turn
              intro g S B2 hv
              obtain ⟨hx, h2, h3, h4⟩ := hv
              have hk9 := lx_k hx
              have hv := vsq_at l _ 0 k hvs hk
              rw [← h2] at hv
              have hv1 : l.getD k 0 < cN (cc B) := hv.2.1
              have hbit : s.testBit (l.getD k 0) = true := hv.2.2.1
              have htb : (sho (taC (cc B2)) s).testBit x = true := tb_m hx6 (by rw [h2]; exact hmo k hk)
              have hr9 : cR (cc B2) (l.getD k 0) < 9 := hv.2.2.2
              have hlk : (if k = 0 then 0 else l.getD (k - 1) 0) < 6 := by have := hv.1; omega
              show bw_go _ _ _ _ _ _ _ 834 [(0, .retAddr _), (1, .ref _), (2, .ref _), (3, .int _), (4, .int _), (5, .int _), (6, .int _), (7, .int _), (8, .int _), (9, .int _), (11, .ref _), (12, .int _), (13, .int _), (14, .int _), (16, .int _), (17, .int _)] ([]) _ _
              refine go_iload dL_law_834 rfl ?_
              refine go_iload dL_law_836 rfl ?_
              refine go_icmp_ge (pc' := 917) dL_law_838 rfl (fun c_838 => ?_) (fun c_838 => ?_)
              · -- ge at 838: yes
                exfalso; have t_0 := nI_toInt (n := k) (by omega); have t_1 := nI_toInt (n := l.length) (by omega); simp only [i_le, i_lt, i_eq, bi_eq] at c_838; omega
              · -- ge at 838: no
                show bw_go _ _ _ _ _ _ _ 841 [(0, .retAddr _), (1, .ref _), (2, .ref _), (3, .int _), (4, .int _), (5, .int _), (6, .int _), (7, .int _), (8, .int _), (9, .int _), (11, .ref _), (12, .int _), (13, .int _), (14, .int _), (16, .int _), (17, .int _)] ([]) _ _
                refine go_aload_n dL_law_841 rfl ?_
                refine go_iconst (5) dL_law_842 rfl ?_
                refine go_iload dL_law_843 rfl ?_
                refine go_cv (as := [.int _, .int _]) 4 dL_law_845 mt_9_90 (Or.inl rfl) rfl rfl (lb_lt hx.1) (lb_k hx.1) (Nat.le_of_ble_eq_true rfl) (Nat.le_of_ble_eq_true rfl) (Nat.le_of_ble_eq_true rfl) (Nat.le_of_ble_eq_true rfl) (Nat.le_of_ble_eq_true rfl) ?_
                refine lx_at5 hx (m := l.length) (bw_up_s W.1 5 (some l.length)) hk (by omega) (fun G S' hx hq => ?_)
                show bw_go _ _ _ _ _ _ _ 848 [(0, .retAddr _), (1, .ref _), (2, .ref _), (3, .int _), (4, .int _), (5, .int _), (6, .int _), (7, .int _), (8, .int _), (9, .int _), (11, .ref _), (12, .int _), (13, .int _), (14, .int _), (16, .int _), (17, .int _)] ((.int _) :: []) _ _
                refine go_istore dL_law_848 (Nat.lt_of_lt_of_le (Nat.lt_succ_self _) (Nat.le_of_ble_eq_true rfl)) ?_
                show bw_go _ _ _ _ _ _ _ 850 [(18, .int _), (0, .retAddr _), (1, .ref _), (2, .ref _), (3, .int _), (4, .int _), (5, .int _), (6, .int _), (7, .int _), (8, .int _), (9, .int _), (11, .ref _), (12, .int _), (13, .int _), (14, .int _), (16, .int _), (17, .int _)] ([]) _ _
                refine go_aload_n dL_law_850 rfl ?_
                refine go_cv (as := []) 0 dL_law_851 mt_9_42 (Or.inl rfl) rfl rfl (lb_lt hx.1) (lb_k hx.1) (Nat.le_of_ble_eq_true rfl) (Nat.le_of_ble_eq_true rfl) (Nat.le_of_ble_eq_true rfl) (Nat.le_of_ble_eq_true rfl) (Nat.le_of_ble_eq_true rfl) ?_
                refine lx_asked hx (fun G hx => ?_)
                rw [hq, show ((bw_up W.1 5 (some l.length), bw_up W.2 5 (fun i => nI (l.getD i 0))) : RW).2 5 k = nI (l.getD k 0) from congrFun (bw_up_s W.2 5 (fun i => nI (l.getD i 0))) k]
                show bw_go _ _ _ _ _ _ _ 854 [(18, .int _), (0, .retAddr _), (1, .ref _), (2, .ref _), (3, .int _), (4, .int _), (5, .int _), (6, .int _), (7, .int _), (8, .int _), (9, .int _), (11, .ref _), (12, .int _), (13, .int _), (14, .int _), (16, .int _), (17, .int _)] ((.int _) :: []) _ _
                refine go_istore dL_law_854 (Nat.lt_of_lt_of_le (Nat.lt_succ_self _) (Nat.le_of_ble_eq_true rfl)) ?_
                show bw_go _ _ _ _ _ _ _ 856 [(19, .int _), (18, .int _), (0, .retAddr _), (1, .ref _), (2, .ref _), (3, .int _), (4, .int _), (5, .int _), (6, .int _), (7, .int _), (8, .int _), (9, .int _), (11, .ref _), (12, .int _), (13, .int _), (14, .int _), (16, .int _), (17, .int _)] ([]) _ _
                refine go_iload dL_law_856 rfl ?_
                refine go_iconst (1) dL_law_858 rfl ?_
                refine go_icmp_ne (pc' := 905) dL_law_859 rfl (fun c => absurd c (by decide)) (fun _ => ?_)
                show bw_go _ _ _ _ _ _ _ 862 [(19, .int _), (18, .int _), (0, .retAddr _), (1, .ref _), (2, .ref _), (3, .int _), (4, .int _), (5, .int _), (6, .int _), (7, .int _), (8, .int _), (9, .int _), (11, .ref _), (12, .int _), (13, .int _), (14, .int _), (16, .int _), (17, .int _)] ([]) _ _
                refine go_iload dL_law_862 rfl ?_
                refine go_iload dL_law_864 rfl ?_
                refine go_icmp_lt (pc' := 905) dL_law_866 rfl (fun c_866 => ?_) (fun c_866 => ?_)
                · -- lt at 866: yes
                  exfalso; have t_0 := nI_toInt (n := l.getD k 0) (by omega); have t_1 := nI_toInt (n := if k = 0 then 0 else l.getD (k - 1) 0) (by omega); simp only [i_lt] at c_866; omega
                · -- lt at 866: no
                  show bw_go _ _ _ _ _ _ _ 869 [(19, .int _), (18, .int _), (0, .retAddr _), (1, .ref _), (2, .ref _), (3, .int _), (4, .int _), (5, .int _), (6, .int _), (7, .int _), (8, .int _), (9, .int _), (11, .ref _), (12, .int _), (13, .int _), (14, .int _), (16, .int _), (17, .int _)] ([]) _ _
                  refine go_iload dL_law_869 rfl ?_
                  refine go_iload dL_law_871 rfl ?_
                  refine go_ishr dL_law_873 ?_
                  refine go_iconst (1) dL_law_874 rfl ?_
                  refine go_iand dL_law_875 ?_
                  rw [bit_t _ h64 _ (by omega), hbit, show nI (if true = true then 1 else 0) = 1 from rfl]
                  refine go_iconst (1) dL_law_876 rfl ?_
                  refine go_icmp_ne (pc' := 905) dL_law_877 rfl (fun c => absurd c (by decide)) (fun _ => ?_)
                  show bw_go _ _ _ _ _ _ _ 880 [(19, .int _), (18, .int _), (0, .retAddr _), (1, .ref _), (2, .ref _), (3, .int _), (4, .int _), (5, .int _), (6, .int _), (7, .int _), (8, .int _), (9, .int _), (11, .ref _), (12, .int _), (13, .int _), (14, .int _), (16, .int _), (17, .int _)] ([]) _ _
                  refine go_aload_n dL_law_880 rfl ?_
                  refine go_iload dL_law_881 rfl ?_
                  refine go_cv (as := [.int _]) 4 dL_law_883 mt_9_75 (Or.inl rfl) rfl rfl (lb_lt hx.1) (lb_k hx.1) (Nat.le_of_ble_eq_true rfl) (Nat.le_of_ble_eq_true rfl) (Nat.le_of_ble_eq_true rfl) (Nat.le_of_ble_eq_true rfl) (Nat.le_of_ble_eq_true rfl) ?_
                  refine lx_shown hx (by rw [h4]; exact hs) (by omega) (fun G S' hx _ => ?_)
                  show bw_go _ _ _ _ _ _ _ 886 [(19, .int _), (18, .int _), (0, .retAddr _), (1, .ref _), (2, .ref _), (3, .int _), (4, .int _), (5, .int _), (6, .int _), (7, .int _), (8, .int _), (9, .int _), (11, .ref _), (12, .int _), (13, .int _), (14, .int _), (16, .int _), (17, .int _)] ((.int _) :: []) _ _
                  refine go_iload dL_law_886 rfl ?_
                  refine go_ishr dL_law_888 ?_
                  refine go_iconst (1) dL_law_889 rfl ?_
                  refine go_iand dL_law_890 ?_
                  rw [bit_t _ (sho_lt _ _) x (by omega), htb, show nI (if true = true then 1 else 0) = 1 from rfl]
                  refine go_iconst (1) dL_law_891 rfl ?_
                  refine go_icmp_ne (pc' := 905) dL_law_892 rfl (fun c => absurd c (by decide)) (fun _ => ?_)
                  show bw_go _ _ _ _ _ _ _ 895 [(19, .int _), (18, .int _), (0, .retAddr _), (1, .ref _), (2, .ref _), (3, .int _), (4, .int _), (5, .int _), (6, .int _), (7, .int _), (8, .int _), (9, .int _), (11, .ref _), (12, .int _), (13, .int _), (14, .int _), (16, .int _), (17, .int _)] ([]) _ _
                  refine go_aload_n dL_law_895 rfl ?_
                  refine go_iload dL_law_896 rfl ?_
                  refine go_cv (as := [.int _]) 4 dL_law_898 mt_9_93 (Or.inl rfl) rfl rfl (lb_lt hx.1) (lb_k hx.1) (Nat.le_of_ble_eq_true rfl) (Nat.le_of_ble_eq_true rfl) (Nat.le_of_ble_eq_true rfl) (Nat.le_of_ble_eq_true rfl) (Nat.le_of_ble_eq_true rfl) ?_
                  refine lx_press hx (by omega) (by omega) (fun G S' hx hcb => ?_) (fun G S' hx hcb => ?_)
                  · rw [show cR (cc (acP B2 0 (l.getD k 0))) (l.getD k 0) = cR (cc B2) (l.getD k 0) + 1 from (congrFun (ccP B2 0 (l.getD k 0)).2.2 _).trans (bw_up_s _ _ _)]
                    show bw_go _ _ _ _ _ _ _ 901 [(19, .int _), (18, .int _), (0, .retAddr _), (1, .ref _), (2, .ref _), (3, .int _), (4, .int _), (5, .int _), (6, .int _), (7, .int _), (8, .int _), (9, .int _), (11, .ref _), (12, .int _), (13, .int _), (14, .int _), (16, .int _), (17, .int _)] ((.int _) :: []) _ _
                    refine go_iconst (1) dL_law_901 rfl ?_
                    refine go_icmp_ge (pc' := 907) dL_law_902 rfl (fun c_902 => ?_) (fun c_902 => ?_)
                    · -- ge at 902: yes
                      show bw_go _ _ _ _ _ _ _ 907 [(19, .int _), (18, .int _), (0, .retAddr _), (1, .ref _), (2, .ref _), (3, .int _), (4, .int _), (5, .int _), (6, .int _), (7, .int _), (8, .int _), (9, .int _), (11, .ref _), (12, .int _), (13, .int _), (14, .int _), (16, .int _), (17, .int _)] ([]) _ _
                      refine go_iload dL_law_907 rfl ?_
                      refine go_istore dL_law_909 (Nat.lt_of_lt_of_le (Nat.lt_succ_self _) (Nat.le_of_ble_eq_true rfl)) ?_
                      show bw_go _ _ _ _ _ _ _ 911 [(16, .int _), (19, .int _), (18, .int _), (0, .retAddr _), (1, .ref _), (2, .ref _), (3, .int _), (4, .int _), (5, .int _), (6, .int _), (7, .int _), (8, .int _), (9, .int _), (11, .ref _), (12, .int _), (13, .int _), (14, .int _), (17, .int _)] ([]) _ _
                      refine go_iinc dL_law_911 rfl (nI_1 k) (Nat.lt_of_lt_of_le (Nat.lt_succ_self _) (Nat.le_of_ble_eq_true rfl)) ?_
                      show bw_go _ _ _ _ _ _ _ 914 [(17, .int _), (16, .int _), (19, .int _), (18, .int _), (0, .retAddr _), (1, .ref _), (2, .ref _), (3, .int _), (4, .int _), (5, .int _), (6, .int _), (7, .int _), (8, .int _), (9, .int _), (11, .ref _), (12, .int _), (13, .int _), (14, .int _)] ([]) _ _
                      refine go_goto (pc' := 834) dL_law_914 rfl ?_
                      refine go_ls [(0, .retAddr _), (1, .ref _), (2, .ref _), (3, .int _), (4, .int _), (5, .int _), (6, .int _), (7, .int _), (8, .int _), (9, .int _), (11, .ref _), (12, .int _), (13, .int _), (14, .int _), (16, .int _), (17, .int _)] (by show List.Nodup ([0, 1, 2, 3, 4, 5, 6, 7, 8, 9, 11, 12, 13, 14, 16, 17] : List Nat); decide) (by show List.Nodup ([17, 16, 19, 18, 0, 1, 2, 3, 4, 5, 6, 7, 8, 9, 11, 12, 13, 14] : List Nat); decide) (le_cons rfl (le_cons rfl (le_cons rfl (le_cons rfl (le_cons rfl (le_cons rfl (le_cons rfl (le_cons rfl (le_cons rfl (le_cons rfl (le_cons rfl (le_cons rfl (le_cons rfl (le_cons rfl (le_cons rfl (le_cons rfl (le_nil _))))))))))))))))) ?_
                      have K2 := K9 _ _ (acP B2 0 (l.getD k 0)) ⟨hx, by rw [opP, h2, pfin_s l _ k hk], by show cT B2.1 + 1 = _; omega, h4⟩
                      rw [show (if k + 1 = 0 then 0 else l.getD (k + 1 - 1) 0) = l.getD k 0 from if_neg (by omega)] at K2
                      exact K2
                    · -- ge at 902: no
                      exfalso; have t_0 := nI_toInt (n := cR (cc B2) (l.getD k 0) + 1) (by omega); have l_1 : (1 : Int32).toInt = 1 := rfl; simp only [i_le] at c_902; omega
                  · have h9 : cbe (cc B2) 0 (l.getD k 0) = true := decide_eq_true hv.2.2.2
                    rw [h9] at hcb; cases hcb
            · -- behind the last
              intro g S B2 hv
              obtain ⟨hx, h2, h3, h4⟩ := hv
              have hk9 := lx_k hx
              show bw_go _ _ _ _ _ _ _ 834 [(0, .retAddr _), (1, .ref _), (2, .ref _), (3, .int _), (4, .int _), (5, .int _), (6, .int _), (7, .int _), (8, .int _), (9, .int _), (11, .ref _), (12, .int _), (13, .int _), (14, .int _), (16, .int _), (17, .int _)] ([]) _ _
              refine go_iload dL_law_834 rfl ?_
              refine go_iload dL_law_836 rfl ?_
              refine go_icmp_ge (pc' := 917) dL_law_838 rfl (fun c_838 => ?_) (fun c_838 => ?_)
              · -- ge at 838: yes
                show bw_go _ _ _ _ _ _ _ 917 [(0, .retAddr _), (1, .ref _), (2, .ref _), (3, .int _), (4, .int _), (5, .int _), (6, .int _), (7, .int _), (8, .int _), (9, .int _), (11, .ref _), (12, .int _), (13, .int _), (14, .int _), (16, .int _), (17, .int _)] ([]) _ _
                refine go_iload dL_law_917 rfl ?_
                refine go_if_lt (pc' := 949) dL_law_919 rfl (fun c_919 => ?_) (fun c_919 => ?_)
                · -- lt at 919: yes
                  exfalso; have t_0 := nI_toInt (n := l.length) (by omega); have l_0 := i_0; simp only [i_lt] at c_919; omega
                · -- lt at 919: no
                  refine go_ls [(0, .retAddr _), (1, .ref _), (2, .ref _), (3, .int _), (4, .int _), (5, .int _), (6, .int _), (7, .int _), (8, .int _), (9, .int _), (11, .ref _), (12, .int _), (13, .int _)] (by show List.Nodup ([0, 1, 2, 3, 4, 5, 6, 7, 8, 9, 11, 12, 13] : List Nat); decide) (by show List.Nodup ([0, 1, 2, 3, 4, 5, 6, 7, 8, 9, 11, 12, 13, 14, 16, 17] : List Nat); decide) (le_cons rfl (le_cons rfl (le_cons rfl (le_cons rfl (le_cons rfl (le_cons rfl (le_cons rfl (le_cons rfl (le_cons rfl (le_cons rfl (le_cons rfl (le_cons rfl (le_cons rfl (le_nil _)))))))))))))) ?_
                  exact f922 (W := T0) hx hf hK0 hx6 h4 hs (by rw [h2, List.take_length]; exact hme) K
              · -- ge at 838: no
                exfalso; have t_0 := nI_toInt (n := l.length) (by omega); simp only [i_le, i_lt, i_eq, bi_eq] at c_838; omega
          · -- ne at 805: no
            show bw_go _ _ _ _ _ _ _ 808 [(15, .int _), (14, .int _), (0, .retAddr _), (1, .ref _), (2, .ref _), (3, .int _), (4, .int _), (5, .int _), (6, .int _), (7, .int _), (8, .int _), (9, .int _), (11, .ref _), (12, .int _), (13, .int _)] ([]) _ _
            refine go_iconst (1) dL_law_808 rfl ?_
            refine go_goto (pc' := 813) dL_law_809 rfl ?_
            show bw_go _ _ _ _ _ _ _ 813 [(15, .int _), (14, .int _), (0, .retAddr _), (1, .ref _), (2, .ref _), (3, .int _), (4, .int _), (5, .int _), (6, .int _), (7, .int _), (8, .int _), (9, .int _), (11, .ref _), (12, .int _), (13, .int _)] ((.int _) :: []) _ _
            refine go_iload dL_law_813 rfl ?_
            refine go_if_ne (pc' := 822) dL_law_815 rfl (fun _ => ?_) (fun c => absurd (by decide) c)
            show bw_go _ _ _ _ _ _ _ 822 [(15, .int _), (14, .int _), (0, .retAddr _), (1, .ref _), (2, .ref _), (3, .int _), (4, .int _), (5, .int _), (6, .int _), (7, .int _), (8, .int _), (9, .int _), (11, .ref _), (12, .int _), (13, .int _)] ((.int _) :: []) _ _
            refine go_iconst (0) dL_law_822 rfl ?_
            refine go_icmp_eq (pc' := 828) dL_law_823 rfl (fun c => absurd c (by decide)) (fun _ => ?_)
            exfalso; have t_0 := nI_toInt (n := l.length) (by omega); have l_9 : (-9 : Int32).toInt = -9 := rfl; have l_4 : (4 : Int32).toInt = 4 := rfl; have l_0 := i_0; have z := congrArg Int32.toInt (Decidable.of_not_not c_805); omega
set_option maxRecDepth 100000 in
set_option maxHeartbeats 4000000 in
theorem law_F {X : Nat × (Nat → Int32)} {Q : Option Value → bw_H → Prop} {h : bw_H} {S : ST} {W T0 : RW} {B : AC} {K0 : Nat → Option AC} {F T : Nat → Int32} (hx : LX 2 75 h S (A2 F T) W T0 B K0) (hf : LF F B) (hK0 : K0 0 = some B) (hL : X.1 ≤ 260) (K : ∀ G S' W' x, x < 6 → LX 2 75 G S' (A2 F T) W' T0 B K0 → bw_go X 12 9 48 false (some .boolean) cL_law 961 [(0, .retAddr 1), (1, .ref (0)), (2, .ref (62)), (3, .int (nI (cN (cc B)))), (4, .int (nI (2 ^ cN (cc B) - 1))), (5, .int (nI (cT B.1))), (6, .int (nI (cD (cc B)))), (7, .int (nI (cW (cc B)))), (8, .int (nI (sho (taC (cc B)) (2 ^ cN (cc B) - 1)))), (9, .int (nI (smN (cR (cc B)) (cN (cc B))))), (11, .ref (76)), (12, .int (nI x))] [] G Q) : bw_go X 12 9 48 false (some .boolean) cL_law 718 [(0, .retAddr 1), (1, .ref (0)), (2, .ref (62)), (3, .int (nI (cN (cc B)))), (4, .int (nI (2 ^ cN (cc B) - 1))), (5, .int (nI (cT B.1))), (6, .int (nI (cD (cc B)))), (7, .int (nI (cW (cc B)))), (8, .int (nI (sho (taC (cc B)) (2 ^ cN (cc B) - 1)))), (9, .int (nI (smN (cR (cc B)) (cN (cc B))))), (11, .ref (76))] [] h Q := by
  have hk := lx_k hx
  have hN := hk.1
  have hp := p2N hN
  have hp1 : 1 ≤ 2 ^ cN (cc B) := Nat.one_le_two_pow
  have hn1 := hf.1.2.1
  show bw_go _ _ _ _ _ _ _ 718 [(0, .retAddr _), (1, .ref _), (2, .ref _), (3, .int _), (4, .int _), (5, .int _), (6, .int _), (7, .int _), (8, .int _), (9, .int _), (11, .ref _)] ([]) _ _
  refine go_aloadA_n dL_law_718 rfl ?_
  refine go_bipush (9) dL_law_719 rfl ?_
  refine go_cs (as := [.retAddr _, .int _]) 0 dL_law_721 rfl rfl mt_9_9 (Nat.le_of_ble_eq_true rfl) rfl rfl (Nat.le_of_ble_eq_true rfl) (Nat.le_of_ble_eq_true rfl) (Nat.le_of_ble_eq_true rfl) (Nat.le_of_ble_eq_true rfl) ?_
  refine me_L_cell (k := 9) hL (by decide) ?_
  show bw_go _ _ _ _ _ _ _ 724 [(0, .retAddr _), (1, .ref _), (2, .ref _), (3, .int _), (4, .int _), (5, .int _), (6, .int _), (7, .int _), (8, .int _), (9, .int _), (11, .ref _)] ((.int _) :: []) _ _
  refine go_bipush (6) dL_law_724 rfl ?_
  refine go_cs (as := [.int _, .int _]) 0 dL_law_726 rfl rfl mt_9_15 (Nat.le_of_ble_eq_true rfl) rfl rfl (Nat.le_of_ble_eq_true rfl) (Nat.le_of_ble_eq_true rfl) (Nat.le_of_ble_eq_true rfl) (Nat.le_of_ble_eq_true rfl) ?_
  refine me_L_up (n := 6) (by decide) (by decide) ?_
  show bw_go _ _ _ _ _ _ _ 729 [(0, .retAddr _), (1, .ref _), (2, .ref _), (3, .int _), (4, .int _), (5, .int _), (6, .int _), (7, .int _), (8, .int _), (9, .int _), (11, .ref _)] ((.int _) :: []) _ _
  refine go_istore dL_law_729 (Nat.lt_of_lt_of_le (Nat.lt_succ_self _) (Nat.le_of_ble_eq_true rfl)) ?_
  show bw_go _ _ _ _ _ _ _ 731 [(12, .int _), (0, .retAddr _), (1, .ref _), (2, .ref _), (3, .int _), (4, .int _), (5, .int _), (6, .int _), (7, .int _), (8, .int _), (9, .int _), (11, .ref _)] ([]) _ _
  refine go_aloadA_n dL_law_731 rfl ?_
  refine go_bipush (10) dL_law_732 rfl ?_
  refine go_cs (as := [.retAddr _, .int _]) 0 dL_law_734 rfl rfl mt_9_9 (Nat.le_of_ble_eq_true rfl) rfl rfl (Nat.le_of_ble_eq_true rfl) (Nat.le_of_ble_eq_true rfl) (Nat.le_of_ble_eq_true rfl) (Nat.le_of_ble_eq_true rfl) ?_
  refine me_L_cell (k := 10) hL (by decide) ?_
  show bw_go _ _ _ _ _ _ _ 737 [(12, .int _), (0, .retAddr _), (1, .ref _), (2, .ref _), (3, .int _), (4, .int _), (5, .int _), (6, .int _), (7, .int _), (8, .int _), (9, .int _), (11, .ref _)] ((.int _) :: []) _ _
  refine go_iconst (1) dL_law_737 rfl ?_
  refine go_iload_n dL_law_738 rfl ?_
  refine go_ishl dL_law_739 ?_
  rw [sh_t _ (by omega)]
  refine go_cs (as := [.int _, .int _]) 0 dL_law_740 rfl rfl mt_9_15 (Nat.le_of_ble_eq_true rfl) rfl rfl (Nat.le_of_ble_eq_true rfl) (Nat.le_of_ble_eq_true rfl) (Nat.le_of_ble_eq_true rfl) (Nat.le_of_ble_eq_true rfl) ?_
  refine me_L_up (n := 2 ^ cN (cc B)) (by omega) (by omega) ?_
  show bw_go _ _ _ _ _ _ _ 743 [(12, .int _), (0, .retAddr _), (1, .ref _), (2, .ref _), (3, .int _), (4, .int _), (5, .int _), (6, .int _), (7, .int _), (8, .int _), (9, .int _), (11, .ref _)] ((.int _) :: []) _ _
  refine go_istore dL_law_743 (Nat.lt_of_lt_of_le (Nat.lt_succ_self _) (Nat.le_of_ble_eq_true rfl)) ?_
  show bw_go _ _ _ _ _ _ _ 745 [(13, .int _), (12, .int _), (0, .retAddr _), (1, .ref _), (2, .ref _), (3, .int _), (4, .int _), (5, .int _), (6, .int _), (7, .int _), (8, .int _), (9, .int _), (11, .ref _)] ([]) _ _
  refine go_ls [(0, .retAddr _), (1, .ref _), (2, .ref _), (3, .int _), (4, .int _), (5, .int _), (6, .int _), (7, .int _), (8, .int _), (9, .int _), (11, .ref _), (12, .int _), (13, .int _)] (by show List.Nodup ([0, 1, 2, 3, 4, 5, 6, 7, 8, 9, 11, 12, 13] : List Nat); decide) (by show List.Nodup ([13, 12, 0, 1, 2, 3, 4, 5, 6, 7, 8, 9, 11] : List Nat); decide) (le_cons rfl (le_cons rfl (le_cons rfl (le_cons rfl (le_cons rfl (le_cons rfl (le_cons rfl (le_cons rfl (le_cons rfl (le_cons rfl (le_cons rfl (le_cons rfl (le_cons rfl (le_nil _)))))))))))))) ?_
  generalize hxe : upn (clx X 9) 6 = x
  have hx6 : x < 6 := by rw [← hxe]; exact upn_lt (by decide)
  generalize hse : upn (clx X 10) (2 ^ cN (cc B)) = s
  have hs : s < 2 ^ cN (cc B) := by rw [← hse]; exact upn_lt (by omega)
  refine go_aload_n dL_law_745 rfl ?_
  refine go_iload dL_law_746 rfl ?_
  refine go_iload dL_law_748 rfl ?_
  refine go_iconst (5) dL_law_750 rfl ?_
  refine go_cv (as := [.int _, .int _, .int _]) 9 dL_law_751 mt_9_87 (Or.inl rfl) rfl rfl (lb_lt hx.1) (lb_k hx.1) (Nat.le_of_ble_eq_true rfl) (Nat.le_of_ble_eq_true rfl) (Nat.le_of_ble_eq_true rfl) (Nat.le_of_ble_eq_true rfl) (Nat.le_of_ble_eq_true rfl) ?_
  refine lx_shake hx hx6 hs (by omega) (fun G S' hx e => ?_) (fun G S' l hx e => ?_)
  · exact f754_n hx hf hK0 hx6 hs (tb_m hx6 (fpr_none e)) K
  · obtain ⟨f1, f2, f3, f4⟩ := fpr_some e
    rcases Nat.eq_zero_or_pos l.length with h0 | h0
    · obtain rfl := List.length_eq_zero_iff.mp h0
      exact f754_0 hx hf hK0 hx6 hs f3 K
    · exact f754_l hx hf hK0 hx6 hs h0 f1 f2 f3 f4 K
