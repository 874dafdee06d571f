/-! the law: its beginning -/
theorem lb_keep {X : Nat × (Nat → Int32)} {Q : Option Value → bw_H → Prop} {H : bw_H} {S : ST} {A : LY} (hl : LB 1 62 H S A) (h0 : 0 < cN (nowC S)) (hQ : ∀ G, LB 1 75 G (wK S (bw_up (sK S) 0 (some (sA S)))) A → Q (some (.int (nI (cT (sA S).1)))) G) : bw_me X 3 bm_X7_keep false [.ref 0, .int 0] H Q := by
  obtain ⟨ho, ⟨h, E, s0, rfl, hx, hc⟩, ha⟩ := hl
  have ey : yKeep 0 S = (nI (cT (sA S).1), wK S (bw_up (sK S) 0 (some (sA S)))) := by
    unfold yKeep
    rw [if_pos (by decide), if_neg (by omega)]
    rfl
  refine me_fr (σ := pS) (τ := pT) (as := [.ref 0, .int 0]) fp_keep (Nat.le_of_eq hc.symm) (me_X7_keep hx (fun g hg hf => ?_))
  rw [ey] at hg
  have hg : XR g (wK S (bw_up (sK S) 0 (some (sA S)))) := hg
  have h75 : bw_n g = 75 := by
    rcases hg.2.2.2.2.1.1 0 (by decide) with ⟨_, e⟩ | ⟨q, _, q2, q3, _⟩
    · have e2 : bw_up (sK S) 0 (some (sA S)) 0 = none := e
      rw [bw_up_s] at e2
      cases e2
    · rcases hf with hf | hf <;> omega
  refine ⟨by omega, ?_⟩
  rw [ey]
  refine hQ _ ⟨Or.inr ⟨rfl, by decide, by decide⟩, ⟨g, E, s0, rfl, hg, h75⟩, fun q N F hq => ?_⟩
  obtain ⟨a1, a2, a3, a4⟩ := ha q N F hq
  refine ⟨a1, ?_, (fh_o a1).1.trans ((fh_o a1).1.symm.trans a3), (fh_o a1).2.trans ((fh_o a1).2.symm.trans a4)⟩
  show q < bw_n g + 1
  have a2 : q < bw_n h + 1 := a2
  omega
theorem ltk_f (s : Nat) (A : AC) : ∀ k, cN (ltk s A k).2.1 = cN A.1 ∧ cD (ltk s A k).2.1 = cD A.1 ∧ cK (ltk s A k).2.1 = cK A.1 ∧ cV (ltk s A k).2.1 = cV A.1 ∧ cT (ltk s A k).2.1 = cT A.1 + k := by
  intro k
  induction k with
  | zero => exact ⟨rfl, rfl, rfl, rfl, rfl⟩
  | succ k ih =>
    obtain ⟨h1, h2, h3, h4, h5⟩ := ih
    exact ⟨h1, h2, h3, h4, by show cT (ltk s A k).2.1 + 1 = _; omega⟩
theorem eLots {S : ST} {m s : Nat} (hm1 : 1 ≤ m) (hm : m ≤ 20) (hs1 : 1 ≤ s) (hs : s ≤ 2147483646) (h0 : 0 < cN (nowC S)) (h40 : cT (sA S).1 + m ≤ 40) : yLots (nI m) (nI s) S = (nI (bc (sho (taC (cc (ltk s (sA S) m).2)) (2 ^ cN (cc (ltk s (sA S) m).2) - 1))), wA S (ltk s (sA S) m).2) := by
  have t_0 := nI_toInt (n := m) (by omega)
  have t_1 := nI_toInt (n := s) (by omega)
  unfold yLots
  rw [if_pos ⟨by omega, by omega, by omega, by omega⟩, if_neg (by omega), rn_n (by omega), show rn (nI s) = s from nI_clamp (by omega), if_neg (by omega)]
  rfl
def LF (F : Nat → Int32) (B : AC) : Prop := rok F (cN (cc B)) (cD (cc B)) ∧ cT B.1 ≤ 9 ∧ ∀ i, i < cN (cc B) → cK (cc B) i = kF F i ∧ cV (cc B) i = vF F i
def TF (F : Nat → Int32) (n d : Nat) : RW := (Sx S00 (3 + 6 * n) (tn F d n)).2.1
def K1 (B : AC) : Nat → Option AC := bw_up (fun _ => none) 0 (some B)
def A2 (F T : Nat → Int32) : LY := bw_up (AR (fun _ => none) F) 76 (some (6, T))
set_option maxRecDepth 100000 in
set_option maxHeartbeats 4000000 in
theorem law_AB {X : Nat × (Nat → Int32)} {Q : Option Value → bw_H → Prop} {h : bw_H} (hn0 : bw_n h = 0) (hcl : cl h) (hL : X.1 ≤ 260) (K : ∀ G S F B, LX 2 75 G S (A2 F (fun _ => 0)) S00.1 (TF F (cN (cc B)) (cD (cc B))) B (K1 B) → LF F B → bw_go X 12 9 48 false (some .boolean) cL_law 142 [(0, .retAddr 1), (1, .ref (0)), (2, .ref (62)), (3, .int (nI (cN (cc B)))), (4, .int (nI (2 ^ cN (cc B) - 1))), (5, .int (nI (cT B.1))), (6, .int (nI (cD (cc B)))), (7, .int (nI (cW (cc B)))), (8, .int (nI (sho (taC (cc B)) (2 ^ cN (cc B) - 1)))), (9, .int (nI (smN (cR (cc B)) (cN (cc B))))), (10, .int (0)), (11, .ref (76)), (12, .int (0))] [] G Q) : bw_go X 12 9 48 false (some .boolean) cL_law 0 [(0, .retAddr 1)] [] h Q := by
  show bw_go _ _ _ _ _ _ _ 0 [(0, .retAddr _)] ([]) _ _
  refine go_new dL_law_0 (c := 7) rfl (Nat.le_of_ble_eq_true rfl) ?_
  rw [hn0]
  refine go_dupA dL_law_3 ?_
  refine go_ci (as := []) 2 dL_law_4 rfl mt_9_46 (Or.inl rfl) rfl rfl rfl rfl (Nat.le_of_ble_eq_true rfl) (Nat.le_of_ble_eq_true rfl) (Nat.le_of_ble_eq_true rfl) (Nat.le_of_ble_eq_true rfl) ?_
  refine me_cl (cl_nw hcl _ _) ⟨by show 0 < bw_n h + 1; omega, trivial⟩ ?_
  refine me_X7_init (h := bw_nw h (.inl 7) (bw_N 7)) (by show bw_n h + 1 = 1; omega) (by have z := nwk_ h (.inl 7) (bw_N 7); rw [hn0] at z; exact z) (fun g hn hXR hcg => ?_)
  show bw_go _ _ _ _ _ _ _ 7 [(0, .retAddr _)] ((.ref _) :: []) _ _
  refine go_astore_n dL_law_7 (Nat.lt_of_lt_of_le (Nat.lt_succ_self _) (Nat.le_of_ble_eq_true rfl)) ?_
  show bw_go _ _ _ _ _ _ _ 8 [(1, .ref _), (0, .retAddr _)] ([]) _ _
  refine go_bipush (28) dL_law_8 rfl ?_
  refine go_naI dL_law_10 (by decide) ?_
  rw [show (28 : Int32).toNatClampNeg = 28 from rfl, hn]
  have hl : LB 1 62 (bw_nw g (.inr (.int, 28)) 28) S00 (AR (fun _ => none) (fun _ => 0)) := lb_0 hn hcg (hXR g (by omega) (fun q _ => sm4_r _ _))
  refine go_lb hl (fun H hl => ?_)
  refine go_astore_n dL_law_12 (Nat.lt_of_lt_of_le (Nat.lt_succ_self _) (Nat.le_of_ble_eq_true rfl)) ?_
  show bw_go _ _ _ _ _ _ _ 13 [(2, .ref _), (1, .ref _), (0, .retAddr _)] ([]) _ _
  refine go_aloadA_n dL_law_13 rfl ?_
  refine go_aload_n dL_law_14 rfl ?_
  refine go_cs (as := [.retAddr _, .ref _]) 1 dL_law_15 rfl rfl mt_9_47 (Nat.le_of_ble_eq_true rfl) rfl rfl (Nat.le_of_ble_eq_true rfl) (Nat.le_of_ble_eq_true rfl) (Nat.le_of_ble_eq_true rfl) (Nat.le_of_ble_eq_true rfl) ?_
  refine me_L_lay hl hL (fun G F n d hl hr => ?_)
  show bw_go _ _ _ _ _ _ _ 18 [(2, .ref _), (1, .ref _), (0, .retAddr _)] ([]) _ _
  refine go_aload_n dL_law_18 rfl ?_
  refine go_aload_n dL_law_19 rfl ?_
  refine go_cs (as := [.ref _, .ref _]) 7 dL_law_20 rfl rfl mt_9_51 (Nat.le_of_ble_eq_true rfl) rfl rfl (Nat.le_of_ble_eq_true rfl) (Nat.le_of_ble_eq_true rfl) (Nat.le_of_ble_eq_true rfl) (Nat.le_of_ble_eq_true rfl) ?_
  refine me_L_made hl hr (fun G hl => ?_)
  show bw_go _ _ _ _ _ _ _ 23 [(2, .ref _), (1, .ref _), (0, .retAddr _)] ((.int _) :: []) _ _
  refine go_if_ne (pc' := 28) dL_law_23 rfl (fun _ => ?_) (fun c => absurd (by decide) c)
  show bw_go _ _ _ _ _ _ _ 28 [(2, .ref _), (1, .ref _), (0, .retAddr _)] ([]) _ _
  refine go_aload_n dL_law_28 rfl ?_
  refine go_iconst (0) dL_law_29 rfl ?_
  refine go_ia dL_law_30 (lb_a hl (AR_e _ _)).2.1 (lb_a hl (AR_e _ _)).1 (by decide) ?_
  rw [show (0 : Int32).toNatClampNeg = 0 from rfl, (lb_a hl (AR_e _ _)).2.2, hr.1]
  refine go_istore_n dL_law_31 (Nat.lt_of_lt_of_le (Nat.lt_succ_self _) (Nat.le_of_ble_eq_true rfl)) ?_
  show bw_go _ _ _ _ _ _ _ 32 [(3, .int _), (2, .ref _), (1, .ref _), (0, .retAddr _)] ([]) _ _
  refine go_iconst (1) dL_law_32 rfl ?_
  refine go_iload_n dL_law_33 rfl ?_
  refine go_ishl dL_law_34 ?_
  refine go_iconst (1) dL_law_35 rfl ?_
  refine go_isub dL_law_36 ?_
  rw [all_t _ (by have := hr.2.2.1; omega)]
  refine go_istore dL_law_37 (Nat.lt_of_lt_of_le (Nat.lt_succ_self _) (Nat.le_of_ble_eq_true rfl)) ?_
  show bw_go _ _ _ _ _ _ _ 39 [(4, .int _), (3, .int _), (2, .ref _), (1, .ref _), (0, .retAddr _)] ([]) _ _
  refine go_aload_n dL_law_39 rfl ?_
  refine go_iconst (1) dL_law_40 rfl ?_
  refine go_aloadA_n dL_law_41 rfl ?_
  refine go_bipush (7) dL_law_42 rfl ?_
  refine go_cs (as := [.retAddr _, .int _]) 0 dL_law_44 rfl rfl mt_9_9 (Nat.le_of_ble_eq_true rfl) rfl rfl (Nat.le_of_ble_eq_true rfl) (Nat.le_of_ble_eq_true rfl) (Nat.le_of_ble_eq_true rfl) (Nat.le_of_ble_eq_true rfl) ?_
  refine me_L_cell (k := 7) hL (by decide) ?_
  show bw_go _ _ _ _ _ _ _ 47 [(4, .int _), (3, .int _), (2, .ref _), (1, .ref _), (0, .retAddr _)] ((.int _) :: (.int _) :: (.ref _) :: []) _ _
  refine go_bipush (9) dL_law_47 rfl ?_
  refine go_cs (as := [.int _, .int _]) 0 dL_law_49 rfl rfl mt_9_15 (Nat.le_of_ble_eq_true rfl) rfl rfl (Nat.le_of_ble_eq_true rfl) (Nat.le_of_ble_eq_true rfl) (Nat.le_of_ble_eq_true rfl) (Nat.le_of_ble_eq_true rfl) ?_
  refine me_L_up (n := 9) (by decide) (by decide) ?_
  show bw_go _ _ _ _ _ _ _ 52 [(4, .int _), (3, .int _), (2, .ref _), (1, .ref _), (0, .retAddr _)] ((.int _) :: (.int _) :: (.ref _) :: []) _ _
  refine go_iadd dL_law_52 ?_
  rw [show (1 : Int32) = nI 1 from rfl, nI_add]
  refine go_iconst (1) dL_law_53 rfl ?_
  refine go_aloadA_n dL_law_54 rfl ?_
  refine go_bipush (8) dL_law_55 rfl ?_
  refine go_cs (as := [.retAddr _, .int _]) 0 dL_law_57 rfl rfl mt_9_9 (Nat.le_of_ble_eq_true rfl) rfl rfl (Nat.le_of_ble_eq_true rfl) (Nat.le_of_ble_eq_true rfl) (Nat.le_of_ble_eq_true rfl) (Nat.le_of_ble_eq_true rfl) ?_
  refine me_L_cell (k := 8) hL (by decide) ?_
  show bw_go _ _ _ _ _ _ _ 60 [(4, .int _), (3, .int _), (2, .ref _), (1, .ref _), (0, .retAddr _)] ((.int _) :: (.int _) :: (.int _) :: (.ref _) :: []) _ _
  refine go_ldc dL_law_60 kc_9_55 ?_
  refine go_cs (as := [.int _, .int _]) 0 dL_law_62 rfl rfl mt_9_15 (Nat.le_of_ble_eq_true rfl) rfl rfl (Nat.le_of_ble_eq_true rfl) (Nat.le_of_ble_eq_true rfl) (Nat.le_of_ble_eq_true rfl) (Nat.le_of_ble_eq_true rfl) ?_
  refine me_L_up (n := 2000000) (by decide) (by decide) ?_
  show bw_go _ _ _ _ _ _ _ 65 [(4, .int _), (3, .int _), (2, .ref _), (1, .ref _), (0, .retAddr _)] ((.int _) :: (.int _) :: (.int _) :: (.ref _) :: []) _ _
  refine go_iadd dL_law_65 ?_
  rw [show (1 : Int32) = nI 1 from rfl, nI_add]
  refine go_cv (as := [.int _, .int _]) 5 dL_law_66 mt_9_56 (Or.inl rfl) rfl rfl (lb_lt hl) (lb_k hl) (Nat.le_of_ble_eq_true rfl) (Nat.le_of_ble_eq_true rfl) (Nat.le_of_ble_eq_true rfl) (Nat.le_of_ble_eq_true rfl) (Nat.le_of_ble_eq_true rfl) ?_
  have hN0 : 0 < cN (nowC (mkS S00 F n d)) := by show 0 < cN (Cs F d n); rw [(Cs_f F d n).1]; exact hr.2.1
  refine lb_me hl (fun h Q hx hq => me_X7_lots hx hq) (fun _ => rfl) (fun _ => rfl) (fun G hl => ?_)
  have u1 := upn_lt (v := clx X 7) (n := 9) (by decide)
  have u2 := upn_lt (v := clx X 8) (n := 2000000) (by decide)
  generalize hm : 1 + upn (clx X 7) 9 = mm at hl ⊢
  generalize hs : 1 + upn (clx X 8) 2000000 = ss at hl ⊢
  have ct0 : cT (sA (mkS S00 F n d)).1 = 0 := (Cs_f F d n).2.2.2.1
  rw [eLots (by omega) (by omega) (by omega) (by omega) hN0 (by rw [ct0]; omega)] at hl ⊢
  obtain ⟨l1, l2, l3, l4, l5⟩ := ltk_f ss (sA (mkS S00 F n d)) mm
  generalize hB : (ltk ss (sA (mkS S00 F n d)) mm).2 = B at hl l1 l2 l3 l4 l5 ⊢
  obtain ⟨e1, e2, e3, e4, e5⟩ := Cs_f F d n
  have eN : cN (cc B) = n := l1.trans e1
  have eD : cD (cc B) = d := l2.trans e2
  subst eN
  subst eD
  have hf : LF F B := ⟨hr, by rw [l5, ct0]; omega, fun i hi => ⟨(congrFun l3 i).trans (e5 i hi).1, (congrFun l4 i).trans (e5 i hi).2.2.2⟩⟩
  have hx : LX 1 62 G (wA (mkS S00 F (cN (cc B)) (cD (cc B))) B) (AR (fun _ => none) F) S00.1 (TF F (cN (cc B)) (cD (cc B))) B (fun _ => none) := ⟨hl, rfl, rfl, rfl, rfl⟩
  show bw_go _ _ _ _ _ _ _ 69 [(4, .int _), (3, .int _), (2, .ref _), (1, .ref _), (0, .retAddr _)] ((.int _) :: []) _ _
  refine go_aload_n dL_law_69 rfl ?_
  refine go_iconst (4) dL_law_70 rfl ?_
  refine go_cv (as := [.int _]) 5 dL_law_71 mt_9_59 (Or.inl rfl) rfl rfl (lb_lt hx.1) (lb_k hx.1) (Nat.le_of_ble_eq_true rfl) (Nat.le_of_ble_eq_true rfl) (Nat.le_of_ble_eq_true rfl) (Nat.le_of_ble_eq_true rfl) (Nat.le_of_ble_eq_true rfl) ?_
  refine lx_count4 hx (fun G hx => ?_)
  show bw_go _ _ _ _ _ _ _ 74 [(4, .int _), (3, .int _), (2, .ref _), (1, .ref _), (0, .retAddr _)] ((.int _) :: (.int _) :: []) _ _
  refine go_cs (as := [.int _]) 0 dL_law_74 rfl rfl mt_9_62 (Nat.le_of_ble_eq_true rfl) rfl rfl (Nat.le_of_ble_eq_true rfl) (Nat.le_of_ble_eq_true rfl) (Nat.le_of_ble_eq_true rfl) (Nat.le_of_ble_eq_true rfl) ?_
  refine me_L_bits (sho_lt _ _) ?_
  show bw_go _ _ _ _ _ _ _ 77 [(4, .int _), (3, .int _), (2, .ref _), (1, .ref _), (0, .retAddr _)] ((.int _) :: (.int _) :: []) _ _
  refine go_icmp_ne (pc' := 93) dL_law_77 rfl (fun c_77 => ?_) (fun c_77 => ?_)
  · -- ne at 77: yes
    exact absurd rfl c_77
  · -- ne at 77: no
    show bw_go _ _ _ _ _ _ _ 80 [(4, .int _), (3, .int _), (2, .ref _), (1, .ref _), (0, .retAddr _)] ([]) _ _
    refine go_aload_n dL_law_80 rfl ?_
    refine go_iconst (0) dL_law_81 rfl ?_
    refine go_cv (as := [.int _]) 3 dL_law_82 mt_9_65 (Or.inl rfl) rfl rfl (lb_lt hx.1) (lb_k hx.1) (Nat.le_of_ble_eq_true rfl) (Nat.le_of_ble_eq_true rfl) (Nat.le_of_ble_eq_true rfl) (Nat.le_of_ble_eq_true rfl) (Nat.le_of_ble_eq_true rfl) ?_
    have hN1 : 0 < cN (cc B) := hf.1.2.1
    refine lb_keep hx.1 hN1 (fun G hl => ?_)
    generalize hS1 : wK (wA (mkS S00 F (cN (cc B)) (cD (cc B))) B) (bw_up (sK (wA (mkS S00 F (cN (cc B)) (cD (cc B))) B)) 0 (some (sA (wA (mkS S00 F (cN (cc B)) (cD (cc B))) B)))) = S1 at hl
    have hx : LX 1 75 G S1 (AR (fun _ => none) F) S00.1 (TF F (cN (cc B)) (cD (cc B))) B (K1 B) := ⟨hl, by rw [← hS1]; rfl, by rw [← hS1]; rfl, by rw [← hS1]; rfl, by rw [← hS1]; rfl⟩
    show bw_go _ _ _ _ _ _ _ 85 [(4, .int _), (3, .int _), (2, .ref _), (1, .ref _), (0, .retAddr _)] ((.int _) :: []) _ _
    refine go_aload_n dL_law_85 rfl ?_
    refine go_iconst (2) dL_law_86 rfl ?_
    refine go_cv (as := [.int _]) 5 dL_law_87 mt_9_59 (Or.inl rfl) rfl rfl (lb_lt hx.1) (lb_k hx.1) (Nat.le_of_ble_eq_true rfl) (Nat.le_of_ble_eq_true rfl) (Nat.le_of_ble_eq_true rfl) (Nat.le_of_ble_eq_true rfl) (Nat.le_of_ble_eq_true rfl) ?_
    refine lx_count2 hx (fun G hx => ?_)
    show bw_go _ _ _ _ _ _ _ 90 [(4, .int _), (3, .int _), (2, .ref _), (1, .ref _), (0, .retAddr _)] ((.int _) :: (.int _) :: []) _ _
    skip
    refine go_icmp_eq (pc' := 95) dL_law_90 rfl (fun c_90 => ?_) (fun c_90 => ?_)
    · -- eq at 90: yes
      show bw_go _ _ _ _ _ _ _ 95 [(4, .int _), (3, .int _), (2, .ref _), (1, .ref _), (0, .retAddr _)] ([]) _ _
      refine go_aload_n dL_law_95 rfl ?_
      refine go_iconst (2) dL_law_96 rfl ?_
      refine go_cv (as := [.int _]) 5 dL_law_97 mt_9_59 (Or.inl rfl) rfl rfl (lb_lt hx.1) (lb_k hx.1) (Nat.le_of_ble_eq_true rfl) (Nat.le_of_ble_eq_true rfl) (Nat.le_of_ble_eq_true rfl) (Nat.le_of_ble_eq_true rfl) (Nat.le_of_ble_eq_true rfl) ?_
      refine lx_count2 hx (fun G hx => ?_)
      show bw_go _ _ _ _ _ _ _ 100 [(4, .int _), (3, .int _), (2, .ref _), (1, .ref _), (0, .retAddr _)] ((.int _) :: []) _ _
      refine go_istore dL_law_100 (Nat.lt_of_lt_of_le (Nat.lt_succ_self _) (Nat.le_of_ble_eq_true rfl)) ?_
      show bw_go _ _ _ _ _ _ _ 102 [(5, .int _), (4, .int _), (3, .int _), (2, .ref _), (1, .ref _), (0, .retAddr _)] ([]) _ _
      refine go_aload_n dL_law_102 rfl ?_
      refine go_iconst (1) dL_law_103 rfl ?_
      refine go_cv (as := [.int _]) 5 dL_law_104 mt_9_59 (Or.inl rfl) rfl rfl (lb_lt hx.1) (lb_k hx.1) (Nat.le_of_ble_eq_true rfl) (Nat.le_of_ble_eq_true rfl) (Nat.le_of_ble_eq_true rfl) (Nat.le_of_ble_eq_true rfl) (Nat.le_of_ble_eq_true rfl) ?_
      refine lx_count1 hx (fun G hx => ?_)
      show bw_go _ _ _ _ _ _ _ 107 [(5, .int _), (4, .int _), (3, .int _), (2, .ref _), (1, .ref _), (0, .retAddr _)] ((.int _) :: []) _ _
      refine go_istore dL_law_107 (Nat.lt_of_lt_of_le (Nat.lt_succ_self _) (Nat.le_of_ble_eq_true rfl)) ?_
      show bw_go _ _ _ _ _ _ _ 109 [(6, .int _), (5, .int _), (4, .int _), (3, .int _), (2, .ref _), (1, .ref _), (0, .retAddr _)] ([]) _ _
      refine go_aload_n dL_law_109 rfl ?_
      refine go_iconst (3) dL_law_110 rfl ?_
      refine go_cv (as := [.int _]) 5 dL_law_111 mt_9_59 (Or.inl rfl) rfl rfl (lb_lt hx.1) (lb_k hx.1) (Nat.le_of_ble_eq_true rfl) (Nat.le_of_ble_eq_true rfl) (Nat.le_of_ble_eq_true rfl) (Nat.le_of_ble_eq_true rfl) (Nat.le_of_ble_eq_true rfl) ?_
      refine lx_count3 hx (fun G hx => ?_)
      show bw_go _ _ _ _ _ _ _ 114 [(6, .int _), (5, .int _), (4, .int _), (3, .int _), (2, .ref _), (1, .ref _), (0, .retAddr _)] ((.int _) :: []) _ _
      refine go_istore dL_law_114 (Nat.lt_of_lt_of_le (Nat.lt_succ_self _) (Nat.le_of_ble_eq_true rfl)) ?_
      show bw_go _ _ _ _ _ _ _ 116 [(7, .int _), (6, .int _), (5, .int _), (4, .int _), (3, .int _), (2, .ref _), (1, .ref _), (0, .retAddr _)] ([]) _ _
      refine go_aload_n dL_law_116 rfl ?_
      refine go_iconst (4) dL_law_117 rfl ?_
      refine go_cv (as := [.int _]) 5 dL_law_118 mt_9_59 (Or.inl rfl) rfl rfl (lb_lt hx.1) (lb_k hx.1) (Nat.le_of_ble_eq_true rfl) (Nat.le_of_ble_eq_true rfl) (Nat.le_of_ble_eq_true rfl) (Nat.le_of_ble_eq_true rfl) (Nat.le_of_ble_eq_true rfl) ?_
      refine lx_count4 hx (fun G hx => ?_)
      show bw_go _ _ _ _ _ _ _ 121 [(7, .int _), (6, .int _), (5, .int _), (4, .int _), (3, .int _), (2, .ref _), (1, .ref _), (0, .retAddr _)] ((.int _) :: []) _ _
      refine go_istore dL_law_121 (Nat.lt_of_lt_of_le (Nat.lt_succ_self _) (Nat.le_of_ble_eq_true rfl)) ?_
      show bw_go _ _ _ _ _ _ _ 123 [(8, .int _), (7, .int _), (6, .int _), (5, .int _), (4, .int _), (3, .int _), (2, .ref _), (1, .ref _), (0, .retAddr _)] ([]) _ _
      refine go_aload_n dL_law_123 rfl ?_
      refine go_iconst (5) dL_law_124 rfl ?_
      refine go_cv (as := [.int _]) 5 dL_law_125 mt_9_59 (Or.inl rfl) rfl rfl (lb_lt hx.1) (lb_k hx.1) (Nat.le_of_ble_eq_true rfl) (Nat.le_of_ble_eq_true rfl) (Nat.le_of_ble_eq_true rfl) (Nat.le_of_ble_eq_true rfl) (Nat.le_of_ble_eq_true rfl) ?_
      refine lx_count5 hx (fun G hx => ?_)
      show bw_go _ _ _ _ _ _ _ 128 [(8, .int _), (7, .int _), (6, .int _), (5, .int _), (4, .int _), (3, .int _), (2, .ref _), (1, .ref _), (0, .retAddr _)] ((.int _) :: []) _ _
      refine go_istore dL_law_128 (Nat.lt_of_lt_of_le (Nat.lt_succ_self _) (Nat.le_of_ble_eq_true rfl)) ?_
      show bw_go _ _ _ _ _ _ _ 130 [(9, .int _), (8, .int _), (7, .int _), (6, .int _), (5, .int _), (4, .int _), (3, .int _), (2, .ref _), (1, .ref _), (0, .retAddr _)] ([]) _ _
      refine go_iconst (0) dL_law_130 rfl ?_
      refine go_istore dL_law_131 (Nat.lt_of_lt_of_le (Nat.lt_succ_self _) (Nat.le_of_ble_eq_true rfl)) ?_
      show bw_go _ _ _ _ _ _ _ 133 [(10, .int _), (9, .int _), (8, .int _), (7, .int _), (6, .int _), (5, .int _), (4, .int _), (3, .int _), (2, .ref _), (1, .ref _), (0, .retAddr _)] ([]) _ _
      refine go_bipush (6) dL_law_133 rfl ?_
      refine go_naI dL_law_135 (by decide) ?_
      rw [show (6 : Int32).toNatClampNeg = 6 from rfl, lb_n hx.1]
      have hx3 : LX 2 75 (bw_nw G (.inr (.int, 6)) 6) S1 (A2 F (fun _ => 0)) S00.1 (TF F (cN (cc B)) (cD (cc B))) B (K1 B) := ⟨lb_nw hx.1 (Or.inr ⟨rfl, by decide, by decide⟩) rfl, hx.2⟩
      refine go_astore dL_law_137 (Nat.lt_of_lt_of_le (Nat.lt_succ_self _) (Nat.le_of_ble_eq_true rfl)) ?_
      show bw_go _ _ _ _ _ _ _ 139 [(11, .ref _), (10, .int _), (9, .int _), (8, .int _), (7, .int _), (6, .int _), (5, .int _), (4, .int _), (3, .int _), (2, .ref _), (1, .ref _), (0, .retAddr _)] ([]) _ _
      refine go_iconst (0) dL_law_139 rfl ?_
      refine go_istore dL_law_140 (Nat.lt_of_lt_of_le (Nat.lt_succ_self _) (Nat.le_of_ble_eq_true rfl)) ?_
      show bw_go _ _ _ _ _ _ _ 142 [(12, .int _), (11, .ref _), (10, .int _), (9, .int _), (8, .int _), (7, .int _), (6, .int _), (5, .int _), (4, .int _), (3, .int _), (2, .ref _), (1, .ref _), (0, .retAddr _)] ([]) _ _
      refine go_ls [(0, .retAddr _), (1, .ref _), (2, .ref _), (3, .int _), (4, .int _), (5, .int _), (6, .int _), (7, .int _), (8, .int _), (9, .int _), (10, .int _), (11, .ref _), (12, .int _)] (by show List.Nodup ([0, 1, 2, 3, 4, 5, 6, 7, 8, 9, 10, 11, 12] : List Nat); decide) (by show List.Nodup ([12, 11, 10, 9, 8, 7, 6, 5, 4, 3, 2, 1, 0] : List Nat); decide) (le_cons rfl (le_cons rfl (le_cons rfl (le_cons rfl (le_cons rfl (le_cons rfl (le_cons rfl (le_cons rfl (le_cons rfl (le_cons rfl (le_cons rfl (le_cons rfl (le_cons rfl (le_nil _)))))))))))))) ?_
      exact K _ S1 F B hx3 hf
    · -- eq at 90: no
      exact absurd rfl c_90
