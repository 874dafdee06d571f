/-! the law: what is shown; whom to call -/
theorem bc_pos : ∀ b, b < 64 → 1 ≤ b → 1 ≤ bc b := by decide +kernel
theorem call_min {C : CT} (hk : co_k C) {b t i : Nat} (ht : t < 6) (hb : b < 2 ^ cN C) (hs : (sho (taC C) b).testBit t = true) (hm : ∀ s, 1 ≤ s → s < 2 ^ cN C → (sho (taC C) s).testBit t = true → bc b ≤ bc s) (hi : i < cN C) (hbi : b.testBit i = true) : ¬ (sho (taC C) (b &&& (63 ^^^ 2 ^ i))).testBit t = true ∧ anC C i t = 1 := by
  have hN := hk.1
  have h64 : b < 64 := Nat.lt_of_lt_of_le hb (p2N hN)
  have h1 : ¬ (sho (taC C) (b &&& (63 ^^^ 2 ^ i))).testBit t = true := fun z => by
    have h2 := bc_del b h64 i (by omega) hbi
    have h3 : 1 ≤ b &&& (63 ^^^ 2 ^ i) := by
      refine Nat.one_le_iff_ne_zero.mpr (fun e => ?_)
      rw [e, sho_0, Nat.zero_testBit] at z
      cases z
    have h4 := hm _ h3 (Nat.lt_of_le_of_lt Nat.and_le_left hb) z
    omega
  refine ⟨h1, ?_⟩
  rw [sho_tb ht] at h1 hs
  have e := bal_del (C := C) ht hbi (cN C) hN
  rw [if_pos hi] at e
  have h1 : ¬ 0 < bal (taC C) (b &&& (63 ^^^ 2 ^ i)) t (cN C) := h1
  have hs : 0 < bal (taC C) b t (cN C) := hs
  rcases an_c C i t with ⟨_, e2, _⟩ | ⟨_, e2, _⟩ | ⟨e1, _, _⟩
  · omega
  · omega
  · exact e1
set_option maxRecDepth 100000 in
set_option maxHeartbeats 4000000 in
theorem law_D {X : Nat × (Nat → Int32)} {Q : Option Value → bw_H → Prop} {h : bw_H} {S : ST} {W T0 : RW} {B : AC} {K0 : Nat → Option AC} {F T : Nat → Int32} (hx : LX 2 75 h S (A2 F T) W T0 B K0) (hf : LF F B) (K : ∀ G S', LX 2 75 G S' (A2 F T) W T0 B K0 → bw_go X 12 9 48 false (some .boolean) cL_law 462 [(0, .retAddr 1), (1, .ref (0)), (2, .ref (62)), (3, .int (nI (cN (cc B)))), (4, .int (nI (2 ^ cN (cc B) - 1))), (5, .int (nI (cT B.1))), (6, .int (nI (cD (cc B)))), (7, .int (nI (cW (cc B)))), (8, .int (nI (sho (taC (cc B)) (2 ^ cN (cc B) - 1)))), (9, .int (nI (smN (cR (cc B)) (cN (cc B))))), (11, .ref (76)), (12, .int (0))] [] G Q) : bw_go X 12 9 48 false (some .boolean) cL_law 416 [(0, .retAddr 1), (1, .ref (0)), (2, .ref (62)), (3, .int (nI (cN (cc B)))), (4, .int (nI (2 ^ cN (cc B) - 1))), (5, .int (nI (cT B.1))), (6, .int (nI (cD (cc B)))), (7, .int (nI (cW (cc B)))), (8, .int (nI (sho (taC (cc B)) (2 ^ cN (cc B) - 1)))), (9, .int (nI (smN (cR (cc B)) (cN (cc B))))), (11, .ref (76)), (10, .int (nI (smN (cR (cc B)) (cN (cc B)))))] [] h Q := by
  have hk := lx_k hx
  have hN := hk.1
  have hp := p2N hN
  have hp1 : 1 ≤ 2 ^ cN (cc B) := Nat.one_le_two_pow
  have hn1 := hf.1.2.1
  show bw_go _ _ _ _ _ _ _ 416 [(0, .retAddr _), (1, .ref _), (2, .ref _), (3, .int _), (4, .int _), (5, .int _), (6, .int _), (7, .int _), (8, .int _), (9, .int _), (11, .ref _), (10, .int _)] ([]) _ _
  refine go_iload dL_law_416 rfl ?_
  refine go_aload_n dL_law_418 rfl ?_
  refine go_iconst (1) dL_law_419 rfl ?_
  refine go_ia dL_law_420 (lb_a hx.1 (q := 62) rfl).2.1 (lb_a hx.1 (q := 62) rfl).1 (by decide) ?_
  rw [show (1 : Int32).toNatClampNeg = 1 from rfl, (lb_a hx.1 (q := 62) rfl).2.2, hf.1.2.2.2.1]
  refine go_icmp_ne (pc' := 457) dL_law_421 rfl (fun c_421 => ?_) (fun c_421 => ?_)
  · -- ne at 421: yes
    exact absurd rfl c_421
  · -- ne at 421: no
    show bw_go _ _ _ _ _ _ _ 424 [(0, .retAddr _), (1, .ref _), (2, .ref _), (3, .int _), (4, .int _), (5, .int _), (6, .int _), (7, .int _), (8, .int _), (9, .int _), (11, .ref _), (10, .int _)] ([]) _ _
    refine go_iload dL_law_424 rfl ?_
    refine go_iload dL_law_426 rfl ?_
    refine go_icmp_ne (pc' := 457) dL_law_428 rfl (fun c_428 => ?_) (fun c_428 => ?_)
    · -- ne at 428: yes
      exact absurd rfl c_428
    · -- ne at 428: no
      show bw_go _ _ _ _ _ _ _ 431 [(0, .retAddr _), (1, .ref _), (2, .ref _), (3, .int _), (4, .int _), (5, .int _), (6, .int _), (7, .int _), (8, .int _), (9, .int _), (11, .ref _), (10, .int _)] ([]) _ _
      refine go_aload_n dL_law_431 rfl ?_
      refine go_iload dL_law_432 rfl ?_
      refine go_cv (as := [.int _]) 4 dL_law_434 mt_9_75 (Or.inl rfl) rfl rfl (lb_lt hx.1) (lb_k hx.1) (Nat.le_of_ble_eq_true rfl) (Nat.le_of_ble_eq_true rfl) (Nat.le_of_ble_eq_true rfl) (Nat.le_of_ble_eq_true rfl) (Nat.le_of_ble_eq_true rfl) ?_
      refine lx_shown hx (by omega) (by omega) (fun G S' hx _ => ?_)
      show bw_go _ _ _ _ _ _ _ 437 [(0, .retAddr _), (1, .ref _), (2, .ref _), (3, .int _), (4, .int _), (5, .int _), (6, .int _), (7, .int _), (8, .int _), (9, .int _), (11, .ref _), (10, .int _)] ((.int _) :: []) _ _
      refine go_iload dL_law_437 rfl ?_
      refine go_icmp_ne (pc' := 457) dL_law_439 rfl (fun c_439 => ?_) (fun c_439 => ?_)
      · -- ne at 439: yes
        exact absurd rfl c_439
      · -- ne at 439: no
        show bw_go _ _ _ _ _ _ _ 442 [(0, .retAddr _), (1, .ref _), (2, .ref _), (3, .int _), (4, .int _), (5, .int _), (6, .int _), (7, .int _), (8, .int _), (9, .int _), (11, .ref _), (10, .int _)] ([]) _ _
        refine go_aload_n dL_law_442 rfl ?_
        refine go_iconst (0) dL_law_443 rfl ?_
        refine go_cv (as := [.int _]) 4 dL_law_444 mt_9_75 (Or.inl rfl) rfl rfl (lb_lt hx.1) (lb_k hx.1) (Nat.le_of_ble_eq_true rfl) (Nat.le_of_ble_eq_true rfl) (Nat.le_of_ble_eq_true rfl) (Nat.le_of_ble_eq_true rfl) (Nat.le_of_ble_eq_true rfl) ?_
        refine lx_shown (s := 0) hx (by omega) (by omega) (fun G S' hx hq => ?_)
        rw [sho_0]
        show bw_go _ _ _ _ _ _ _ 447 [(0, .retAddr _), (1, .ref _), (2, .ref _), (3, .int _), (4, .int _), (5, .int _), (6, .int _), (7, .int _), (8, .int _), (9, .int _), (11, .ref _), (10, .int _)] ((.int _) :: []) _ _
        refine go_if_ne (pc' := 457) dL_law_447 rfl (fun c => absurd c (by decide)) (fun _ => ?_)
        show bw_go _ _ _ _ _ _ _ 450 [(0, .retAddr _), (1, .ref _), (2, .ref _), (3, .int _), (4, .int _), (5, .int _), (6, .int _), (7, .int _), (8, .int _), (9, .int _), (11, .ref _), (10, .int _)] ([]) _ _
        refine go_aload_n dL_law_450 rfl ?_
        refine go_cv (as := []) 0 dL_law_451 mt_9_42 (Or.inl rfl) rfl rfl (lb_lt hx.1) (lb_k hx.1) (Nat.le_of_ble_eq_true rfl) (Nat.le_of_ble_eq_true rfl) (Nat.le_of_ble_eq_true rfl) (Nat.le_of_ble_eq_true rfl) (Nat.le_of_ble_eq_true rfl) ?_
        refine lx_asked hx (fun G hx => ?_)
        rw [hq, tld_0, Nat.and_zero]
        show bw_go _ _ _ _ _ _ _ 454 [(0, .retAddr _), (1, .ref _), (2, .ref _), (3, .int _), (4, .int _), (5, .int _), (6, .int _), (7, .int _), (8, .int _), (9, .int _), (11, .ref _), (10, .int _)] ((.int _) :: []) _ _
        refine go_if_eq (pc' := 459) dL_law_454 rfl (fun _ => ?_) (fun c => absurd (by decide) c)
        show bw_go _ _ _ _ _ _ _ 459 [(0, .retAddr _), (1, .ref _), (2, .ref _), (3, .int _), (4, .int _), (5, .int _), (6, .int _), (7, .int _), (8, .int _), (9, .int _), (11, .ref _), (10, .int _)] ([]) _ _
        refine go_iconst (0) dL_law_459 rfl ?_
        refine go_istore dL_law_460 (Nat.lt_of_lt_of_le (Nat.lt_succ_self _) (Nat.le_of_ble_eq_true rfl)) ?_
        show bw_go _ _ _ _ _ _ _ 462 [(12, .int _), (0, .retAddr _), (1, .ref _), (2, .ref _), (3, .int _), (4, .int _), (5, .int _), (6, .int _), (7, .int _), (8, .int _), (9, .int _), (11, .ref _), (10, .int _)] ([]) _ _
        refine go_ls [(0, .retAddr _), (1, .ref _), (2, .ref _), (3, .int _), (4, .int _), (5, .int _), (6, .int _), (7, .int _), (8, .int _), (9, .int _), (11, .ref _), (12, .int _)] (by show List.Nodup ([0, 1, 2, 3, 4, 5, 6, 7, 8, 9, 11, 12] : List Nat); decide) (by show List.Nodup ([12, 0, 1, 2, 3, 4, 5, 6, 7, 8, 9, 11, 10] : List Nat); decide) (le_cons rfl (le_cons rfl (le_cons rfl (le_cons rfl (le_cons rfl (le_cons rfl (le_cons rfl (le_cons rfl (le_cons rfl (le_cons rfl (le_cons rfl (le_cons rfl (le_nil _))))))))))))) ?_
        exact K _ _ hx
set_option maxRecDepth 100000 in
set_option maxHeartbeats 4000000 in
theorem e645 {X : Nat × (Nat → Int32)} {Q : Option Value → bw_H → Prop} {h : bw_H} {S : ST} {W T0 : RW} {B : AC} {K0 : Nat → Option AC} {F T : Nat → Int32} {t b : Nat} (hx : LX 2 75 h S (A2 F T) W T0 B K0) (hf : LF F B) (ht : t < 6) (h1 : 1 ≤ b) (hb : b < 2 ^ cN (cc B)) (hs : (sho (taC (cc B)) b).testBit t = true) (hm : ∀ s, 1 ≤ s → s < 2 ^ cN (cc B) → (sho (taC (cc B)) s).testBit t = true → bc b ≤ bc s) (K9 : ∀ G S', LX 2 75 G S' (A2 F T) W T0 B K0 → bw_go X 12 9 48 false (some .boolean) cL_law 712 [(0, .retAddr 1), (1, .ref (0)), (2, .ref (62)), (3, .int (nI (cN (cc B)))), (4, .int (nI (2 ^ cN (cc B) - 1))), (5, .int (nI (cT B.1))), (6, .int (nI (cD (cc B)))), (7, .int (nI (cW (cc B)))), (8, .int (nI (sho (taC (cc B)) (2 ^ cN (cc B) - 1)))), (9, .int (nI (smN (cR (cc B)) (cN (cc B))))), (11, .ref (76)), (12, .int (nI t))] [] G Q) : bw_go X 12 9 48 false (some .boolean) cL_law 645 [(0, .retAddr 1), (1, .ref (0)), (2, .ref (62)), (3, .int (nI (cN (cc B)))), (4, .int (nI (2 ^ cN (cc B) - 1))), (5, .int (nI (cT B.1))), (6, .int (nI (cD (cc B)))), (7, .int (nI (cW (cc B)))), (8, .int (nI (sho (taC (cc B)) (2 ^ cN (cc B) - 1)))), (9, .int (nI (smN (cR (cc B)) (cN (cc B))))), (11, .ref (76)), (12, .int (nI t)), (14, .int (nI (bc b))), (15, .int (nI b))] [] h Q := by
  have hk := lx_k hx
  have hN := hk.1
  have hp := p2N hN
  have hp1 : 1 ≤ 2 ^ cN (cc B) := Nat.one_le_two_pow
  have h64 : b < 64 := by omega
  have hbc := bc_pos b h64 h1
  have hb7 := bc_lt b
  show bw_go _ _ _ _ _ _ _ 645 [(0, .retAddr _), (1, .ref _), (2, .ref _), (3, .int _), (4, .int _), (5, .int _), (6, .int _), (7, .int _), (8, .int _), (9, .int _), (11, .ref _), (12, .int _), (14, .int _), (15, .int _)] ([]) _ _
  refine go_iconst (0) dL_law_645 rfl ?_
  refine go_istore dL_law_646 (Nat.lt_of_lt_of_le (Nat.lt_succ_self _) (Nat.le_of_ble_eq_true rfl)) ?_
  show bw_go _ _ _ _ _ _ _ 648 [(16, .int _), (0, .retAddr _), (1, .ref _), (2, .ref _), (3, .int _), (4, .int _), (5, .int _), (6, .int _), (7, .int _), (8, .int _), (9, .int _), (11, .ref _), (12, .int _), (14, .int _), (15, .int _)] ([]) _ _
  refine go_ls [(0, .retAddr _), (1, .ref _), (2, .ref _), (3, .int _), (4, .int _), (5, .int _), (6, .int _), (7, .int _), (8, .int _), (9, .int _), (11, .ref _), (12, .int _), (14, .int _), (15, .int _), (16, .int _)] (by show List.Nodup ([0, 1, 2, 3, 4, 5, 6, 7, 8, 9, 11, 12, 14, 15, 16] : List Nat); decide) (by show List.Nodup ([16, 0, 1, 2, 3, 4, 5, 6, 7, 8, 9, 11, 12, 14, 15] : List Nat); decide) (le_cons rfl (le_cons rfl (le_cons rfl (le_cons rfl (le_cons rfl (le_cons rfl (le_cons rfl (le_cons rfl (le_cons rfl (le_cons rfl (le_cons rfl (le_cons rfl (le_cons rfl (le_cons rfl (le_cons rfl (le_nil _)))))))))))))))) ?_
  refine go_for (P := fun i => ∀ (g : bw_H) (S : ST), (LX 2 75 g S (A2 F T) W T0 B K0) → bw_go X 12 9 48 false (some .boolean) cL_law 648 [(0, .retAddr 1), (1, .ref (0)), (2, .ref (62)), (3, .int (nI (cN (cc B)))), (4, .int (nI (2 ^ cN (cc B) - 1))), (5, .int (nI (cT B.1))), (6, .int (nI (cD (cc B)))), (7, .int (nI (cW (cc B)))), (8, .int (nI (sho (taC (cc B)) (2 ^ cN (cc B) - 1)))), (9, .int (nI (smN (cR (cc B)) (cN (cc B))))), (11, .ref (76)), (12, .int (nI t)), (14, .int (nI (bc b))), (15, .int (nI b)), (16, .int (nI i))] [] g Q) (N := (cN (cc B))) (fun i hi K => ?_) ?_ (0) (Nat.zero_le _) _ _ hx
  · -- a turn
    intro g S hv
    have hx := hv
    show bw_go _ _ _ _ _ _ _ 648 [(0, .retAddr _), (1, .ref _), (2, .ref _), (3, .int _), (4, .int _), (5, .int _), (6, .int _), (7, .int _), (8, .int _), (9, .int _), (11, .ref _), (12, .int _), (14, .int _), (15, .int _), (16, .int _)] ([]) _ _
    refine go_iload dL_law_648 rfl ?_
    refine go_iload_n dL_law_650 rfl ?_
    refine go_icmp_ge (pc' := 712) dL_law_651 rfl (fun c_651 => ?_) (fun c_651 => ?_)
    · -- ge at 651: yes
      exfalso; have t_0 := nI_toInt (n := i) (by omega); have t_1 := nI_toInt (n := cN (cc B)) (by omega); simp only [i_le, i_lt, i_eq, bi_eq] at c_651; omega
    · -- ge at 651: no
      show bw_go _ _ _ _ _ _ _ 654 [(0, .retAddr _), (1, .ref _), (2, .ref _), (3, .int _), (4, .int _), (5, .int _), (6, .int _), (7, .int _), (8, .int _), (9, .int _), (11, .ref _), (12, .int _), (14, .int _), (15, .int _), (16, .int _)] ([]) _ _
      refine go_iload dL_law_654 rfl ?_
      refine go_if_le (pc' := 712) dL_law_656 rfl (fun c_656 => ?_) (fun c_656 => ?_)
      · -- le at 656: yes
        exfalso; have t_0 := nI_toInt (n := bc b) (by omega); have l_0 := i_0; simp only [i_le] at c_656; omega
      · -- le at 656: no
        show bw_go _ _ _ _ _ _ _ 659 [(0, .retAddr _), (1, .ref _), (2, .ref _), (3, .int _), (4, .int _), (5, .int _), (6, .int _), (7, .int _), (8, .int _), (9, .int _), (11, .ref _), (12, .int _), (14, .int _), (15, .int _), (16, .int _)] ([]) _ _
        refine go_iload dL_law_659 rfl ?_
        refine go_iload dL_law_661 rfl ?_
        refine go_ishr dL_law_663 ?_
        refine go_iconst (1) dL_law_664 rfl ?_
        refine go_iand dL_law_665 ?_
        refine go_iconst (1) dL_law_666 rfl ?_
        rw [bit_t _ h64 i (by omega)]
        refine go_icmp_ne (pc' := 706) dL_law_667 rfl (fun c_667 => ?_) (fun c_667 => ?_)
        · -- ne at 667: yes
          show bw_go _ _ _ _ _ _ _ 706 [(0, .retAddr _), (1, .ref _), (2, .ref _), (3, .int _), (4, .int _), (5, .int _), (6, .int _), (7, .int _), (8, .int _), (9, .int _), (11, .ref _), (12, .int _), (14, .int _), (15, .int _), (16, .int _)] ([]) _ _
          refine go_iinc dL_law_706 rfl (nI_1 i) (Nat.lt_of_lt_of_le (Nat.lt_succ_self _) (Nat.le_of_ble_eq_true rfl)) ?_
          show bw_go _ _ _ _ _ _ _ 709 [(16, .int _), (0, .retAddr _), (1, .ref _), (2, .ref _), (3, .int _), (4, .int _), (5, .int _), (6, .int _), (7, .int _), (8, .int _), (9, .int _), (11, .ref _), (12, .int _), (14, .int _), (15, .int _)] ([]) _ _
          refine go_goto (pc' := 648) dL_law_709 rfl ?_
          refine go_ls [(0, .retAddr _), (1, .ref _), (2, .ref _), (3, .int _), (4, .int _), (5, .int _), (6, .int _), (7, .int _), (8, .int _), (9, .int _), (11, .ref _), (12, .int _), (14, .int _), (15, .int _), (16, .int _)] (by show List.Nodup ([0, 1, 2, 3, 4, 5, 6, 7, 8, 9, 11, 12, 14, 15, 16] : List Nat); decide) (by show List.Nodup ([16, 0, 1, 2, 3, 4, 5, 6, 7, 8, 9, 11, 12, 14, 15] : List Nat); decide) (le_cons rfl (le_cons rfl (le_cons rfl (le_cons rfl (le_cons rfl (le_cons rfl (le_cons rfl (le_cons rfl (le_cons rfl (le_cons rfl (le_cons rfl (le_cons rfl (le_cons rfl (le_cons rfl (le_cons rfl (le_nil _)))))))))))))))) ?_
          exact K _ _ hx
        · -- ne at 667: no
          show bw_go _ _ _ _ _ _ _ 670 [(0, .retAddr _), (1, .ref _), (2, .ref _), (3, .int _), (4, .int _), (5, .int _), (6, .int _), (7, .int _), (8, .int _), (9, .int _), (11, .ref _), (12, .int _), (14, .int _), (15, .int _), (16, .int _)] ([]) _ _
          have hbi : b.testBit i = true := by
            cases hh : b.testBit i with
            | true => rfl
            | false => rw [hh] at c_667; exact absurd (Decidable.of_not_not c_667) (by decide)
          have hcm := call_min hk ht hb hs hm hi hbi
          refine go_aload_n dL_law_670 rfl ?_
          refine go_iload dL_law_671 rfl ?_
          refine go_iload dL_law_673 rfl ?_
          refine go_cv (as := [.int _, .int _]) 5 dL_law_675 mt_9_72 (Or.inl rfl) rfl rfl (lb_lt hx.1) (lb_k hx.1) (Nat.le_of_ble_eq_true rfl) (Nat.le_of_ble_eq_true rfl) (Nat.le_of_ble_eq_true rfl) (Nat.le_of_ble_eq_true rfl) (Nat.le_of_ble_eq_true rfl) ?_
          refine lx_tells hx hi ht (fun G S' hx => ?_)
          rw [hcm.2]
          show bw_go _ _ _ _ _ _ _ 678 [(0, .retAddr _), (1, .ref _), (2, .ref _), (3, .int _), (4, .int _), (5, .int _), (6, .int _), (7, .int _), (8, .int _), (9, .int _), (11, .ref _), (12, .int _), (14, .int _), (15, .int _), (16, .int _)] ((.int _) :: []) _ _
          refine go_iconst (1) dL_law_678 rfl ?_
          refine go_icmp_ne (pc' := 704) dL_law_679 rfl (fun c => absurd c (by decide)) (fun _ => ?_)
          show bw_go _ _ _ _ _ _ _ 682 [(0, .retAddr _), (1, .ref _), (2, .ref _), (3, .int _), (4, .int _), (5, .int _), (6, .int _), (7, .int _), (8, .int _), (9, .int _), (11, .ref _), (12, .int _), (14, .int _), (15, .int _), (16, .int _)] ([]) _ _
          refine go_aload_n dL_law_682 rfl ?_
          refine go_iload dL_law_683 rfl ?_
          refine go_iconst (1) dL_law_685 rfl ?_
          refine go_iload dL_law_686 rfl ?_
          refine go_ishl dL_law_688 ?_
          rw [sh_t i (by omega)]
          refine go_iconst (-1) dL_law_689 rfl ?_
          refine go_ixor dL_law_690 ?_
          refine go_iand dL_law_691 ?_
          rw [not_n _ (by have := Nat.pow_lt_pow_right (a := 2) (by decide) (show i < 6 by omega); omega) _ h64]
          refine go_cv (as := [.int _]) 4 dL_law_692 mt_9_75 (Or.inl rfl) rfl rfl (lb_lt hx.1) (lb_k hx.1) (Nat.le_of_ble_eq_true rfl) (Nat.le_of_ble_eq_true rfl) (Nat.le_of_ble_eq_true rfl) (Nat.le_of_ble_eq_true rfl) (Nat.le_of_ble_eq_true rfl) ?_
          refine lx_shown hx (s := b &&& (63 ^^^ 2 ^ i)) (Nat.lt_of_le_of_lt Nat.and_le_left hb) (by omega) (fun G S' hx _ => ?_)
          show bw_go _ _ _ _ _ _ _ 695 [(0, .retAddr _), (1, .ref _), (2, .ref _), (3, .int _), (4, .int _), (5, .int _), (6, .int _), (7, .int _), (8, .int _), (9, .int _), (11, .ref _), (12, .int _), (14, .int _), (15, .int _), (16, .int _)] ((.int _) :: []) _ _
          refine go_iload dL_law_695 rfl ?_
          refine go_ishr dL_law_697 ?_
          refine go_iconst (1) dL_law_698 rfl ?_
          refine go_iand dL_law_699 ?_
          refine go_iconst (1) dL_law_700 rfl ?_
          rw [bit_t _ (sho_lt _ _) t (by omega)]
          refine go_icmp_ne (pc' := 706) dL_law_701 rfl (fun c_701 => ?_) (fun c_701 => ?_)
          · -- ne at 701: yes
            show bw_go _ _ _ _ _ _ _ 706 [(0, .retAddr _), (1, .ref _), (2, .ref _), (3, .int _), (4, .int _), (5, .int _), (6, .int _), (7, .int _), (8, .int _), (9, .int _), (11, .ref _), (12, .int _), (14, .int _), (15, .int _), (16, .int _)] ([]) _ _
            refine go_iinc dL_law_706 rfl (nI_1 i) (Nat.lt_of_lt_of_le (Nat.lt_succ_self _) (Nat.le_of_ble_eq_true rfl)) ?_
            show bw_go _ _ _ _ _ _ _ 709 [(16, .int _), (0, .retAddr _), (1, .ref _), (2, .ref _), (3, .int _), (4, .int _), (5, .int _), (6, .int _), (7, .int _), (8, .int _), (9, .int _), (11, .ref _), (12, .int _), (14, .int _), (15, .int _)] ([]) _ _
            refine go_goto (pc' := 648) dL_law_709 rfl ?_
            refine go_ls [(0, .retAddr _), (1, .ref _), (2, .ref _), (3, .int _), (4, .int _), (5, .int _), (6, .int _), (7, .int _), (8, .int _), (9, .int _), (11, .ref _), (12, .int _), (14, .int _), (15, .int _), (16, .int _)] (by show List.Nodup ([0, 1, 2, 3, 4, 5, 6, 7, 8, 9, 11, 12, 14, 15, 16] : List Nat); decide) (by show List.Nodup ([16, 0, 1, 2, 3, 4, 5, 6, 7, 8, 9, 11, 12, 14, 15] : List Nat); decide) (le_cons rfl (le_cons rfl (le_cons rfl (le_cons rfl (le_cons rfl (le_cons rfl (le_cons rfl (le_cons rfl (le_cons rfl (le_cons rfl (le_cons rfl (le_cons rfl (le_cons rfl (le_cons rfl (le_cons rfl (le_nil _)))))))))))))))) ?_
            exact K _ _ hx
          · -- ne at 701: no
            exfalso
            refine hcm.1 ?_
            cases hh : (sho (taC (cc B)) (b &&& (63 ^^^ 2 ^ i))).testBit t with
            | true => rfl
            | false => rw [hh] at c_701; exact absurd (Decidable.of_not_not c_701) (by decide)
  · -- behind the last
    intro g S hv
    have hx := hv
    show bw_go _ _ _ _ _ _ _ 648 [(0, .retAddr _), (1, .ref _), (2, .ref _), (3, .int _), (4, .int _), (5, .int _), (6, .int _), (7, .int _), (8, .int _), (9, .int _), (11, .ref _), (12, .int _), (14, .int _), (15, .int _), (16, .int _)] ([]) _ _
    refine go_iload dL_law_648 rfl ?_
    refine go_iload_n dL_law_650 rfl ?_
    refine go_icmp_ge (pc' := 712) dL_law_651 rfl (fun c_651 => ?_) (fun c_651 => ?_)
    · -- ge at 651: yes
      refine go_ls [(0, .retAddr _), (1, .ref _), (2, .ref _), (3, .int _), (4, .int _), (5, .int _), (6, .int _), (7, .int _), (8, .int _), (9, .int _), (11, .ref _), (12, .int _)] (by show List.Nodup ([0, 1, 2, 3, 4, 5, 6, 7, 8, 9, 11, 12] : List Nat); decide) (by show List.Nodup ([0, 1, 2, 3, 4, 5, 6, 7, 8, 9, 11, 12, 14, 15, 16] : List Nat); decide) (le_cons rfl (le_cons rfl (le_cons rfl (le_cons rfl (le_cons rfl (le_cons rfl (le_cons rfl (le_cons rfl (le_cons rfl (le_cons rfl (le_cons rfl (le_cons rfl (le_nil _))))))))))))) ?_
      exact K9 _ _ hx
    · -- ge at 651: no
      exfalso; have t_0 := nI_toInt (n := cN (cc B)) (by omega); simp only [i_le, i_lt, i_eq, bi_eq] at c_651; omega
set_option maxRecDepth 100000 in
set_option maxHeartbeats 4000000 in
theorem e568 {X : Nat × (Nat → Int32)} {Q : Option Value → bw_H → Prop} {h : bw_H} {S : ST} {W T0 : RW} {B : AC} {K0 : Nat → Option AC} {F T : Nat → Int32} {t : Nat} (hx : LX 2 75 h S (A2 F T) W T0 B K0) (hf : LF F B) (ht : t < 6) (K : ∀ G S', LX 2 75 G S' (A2 F T) W T0 B K0 → bw_go X 12 9 48 false (some .boolean) cL_law 712 [(0, .retAddr 1), (1, .ref (0)), (2, .ref (62)), (3, .int (nI (cN (cc B)))), (4, .int (nI (2 ^ cN (cc B) - 1))), (5, .int (nI (cT B.1))), (6, .int (nI (cD (cc B)))), (7, .int (nI (cW (cc B)))), (8, .int (nI (sho (taC (cc B)) (2 ^ cN (cc B) - 1)))), (9, .int (nI (smN (cR (cc B)) (cN (cc B))))), (11, .ref (76)), (12, .int (nI t))] [] G Q) : bw_go X 12 9 48 false (some .boolean) cL_law 568 [(0, .retAddr 1), (1, .ref (0)), (2, .ref (62)), (3, .int (nI (cN (cc B)))), (4, .int (nI (2 ^ cN (cc B) - 1))), (5, .int (nI (cT B.1))), (6, .int (nI (cD (cc B)))), (7, .int (nI (cW (cc B)))), (8, .int (nI (sho (taC (cc B)) (2 ^ cN (cc B) - 1)))), (9, .int (nI (smN (cR (cc B)) (cN (cc B))))), (11, .ref (76)), (12, .int (nI t))] [] h Q := by
  have hk := lx_k hx
  have hN := hk.1
  have hp := p2N hN
  have hp1 : 1 ≤ 2 ^ cN (cc B) := Nat.one_le_two_pow
  have hn1 := hf.1.2.1
  show bw_go _ _ _ _ _ _ _ 568 [(0, .retAddr _), (1, .ref _), (2, .ref _), (3, .int _), (4, .int _), (5, .int _), (6, .int _), (7, .int _), (8, .int _), (9, .int _), (11, .ref _), (12, .int _)] ([]) _ _
  refine go_aload_n dL_law_568 rfl ?_
  refine go_iload dL_law_569 rfl ?_
  refine go_cv (as := [.int _]) 4 dL_law_571 mt_9_81 (Or.inl rfl) rfl rfl (lb_lt hx.1) (lb_k hx.1) (Nat.le_of_ble_eq_true rfl) (Nat.le_of_ble_eq_true rfl) (Nat.le_of_ble_eq_true rfl) (Nat.le_of_ble_eq_true rfl) (Nat.le_of_ble_eq_true rfl) ?_
  refine lx_call hx ht (by omega) (fun G S' hx hno => ?_) (fun G S' b hx hq h1 hb hs hm => ?_)
  · skip
    show bw_go _ _ _ _ _ _ _ 574 [(0, .retAddr _), (1, .ref _), (2, .ref _), (3, .int _), (4, .int _), (5, .int _), (6, .int _), (7, .int _), (8, .int _), (9, .int _), (11, .ref _), (12, .int _)] ((.int _) :: []) _ _
    refine go_istore dL_law_574 (Nat.lt_of_lt_of_le (Nat.lt_succ_self _) (Nat.le_of_ble_eq_true rfl)) ?_
    show bw_go _ _ _ _ _ _ _ 576 [(14, .int _), (0, .retAddr _), (1, .ref _), (2, .ref _), (3, .int _), (4, .int _), (5, .int _), (6, .int _), (7, .int _), (8, .int _), (9, .int _), (11, .ref _), (12, .int _)] ([]) _ _
    refine go_aload_n dL_law_576 rfl ?_
    refine go_iload dL_law_577 rfl ?_
    refine go_cs (as := [.ref _, .int _]) 1 dL_law_579 rfl rfl mt_9_84 (Nat.le_of_ble_eq_true rfl) rfl rfl (Nat.le_of_ble_eq_true rfl) (Nat.le_of_ble_eq_true rfl) (Nat.le_of_ble_eq_true rfl) (Nat.le_of_ble_eq_true rfl) ?_
    refine lx_askd hx (fun G hx => ?_)
    rw [if_pos (by decide)]
    show bw_go _ _ _ _ _ _ _ 582 [(14, .int _), (0, .retAddr _), (1, .ref _), (2, .ref _), (3, .int _), (4, .int _), (5, .int _), (6, .int _), (7, .int _), (8, .int _), (9, .int _), (11, .ref _), (12, .int _)] ((.int _) :: []) _ _
    refine go_istore dL_law_582 (Nat.lt_of_lt_of_le (Nat.lt_succ_self _) (Nat.le_of_ble_eq_true rfl)) ?_
    show bw_go _ _ _ _ _ _ _ 584 [(15, .int _), (14, .int _), (0, .retAddr _), (1, .ref _), (2, .ref _), (3, .int _), (4, .int _), (5, .int _), (6, .int _), (7, .int _), (8, .int _), (9, .int _), (11, .ref _), (12, .int _)] ([]) _ _
    refine go_iload dL_law_584 rfl ?_
    refine go_bipush (-9) dL_law_586 rfl ?_
    refine go_icmp_ne (pc' := 605) dL_law_588 rfl (fun c => absurd c (by decide)) (fun _ => ?_)
    show bw_go _ _ _ _ _ _ _ 591 [(15, .int _), (14, .int _), (0, .retAddr _), (1, .ref _), (2, .ref _), (3, .int _), (4, .int _), (5, .int _), (6, .int _), (7, .int _), (8, .int _), (9, .int _), (11, .ref _), (12, .int _)] ([]) _ _
    refine go_iload dL_law_591 rfl ?_
    refine go_iload dL_law_593 rfl ?_
    refine go_ishr dL_law_595 ?_
    refine go_iconst (1) dL_law_596 rfl ?_
    refine go_iand dL_law_597 ?_
    refine go_iconst (1) dL_law_598 rfl ?_
    rw [bit_t _ (sho_lt _ _) t (by omega)]
    refine go_icmp_ne (pc' := 645) dL_law_599 rfl (fun c_599 => ?_) (fun c_599 => ?_)
    · -- ne at 599: yes
      refine go_iconst (0) dL_law_645 rfl ?_
      refine go_istore dL_law_646 (Nat.lt_of_lt_of_le (Nat.lt_succ_self _) (Nat.le_of_ble_eq_true rfl)) ?_
      show bw_go _ _ _ _ _ _ _ 648 [(16, .int _), (15, .int _), (14, .int _), (0, .retAddr _), (1, .ref _), (2, .ref _), (3, .int _), (4, .int _), (5, .int _), (6, .int _), (7, .int _), (8, .int _), (9, .int _), (11, .ref _), (12, .int _)] ([]) _ _
      refine go_iload dL_law_648 rfl ?_
      refine go_iload_n dL_law_650 rfl ?_
      refine go_icmp_ge (pc' := 712) dL_law_651 rfl (fun c_651 => ?_) (fun c_651 => ?_)
      · -- ge at 651: yes
        refine go_ls [(0, .retAddr _), (1, .ref _), (2, .ref _), (3, .int _), (4, .int _), (5, .int _), (6, .int _), (7, .int _), (8, .int _), (9, .int _), (11, .ref _), (12, .int _)] (by show List.Nodup ([0, 1, 2, 3, 4, 5, 6, 7, 8, 9, 11, 12] : List Nat); decide) (by show List.Nodup ([16, 15, 14, 0, 1, 2, 3, 4, 5, 6, 7, 8, 9, 11, 12] : List Nat); decide) (le_cons rfl (le_cons rfl (le_cons rfl (le_cons rfl (le_cons rfl (le_cons rfl (le_cons rfl (le_cons rfl (le_cons rfl (le_cons rfl (le_cons rfl (le_cons rfl (le_nil _))))))))))))) ?_
        exact K _ _ hx
      · -- ge at 651: no
        show bw_go _ _ _ _ _ _ _ 654 [(16, .int _), (15, .int _), (14, .int _), (0, .retAddr _), (1, .ref _), (2, .ref _), (3, .int _), (4, .int _), (5, .int _), (6, .int _), (7, .int _), (8, .int _), (9, .int _), (11, .ref _), (12, .int _)] ([]) _ _
        refine go_iload dL_law_654 rfl ?_
        refine go_if_le (pc' := 712) dL_law_656 rfl (fun _ => ?_) (fun c => absurd (by decide) c)
        refine go_ls [(0, .retAddr _), (1, .ref _), (2, .ref _), (3, .int _), (4, .int _), (5, .int _), (6, .int _), (7, .int _), (8, .int _), (9, .int _), (11, .ref _), (12, .int _)] (by show List.Nodup ([0, 1, 2, 3, 4, 5, 6, 7, 8, 9, 11, 12] : List Nat); decide) (by show List.Nodup ([16, 15, 14, 0, 1, 2, 3, 4, 5, 6, 7, 8, 9, 11, 12] : List Nat); decide) (le_cons rfl (le_cons rfl (le_cons rfl (le_cons rfl (le_cons rfl (le_cons rfl (le_cons rfl (le_cons rfl (le_cons rfl (le_cons rfl (le_cons rfl (le_cons rfl (le_nil _))))))))))))) ?_
        exact K _ _ hx
    · -- ne at 599: no
      show bw_go _ _ _ _ _ _ _ 602 [(15, .int _), (14, .int _), (0, .retAddr _), (1, .ref _), (2, .ref _), (3, .int _), (4, .int _), (5, .int _), (6, .int _), (7, .int _), (8, .int _), (9, .int _), (11, .ref _), (12, .int _)] ([]) _ _
      refine go_goto (pc' := 643) dL_law_602 rfl ?_
      exfalso
      refine hno (2 ^ cN (cc B) - 1) (by have := Nat.pow_le_pow_right (n := 2) (by decide) hn1; omega) (by omega) ?_
      cases hh : (sho (taC (cc B)) (2 ^ cN (cc B) - 1)).testBit t with
      | true => rfl
      | false => rw [hh] at c_599; exact absurd (Decidable.of_not_not c_599) (by decide)
  · skip
    have h64 : b < 64 := by omega
    have hbc := bc_pos b h64 h1
    have hb7 := bc_lt b
    show bw_go _ _ _ _ _ _ _ 574 [(0, .retAddr _), (1, .ref _), (2, .ref _), (3, .int _), (4, .int _), (5, .int _), (6, .int _), (7, .int _), (8, .int _), (9, .int _), (11, .ref _), (12, .int _)] ((.int _) :: []) _ _
    refine go_istore dL_law_574 (Nat.lt_of_lt_of_le (Nat.lt_succ_self _) (Nat.le_of_ble_eq_true rfl)) ?_
    show bw_go _ _ _ _ _ _ _ 576 [(14, .int _), (0, .retAddr _), (1, .ref _), (2, .ref _), (3, .int _), (4, .int _), (5, .int _), (6, .int _), (7, .int _), (8, .int _), (9, .int _), (11, .ref _), (12, .int _)] ([]) _ _
    refine go_aload_n dL_law_576 rfl ?_
    refine go_iload dL_law_577 rfl ?_
    refine go_cs (as := [.ref _, .int _]) 1 dL_law_579 rfl rfl mt_9_84 (Nat.le_of_ble_eq_true rfl) rfl rfl (Nat.le_of_ble_eq_true rfl) (Nat.le_of_ble_eq_true rfl) (Nat.le_of_ble_eq_true rfl) (Nat.le_of_ble_eq_true rfl) ?_
    refine lx_askd hx (fun G hx => ?_)
    rw [if_neg (by rw [i_lt, nI_toInt (by omega)]; have l_0 := i_0; omega), hq]
    show bw_go _ _ _ _ _ _ _ 582 [(14, .int _), (0, .retAddr _), (1, .ref _), (2, .ref _), (3, .int _), (4, .int _), (5, .int _), (6, .int _), (7, .int _), (8, .int _), (9, .int _), (11, .ref _), (12, .int _)] ((.int _) :: []) _ _
    refine go_istore dL_law_582 (Nat.lt_of_lt_of_le (Nat.lt_succ_self _) (Nat.le_of_ble_eq_true rfl)) ?_
    show bw_go _ _ _ _ _ _ _ 584 [(15, .int _), (14, .int _), (0, .retAddr _), (1, .ref _), (2, .ref _), (3, .int _), (4, .int _), (5, .int _), (6, .int _), (7, .int _), (8, .int _), (9, .int _), (11, .ref _), (12, .int _)] ([]) _ _
    refine go_iload dL_law_584 rfl ?_
    refine go_bipush (-9) dL_law_586 rfl ?_
    refine go_icmp_ne (pc' := 605) dL_law_588 rfl (fun c_588 => ?_) (fun c_588 => ?_)
    · -- ne at 588: yes
      show bw_go _ _ _ _ _ _ _ 605 [(15, .int _), (14, .int _), (0, .retAddr _), (1, .ref _), (2, .ref _), (3, .int _), (4, .int _), (5, .int _), (6, .int _), (7, .int _), (8, .int _), (9, .int _), (11, .ref _), (12, .int _)] ([]) _ _
      refine go_iload dL_law_605 rfl ?_
      refine go_iconst (1) dL_law_607 rfl ?_
      refine go_icmp_lt (pc' := 643) dL_law_608 rfl (fun c_608 => ?_) (fun c_608 => ?_)
      · -- lt at 608: yes
        exfalso; have t_0 := nI_toInt (n := bc b) (by omega); have l_1 : (1 : Int32).toInt = 1 := rfl; simp only [i_lt] at c_608; omega
      · -- lt at 608: no
        show bw_go _ _ _ _ _ _ _ 611 [(15, .int _), (14, .int _), (0, .retAddr _), (1, .ref _), (2, .ref _), (3, .int _), (4, .int _), (5, .int _), (6, .int _), (7, .int _), (8, .int _), (9, .int _), (11, .ref _), (12, .int _)] ([]) _ _
        refine go_iload dL_law_611 rfl ?_
        refine go_iload dL_law_613 rfl ?_
        refine go_cs (as := [.int _]) 0 dL_law_615 rfl rfl mt_9_62 (Nat.le_of_ble_eq_true rfl) rfl rfl (Nat.le_of_ble_eq_true rfl) (Nat.le_of_ble_eq_true rfl) (Nat.le_of_ble_eq_true rfl) (Nat.le_of_ble_eq_true rfl) ?_
        refine me_L_bits (by omega) ?_
        show bw_go _ _ _ _ _ _ _ 618 [(15, .int _), (14, .int _), (0, .retAddr _), (1, .ref _), (2, .ref _), (3, .int _), (4, .int _), (5, .int _), (6, .int _), (7, .int _), (8, .int _), (9, .int _), (11, .ref _), (12, .int _)] ((.int _) :: (.int _) :: []) _ _
        refine go_icmp_ne (pc' := 643) dL_law_618 rfl (fun c_618 => ?_) (fun c_618 => ?_)
        · -- ne at 618: yes
          exact absurd rfl c_618
        · -- ne at 618: no
          show bw_go _ _ _ _ _ _ _ 621 [(15, .int _), (14, .int _), (0, .retAddr _), (1, .ref _), (2, .ref _), (3, .int _), (4, .int _), (5, .int _), (6, .int _), (7, .int _), (8, .int _), (9, .int _), (11, .ref _), (12, .int _)] ([]) _ _
          refine go_iload dL_law_621 rfl ?_
          refine go_iload dL_law_623 rfl ?_
          refine go_icmp_gt (pc' := 643) dL_law_625 rfl (fun c_625 => ?_) (fun c_625 => ?_)
          · -- gt at 625: yes
            exfalso; have t_0 := nI_toInt (n := b) (by omega); have t_1 := nI_toInt (n := 2 ^ cN (cc B) - 1) (by omega); simp only [i_lt] at c_625; omega
          · -- gt at 625: no
            show bw_go _ _ _ _ _ _ _ 628 [(15, .int _), (14, .int _), (0, .retAddr _), (1, .ref _), (2, .ref _), (3, .int _), (4, .int _), (5, .int _), (6, .int _), (7, .int _), (8, .int _), (9, .int _), (11, .ref _), (12, .int _)] ([]) _ _
            refine go_aload_n dL_law_628 rfl ?_
            refine go_iload dL_law_629 rfl ?_
            refine go_cv (as := [.int _]) 4 dL_law_631 mt_9_75 (Or.inl rfl) rfl rfl (lb_lt hx.1) (lb_k hx.1) (Nat.le_of_ble_eq_true rfl) (Nat.le_of_ble_eq_true rfl) (Nat.le_of_ble_eq_true rfl) (Nat.le_of_ble_eq_true rfl) (Nat.le_of_ble_eq_true rfl) ?_
            refine lx_shown hx hb (by omega) (fun G S' hx _ => ?_)
            show bw_go _ _ _ _ _ _ _ 634 [(15, .int _), (14, .int _), (0, .retAddr _), (1, .ref _), (2, .ref _), (3, .int _), (4, .int _), (5, .int _), (6, .int _), (7, .int _), (8, .int _), (9, .int _), (11, .ref _), (12, .int _)] ((.int _) :: []) _ _
            refine go_iload dL_law_634 rfl ?_
            refine go_ishr dL_law_636 ?_
            refine go_iconst (1) dL_law_637 rfl ?_
            refine go_iand dL_law_638 ?_
            refine go_iconst (1) dL_law_639 rfl ?_
            rw [bit_t _ (sho_lt _ _) t (by omega)]
            refine go_icmp_eq (pc' := 645) dL_law_640 rfl (fun c_640 => ?_) (fun c_640 => ?_)
            · -- eq at 640: yes
              refine go_ls [(0, .retAddr _), (1, .ref _), (2, .ref _), (3, .int _), (4, .int _), (5, .int _), (6, .int _), (7, .int _), (8, .int _), (9, .int _), (11, .ref _), (12, .int _), (14, .int _), (15, .int _)] (by show List.Nodup ([0, 1, 2, 3, 4, 5, 6, 7, 8, 9, 11, 12, 14, 15] : List Nat); decide) (by show List.Nodup ([15, 14, 0, 1, 2, 3, 4, 5, 6, 7, 8, 9, 11, 12] : List Nat); decide) (le_cons rfl (le_cons rfl (le_cons rfl (le_cons rfl (le_cons rfl (le_cons rfl (le_cons rfl (le_cons rfl (le_cons rfl (le_cons rfl (le_cons rfl (le_cons rfl (le_cons rfl (le_cons rfl (le_nil _))))))))))))))) ?_
              exact e645 hx hf ht h1 hb hs hm K
            · -- eq at 640: no
              exfalso; refine c_640 ?_; rw [hs]; rfl
    · -- ne at 588: no
      exfalso; have t_0 := nI_toInt (n := bc b) (by omega); have l_9 : (-9 : Int32).toInt = -9 := rfl; have z := congrArg Int32.toInt (Decidable.of_not_not c_588); omega
set_option maxRecDepth 100000 in
set_option maxHeartbeats 4000000 in
theorem e469 {X : Nat × (Nat → Int32)} {Q : Option Value → bw_H → Prop} {h : bw_H} {S : ST} {W T0 : RW} {B : AC} {K0 : Nat → Option AC} {F T : Nat → Int32} {t : Nat} (hx : LX 2 75 h S (A2 F T) W T0 B K0) (hf : LF F B) (ht : t < 6) (K9 : ∀ G S', LX 2 75 G S' (A2 F T) W T0 B K0 → bw_go X 12 9 48 false (some .boolean) cL_law 712 [(0, .retAddr 1), (1, .ref (0)), (2, .ref (62)), (3, .int (nI (cN (cc B)))), (4, .int (nI (2 ^ cN (cc B) - 1))), (5, .int (nI (cT B.1))), (6, .int (nI (cD (cc B)))), (7, .int (nI (cW (cc B)))), (8, .int (nI (sho (taC (cc B)) (2 ^ cN (cc B) - 1)))), (9, .int (nI (smN (cR (cc B)) (cN (cc B))))), (11, .ref (76)), (12, .int (nI t))] [] G Q) : bw_go X 12 9 48 false (some .boolean) cL_law 469 [(0, .retAddr 1), (1, .ref (0)), (2, .ref (62)), (3, .int (nI (cN (cc B)))), (4, .int (nI (2 ^ cN (cc B) - 1))), (5, .int (nI (cT B.1))), (6, .int (nI (cD (cc B)))), (7, .int (nI (cW (cc B)))), (8, .int (nI (sho (taC (cc B)) (2 ^ cN (cc B) - 1)))), (9, .int (nI (smN (cR (cc B)) (cN (cc B))))), (11, .ref (76)), (12, .int (nI t))] [] h Q := by
  have hk := lx_k hx
  have hN := hk.1
  have hp := p2N hN
  have hp1 : 1 ≤ 2 ^ cN (cc B) := Nat.one_le_two_pow
  have hn1 := hf.1.2.1
  show bw_go _ _ _ _ _ _ _ 469 [(0, .retAddr _), (1, .ref _), (2, .ref _), (3, .int _), (4, .int _), (5, .int _), (6, .int _), (7, .int _), (8, .int _), (9, .int _), (11, .ref _), (12, .int _)] ([]) _ _
  refine go_iconst (0) dL_law_469 rfl ?_
  refine go_istore dL_law_470 (Nat.lt_of_lt_of_le (Nat.lt_succ_self _) (Nat.le_of_ble_eq_true rfl)) ?_
  show bw_go _ _ _ _ _ _ _ 472 [(13, .int _), (0, .retAddr _), (1, .ref _), (2, .ref _), (3, .int _), (4, .int _), (5, .int _), (6, .int _), (7, .int _), (8, .int _), (9, .int _), (11, .ref _), (12, .int _)] ([]) _ _
  refine go_iconst (0) dL_law_472 rfl ?_
  refine go_istore dL_law_473 (Nat.lt_of_lt_of_le (Nat.lt_succ_self _) (Nat.le_of_ble_eq_true rfl)) ?_
  show bw_go _ _ _ _ _ _ _ 475 [(14, .int _), (13, .int _), (0, .retAddr _), (1, .ref _), (2, .ref _), (3, .int _), (4, .int _), (5, .int _), (6, .int _), (7, .int _), (8, .int _), (9, .int _), (11, .ref _), (12, .int _)] ([]) _ _
  suffices hz : bw_go X 12 9 48 false (some .boolean) cL_law 475 [(14, .int (0)), (13, .int (Int32.ofInt (bal (taC (cc B)) (2 ^ cN (cc B) - 1) t 0))), (0, .retAddr 1), (1, .ref (0)), (2, .ref (62)), (3, .int (nI (cN (cc B)))), (4, .int (nI (2 ^ cN (cc B) - 1))), (5, .int (nI (cT B.1))), (6, .int (nI (cD (cc B)))), (7, .int (nI (cW (cc B)))), (8, .int (nI (sho (taC (cc B)) (2 ^ cN (cc B) - 1)))), (9, .int (nI (smN (cR (cc B)) (cN (cc B))))), (11, .ref (76)), (12, .int (nI t))] [] h Q from hz
  refine go_ls [(0, .retAddr _), (1, .ref _), (2, .ref _), (3, .int _), (4, .int _), (5, .int _), (6, .int _), (7, .int _), (8, .int _), (9, .int _), (11, .ref _), (12, .int _), (13, .int _), (14, .int _)] (by show List.Nodup ([0, 1, 2, 3, 4, 5, 6, 7, 8, 9, 11, 12, 13, 14] : List Nat); decide) (by show List.Nodup ([14, 13, 0, 1, 2, 3, 4, 5, 6, 7, 8, 9, 11, 12] : List Nat); decide) (le_cons rfl (le_cons rfl (le_cons rfl (le_cons rfl (le_cons rfl (le_cons rfl (le_cons rfl (le_cons rfl (le_cons rfl (le_cons rfl (le_cons rfl (le_cons rfl (le_cons rfl (le_cons rfl (le_nil _))))))))))))))) ?_
  refine go_for (P := fun i => ∀ (g : bw_H) (S : ST), (LX 2 75 g S (A2 F T) W T0 B K0) → bw_go X 12 9 48 false (some .boolean) cL_law 475 [(0, .retAddr 1), (1, .ref (0)), (2, .ref (62)), (3, .int (nI (cN (cc B)))), (4, .int (nI (2 ^ cN (cc B) - 1))), (5, .int (nI (cT B.1))), (6, .int (nI (cD (cc B)))), (7, .int (nI (cW (cc B)))), (8, .int (nI (sho (taC (cc B)) (2 ^ cN (cc B) - 1)))), (9, .int (nI (smN (cR (cc B)) (cN (cc B))))), (11, .ref (76)), (12, .int (nI t)), (13, .int (Int32.ofInt (bal (taC (cc B)) (2 ^ cN (cc B) - 1) t i))), (14, .int (nI i))] [] g Q) (N := (cN (cc B))) (fun i hi K => ?_) ?_ (0) (Nat.zero_le _) _ _ hx
  · -- a turn
    intro g S hv
    have hx := hv
    show bw_go _ _ _ _ _ _ _ 475 [(0, .retAddr _), (1, .ref _), (2, .ref _), (3, .int _), (4, .int _), (5, .int _), (6, .int _), (7, .int _), (8, .int _), (9, .int _), (11, .ref _), (12, .int _), (13, .int _), (14, .int _)] ([]) _ _
    refine go_iload dL_law_475 rfl ?_
    refine go_iload_n dL_law_477 rfl ?_
    refine go_icmp_ge (pc' := 517) dL_law_478 rfl (fun c_478 => ?_) (fun c_478 => ?_)
    · -- ge at 478: yes
      exfalso; have t_0 := nI_toInt (n := i) (by omega); have t_1 := nI_toInt (n := cN (cc B)) (by omega); simp only [i_le, i_lt, i_eq, bi_eq] at c_478; omega
    · -- ge at 478: no
      show bw_go _ _ _ _ _ _ _ 481 [(0, .retAddr _), (1, .ref _), (2, .ref _), (3, .int _), (4, .int _), (5, .int _), (6, .int _), (7, .int _), (8, .int _), (9, .int _), (11, .ref _), (12, .int _), (13, .int _), (14, .int _)] ([]) _ _
      refine go_aload_n dL_law_481 rfl ?_
      refine go_iload dL_law_482 rfl ?_
      refine go_iload dL_law_484 rfl ?_
      refine go_cv (as := [.int _, .int _]) 5 dL_law_486 mt_9_72 (Or.inl rfl) rfl rfl (lb_lt hx.1) (lb_k hx.1) (Nat.le_of_ble_eq_true rfl) (Nat.le_of_ble_eq_true rfl) (Nat.le_of_ble_eq_true rfl) (Nat.le_of_ble_eq_true rfl) (Nat.le_of_ble_eq_true rfl) ?_
      refine lx_tells hx hi ht (fun G S' hx => ?_)
      rcases an_c (cc B) i t with ⟨e1, e2, _⟩ | ⟨e1, e2, _⟩ | ⟨e1, e2, _⟩
      · rw [e1]
        show bw_go _ _ _ _ _ _ _ 489 [(0, .retAddr _), (1, .ref _), (2, .ref _), (3, .int _), (4, .int _), (5, .int _), (6, .int _), (7, .int _), (8, .int _), (9, .int _), (11, .ref _), (12, .int _), (13, .int _), (14, .int _)] ((.int _) :: []) _ _
        refine go_istore dL_law_489 (Nat.lt_of_lt_of_le (Nat.lt_succ_self _) (Nat.le_of_ble_eq_true rfl)) ?_
        show bw_go _ _ _ _ _ _ _ 491 [(15, .int _), (0, .retAddr _), (1, .ref _), (2, .ref _), (3, .int _), (4, .int _), (5, .int _), (6, .int _), (7, .int _), (8, .int _), (9, .int _), (11, .ref _), (12, .int _), (13, .int _), (14, .int _)] ([]) _ _
        refine go_iload dL_law_491 rfl ?_
        refine go_iload dL_law_493 rfl ?_
        refine go_if_ge (pc' := 502) dL_law_495 rfl (fun c => absurd c (by decide)) (fun _ => ?_)
        show bw_go _ _ _ _ _ _ _ 498 [(15, .int _), (0, .retAddr _), (1, .ref _), (2, .ref _), (3, .int _), (4, .int _), (5, .int _), (6, .int _), (7, .int _), (8, .int _), (9, .int _), (11, .ref _), (12, .int _), (13, .int _), (14, .int _)] ((.int _) :: []) _ _
        refine go_iconst (0) dL_law_498 rfl ?_
        refine go_goto (pc' := 508) dL_law_499 rfl ?_
        show bw_go _ _ _ _ _ _ _ 508 [(15, .int _), (0, .retAddr _), (1, .ref _), (2, .ref _), (3, .int _), (4, .int _), (5, .int _), (6, .int _), (7, .int _), (8, .int _), (9, .int _), (11, .ref _), (12, .int _), (13, .int _), (14, .int _)] ((.int _) :: (.int _) :: []) _ _
        refine go_iadd dL_law_508 ?_
        rw [show (0 : Int32) = Int32.ofInt 0 from rfl, ofI_add]
        refine go_istore dL_law_509 (Nat.lt_of_lt_of_le (Nat.lt_succ_self _) (Nat.le_of_ble_eq_true rfl)) ?_
        show bw_go _ _ _ _ _ _ _ 511 [(13, .int _), (15, .int _), (0, .retAddr _), (1, .ref _), (2, .ref _), (3, .int _), (4, .int _), (5, .int _), (6, .int _), (7, .int _), (8, .int _), (9, .int _), (11, .ref _), (12, .int _), (14, .int _)] ([]) _ _
        refine go_iinc dL_law_511 rfl (nI_1 i) (Nat.lt_of_lt_of_le (Nat.lt_succ_self _) (Nat.le_of_ble_eq_true rfl)) ?_
        show bw_go _ _ _ _ _ _ _ 514 [(14, .int _), (13, .int _), (15, .int _), (0, .retAddr _), (1, .ref _), (2, .ref _), (3, .int _), (4, .int _), (5, .int _), (6, .int _), (7, .int _), (8, .int _), (9, .int _), (11, .ref _), (12, .int _)] ([]) _ _
        refine go_goto (pc' := 475) dL_law_514 rfl ?_
        refine go_ls [(0, .retAddr _), (1, .ref _), (2, .ref _), (3, .int _), (4, .int _), (5, .int _), (6, .int _), (7, .int _), (8, .int _), (9, .int _), (11, .ref _), (12, .int _), (13, .int _), (14, .int _)] (by show List.Nodup ([0, 1, 2, 3, 4, 5, 6, 7, 8, 9, 11, 12, 13, 14] : List Nat); decide) (by show List.Nodup ([14, 13, 15, 0, 1, 2, 3, 4, 5, 6, 7, 8, 9, 11, 12] : List Nat); decide) (le_cons rfl (le_cons rfl (le_cons rfl (le_cons rfl (le_cons rfl (le_cons rfl (le_cons rfl (le_cons rfl (le_cons rfl (le_cons rfl (le_cons rfl (le_cons rfl (le_cons rfl (le_cons rfl (le_nil _))))))))))))))) ?_
        have e9 := bal_c (C := cc B) (s := 2 ^ cN (cc B) - 1) ht i
        rw [if_pos (all_tb hi), e2] at e9
        rw [← e9]
        exact K _ _ hx
      · rw [e1]
        show bw_go _ _ _ _ _ _ _ 489 [(0, .retAddr _), (1, .ref _), (2, .ref _), (3, .int _), (4, .int _), (5, .int _), (6, .int _), (7, .int _), (8, .int _), (9, .int _), (11, .ref _), (12, .int _), (13, .int _), (14, .int _)] ((.int _) :: []) _ _
        refine go_istore dL_law_489 (Nat.lt_of_lt_of_le (Nat.lt_succ_self _) (Nat.le_of_ble_eq_true rfl)) ?_
        show bw_go _ _ _ _ _ _ _ 491 [(15, .int _), (0, .retAddr _), (1, .ref _), (2, .ref _), (3, .int _), (4, .int _), (5, .int _), (6, .int _), (7, .int _), (8, .int _), (9, .int _), (11, .ref _), (12, .int _), (13, .int _), (14, .int _)] ([]) _ _
        refine go_iload dL_law_491 rfl ?_
        refine go_iload dL_law_493 rfl ?_
        refine go_if_ge (pc' := 502) dL_law_495 rfl (fun _ => ?_) (fun c => absurd (by decide) c)
        show bw_go _ _ _ _ _ _ _ 502 [(15, .int _), (0, .retAddr _), (1, .ref _), (2, .ref _), (3, .int _), (4, .int _), (5, .int _), (6, .int _), (7, .int _), (8, .int _), (9, .int _), (11, .ref _), (12, .int _), (13, .int _), (14, .int _)] ((.int _) :: []) _ _
        refine go_iconst (2) dL_law_502 rfl ?_
        refine go_iload dL_law_503 rfl ?_
        refine go_imul dL_law_505 ?_
        refine go_iconst (1) dL_law_506 rfl ?_
        refine go_isub dL_law_507 ?_
        refine go_iadd dL_law_508 ?_
        rw [show ((2 : Int32) * 0 - 1 : Int32) = Int32.ofInt (-1) from rfl, ofI_add]
        refine go_istore dL_law_509 (Nat.lt_of_lt_of_le (Nat.lt_succ_self _) (Nat.le_of_ble_eq_true rfl)) ?_
        show bw_go _ _ _ _ _ _ _ 511 [(13, .int _), (15, .int _), (0, .retAddr _), (1, .ref _), (2, .ref _), (3, .int _), (4, .int _), (5, .int _), (6, .int _), (7, .int _), (8, .int _), (9, .int _), (11, .ref _), (12, .int _), (14, .int _)] ([]) _ _
        refine go_iinc dL_law_511 rfl (nI_1 i) (Nat.lt_of_lt_of_le (Nat.lt_succ_self _) (Nat.le_of_ble_eq_true rfl)) ?_
        show bw_go _ _ _ _ _ _ _ 514 [(14, .int _), (13, .int _), (15, .int _), (0, .retAddr _), (1, .ref _), (2, .ref _), (3, .int _), (4, .int _), (5, .int _), (6, .int _), (7, .int _), (8, .int _), (9, .int _), (11, .ref _), (12, .int _)] ([]) _ _
        refine go_goto (pc' := 475) dL_law_514 rfl ?_
        refine go_ls [(0, .retAddr _), (1, .ref _), (2, .ref _), (3, .int _), (4, .int _), (5, .int _), (6, .int _), (7, .int _), (8, .int _), (9, .int _), (11, .ref _), (12, .int _), (13, .int _), (14, .int _)] (by show List.Nodup ([0, 1, 2, 3, 4, 5, 6, 7, 8, 9, 11, 12, 13, 14] : List Nat); decide) (by show List.Nodup ([14, 13, 15, 0, 1, 2, 3, 4, 5, 6, 7, 8, 9, 11, 12] : List Nat); decide) (le_cons rfl (le_cons rfl (le_cons rfl (le_cons rfl (le_cons rfl (le_cons rfl (le_cons rfl (le_cons rfl (le_cons rfl (le_cons rfl (le_cons rfl (le_cons rfl (le_cons rfl (le_cons rfl (le_nil _))))))))))))))) ?_
        have e9 := bal_c (C := cc B) (s := 2 ^ cN (cc B) - 1) ht i
        rw [if_pos (all_tb hi), e2] at e9
        rw [← e9]
        exact K _ _ hx
      · rw [e1]
        show bw_go _ _ _ _ _ _ _ 489 [(0, .retAddr _), (1, .ref _), (2, .ref _), (3, .int _), (4, .int _), (5, .int _), (6, .int _), (7, .int _), (8, .int _), (9, .int _), (11, .ref _), (12, .int _), (13, .int _), (14, .int _)] ((.int _) :: []) _ _
        refine go_istore dL_law_489 (Nat.lt_of_lt_of_le (Nat.lt_succ_self _) (Nat.le_of_ble_eq_true rfl)) ?_
        show bw_go _ _ _ _ _ _ _ 491 [(15, .int _), (0, .retAddr _), (1, .ref _), (2, .ref _), (3, .int _), (4, .int _), (5, .int _), (6, .int _), (7, .int _), (8, .int _), (9, .int _), (11, .ref _), (12, .int _), (13, .int _), (14, .int _)] ([]) _ _
        refine go_iload dL_law_491 rfl ?_
        refine go_iload dL_law_493 rfl ?_
        refine go_if_ge (pc' := 502) dL_law_495 rfl (fun _ => ?_) (fun c => absurd (by decide) c)
        show bw_go _ _ _ _ _ _ _ 502 [(15, .int _), (0, .retAddr _), (1, .ref _), (2, .ref _), (3, .int _), (4, .int _), (5, .int _), (6, .int _), (7, .int _), (8, .int _), (9, .int _), (11, .ref _), (12, .int _), (13, .int _), (14, .int _)] ((.int _) :: []) _ _
        refine go_iconst (2) dL_law_502 rfl ?_
        refine go_iload dL_law_503 rfl ?_
        refine go_imul dL_law_505 ?_
        refine go_iconst (1) dL_law_506 rfl ?_
        refine go_isub dL_law_507 ?_
        refine go_iadd dL_law_508 ?_
        rw [show ((2 : Int32) * 1 - 1 : Int32) = Int32.ofInt 1 from rfl, ofI_add]
        refine go_istore dL_law_509 (Nat.lt_of_lt_of_le (Nat.lt_succ_self _) (Nat.le_of_ble_eq_true rfl)) ?_
        show bw_go _ _ _ _ _ _ _ 511 [(13, .int _), (15, .int _), (0, .retAddr _), (1, .ref _), (2, .ref _), (3, .int _), (4, .int _), (5, .int _), (6, .int _), (7, .int _), (8, .int _), (9, .int _), (11, .ref _), (12, .int _), (14, .int _)] ([]) _ _
        refine go_iinc dL_law_511 rfl (nI_1 i) (Nat.lt_of_lt_of_le (Nat.lt_succ_self _) (Nat.le_of_ble_eq_true rfl)) ?_
        show bw_go _ _ _ _ _ _ _ 514 [(14, .int _), (13, .int _), (15, .int _), (0, .retAddr _), (1, .ref _), (2, .ref _), (3, .int _), (4, .int _), (5, .int _), (6, .int _), (7, .int _), (8, .int _), (9, .int _), (11, .ref _), (12, .int _)] ([]) _ _
        refine go_goto (pc' := 475) dL_law_514 rfl ?_
        refine go_ls [(0, .retAddr _), (1, .ref _), (2, .ref _), (3, .int _), (4, .int _), (5, .int _), (6, .int _), (7, .int _), (8, .int _), (9, .int _), (11, .ref _), (12, .int _), (13, .int _), (14, .int _)] (by show List.Nodup ([0, 1, 2, 3, 4, 5, 6, 7, 8, 9, 11, 12, 13, 14] : List Nat); decide) (by show List.Nodup ([14, 13, 15, 0, 1, 2, 3, 4, 5, 6, 7, 8, 9, 11, 12] : List Nat); decide) (le_cons rfl (le_cons rfl (le_cons rfl (le_cons rfl (le_cons rfl (le_cons rfl (le_cons rfl (le_cons rfl (le_cons rfl (le_cons rfl (le_cons rfl (le_cons rfl (le_cons rfl (le_cons rfl (le_nil _))))))))))))))) ?_
        have e9 := bal_c (C := cc B) (s := 2 ^ cN (cc B) - 1) ht i
        rw [if_pos (all_tb hi), e2] at e9
        rw [← e9]
        exact K _ _ hx
  · -- behind the last
    intro g S hv
    have hx := hv
    show bw_go _ _ _ _ _ _ _ 475 [(0, .retAddr _), (1, .ref _), (2, .ref _), (3, .int _), (4, .int _), (5, .int _), (6, .int _), (7, .int _), (8, .int _), (9, .int _), (11, .ref _), (12, .int _), (13, .int _), (14, .int _)] ([]) _ _
    refine go_iload dL_law_475 rfl ?_
    refine go_iload_n dL_law_477 rfl ?_
    refine go_icmp_ge (pc' := 517) dL_law_478 rfl (fun c_478 => ?_) (fun c_478 => ?_)
    · -- ge at 478: yes
      show bw_go _ _ _ _ _ _ _ 517 [(0, .retAddr _), (1, .ref _), (2, .ref _), (3, .int _), (4, .int _), (5, .int _), (6, .int _), (7, .int _), (8, .int _), (9, .int _), (11, .ref _), (12, .int _), (13, .int _), (14, .int _)] ([]) _ _
      refine go_iload dL_law_517 rfl ?_
      refine go_if_le (pc' := 526) dL_law_519 rfl (fun c_519 => ?_) (fun c_519 => ?_)
      · -- le at 519: yes
        show bw_go _ _ _ _ _ _ _ 526 [(0, .retAddr _), (1, .ref _), (2, .ref _), (3, .int _), (4, .int _), (5, .int _), (6, .int _), (7, .int _), (8, .int _), (9, .int _), (11, .ref _), (12, .int _), (13, .int _), (14, .int _)] ([]) _ _
        refine go_iconst (0) dL_law_526 rfl ?_
        refine go_iload dL_law_527 rfl ?_
        refine go_iload dL_law_529 rfl ?_
        refine go_ishr dL_law_531 ?_
        refine go_iconst (1) dL_law_532 rfl ?_
        refine go_iand dL_law_533 ?_
        refine go_iconst (1) dL_law_534 rfl ?_
        rw [bit_t _ (sho_lt _ _) t (by omega)]
        refine go_icmp_ne (pc' := 542) dL_law_535 rfl (fun c_535 => ?_) (fun c_535 => ?_)
        · -- ne at 535: yes
          show bw_go _ _ _ _ _ _ _ 542 [(0, .retAddr _), (1, .ref _), (2, .ref _), (3, .int _), (4, .int _), (5, .int _), (6, .int _), (7, .int _), (8, .int _), (9, .int _), (11, .ref _), (12, .int _), (13, .int _), (14, .int _)] ((.int _) :: []) _ _
          refine go_iconst (0) dL_law_542 rfl ?_
          refine go_icmp_ne (pc' := 566) dL_law_543 rfl (fun c => absurd c (by decide)) (fun _ => ?_)
          show bw_go _ _ _ _ _ _ _ 546 [(0, .retAddr _), (1, .ref _), (2, .ref _), (3, .int _), (4, .int _), (5, .int _), (6, .int _), (7, .int _), (8, .int _), (9, .int _), (11, .ref _), (12, .int _), (13, .int _), (14, .int _)] ([]) _ _
          refine go_aload_n dL_law_546 rfl ?_
          refine go_iload dL_law_547 rfl ?_
          refine go_iconst (0) dL_law_549 rfl ?_
          refine go_cv (as := [.int _, .int _]) 8 dL_law_550 mt_9_78 (Or.inl rfl) rfl rfl (lb_lt hx.1) (lb_k hx.1) (Nat.le_of_ble_eq_true rfl) (Nat.le_of_ble_eq_true rfl) (Nat.le_of_ble_eq_true rfl) (Nat.le_of_ble_eq_true rfl) (Nat.le_of_ble_eq_true rfl) ?_
          refine lx_duel (n := 0) hx ht (by decide) (by omega) (fun G S' hx hq => ?_)
          show bw_go _ _ _ _ _ _ _ 553 [(0, .retAddr _), (1, .ref _), (2, .ref _), (3, .int _), (4, .int _), (5, .int _), (6, .int _), (7, .int _), (8, .int _), (9, .int _), (11, .ref _), (12, .int _), (13, .int _), (14, .int _)] ((.int _) :: []) _ _
          refine go_iconst (1) dL_law_553 rfl ?_
          refine go_icmp_ne (pc' := 566) dL_law_554 rfl (fun c => absurd c (by decide)) (fun _ => ?_)
          show bw_go _ _ _ _ _ _ _ 557 [(0, .retAddr _), (1, .ref _), (2, .ref _), (3, .int _), (4, .int _), (5, .int _), (6, .int _), (7, .int _), (8, .int _), (9, .int _), (11, .ref _), (12, .int _), (13, .int _), (14, .int _)] ([]) _ _
          refine go_aload_n dL_law_557 rfl ?_
          refine go_cv (as := []) 0 dL_law_558 mt_9_42 (Or.inl rfl) rfl rfl (lb_lt hx.1) (lb_k hx.1) (Nat.le_of_ble_eq_true rfl) (Nat.le_of_ble_eq_true rfl) (Nat.le_of_ble_eq_true rfl) (Nat.le_of_ble_eq_true rfl) (Nat.le_of_ble_eq_true rfl) ?_
          refine lx_asked hx (fun G hx => ?_)
          rw [hq, show plv (2 * 0) (opT (cc B) (2 ^ cN (cc B) - 1) t) = mor (cN (cc B)) (cR (cc B)) (opW (cc B) (2 ^ cN (cc B) - 1) t) from rfl, mor_b2 ht]
          show bw_go _ _ _ _ _ _ _ 561 [(0, .retAddr _), (1, .ref _), (2, .ref _), (3, .int _), (4, .int _), (5, .int _), (6, .int _), (7, .int _), (8, .int _), (9, .int _), (11, .ref _), (12, .int _), (13, .int _), (14, .int _)] ((.int _) :: []) _ _
          refine go_iload dL_law_561 rfl ?_
          refine go_icmp_eq (pc' := 568) dL_law_563 rfl (fun c_563 => ?_) (fun c_563 => ?_)
          · -- eq at 563: yes
            refine go_ls [(0, .retAddr _), (1, .ref _), (2, .ref _), (3, .int _), (4, .int _), (5, .int _), (6, .int _), (7, .int _), (8, .int _), (9, .int _), (11, .ref _), (12, .int _)] (by show List.Nodup ([0, 1, 2, 3, 4, 5, 6, 7, 8, 9, 11, 12] : List Nat); decide) (by show List.Nodup ([0, 1, 2, 3, 4, 5, 6, 7, 8, 9, 11, 12, 13, 14] : List Nat); decide) (le_cons rfl (le_cons rfl (le_cons rfl (le_cons rfl (le_cons rfl (le_cons rfl (le_cons rfl (le_cons rfl (le_cons rfl (le_cons rfl (le_cons rfl (le_cons rfl (le_nil _))))))))))))) ?_
            exact e568 hx hf ht K9
          · -- eq at 563: no
            exact absurd rfl c_563
        · -- ne at 535: no
          show bw_go _ _ _ _ _ _ _ 538 [(0, .retAddr _), (1, .ref _), (2, .ref _), (3, .int _), (4, .int _), (5, .int _), (6, .int _), (7, .int _), (8, .int _), (9, .int _), (11, .ref _), (12, .int _), (13, .int _), (14, .int _)] ((.int _) :: []) _ _
          refine go_iconst (1) dL_law_538 rfl ?_
          refine go_goto (pc' := 543) dL_law_539 rfl ?_
          show bw_go _ _ _ _ _ _ _ 543 [(0, .retAddr _), (1, .ref _), (2, .ref _), (3, .int _), (4, .int _), (5, .int _), (6, .int _), (7, .int _), (8, .int _), (9, .int _), (11, .ref _), (12, .int _), (13, .int _), (14, .int _)] ((.int _) :: (.int _) :: []) _ _
          refine go_icmp_ne (pc' := 566) dL_law_543 rfl (fun _ => ?_) (fun c => absurd (by decide) c)
          exfalso
          have hb1 := (sho_tb (A := taC (cc B)) (s := 2 ^ cN (cc B) - 1) ht)
          have hbb := bal_b (taC (cc B)) (2 ^ cN (cc B) - 1) t (cN (cc B))
          have t_9 := ofI_t (z := bal (taC (cc B)) (2 ^ cN (cc B) - 1) t (cN (cc B))) (by omega) (by omega)
          have l_0 := i_0
          have hb1 : (sho (taC (cc B)) (2 ^ cN (cc B) - 1)).testBit t = true ↔ 0 < bal (taC (cc B)) (2 ^ cN (cc B) - 1) t (cN (cc B)) := hb1
          simp only [i_le] at c_519
          cases hh : (sho (taC (cc B)) (2 ^ cN (cc B) - 1)).testBit t with
          | true =>
            rw [hh] at hb1 c_535
            have := hb1.mp rfl
            first | omega | exact absurd (show nI (if true = true then 1 else 0) = 1 by rfl) c_535
          | false =>
            rw [hh] at hb1 c_535
            have : ¬ 0 < bal (taC (cc B)) (2 ^ cN (cc B) - 1) t (cN (cc B)) := fun z => by cases hb1.mpr z
            first | omega | exact absurd (Decidable.of_not_not c_535) (by decide)
      · -- le at 519: no
        show bw_go _ _ _ _ _ _ _ 522 [(0, .retAddr _), (1, .ref _), (2, .ref _), (3, .int _), (4, .int _), (5, .int _), (6, .int _), (7, .int _), (8, .int _), (9, .int _), (11, .ref _), (12, .int _), (13, .int _), (14, .int _)] ([]) _ _
        refine go_iconst (1) dL_law_522 rfl ?_
        refine go_goto (pc' := 527) dL_law_523 rfl ?_
        show bw_go _ _ _ _ _ _ _ 527 [(0, .retAddr _), (1, .ref _), (2, .ref _), (3, .int _), (4, .int _), (5, .int _), (6, .int _), (7, .int _), (8, .int _), (9, .int _), (11, .ref _), (12, .int _), (13, .int _), (14, .int _)] ((.int _) :: []) _ _
        refine go_iload dL_law_527 rfl ?_
        refine go_iload dL_law_529 rfl ?_
        refine go_ishr dL_law_531 ?_
        refine go_iconst (1) dL_law_532 rfl ?_
        refine go_iand dL_law_533 ?_
        refine go_iconst (1) dL_law_534 rfl ?_
        rw [bit_t _ (sho_lt _ _) t (by omega)]
        refine go_icmp_ne (pc' := 542) dL_law_535 rfl (fun c_535 => ?_) (fun c_535 => ?_)
        · -- ne at 535: yes
          show bw_go _ _ _ _ _ _ _ 542 [(0, .retAddr _), (1, .ref _), (2, .ref _), (3, .int _), (4, .int _), (5, .int _), (6, .int _), (7, .int _), (8, .int _), (9, .int _), (11, .ref _), (12, .int _), (13, .int _), (14, .int _)] ((.int _) :: []) _ _
          refine go_iconst (0) dL_law_542 rfl ?_
          refine go_icmp_ne (pc' := 566) dL_law_543 rfl (fun _ => ?_) (fun c => absurd (by decide) c)
          exfalso
          have hb1 := (sho_tb (A := taC (cc B)) (s := 2 ^ cN (cc B) - 1) ht)
          have hbb := bal_b (taC (cc B)) (2 ^ cN (cc B) - 1) t (cN (cc B))
          have t_9 := ofI_t (z := bal (taC (cc B)) (2 ^ cN (cc B) - 1) t (cN (cc B))) (by omega) (by omega)
          have l_0 := i_0
          have hb1 : (sho (taC (cc B)) (2 ^ cN (cc B) - 1)).testBit t = true ↔ 0 < bal (taC (cc B)) (2 ^ cN (cc B) - 1) t (cN (cc B)) := hb1
          simp only [i_le] at c_519
          cases hh : (sho (taC (cc B)) (2 ^ cN (cc B) - 1)).testBit t with
          | true =>
            rw [hh] at hb1 c_535
            have := hb1.mp rfl
            first | omega | exact absurd (show nI (if true = true then 1 else 0) = 1 by rfl) c_535
          | false =>
            rw [hh] at hb1 c_535
            have : ¬ 0 < bal (taC (cc B)) (2 ^ cN (cc B) - 1) t (cN (cc B)) := fun z => by cases hb1.mpr z
            first | omega | exact absurd (Decidable.of_not_not c_535) (by decide)
        · -- ne at 535: no
          show bw_go _ _ _ _ _ _ _ 538 [(0, .retAddr _), (1, .ref _), (2, .ref _), (3, .int _), (4, .int _), (5, .int _), (6, .int _), (7, .int _), (8, .int _), (9, .int _), (11, .ref _), (12, .int _), (13, .int _), (14, .int _)] ((.int _) :: []) _ _
          refine go_iconst (1) dL_law_538 rfl ?_
          refine go_goto (pc' := 543) dL_law_539 rfl ?_
          show bw_go _ _ _ _ _ _ _ 543 [(0, .retAddr _), (1, .ref _), (2, .ref _), (3, .int _), (4, .int _), (5, .int _), (6, .int _), (7, .int _), (8, .int _), (9, .int _), (11, .ref _), (12, .int _), (13, .int _), (14, .int _)] ((.int _) :: (.int _) :: []) _ _
          refine go_icmp_ne (pc' := 566) dL_law_543 rfl (fun c => absurd c (by decide)) (fun _ => ?_)
          show bw_go _ _ _ _ _ _ _ 546 [(0, .retAddr _), (1, .ref _), (2, .ref _), (3, .int _), (4, .int _), (5, .int _), (6, .int _), (7, .int _), (8, .int _), (9, .int _), (11, .ref _), (12, .int _), (13, .int _), (14, .int _)] ([]) _ _
          refine go_aload_n dL_law_546 rfl ?_
          refine go_iload dL_law_547 rfl ?_
          refine go_iconst (0) dL_law_549 rfl ?_
          refine go_cv (as := [.int _, .int _]) 8 dL_law_550 mt_9_78 (Or.inl rfl) rfl rfl (lb_lt hx.1) (lb_k hx.1) (Nat.le_of_ble_eq_true rfl) (Nat.le_of_ble_eq_true rfl) (Nat.le_of_ble_eq_true rfl) (Nat.le_of_ble_eq_true rfl) (Nat.le_of_ble_eq_true rfl) ?_
          refine lx_duel (n := 0) hx ht (by decide) (by omega) (fun G S' hx hq => ?_)
          show bw_go _ _ _ _ _ _ _ 553 [(0, .retAddr _), (1, .ref _), (2, .ref _), (3, .int _), (4, .int _), (5, .int _), (6, .int _), (7, .int _), (8, .int _), (9, .int _), (11, .ref _), (12, .int _), (13, .int _), (14, .int _)] ((.int _) :: []) _ _
          refine go_iconst (1) dL_law_553 rfl ?_
          refine go_icmp_ne (pc' := 566) dL_law_554 rfl (fun c => absurd c (by decide)) (fun _ => ?_)
          show bw_go _ _ _ _ _ _ _ 557 [(0, .retAddr _), (1, .ref _), (2, .ref _), (3, .int _), (4, .int _), (5, .int _), (6, .int _), (7, .int _), (8, .int _), (9, .int _), (11, .ref _), (12, .int _), (13, .int _), (14, .int _)] ([]) _ _
          refine go_aload_n dL_law_557 rfl ?_
          refine go_cv (as := []) 0 dL_law_558 mt_9_42 (Or.inl rfl) rfl rfl (lb_lt hx.1) (lb_k hx.1) (Nat.le_of_ble_eq_true rfl) (Nat.le_of_ble_eq_true rfl) (Nat.le_of_ble_eq_true rfl) (Nat.le_of_ble_eq_true rfl) (Nat.le_of_ble_eq_true rfl) ?_
          refine lx_asked hx (fun G hx => ?_)
          rw [hq, show plv (2 * 0) (opT (cc B) (2 ^ cN (cc B) - 1) t) = mor (cN (cc B)) (cR (cc B)) (opW (cc B) (2 ^ cN (cc B) - 1) t) from rfl, mor_b2 ht]
          show bw_go _ _ _ _ _ _ _ 561 [(0, .retAddr _), (1, .ref _), (2, .ref _), (3, .int _), (4, .int _), (5, .int _), (6, .int _), (7, .int _), (8, .int _), (9, .int _), (11, .ref _), (12, .int _), (13, .int _), (14, .int _)] ((.int _) :: []) _ _
          refine go_iload dL_law_561 rfl ?_
          refine go_icmp_eq (pc' := 568) dL_law_563 rfl (fun c_563 => ?_) (fun c_563 => ?_)
          · -- eq at 563: yes
            refine go_ls [(0, .retAddr _), (1, .ref _), (2, .ref _), (3, .int _), (4, .int _), (5, .int _), (6, .int _), (7, .int _), (8, .int _), (9, .int _), (11, .ref _), (12, .int _)] (by show List.Nodup ([0, 1, 2, 3, 4, 5, 6, 7, 8, 9, 11, 12] : List Nat); decide) (by show List.Nodup ([0, 1, 2, 3, 4, 5, 6, 7, 8, 9, 11, 12, 13, 14] : List Nat); decide) (le_cons rfl (le_cons rfl (le_cons rfl (le_cons rfl (le_cons rfl (le_cons rfl (le_cons rfl (le_cons rfl (le_cons rfl (le_cons rfl (le_cons rfl (le_cons rfl (le_nil _))))))))))))) ?_
            exact e568 hx hf ht K9
          · -- eq at 563: no
            exact absurd rfl c_563
    · -- ge at 478: no
      exfalso; have t_0 := nI_toInt (n := cN (cc B)) (by omega); simp only [i_le, i_lt, i_eq, bi_eq] at c_478; omega
set_option maxRecDepth 100000 in
set_option maxHeartbeats 4000000 in
theorem law_E {X : Nat × (Nat → Int32)} {Q : Option Value → bw_H → Prop} {h : bw_H} {S : ST} {W T0 : RW} {B : AC} {K0 : Nat → Option AC} {F T : Nat → Int32} (hx : LX 2 75 h S (A2 F T) W T0 B K0) (hf : LF F B) (K9 : ∀ G S', LX 2 75 G S' (A2 F T) W T0 B K0 → bw_go X 12 9 48 false (some .boolean) cL_law 718 [(0, .retAddr 1), (1, .ref (0)), (2, .ref (62)), (3, .int (nI (cN (cc B)))), (4, .int (nI (2 ^ cN (cc B) - 1))), (5, .int (nI (cT B.1))), (6, .int (nI (cD (cc B)))), (7, .int (nI (cW (cc B)))), (8, .int (nI (sho (taC (cc B)) (2 ^ cN (cc B) - 1)))), (9, .int (nI (smN (cR (cc B)) (cN (cc B))))), (11, .ref (76))] [] G Q) : bw_go X 12 9 48 false (some .boolean) cL_law 462 [(0, .retAddr 1), (1, .ref (0)), (2, .ref (62)), (3, .int (nI (cN (cc B)))), (4, .int (nI (2 ^ cN (cc B) - 1))), (5, .int (nI (cT B.1))), (6, .int (nI (cD (cc B)))), (7, .int (nI (cW (cc B)))), (8, .int (nI (sho (taC (cc B)) (2 ^ cN (cc B) - 1)))), (9, .int (nI (smN (cR (cc B)) (cN (cc B))))), (11, .ref (76)), (12, .int (0))] [] h Q := by
  refine go_for (P := fun t => ∀ (g : bw_H) (S : ST), (LX 2 75 g S (A2 F T) W T0 B K0) → bw_go X 12 9 48 false (some .boolean) cL_law 462 [(0, .retAddr 1), (1, .ref (0)), (2, .ref (62)), (3, .int (nI (cN (cc B)))), (4, .int (nI (2 ^ cN (cc B) - 1))), (5, .int (nI (cT B.1))), (6, .int (nI (cD (cc B)))), (7, .int (nI (cW (cc B)))), (8, .int (nI (sho (taC (cc B)) (2 ^ cN (cc B) - 1)))), (9, .int (nI (smN (cR (cc B)) (cN (cc B))))), (11, .ref (76)), (12, .int (nI t))] [] g Q) (N := 6) (fun t ht K => ?_) ?_ (0) (Nat.zero_le _) _ _ hx
  · -- a turn
    intro g S hv
    have hx := hv
    show bw_go _ _ _ _ _ _ _ 462 [(0, .retAddr _), (1, .ref _), (2, .ref _), (3, .int _), (4, .int _), (5, .int _), (6, .int _), (7, .int _), (8, .int _), (9, .int _), (11, .ref _), (12, .int _)] ([]) _ _
    refine go_iload dL_law_462 rfl ?_
    refine go_bipush (6) dL_law_464 rfl ?_
    refine go_icmp_ge (pc' := 718) dL_law_466 rfl (fun c_466 => ?_) (fun c_466 => ?_)
    · -- ge at 466: yes
      exfalso; have t_0 := nI_toInt (n := t) (by omega); have l_0 : (6 : Int32).toInt = 6 := rfl; simp only [i_le, i_lt, i_eq, bi_eq] at c_466; omega
    · -- ge at 466: no
      refine e469 hx hf ht (fun G S' hx => ?_)
      show bw_go _ _ _ _ _ _ _ 712 [(0, .retAddr _), (1, .ref _), (2, .ref _), (3, .int _), (4, .int _), (5, .int _), (6, .int _), (7, .int _), (8, .int _), (9, .int _), (11, .ref _), (12, .int _)] ([]) _ _
      refine go_iinc dL_law_712 rfl (nI_1 t) (Nat.lt_of_lt_of_le (Nat.lt_succ_self _) (Nat.le_of_ble_eq_true rfl)) ?_
      show bw_go _ _ _ _ _ _ _ 715 [(12, .int _), (0, .retAddr _), (1, .ref _), (2, .ref _), (3, .int _), (4, .int _), (5, .int _), (6, .int _), (7, .int _), (8, .int _), (9, .int _), (11, .ref _)] ([]) _ _
      refine go_goto (pc' := 462) dL_law_715 rfl ?_
      refine go_ls [(0, .retAddr _), (1, .ref _), (2, .ref _), (3, .int _), (4, .int _), (5, .int _), (6, .int _), (7, .int _), (8, .int _), (9, .int _), (11, .ref _), (12, .int _)] (by show List.Nodup ([0, 1, 2, 3, 4, 5, 6, 7, 8, 9, 11, 12] : List Nat); decide) (by show List.Nodup ([12, 0, 1, 2, 3, 4, 5, 6, 7, 8, 9, 11] : List Nat); decide) (le_cons rfl (le_cons rfl (le_cons rfl (le_cons rfl (le_cons rfl (le_cons rfl (le_cons rfl (le_cons rfl (le_cons rfl (le_cons rfl (le_cons rfl (le_cons rfl (le_nil _))))))))))))) ?_
      exact K _ _ hx
  · -- behind the last
    intro g S hv
    have hx := hv
    show bw_go _ _ _ _ _ _ _ 462 [(0, .retAddr _), (1, .ref _), (2, .ref _), (3, .int _), (4, .int _), (5, .int _), (6, .int _), (7, .int _), (8, .int _), (9, .int _), (11, .ref _), (12, .int _)] ([]) _ _
    refine go_iload dL_law_462 rfl ?_
    refine go_bipush (6) dL_law_464 rfl ?_
    refine go_icmp_ge (pc' := 718) dL_law_466 rfl (fun c_466 => ?_) (fun c_466 => ?_)
    · -- ge at 466: yes
      refine go_ls [(0, .retAddr _), (1, .ref _), (2, .ref _), (3, .int _), (4, .int _), (5, .int _), (6, .int _), (7, .int _), (8, .int _), (9, .int _), (11, .ref _)] (by show List.Nodup ([0, 1, 2, 3, 4, 5, 6, 7, 8, 9, 11] : List Nat); decide) (by show List.Nodup ([0, 1, 2, 3, 4, 5, 6, 7, 8, 9, 11, 12] : List Nat); decide) (le_cons rfl (le_cons rfl (le_cons rfl (le_cons rfl (le_cons rfl (le_cons rfl (le_cons rfl (le_cons rfl (le_cons rfl (le_cons rfl (le_cons rfl (le_nil _)))))))))))) ?_
      exact K9 _ _ hx
    · -- ge at 466: no
      exfalso; have l_7 : (nI 6).toInt = 6 := rfl; have l_0 : (6 : Int32).toInt = 6 := rfl; simp only [i_le, i_lt, i_eq, bi_eq] at c_466; omega
