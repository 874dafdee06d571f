/-! the law: deeds undone, one by one -/
theorem ofI_k {z : Int} {k : Nat} (h : z = (k : Int)) (hk : k < 1000) : Int32.ofInt z = nI k := by
  apply Int32.toInt_inj.mp
  rw [ofI_t (by omega) (by omega), nI_toInt (by omega), h]
theorem lx_undo {X : Nat × (Nat → Int32)} {Q : Option Value → bw_H → Prop} {h : bw_H} {z c : Nat} {S : ST} {A : LY} {W T0 : RW} {B : AC} {K0 : Nat → Option AC} (hl : LX z c h S A W T0 B K0) {n : Nat} (hn : n ≤ cT B.1) (hQ : ∀ G S', LX z c G S' A W T0 (acT B n) K0 → Q (some (.int (nI (cT B.1 - n)))) G) : bw_me X 3 bm_X7_undo false [.ref 0, .int (nI n)] h Q := by
  obtain ⟨hb, rfl, rfl, rfl, rfl⟩ := hl
  have hk := lb_6 hb
  have hN := hk.1
  refine lb_me hb (fun h Q hx hq => me_X7_undo hx hq) (fun _ => rfl) (fun _ => rfl) (fun G hG => ?_)
  have h40 : cT (sA S).1 ≤ 40 := hk.2.2.2.1
  have t_0 := nI_toInt (n := n) (by omega)
  have e : yUndo (nI n) S = (nI (cT (sA S).1 - n), wA S (acT (sA S) n)) := by
    have hn : n ≤ cT (sA S).1 := hn
    unfold yUndo
    rw [if_pos ⟨by omega, by omega⟩, rn_n (by omega)]
  rw [e] at hG ⊢
  exact hQ G _ ⟨hG, rfl, rfl, rfl, rfl⟩
set_option maxRecDepth 100000 in
set_option maxHeartbeats 4000000 in
theorem law_M {X : Nat × (Nat → Int32)} {Q : Option Value → bw_H → Prop} {h : bw_H} {S : ST} {W T0 : RW} {B : AC} {K0 : Nat → Option AC} {F T : Nat → Int32} {U V : Nat → Int32} {Bk : AC} {did : Nat} (hx : LX 4 75 h S (A4 F T U V) W T0 Bk K0) (ha : acted B Bk did U V) (hd : did ≤ 14) (hT9 : cT B.1 ≤ 9) (K9 : ∀ G S' B2, LX 4 75 G S' (A4 F T U V) W T0 B2 K0 → (∀ i, i ≤ cT B.1 → hsT B2 i = hsT B i) → cN B2.1 = cN B.1 → cT B2.1 = cT B.1 → bw_go X 12 9 48 false (some .boolean) cL_law 2177 [(0, .retAddr 1), (1, .ref (0)), (2, .ref (62)), (3, .int (nI (cN (cc B)))), (4, .int (nI (2 ^ cN (cc B) - 1))), (5, .int (nI (cT B.1))), (6, .int (nI (cD (cc B)))), (7, .int (nI (cW (cc B)))), (8, .int (nI (sho (taC (cc B)) (2 ^ cN (cc B) - 1)))), (9, .int (nI (smN (cR (cc B)) (cN (cc B))))), (11, .ref (76))] [] G Q) : bw_go X 12 9 48 false (some .boolean) cL_law 2110 [(0, .retAddr 1), (1, .ref (0)), (2, .ref (62)), (3, .int (nI (cN (cc B)))), (4, .int (nI (2 ^ cN (cc B) - 1))), (5, .int (nI (cT B.1))), (6, .int (nI (cD (cc B)))), (7, .int (nI (cW (cc B)))), (8, .int (nI (sho (taC (cc B)) (2 ^ cN (cc B) - 1)))), (9, .int (nI (smN (cR (cc B)) (cN (cc B))))), (11, .ref (76)), (40, .ref (77)), (41, .ref (78)), (42, .int (nI did))] [] h Q := by
  have e0 : Int32.ofInt ((did : Int) - ((0 : Nat) : Int)) = nI did := ofI_k (by omega) (by omega)
  show bw_go _ _ _ _ _ _ _ 2110 [(0, .retAddr _), (1, .ref _), (2, .ref _), (3, .int _), (4, .int _), (5, .int _), (6, .int _), (7, .int _), (8, .int _), (9, .int _), (11, .ref _), (40, .ref _), (41, .ref _), (42, .int _)] ([]) _ _
  refine go_iload dL_law_2110 rfl ?_
  refine go_istore dL_law_2112 (Nat.lt_of_lt_of_le (Nat.lt_succ_self _) (Nat.le_of_ble_eq_true rfl)) ?_
  show bw_go _ _ _ _ _ _ _ 2114 [(43, .int _), (0, .retAddr _), (1, .ref _), (2, .ref _), (3, .int _), (4, .int _), (5, .int _), (6, .int _), (7, .int _), (8, .int _), (9, .int _), (11, .ref _), (40, .ref _), (41, .ref _), (42, .int _)] ([]) _ _
  refine go_ls [(0, .retAddr _), (1, .ref _), (2, .ref _), (3, .int _), (4, .int _), (5, .int _), (6, .int _), (7, .int _), (8, .int _), (9, .int _), (11, .ref _), (40, .ref _), (41, .ref _), (42, .int _), (43, .int _)] (by show List.Nodup ([0, 1, 2, 3, 4, 5, 6, 7, 8, 9, 11, 40, 41, 42, 43] : List Nat); decide) (by show List.Nodup ([43, 0, 1, 2, 3, 4, 5, 6, 7, 8, 9, 11, 40, 41, 42] : List Nat); decide) (le_cons rfl (le_cons rfl (le_cons rfl (le_cons rfl (le_cons rfl (le_cons rfl (le_cons rfl (le_cons rfl (le_cons rfl (le_cons rfl (le_cons rfl (le_cons rfl (le_cons rfl (le_cons rfl (le_cons rfl (le_nil _)))))))))))))))) ?_
  rw [← e0]
  refine go_for (P := fun j => ∀ (g : bw_H) (S : ST) (B2 : AC), (LX 4 75 g S (A4 F T U V) W T0 B2 K0 ∧ (∀ i, hsT B2 i = hsT Bk i) ∧ cN B2.1 = cN B.1 ∧ ((j = 0 ∧ cT B2.1 = cT B.1 + did) ∨ (1 ≤ j ∧ cT B2.1 + j = cT B.1 + did + 1))) → bw_go X 12 9 48 false (some .boolean) cL_law 2114 [(0, .retAddr 1), (1, .ref (0)), (2, .ref (62)), (3, .int (nI (cN (cc B)))), (4, .int (nI (2 ^ cN (cc B) - 1))), (5, .int (nI (cT B.1))), (6, .int (nI (cD (cc B)))), (7, .int (nI (cW (cc B)))), (8, .int (nI (sho (taC (cc B)) (2 ^ cN (cc B) - 1)))), (9, .int (nI (smN (cR (cc B)) (cN (cc B))))), (11, .ref (76)), (40, .ref (77)), (41, .ref (78)), (42, .int (nI did)), (43, .int (Int32.ofInt ((did : Int) - (j : Int))))] [] g Q) (N := (did + 1)) (fun j hj K => ?_) ?_ (0) (Nat.zero_le _) _ _ _ ⟨hx, fun _ => rfl, ha.2.1, Or.inl ⟨rfl, ha.1⟩⟩
  · -- a turn
    intro g S B2 hv
    obtain ⟨hx, h2, h3, h4⟩ := hv
    obtain ⟨k, hk9⟩ : ∃ k, did = j + k := ⟨did - j, by omega⟩
    have e43 : Int32.ofInt ((did : Int) - (j : Int)) = nI k := ofI_k (by omega) (by omega)
    rw [e43]
    have hcc : cc (acT B2 (cT B.1 + k)) = hsT Bk (cT B.1 + k) := (hsT_acT B2 (cT B.1 + k) (cT B.1 + k)).trans (h2 _)
    have hUV := ha.2.2.2 k (by omega)
    show bw_go _ _ _ _ _ _ _ 2114 [(0, .retAddr _), (1, .ref _), (2, .ref _), (3, .int _), (4, .int _), (5, .int _), (6, .int _), (7, .int _), (8, .int _), (9, .int _), (11, .ref _), (40, .ref _), (41, .ref _), (42, .int _), (43, .int _)] ([]) _ _
    refine go_iload dL_law_2114 rfl ?_
    refine go_if_lt (pc' := 2177) dL_law_2116 rfl (fun c_2116 => ?_) (fun c_2116 => ?_)
    · -- lt at 2116: yes
      exfalso; have t_0 := nI_toInt (n := k) (by omega); have l_0 := i_0; simp only [i_lt] at c_2116; omega
    · -- lt at 2116: no
      show bw_go _ _ _ _ _ _ _ 2119 [(0, .retAddr _), (1, .ref _), (2, .ref _), (3, .int _), (4, .int _), (5, .int _), (6, .int _), (7, .int _), (8, .int _), (9, .int _), (11, .ref _), (40, .ref _), (41, .ref _), (42, .int _), (43, .int _)] ([]) _ _
      refine go_aload_n dL_law_2119 rfl ?_
      refine go_iload dL_law_2120 rfl ?_
      refine go_iload dL_law_2122 rfl ?_
      refine go_iadd dL_law_2124 ?_
      rw [nI_add]
      refine go_cv (as := [.int _]) 3 dL_law_2125 mt_9_156 (Or.inl rfl) rfl rfl (lb_lt hx.1) (lb_k hx.1) (Nat.le_of_ble_eq_true rfl) (Nat.le_of_ble_eq_true rfl) (Nat.le_of_ble_eq_true rfl) (Nat.le_of_ble_eq_true rfl) (Nat.le_of_ble_eq_true rfl) ?_
      refine lx_undo hx (n := cT B.1 + k) (by omega) (fun G S' hx => ?_)
      show bw_go _ _ _ _ _ _ _ 2128 [(0, .retAddr _), (1, .ref _), (2, .ref _), (3, .int _), (4, .int _), (5, .int _), (6, .int _), (7, .int _), (8, .int _), (9, .int _), (11, .ref _), (40, .ref _), (41, .ref _), (42, .int _), (43, .int _)] ((.int _) :: []) _ _
      refine go_iload dL_law_2128 rfl ?_
      refine go_iload dL_law_2130 rfl ?_
      refine go_icmp_ne (pc' := 2139) dL_law_2132 rfl (fun c_2132 => ?_) (fun c_2132 => ?_)
      · -- ne at 2132: yes
        show bw_go _ _ _ _ _ _ _ 2139 [(0, .retAddr _), (1, .ref _), (2, .ref _), (3, .int _), (4, .int _), (5, .int _), (6, .int _), (7, .int _), (8, .int _), (9, .int _), (11, .ref _), (40, .ref _), (41, .ref _), (42, .int _), (43, .int _)] ((.int _) :: []) _ _
        refine go_iconst (1) dL_law_2139 rfl ?_
        refine go_icmp_ne (pc' := 2169) dL_law_2140 rfl (fun c_2140 => ?_) (fun c_2140 => ?_)
        · -- ne at 2140: yes
          exfalso
          have t_0 := nI_toInt (n := k) (by omega)
          have t_1 := nI_toInt (n := did) (by omega)
          have t_2 := nI_toInt (n := cT B2.1 - (cT B.1 + k)) (by omega)
          have l_0 := i_0
          have l_1 : (1 : Int32).toInt = 1 := rfl
          simp only [i_eq] at c_2132 c_2140
          omega
        · -- ne at 2140: no
          show bw_go _ _ _ _ _ _ _ 2143 [(0, .retAddr _), (1, .ref _), (2, .ref _), (3, .int _), (4, .int _), (5, .int _), (6, .int _), (7, .int _), (8, .int _), (9, .int _), (11, .ref _), (40, .ref _), (41, .ref _), (42, .int _), (43, .int _)] ([]) _ _
          refine go_aload_n dL_law_2143 rfl ?_
          refine go_iconst (5) dL_law_2144 rfl ?_
          refine go_cv (as := [.int _]) 5 dL_law_2145 mt_9_59 (Or.inl rfl) rfl rfl (lb_lt hx.1) (lb_k hx.1) (Nat.le_of_ble_eq_true rfl) (Nat.le_of_ble_eq_true rfl) (Nat.le_of_ble_eq_true rfl) (Nat.le_of_ble_eq_true rfl) (Nat.le_of_ble_eq_true rfl) ?_
          refine lx_count5 hx (fun G hx => ?_)
          rw [hcc, show cN (hsT Bk (cT B.1 + k)) = cN B.1 from ha.2.1]
          show bw_go _ _ _ _ _ _ _ 2148 [(0, .retAddr _), (1, .ref _), (2, .ref _), (3, .int _), (4, .int _), (5, .int _), (6, .int _), (7, .int _), (8, .int _), (9, .int _), (11, .ref _), (40, .ref _), (41, .ref _), (42, .int _), (43, .int _)] ((.int _) :: []) _ _
          refine go_aload dL_law_2148 rfl ?_
          refine go_iload dL_law_2150 rfl ?_
          refine go_ia dL_law_2152 (lb_a hx.1 (q := 77) rfl).2.1 (lb_a hx.1 (q := 77) rfl).1 (n_in (N := 16) (by omega) (by decide)) ?_
          rw [nI_clamp (by omega), (lb_a hx.1 (q := 77) rfl).2.2, hUV.1]
          refine go_icmp_ne (pc' := 2169) dL_law_2153 rfl (fun c_2153 => ?_) (fun c_2153 => ?_)
          · -- ne at 2153: yes
            exact absurd rfl c_2153
          · -- ne at 2153: no
            show bw_go _ _ _ _ _ _ _ 2156 [(0, .retAddr _), (1, .ref _), (2, .ref _), (3, .int _), (4, .int _), (5, .int _), (6, .int _), (7, .int _), (8, .int _), (9, .int _), (11, .ref _), (40, .ref _), (41, .ref _), (42, .int _), (43, .int _)] ([]) _ _
            refine go_aload_n dL_law_2156 rfl ?_
            refine go_iconst (3) dL_law_2157 rfl ?_
            refine go_cv (as := [.int _]) 5 dL_law_2158 mt_9_59 (Or.inl rfl) rfl rfl (lb_lt hx.1) (lb_k hx.1) (Nat.le_of_ble_eq_true rfl) (Nat.le_of_ble_eq_true rfl) (Nat.le_of_ble_eq_true rfl) (Nat.le_of_ble_eq_true rfl) (Nat.le_of_ble_eq_true rfl) ?_
            refine lx_count3 hx (fun G hx => ?_)
            rw [hcc]
            show bw_go _ _ _ _ _ _ _ 2161 [(0, .retAddr _), (1, .ref _), (2, .ref _), (3, .int _), (4, .int _), (5, .int _), (6, .int _), (7, .int _), (8, .int _), (9, .int _), (11, .ref _), (40, .ref _), (41, .ref _), (42, .int _), (43, .int _)] ((.int _) :: []) _ _
            refine go_aload dL_law_2161 rfl ?_
            refine go_iload dL_law_2163 rfl ?_
            refine go_ia dL_law_2165 (lb_a hx.1 (q := 78) rfl).2.1 (lb_a hx.1 (q := 78) rfl).1 (n_in (N := 16) (by omega) (by decide)) ?_
            rw [nI_clamp (by omega), (lb_a hx.1 (q := 78) rfl).2.2, hUV.2]
            refine go_icmp_eq (pc' := 2171) dL_law_2166 rfl (fun c_2166 => ?_) (fun c_2166 => ?_)
            · -- eq at 2166: yes
              show bw_go _ _ _ _ _ _ _ 2171 [(0, .retAddr _), (1, .ref _), (2, .ref _), (3, .int _), (4, .int _), (5, .int _), (6, .int _), (7, .int _), (8, .int _), (9, .int _), (11, .ref _), (40, .ref _), (41, .ref _), (42, .int _), (43, .int _)] ([]) _ _
              refine go_iinc dL_law_2171 rfl (show nI k + (-1) = Int32.ofInt ((did : Int) - ((j + 1 : Nat) : Int)) from by rw [← ofI_k (z := (k : Int)) rfl (by omega), show (-1 : Int32) = Int32.ofInt (-1) from rfl, ofI_add]; exact congrArg Int32.ofInt (by omega)) (Nat.lt_of_lt_of_le (Nat.lt_succ_self _) (Nat.le_of_ble_eq_true rfl)) ?_
              show bw_go _ _ _ _ _ _ _ 2174 [(43, .int _), (0, .retAddr _), (1, .ref _), (2, .ref _), (3, .int _), (4, .int _), (5, .int _), (6, .int _), (7, .int _), (8, .int _), (9, .int _), (11, .ref _), (40, .ref _), (41, .ref _), (42, .int _)] ([]) _ _
              refine go_goto (pc' := 2114) dL_law_2174 rfl ?_
              refine go_ls [(0, .retAddr _), (1, .ref _), (2, .ref _), (3, .int _), (4, .int _), (5, .int _), (6, .int _), (7, .int _), (8, .int _), (9, .int _), (11, .ref _), (40, .ref _), (41, .ref _), (42, .int _), (43, .int _)] (by show List.Nodup ([0, 1, 2, 3, 4, 5, 6, 7, 8, 9, 11, 40, 41, 42, 43] : List Nat); decide) (by show List.Nodup ([43, 0, 1, 2, 3, 4, 5, 6, 7, 8, 9, 11, 40, 41, 42] : List Nat); decide) (le_cons rfl (le_cons rfl (le_cons rfl (le_cons rfl (le_cons rfl (le_cons rfl (le_cons rfl (le_cons rfl (le_cons rfl (le_cons rfl (le_cons rfl (le_cons rfl (le_cons rfl (le_cons rfl (le_cons rfl (le_nil _)))))))))))))))) ?_
              exact K _ _ (acT B2 (cT B.1 + k)) ⟨hx, fun i => (hsT_acT B2 (cT B.1 + k) i).trans (h2 i), h3, Or.inr ⟨by omega, by show cT B.1 + k + (j + 1) = _; omega⟩⟩
            · -- eq at 2166: no
              exact absurd rfl c_2166
      · -- ne at 2132: no
        show bw_go _ _ _ _ _ _ _ 2135 [(0, .retAddr _), (1, .ref _), (2, .ref _), (3, .int _), (4, .int _), (5, .int _), (6, .int _), (7, .int _), (8, .int _), (9, .int _), (11, .ref _), (40, .ref _), (41, .ref _), (42, .int _), (43, .int _)] ((.int _) :: []) _ _
        refine go_iconst (0) dL_law_2135 rfl ?_
        refine go_goto (pc' := 2140) dL_law_2136 rfl ?_
        show bw_go _ _ _ _ _ _ _ 2140 [(0, .retAddr _), (1, .ref _), (2, .ref _), (3, .int _), (4, .int _), (5, .int _), (6, .int _), (7, .int _), (8, .int _), (9, .int _), (11, .ref _), (40, .ref _), (41, .ref _), (42, .int _), (43, .int _)] ((.int _) :: (.int _) :: []) _ _
        refine go_icmp_ne (pc' := 2169) dL_law_2140 rfl (fun c_2140 => ?_) (fun c_2140 => ?_)
        · -- ne at 2140: yes
          exfalso
          have t_0 := nI_toInt (n := k) (by omega)
          have t_1 := nI_toInt (n := did) (by omega)
          have t_2 := nI_toInt (n := cT B2.1 - (cT B.1 + k)) (by omega)
          have l_0 := i_0
          have l_1 : (1 : Int32).toInt = 1 := rfl
          simp only [i_eq] at c_2132 c_2140
          omega
        · -- ne at 2140: no
          show bw_go _ _ _ _ _ _ _ 2143 [(0, .retAddr _), (1, .ref _), (2, .ref _), (3, .int _), (4, .int _), (5, .int _), (6, .int _), (7, .int _), (8, .int _), (9, .int _), (11, .ref _), (40, .ref _), (41, .ref _), (42, .int _), (43, .int _)] ([]) _ _
          refine go_aload_n dL_law_2143 rfl ?_
          refine go_iconst (5) dL_law_2144 rfl ?_
          refine go_cv (as := [.int _]) 5 dL_law_2145 mt_9_59 (Or.inl rfl) rfl rfl (lb_lt hx.1) (lb_k hx.1) (Nat.le_of_ble_eq_true rfl) (Nat.le_of_ble_eq_true rfl) (Nat.le_of_ble_eq_true rfl) (Nat.le_of_ble_eq_true rfl) (Nat.le_of_ble_eq_true rfl) ?_
          refine lx_count5 hx (fun G hx => ?_)
          rw [hcc, show cN (hsT Bk (cT B.1 + k)) = cN B.1 from ha.2.1]
          show bw_go _ _ _ _ _ _ _ 2148 [(0, .retAddr _), (1, .ref _), (2, .ref _), (3, .int _), (4, .int _), (5, .int _), (6, .int _), (7, .int _), (8, .int _), (9, .int _), (11, .ref _), (40, .ref _), (41, .ref _), (42, .int _), (43, .int _)] ((.int _) :: []) _ _
          refine go_aload dL_law_2148 rfl ?_
          refine go_iload dL_law_2150 rfl ?_
          refine go_ia dL_law_2152 (lb_a hx.1 (q := 77) rfl).2.1 (lb_a hx.1 (q := 77) rfl).1 (n_in (N := 16) (by omega) (by decide)) ?_
          rw [nI_clamp (by omega), (lb_a hx.1 (q := 77) rfl).2.2, hUV.1]
          refine go_icmp_ne (pc' := 2169) dL_law_2153 rfl (fun c_2153 => ?_) (fun c_2153 => ?_)
          · -- ne at 2153: yes
            exact absurd rfl c_2153
          · -- ne at 2153: no
            show bw_go _ _ _ _ _ _ _ 2156 [(0, .retAddr _), (1, .ref _), (2, .ref _), (3, .int _), (4, .int _), (5, .int _), (6, .int _), (7, .int _), (8, .int _), (9, .int _), (11, .ref _), (40, .ref _), (41, .ref _), (42, .int _), (43, .int _)] ([]) _ _
            refine go_aload_n dL_law_2156 rfl ?_
            refine go_iconst (3) dL_law_2157 rfl ?_
            refine go_cv (as := [.int _]) 5 dL_law_2158 mt_9_59 (Or.inl rfl) rfl rfl (lb_lt hx.1) (lb_k hx.1) (Nat.le_of_ble_eq_true rfl) (Nat.le_of_ble_eq_true rfl) (Nat.le_of_ble_eq_true rfl) (Nat.le_of_ble_eq_true rfl) (Nat.le_of_ble_eq_true rfl) ?_
            refine lx_count3 hx (fun G hx => ?_)
            rw [hcc]
            show bw_go _ _ _ _ _ _ _ 2161 [(0, .retAddr _), (1, .ref _), (2, .ref _), (3, .int _), (4, .int _), (5, .int _), (6, .int _), (7, .int _), (8, .int _), (9, .int _), (11, .ref _), (40, .ref _), (41, .ref _), (42, .int _), (43, .int _)] ((.int _) :: []) _ _
            refine go_aload dL_law_2161 rfl ?_
            refine go_iload dL_law_2163 rfl ?_
            refine go_ia dL_law_2165 (lb_a hx.1 (q := 78) rfl).2.1 (lb_a hx.1 (q := 78) rfl).1 (n_in (N := 16) (by omega) (by decide)) ?_
            rw [nI_clamp (by omega), (lb_a hx.1 (q := 78) rfl).2.2, hUV.2]
            refine go_icmp_eq (pc' := 2171) dL_law_2166 rfl (fun c_2166 => ?_) (fun c_2166 => ?_)
            · -- eq at 2166: yes
              show bw_go _ _ _ _ _ _ _ 2171 [(0, .retAddr _), (1, .ref _), (2, .ref _), (3, .int _), (4, .int _), (5, .int _), (6, .int _), (7, .int _), (8, .int _), (9, .int _), (11, .ref _), (40, .ref _), (41, .ref _), (42, .int _), (43, .int _)] ([]) _ _
              refine go_iinc dL_law_2171 rfl (show nI k + (-1) = Int32.ofInt ((did : Int) - ((j + 1 : Nat) : Int)) from by rw [← ofI_k (z := (k : Int)) rfl (by omega), show (-1 : Int32) = Int32.ofInt (-1) from rfl, ofI_add]; exact congrArg Int32.ofInt (by omega)) (Nat.lt_of_lt_of_le (Nat.lt_succ_self _) (Nat.le_of_ble_eq_true rfl)) ?_
              show bw_go _ _ _ _ _ _ _ 2174 [(43, .int _), (0, .retAddr _), (1, .ref _), (2, .ref _), (3, .int _), (4, .int _), (5, .int _), (6, .int _), (7, .int _), (8, .int _), (9, .int _), (11, .ref _), (40, .ref _), (41, .ref _), (42, .int _)] ([]) _ _
              refine go_goto (pc' := 2114) dL_law_2174 rfl ?_
              refine go_ls [(0, .retAddr _), (1, .ref _), (2, .ref _), (3, .int _), (4, .int _), (5, .int _), (6, .int _), (7, .int _), (8, .int _), (9, .int _), (11, .ref _), (40, .ref _), (41, .ref _), (42, .int _), (43, .int _)] (by show List.Nodup ([0, 1, 2, 3, 4, 5, 6, 7, 8, 9, 11, 40, 41, 42, 43] : List Nat); decide) (by show List.Nodup ([43, 0, 1, 2, 3, 4, 5, 6, 7, 8, 9, 11, 40, 41, 42] : List Nat); decide) (le_cons rfl (le_cons rfl (le_cons rfl (le_cons rfl (le_cons rfl (le_cons rfl (le_cons rfl (le_cons rfl (le_cons rfl (le_cons rfl (le_cons rfl (le_cons rfl (le_cons rfl (le_cons rfl (le_cons rfl (le_nil _)))))))))))))))) ?_
              exact K _ _ (acT B2 (cT B.1 + k)) ⟨hx, fun i => (hsT_acT B2 (cT B.1 + k) i).trans (h2 i), h3, Or.inr ⟨by omega, by show cT B.1 + k + (j + 1) = _; omega⟩⟩
            · -- eq at 2166: no
              exact absurd rfl c_2166
  · -- behind the last
    intro g S B2 hv
    obtain ⟨hx, h2, h3, h4⟩ := hv
    show bw_go _ _ _ _ _ _ _ 2114 [(0, .retAddr _), (1, .ref _), (2, .ref _), (3, .int _), (4, .int _), (5, .int _), (6, .int _), (7, .int _), (8, .int _), (9, .int _), (11, .ref _), (40, .ref _), (41, .ref _), (42, .int _), (43, .int _)] ([]) _ _
    refine go_iload dL_law_2114 rfl ?_
    refine go_if_lt (pc' := 2177) dL_law_2116 rfl (fun c_2116 => ?_) (fun c_2116 => ?_)
    · -- lt at 2116: yes
      refine go_ls [(0, .retAddr _), (1, .ref _), (2, .ref _), (3, .int _), (4, .int _), (5, .int _), (6, .int _), (7, .int _), (8, .int _), (9, .int _), (11, .ref _)] (by show List.Nodup ([0, 1, 2, 3, 4, 5, 6, 7, 8, 9, 11] : List Nat); decide) (by show List.Nodup ([0, 1, 2, 3, 4, 5, 6, 7, 8, 9, 11, 40, 41, 42, 43] : List Nat); decide) (le_cons rfl (le_cons rfl (le_cons rfl (le_cons rfl (le_cons rfl (le_cons rfl (le_cons rfl (le_cons rfl (le_cons rfl (le_cons rfl (le_cons rfl (le_nil _)))))))))))) ?_
      exact K9 _ _ _ hx (fun i hi => (h2 i).trans (ha.2.2.1 i hi)) h3 (by omega)
    · -- lt at 2116: no
      exfalso; have t_0 := ofI_t (z := (did : Int) - ((did + 1 : Nat) : Int)) (by omega) (by omega); have l_0 := i_0; simp only [i_lt] at c_2116; omega
