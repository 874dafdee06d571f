/-! the law: deeds, each counted -/
theorem upcomm {α : Type} {f : Nat → α} {p q : Nat} {a b : α} (h : p ≠ q) : bw_up (bw_up f p a) q b = bw_up (bw_up f q b) p a := by
  funext x
  by_cases h1 : x = q
  · subst h1
    rw [bw_up_s, bw_up_o (fun z => h z.symm), bw_up_s]
  · by_cases h2 : x = p
    · subst h2
      rw [bw_up_s, bw_up_o h1, bw_up_s]
    · rw [bw_up_o h1, bw_up_o h2, bw_up_o h2, bw_up_o h1]
def A4 (F T U V : Nat → Int32) : LY := bw_up (bw_up (A2 F T) 77 (some (16, U))) 78 (some (16, V))
theorem lx_nw3 {H : bw_H} {S : ST} {W T0 : RW} {B : AC} {K0 : Nat → Option AC} {F T : Nat → Int32} (hl : LX 2 75 H S (A2 F T) W T0 B K0) : LX 3 75 (bw_nw H (.inr (.int, 16)) 16) S (bw_up (A2 F T) 77 (some (16, fun _ => 0))) W T0 B K0 := ⟨lb_nw hl.1 (Or.inr ⟨rfl, by decide, by decide⟩) rfl, hl.2⟩
theorem lx_nw4 {H : bw_H} {S : ST} {W T0 : RW} {B : AC} {K0 : Nat → Option AC} {F T : Nat → Int32} (hl : LX 3 75 H S (bw_up (A2 F T) 77 (some (16, fun _ => 0))) W T0 B K0) : LX 4 75 (bw_nw H (.inr (.int, 16)) 16) S (A4 F T (fun _ => 0) (fun _ => 0)) W T0 B K0 := ⟨lb_nw hl.1 (Or.inr ⟨rfl, by decide, by decide⟩) rfl, hl.2⟩
theorem lx_si77 {k : Nat} {H : bw_H} {S : ST} {W T0 : RW} {B : AC} {K0 : Nat → Option AC} {F T U V : Nat → Int32} {v : Int32} (hl : LX 4 75 H S (A4 F T U V) W T0 B K0) : LX 4 75 (bw_si H 77 k v) S (A4 F T (bw_up U k v) V) W T0 B K0 := by
  refine ⟨?_, hl.2⟩
  have h1 := lb_si (k := k) (v := v) hl.1 (q := 77) (N := 16) (F := U) rfl
  unfold A4 at h1 ⊢
  rw [upcomm (p := 78) (q := 77) (by decide), upup] at h1
  exact h1
theorem lx_si78 {k : Nat} {H : bw_H} {S : ST} {W T0 : RW} {B : AC} {K0 : Nat → Option AC} {F T U V : Nat → Int32} {v : Int32} (hl : LX 4 75 H S (A4 F T U V) W T0 B K0) : LX 4 75 (bw_si H 78 k v) S (A4 F T U (bw_up V k v)) W T0 B K0 := by
  refine ⟨?_, hl.2⟩
  have h1 := lb_si (k := k) (v := v) hl.1 (q := 78) (N := 16) (F := V) rfl
  unfold A4 at h1 ⊢
  rw [upup] at h1
  exact h1
def acted (B Bk : AC) (did : Nat) (U V : Nat → Int32) : Prop := cT Bk.1 = cT B.1 + did ∧ cN Bk.1 = cN B.1 ∧ (∀ j, j ≤ cT B.1 → hsT Bk j = hsT B j) ∧ ∀ j, j ≤ did → U j = nI (smN (cR (hsT Bk (cT B.1 + j))) (cN B.1)) ∧ V j = nI (cW (hsT Bk (cT B.1 + j)))
theorem acted_0 {B : AC} {U V : Nat → Int32} (h1 : U 0 = nI (smN (cR (cc B)) (cN (cc B)))) (h2 : V 0 = nI (cW (cc B))) : acted B B 0 U V := ⟨rfl, rfl, fun _ _ => rfl, fun j hj => by
  obtain rfl := Nat.le_zero.mp hj
  exact ⟨h1, h2⟩⟩
theorem acted_s {B Bk : AC} {did a i : Nat} {U V : Nat → Int32} (h : acted B Bk did U V) : acted B (acP Bk a i) (did + 1) (bw_up U (did + 1) (nI (smN (cR (cc (acP Bk a i))) (cN (cc (acP Bk a i)))))) (bw_up V (did + 1) (nI (cW (cc (acP Bk a i))))) := by
  obtain ⟨h1, h2, h3, h4⟩ := h
  refine ⟨by show cT Bk.1 + 1 = _; omega, h2, fun j hj => ?_, fun j hj => ?_⟩
  · rw [hsT_acP Bk a i (by omega)]; exact h3 j hj
  · by_cases e : j = did + 1
    · subst e
      rw [bw_up_s, bw_up_s]
      have e2 : cT B.1 + (did + 1) = cT Bk.1 + 1 := by omega
      rw [e2, ← h2]
      exact ⟨rfl, rfl⟩
    · rw [bw_up_o e, bw_up_o e, hsT_acP Bk a i (by omega)]
      exact h4 j (by omega)
set_option maxRecDepth 100000 in
set_option maxHeartbeats 4000000 in
theorem f2070 {X : Nat × (Nat → Int32)} {Q : Option Value → bw_H → Prop} {h : bw_H} {S : ST} {W T0 : RW} {B : AC} {K0 : Nat → Option AC} {F T : Nat → Int32} {v : Nat} (hv : v < 1000) {U V : Nat → Int32} {Bk : AC} {acts did k : Nat} (hx : LX 4 75 h S (A4 F T U V) W T0 Bk K0) (ha : acted B Bk did U V) (hT9 : cT B.1 ≤ 9) (hd : did ≤ 15) (K : ∀ G S' U' V', LX 4 75 G S' (A4 F T U' V') W T0 Bk K0 → acted B Bk did U' V' → bw_go X 12 9 48 false (some .boolean) cL_law 2104 [(0, .retAddr 1), (1, .ref (0)), (2, .ref (62)), (3, .int (nI (cN (cc B)))), (4, .int (nI (2 ^ cN (cc B) - 1))), (5, .int (nI (cT B.1))), (6, .int (nI (cD (cc B)))), (7, .int (nI (cW (cc B)))), (8, .int (nI (sho (taC (cc B)) (2 ^ cN (cc B) - 1)))), (9, .int (nI (smN (cR (cc B)) (cN (cc B))))), (11, .ref (76)), (39, .int (nI acts)), (40, .ref (77)), (41, .ref (78)), (42, .int (nI did)), (43, .int (nI k))] [] G Q) : bw_go X 12 9 48 false (some .boolean) cL_law 2070 [(0, .retAddr 1), (1, .ref (0)), (2, .ref (62)), (3, .int (nI (cN (cc B)))), (4, .int (nI (2 ^ cN (cc B) - 1))), (5, .int (nI (cT B.1))), (6, .int (nI (cD (cc B)))), (7, .int (nI (cW (cc B)))), (8, .int (nI (sho (taC (cc B)) (2 ^ cN (cc B) - 1)))), (9, .int (nI (smN (cR (cc B)) (cN (cc B))))), (11, .ref (76)), (39, .int (nI acts)), (40, .ref (77)), (41, .ref (78)), (42, .int (nI did)), (43, .int (nI k)), (47, .int (nI v))] [] h Q := by
  show bw_go _ _ _ _ _ _ _ 2070 [(0, .retAddr _), (1, .ref _), (2, .ref _), (3, .int _), (4, .int _), (5, .int _), (6, .int _), (7, .int _), (8, .int _), (9, .int _), (11, .ref _), (39, .int _), (40, .ref _), (41, .ref _), (42, .int _), (43, .int _), (47, .int _)] ([]) _ _
  refine go_iload dL_law_2070 rfl ?_
  refine go_bipush (-4) dL_law_2072 rfl ?_
  refine go_icmp_lt (pc' := 2102) dL_law_2074 rfl (fun c_2074 => ?_) (fun c_2074 => ?_)
  · -- lt at 2074: yes
    exfalso
    have l_0 := i_0
    have l_4 : (-4 : Int32).toInt = -4 := rfl
    have t_0 := nI_toInt (n := v) (by omega)
    simp only [i_lt] at c_2074; omega
  · -- lt at 2074: no
    show bw_go _ _ _ _ _ _ _ 2077 [(0, .retAddr _), (1, .ref _), (2, .ref _), (3, .int _), (4, .int _), (5, .int _), (6, .int _), (7, .int _), (8, .int _), (9, .int _), (11, .ref _), (39, .int _), (40, .ref _), (41, .ref _), (42, .int _), (43, .int _), (47, .int _)] ([]) _ _
    refine go_iload dL_law_2077 rfl ?_
    refine go_bipush (-4) dL_law_2079 rfl ?_
    refine go_icmp_le (pc' := 2089) dL_law_2081 rfl (fun c_2081 => ?_) (fun c_2081 => ?_)
    · -- le at 2081: yes
      show bw_go _ _ _ _ _ _ _ 2089 [(0, .retAddr _), (1, .ref _), (2, .ref _), (3, .int _), (4, .int _), (5, .int _), (6, .int _), (7, .int _), (8, .int _), (9, .int _), (11, .ref _), (39, .int _), (40, .ref _), (41, .ref _), (42, .int _), (43, .int _), (47, .int _)] ([]) _ _
      refine go_aload_n dL_law_2089 rfl ?_
      refine go_iconst (2) dL_law_2090 rfl ?_
      refine go_cv (as := [.int _]) 5 dL_law_2091 mt_9_59 (Or.inl rfl) rfl rfl (lb_lt hx.1) (lb_k hx.1) (Nat.le_of_ble_eq_true rfl) (Nat.le_of_ble_eq_true rfl) (Nat.le_of_ble_eq_true rfl) (Nat.le_of_ble_eq_true rfl) (Nat.le_of_ble_eq_true rfl) ?_
      refine lx_count2 hx (fun G hx => ?_)
      show bw_go _ _ _ _ _ _ _ 2094 [(0, .retAddr _), (1, .ref _), (2, .ref _), (3, .int _), (4, .int _), (5, .int _), (6, .int _), (7, .int _), (8, .int _), (9, .int _), (11, .ref _), (39, .int _), (40, .ref _), (41, .ref _), (42, .int _), (43, .int _), (47, .int _)] ((.int _) :: []) _ _
      refine go_iload dL_law_2094 rfl ?_
      refine go_iload dL_law_2096 rfl ?_
      refine go_iadd dL_law_2098 ?_
      rw [nI_add, ← ha.1]
      refine go_icmp_eq (pc' := 2104) dL_law_2099 rfl (fun c_2099 => ?_) (fun c_2099 => ?_)
      · -- eq at 2099: yes
        refine go_ls [(0, .retAddr _), (1, .ref _), (2, .ref _), (3, .int _), (4, .int _), (5, .int _), (6, .int _), (7, .int _), (8, .int _), (9, .int _), (11, .ref _), (39, .int _), (40, .ref _), (41, .ref _), (42, .int _), (43, .int _)] (by show List.Nodup ([0, 1, 2, 3, 4, 5, 6, 7, 8, 9, 11, 39, 40, 41, 42, 43] : List Nat); decide) (by show List.Nodup ([0, 1, 2, 3, 4, 5, 6, 7, 8, 9, 11, 39, 40, 41, 42, 43, 47] : List Nat); decide) (le_cons rfl (le_cons rfl (le_cons rfl (le_cons rfl (le_cons rfl (le_cons rfl (le_cons rfl (le_cons rfl (le_cons rfl (le_cons rfl (le_cons rfl (le_cons rfl (le_cons rfl (le_cons rfl (le_cons rfl (le_cons rfl (le_nil _))))))))))))))))) ?_
        exact K _ _ _ _ hx ha
      · -- eq at 2099: no
        exact absurd rfl c_2099
    · -- le at 2081: no
      show bw_go _ _ _ _ _ _ _ 2084 [(0, .retAddr _), (1, .ref _), (2, .ref _), (3, .int _), (4, .int _), (5, .int _), (6, .int _), (7, .int _), (8, .int _), (9, .int _), (11, .ref _), (39, .int _), (40, .ref _), (41, .ref _), (42, .int _), (43, .int _), (47, .int _)] ([]) _ _
      refine go_iload dL_law_2084 rfl ?_
      refine go_if_lt (pc' := 2102) dL_law_2086 rfl (fun c_2086 => ?_) (fun c_2086 => ?_)
      · -- lt at 2086: yes
        exfalso
        have l_0 := i_0
        have l_4 : (-4 : Int32).toInt = -4 := rfl
        have t_0 := nI_toInt (n := v) (by omega)
        simp only [i_lt] at c_2086; omega
      · -- lt at 2086: no
        show bw_go _ _ _ _ _ _ _ 2089 [(0, .retAddr _), (1, .ref _), (2, .ref _), (3, .int _), (4, .int _), (5, .int _), (6, .int _), (7, .int _), (8, .int _), (9, .int _), (11, .ref _), (39, .int _), (40, .ref _), (41, .ref _), (42, .int _), (43, .int _), (47, .int _)] ([]) _ _
        refine go_aload_n dL_law_2089 rfl ?_
        refine go_iconst (2) dL_law_2090 rfl ?_
        refine go_cv (as := [.int _]) 5 dL_law_2091 mt_9_59 (Or.inl rfl) rfl rfl (lb_lt hx.1) (lb_k hx.1) (Nat.le_of_ble_eq_true rfl) (Nat.le_of_ble_eq_true rfl) (Nat.le_of_ble_eq_true rfl) (Nat.le_of_ble_eq_true rfl) (Nat.le_of_ble_eq_true rfl) ?_
        refine lx_count2 hx (fun G hx => ?_)
        show bw_go _ _ _ _ _ _ _ 2094 [(0, .retAddr _), (1, .ref _), (2, .ref _), (3, .int _), (4, .int _), (5, .int _), (6, .int _), (7, .int _), (8, .int _), (9, .int _), (11, .ref _), (39, .int _), (40, .ref _), (41, .ref _), (42, .int _), (43, .int _), (47, .int _)] ((.int _) :: []) _ _
        refine go_iload dL_law_2094 rfl ?_
        refine go_iload dL_law_2096 rfl ?_
        refine go_iadd dL_law_2098 ?_
        rw [nI_add, ← ha.1]
        refine go_icmp_eq (pc' := 2104) dL_law_2099 rfl (fun c_2099 => ?_) (fun c_2099 => ?_)
        · -- eq at 2099: yes
          refine go_ls [(0, .retAddr _), (1, .ref _), (2, .ref _), (3, .int _), (4, .int _), (5, .int _), (6, .int _), (7, .int _), (8, .int _), (9, .int _), (11, .ref _), (39, .int _), (40, .ref _), (41, .ref _), (42, .int _), (43, .int _)] (by show List.Nodup ([0, 1, 2, 3, 4, 5, 6, 7, 8, 9, 11, 39, 40, 41, 42, 43] : List Nat); decide) (by show List.Nodup ([0, 1, 2, 3, 4, 5, 6, 7, 8, 9, 11, 39, 40, 41, 42, 43, 47] : List Nat); decide) (le_cons rfl (le_cons rfl (le_cons rfl (le_cons rfl (le_cons rfl (le_cons rfl (le_cons rfl (le_cons rfl (le_cons rfl (le_cons rfl (le_cons rfl (le_cons rfl (le_cons rfl (le_cons rfl (le_cons rfl (le_cons rfl (le_nil _))))))))))))))))) ?_
          exact K _ _ _ _ hx ha
        · -- eq at 2099: no
          exact absurd rfl c_2099
set_option maxRecDepth 100000 in
set_option maxHeartbeats 4000000 in
theorem f2038_n {X : Nat × (Nat → Int32)} {Q : Option Value → bw_H → Prop} {h : bw_H} {S : ST} {W T0 : RW} {B : AC} {K0 : Nat → Option AC} {F T : Nat → Int32} {U V : Nat → Int32} {Bk : AC} {acts did k : Nat} (hx : LX 4 75 h S (A4 F T U V) W T0 Bk K0) (ha : acted B Bk did U V) (hT9 : cT B.1 ≤ 9) (hd : did ≤ 15) (K : ∀ G S' U' V', LX 4 75 G S' (A4 F T U' V') W T0 Bk K0 → acted B Bk did U' V' → bw_go X 12 9 48 false (some .boolean) cL_law 2104 [(0, .retAddr 1), (1, .ref (0)), (2, .ref (62)), (3, .int (nI (cN (cc B)))), (4, .int (nI (2 ^ cN (cc B) - 1))), (5, .int (nI (cT B.1))), (6, .int (nI (cD (cc B)))), (7, .int (nI (cW (cc B)))), (8, .int (nI (sho (taC (cc B)) (2 ^ cN (cc B) - 1)))), (9, .int (nI (smN (cR (cc B)) (cN (cc B))))), (11, .ref (76)), (39, .int (nI acts)), (40, .ref (77)), (41, .ref (78)), (42, .int (nI did)), (43, .int (nI k))] [] G Q) : bw_go X 12 9 48 false (some .boolean) cL_law 2038 [(0, .retAddr 1), (1, .ref (0)), (2, .ref (62)), (3, .int (nI (cN (cc B)))), (4, .int (nI (2 ^ cN (cc B) - 1))), (5, .int (nI (cT B.1))), (6, .int (nI (cD (cc B)))), (7, .int (nI (cW (cc B)))), (8, .int (nI (sho (taC (cc B)) (2 ^ cN (cc B) - 1)))), (9, .int (nI (smN (cR (cc B)) (cN (cc B))))), (11, .ref (76)), (39, .int (nI acts)), (40, .ref (77)), (41, .ref (78)), (42, .int (nI did)), (43, .int (nI k))] [.int (-4)] h Q := by
  show bw_go _ _ _ _ _ _ _ 2038 [(0, .retAddr _), (1, .ref _), (2, .ref _), (3, .int _), (4, .int _), (5, .int _), (6, .int _), (7, .int _), (8, .int _), (9, .int _), (11, .ref _), (39, .int _), (40, .ref _), (41, .ref _), (42, .int _), (43, .int _)] ((.int _) :: []) _ _
  refine go_istore dL_law_2038 (Nat.lt_of_lt_of_le (Nat.lt_succ_self _) (Nat.le_of_ble_eq_true rfl)) ?_
  show bw_go _ _ _ _ _ _ _ 2040 [(47, .int _), (0, .retAddr _), (1, .ref _), (2, .ref _), (3, .int _), (4, .int _), (5, .int _), (6, .int _), (7, .int _), (8, .int _), (9, .int _), (11, .ref _), (39, .int _), (40, .ref _), (41, .ref _), (42, .int _), (43, .int _)] ([]) _ _
  refine go_iload dL_law_2040 rfl ?_
  refine go_bipush (-4) dL_law_2042 rfl ?_
  refine go_icmp_eq (pc' := 2070) dL_law_2044 rfl (fun _ => ?_) (fun c => absurd (by decide) c)
  show bw_go _ _ _ _ _ _ _ 2070 [(47, .int _), (0, .retAddr _), (1, .ref _), (2, .ref _), (3, .int _), (4, .int _), (5, .int _), (6, .int _), (7, .int _), (8, .int _), (9, .int _), (11, .ref _), (39, .int _), (40, .ref _), (41, .ref _), (42, .int _), (43, .int _)] ([]) _ _
  refine go_iload dL_law_2070 rfl ?_
  refine go_bipush (-4) dL_law_2072 rfl ?_
  refine go_icmp_lt (pc' := 2102) dL_law_2074 rfl (fun c => absurd c (by decide)) (fun _ => ?_)
  show bw_go _ _ _ _ _ _ _ 2077 [(47, .int _), (0, .retAddr _), (1, .ref _), (2, .ref _), (3, .int _), (4, .int _), (5, .int _), (6, .int _), (7, .int _), (8, .int _), (9, .int _), (11, .ref _), (39, .int _), (40, .ref _), (41, .ref _), (42, .int _), (43, .int _)] ([]) _ _
  refine go_iload dL_law_2077 rfl ?_
  refine go_bipush (-4) dL_law_2079 rfl ?_
  refine go_icmp_le (pc' := 2089) dL_law_2081 rfl (fun _ => ?_) (fun c => absurd (by decide) c)
  show bw_go _ _ _ _ _ _ _ 2089 [(47, .int _), (0, .retAddr _), (1, .ref _), (2, .ref _), (3, .int _), (4, .int _), (5, .int _), (6, .int _), (7, .int _), (8, .int _), (9, .int _), (11, .ref _), (39, .int _), (40, .ref _), (41, .ref _), (42, .int _), (43, .int _)] ([]) _ _
  refine go_aload_n dL_law_2089 rfl ?_
  refine go_iconst (2) dL_law_2090 rfl ?_
  refine go_cv (as := [.int _]) 5 dL_law_2091 mt_9_59 (Or.inl rfl) rfl rfl (lb_lt hx.1) (lb_k hx.1) (Nat.le_of_ble_eq_true rfl) (Nat.le_of_ble_eq_true rfl) (Nat.le_of_ble_eq_true rfl) (Nat.le_of_ble_eq_true rfl) (Nat.le_of_ble_eq_true rfl) ?_
  refine lx_count2 hx (fun G hx => ?_)
  show bw_go _ _ _ _ _ _ _ 2094 [(47, .int _), (0, .retAddr _), (1, .ref _), (2, .ref _), (3, .int _), (4, .int _), (5, .int _), (6, .int _), (7, .int _), (8, .int _), (9, .int _), (11, .ref _), (39, .int _), (40, .ref _), (41, .ref _), (42, .int _), (43, .int _)] ((.int _) :: []) _ _
  refine go_iload dL_law_2094 rfl ?_
  refine go_iload dL_law_2096 rfl ?_
  refine go_iadd dL_law_2098 ?_
  rw [nI_add, ← ha.1]
  refine go_icmp_eq (pc' := 2104) dL_law_2099 rfl (fun c_2099 => ?_) (fun c_2099 => ?_)
  · -- eq at 2099: yes
    refine go_ls [(0, .retAddr _), (1, .ref _), (2, .ref _), (3, .int _), (4, .int _), (5, .int _), (6, .int _), (7, .int _), (8, .int _), (9, .int _), (11, .ref _), (39, .int _), (40, .ref _), (41, .ref _), (42, .int _), (43, .int _)] (by show List.Nodup ([0, 1, 2, 3, 4, 5, 6, 7, 8, 9, 11, 39, 40, 41, 42, 43] : List Nat); decide) (by show List.Nodup ([47, 0, 1, 2, 3, 4, 5, 6, 7, 8, 9, 11, 39, 40, 41, 42, 43] : List Nat); decide) (le_cons rfl (le_cons rfl (le_cons rfl (le_cons rfl (le_cons rfl (le_cons rfl (le_cons rfl (le_cons rfl (le_cons rfl (le_cons rfl (le_cons rfl (le_cons rfl (le_cons rfl (le_cons rfl (le_cons rfl (le_cons rfl (le_nil _))))))))))))))))) ?_
    exact K _ _ _ _ hx ha
  · -- eq at 2099: no
    exact absurd rfl c_2099
set_option maxRecDepth 100000 in
set_option maxHeartbeats 4000000 in
theorem f2047 {X : Nat × (Nat → Int32)} {Q : Option Value → bw_H → Prop} {h : bw_H} {S : ST} {W T0 : RW} {B : AC} {K0 : Nat → Option AC} {F T : Nat → Int32} {v a i : Nat} (hv : v < 1000) {U V : Nat → Int32} {Bk : AC} {acts did k : Nat} (hx : LX 4 75 h S (A4 F T U V) W T0 (acP Bk a i) K0) (ha : acted B Bk did U V) (hT9 : cT B.1 ≤ 9) (hd : did < 15) (K : ∀ G S' U' V', LX 4 75 G S' (A4 F T U' V') W T0 (acP Bk a i) K0 → acted B (acP Bk a i) (did + 1) U' V' → bw_go X 12 9 48 false (some .boolean) cL_law 2104 [(0, .retAddr 1), (1, .ref (0)), (2, .ref (62)), (3, .int (nI (cN (cc B)))), (4, .int (nI (2 ^ cN (cc B) - 1))), (5, .int (nI (cT B.1))), (6, .int (nI (cD (cc B)))), (7, .int (nI (cW (cc B)))), (8, .int (nI (sho (taC (cc B)) (2 ^ cN (cc B) - 1)))), (9, .int (nI (smN (cR (cc B)) (cN (cc B))))), (11, .ref (76)), (39, .int (nI acts)), (40, .ref (77)), (41, .ref (78)), (42, .int (nI (did + 1))), (43, .int (nI k))] [] G Q) : bw_go X 12 9 48 false (some .boolean) cL_law 2047 [(0, .retAddr 1), (1, .ref (0)), (2, .ref (62)), (3, .int (nI (cN (cc B)))), (4, .int (nI (2 ^ cN (cc B) - 1))), (5, .int (nI (cT B.1))), (6, .int (nI (cD (cc B)))), (7, .int (nI (cW (cc B)))), (8, .int (nI (sho (taC (cc B)) (2 ^ cN (cc B) - 1)))), (9, .int (nI (smN (cR (cc B)) (cN (cc B))))), (11, .ref (76)), (39, .int (nI acts)), (40, .ref (77)), (41, .ref (78)), (42, .int (nI did)), (43, .int (nI k)), (47, .int (nI v))] [] h Q := by
  show bw_go _ _ _ _ _ _ _ 2047 [(0, .retAddr _), (1, .ref _), (2, .ref _), (3, .int _), (4, .int _), (5, .int _), (6, .int _), (7, .int _), (8, .int _), (9, .int _), (11, .ref _), (39, .int _), (40, .ref _), (41, .ref _), (42, .int _), (43, .int _), (47, .int _)] ([]) _ _
  refine go_iinc dL_law_2047 rfl (nI_1 did) (Nat.lt_of_lt_of_le (Nat.lt_succ_self _) (Nat.le_of_ble_eq_true rfl)) ?_
  show bw_go _ _ _ _ _ _ _ 2050 [(42, .int _), (0, .retAddr _), (1, .ref _), (2, .ref _), (3, .int _), (4, .int _), (5, .int _), (6, .int _), (7, .int _), (8, .int _), (9, .int _), (11, .ref _), (39, .int _), (40, .ref _), (41, .ref _), (43, .int _), (47, .int _)] ([]) _ _
  refine go_aload dL_law_2050 rfl ?_
  refine go_iload dL_law_2052 rfl ?_
  refine go_aload_n dL_law_2054 rfl ?_
  refine go_iconst (5) dL_law_2055 rfl ?_
  refine go_cv (as := [.int _]) 5 dL_law_2056 mt_9_59 (Or.inl rfl) rfl rfl (lb_lt hx.1) (lb_k hx.1) (Nat.le_of_ble_eq_true rfl) (Nat.le_of_ble_eq_true rfl) (Nat.le_of_ble_eq_true rfl) (Nat.le_of_ble_eq_true rfl) (Nat.le_of_ble_eq_true rfl) ?_
  refine lx_count5 hx (fun G hx => ?_)
  show bw_go _ _ _ _ _ _ _ 2059 [(42, .int _), (0, .retAddr _), (1, .ref _), (2, .ref _), (3, .int _), (4, .int _), (5, .int _), (6, .int _), (7, .int _), (8, .int _), (9, .int _), (11, .ref _), (39, .int _), (40, .ref _), (41, .ref _), (43, .int _), (47, .int _)] ((.int _) :: (.int _) :: (.ref _) :: []) _ _
  refine go_ist dL_law_2059 (lb_a hx.1 (q := 77) rfl).2.1 (lb_a hx.1 (q := 77) rfl).1 (n_in (N := 16) (by omega) (by decide)) ?_
  show bw_go _ _ _ _ _ _ _ 2060 [(42, .int _), (0, .retAddr _), (1, .ref _), (2, .ref _), (3, .int _), (4, .int _), (5, .int _), (6, .int _), (7, .int _), (8, .int _), (9, .int _), (11, .ref _), (39, .int _), (40, .ref _), (41, .ref _), (43, .int _), (47, .int _)] ([]) _ _
  rw [nI_clamp (by omega)]
  refine go_lx (lx_si77 hx) (fun H hx => ?_)
  refine go_aload dL_law_2060 rfl ?_
  refine go_iload dL_law_2062 rfl ?_
  refine go_aload_n dL_law_2064 rfl ?_
  refine go_iconst (3) dL_law_2065 rfl ?_
  refine go_cv (as := [.int _]) 5 dL_law_2066 mt_9_59 (Or.inl rfl) rfl rfl (lb_lt hx.1) (lb_k hx.1) (Nat.le_of_ble_eq_true rfl) (Nat.le_of_ble_eq_true rfl) (Nat.le_of_ble_eq_true rfl) (Nat.le_of_ble_eq_true rfl) (Nat.le_of_ble_eq_true rfl) ?_
  refine lx_count3 hx (fun G hx => ?_)
  show bw_go _ _ _ _ _ _ _ 2069 [(42, .int _), (0, .retAddr _), (1, .ref _), (2, .ref _), (3, .int _), (4, .int _), (5, .int _), (6, .int _), (7, .int _), (8, .int _), (9, .int _), (11, .ref _), (39, .int _), (40, .ref _), (41, .ref _), (43, .int _), (47, .int _)] ((.int _) :: (.int _) :: (.ref _) :: []) _ _
  refine go_ist dL_law_2069 (lb_a hx.1 (q := 78) rfl).2.1 (lb_a hx.1 (q := 78) rfl).1 (n_in (N := 16) (by omega) (by decide)) ?_
  show bw_go _ _ _ _ _ _ _ 2070 [(42, .int _), (0, .retAddr _), (1, .ref _), (2, .ref _), (3, .int _), (4, .int _), (5, .int _), (6, .int _), (7, .int _), (8, .int _), (9, .int _), (11, .ref _), (39, .int _), (40, .ref _), (41, .ref _), (43, .int _), (47, .int _)] ([]) _ _
  refine go_ls [(0, .retAddr _), (1, .ref _), (2, .ref _), (3, .int _), (4, .int _), (5, .int _), (6, .int _), (7, .int _), (8, .int _), (9, .int _), (11, .ref _), (39, .int _), (40, .ref _), (41, .ref _), (42, .int _), (43, .int _), (47, .int _)] (by show List.Nodup ([0, 1, 2, 3, 4, 5, 6, 7, 8, 9, 11, 39, 40, 41, 42, 43, 47] : List Nat); decide) (by show List.Nodup ([42, 0, 1, 2, 3, 4, 5, 6, 7, 8, 9, 11, 39, 40, 41, 43, 47] : List Nat); decide) (le_cons rfl (le_cons rfl (le_cons rfl (le_cons rfl (le_cons rfl (le_cons rfl (le_cons rfl (le_cons rfl (le_cons rfl (le_cons rfl (le_cons rfl (le_cons rfl (le_cons rfl (le_cons rfl (le_cons rfl (le_cons rfl (le_cons rfl (le_nil _)))))))))))))))))) ?_
  rw [nI_clamp (by omega)]
  refine go_lx (lx_si78 hx) (fun H hx => ?_)
  exact f2070 hv hx (acted_s ha) hT9 (by omega) K
set_option maxRecDepth 100000 in
set_option maxHeartbeats 4000000 in
theorem f2038_y {X : Nat × (Nat → Int32)} {Q : Option Value → bw_H → Prop} {h : bw_H} {S : ST} {W T0 : RW} {B : AC} {K0 : Nat → Option AC} {F T : Nat → Int32} {v a i : Nat} (hv : v < 1000) {U V : Nat → Int32} {Bk : AC} {acts did k : Nat} (hx : LX 4 75 h S (A4 F T U V) W T0 (acP Bk a i) K0) (ha : acted B Bk did U V) (hT9 : cT B.1 ≤ 9) (hd : did < 15) (K : ∀ G S' U' V', LX 4 75 G S' (A4 F T U' V') W T0 (acP Bk a i) K0 → acted B (acP Bk a i) (did + 1) U' V' → bw_go X 12 9 48 false (some .boolean) cL_law 2104 [(0, .retAddr 1), (1, .ref (0)), (2, .ref (62)), (3, .int (nI (cN (cc B)))), (4, .int (nI (2 ^ cN (cc B) - 1))), (5, .int (nI (cT B.1))), (6, .int (nI (cD (cc B)))), (7, .int (nI (cW (cc B)))), (8, .int (nI (sho (taC (cc B)) (2 ^ cN (cc B) - 1)))), (9, .int (nI (smN (cR (cc B)) (cN (cc B))))), (11, .ref (76)), (39, .int (nI acts)), (40, .ref (77)), (41, .ref (78)), (42, .int (nI (did + 1))), (43, .int (nI k))] [] G Q) : bw_go X 12 9 48 false (some .boolean) cL_law 2038 [(0, .retAddr 1), (1, .ref (0)), (2, .ref (62)), (3, .int (nI (cN (cc B)))), (4, .int (nI (2 ^ cN (cc B) - 1))), (5, .int (nI (cT B.1))), (6, .int (nI (cD (cc B)))), (7, .int (nI (cW (cc B)))), (8, .int (nI (sho (taC (cc B)) (2 ^ cN (cc B) - 1)))), (9, .int (nI (smN (cR (cc B)) (cN (cc B))))), (11, .ref (76)), (39, .int (nI acts)), (40, .ref (77)), (41, .ref (78)), (42, .int (nI did)), (43, .int (nI k))] [.int (nI v)] h Q := by
  show bw_go _ _ _ _ _ _ _ 2038 [(0, .retAddr _), (1, .ref _), (2, .ref _), (3, .int _), (4, .int _), (5, .int _), (6, .int _), (7, .int _), (8, .int _), (9, .int _), (11, .ref _), (39, .int _), (40, .ref _), (41, .ref _), (42, .int _), (43, .int _)] ((.int _) :: []) _ _
  refine go_istore dL_law_2038 (Nat.lt_of_lt_of_le (Nat.lt_succ_self _) (Nat.le_of_ble_eq_true rfl)) ?_
  show bw_go _ _ _ _ _ _ _ 2040 [(47, .int _), (0, .retAddr _), (1, .ref _), (2, .ref _), (3, .int _), (4, .int _), (5, .int _), (6, .int _), (7, .int _), (8, .int _), (9, .int _), (11, .ref _), (39, .int _), (40, .ref _), (41, .ref _), (42, .int _), (43, .int _)] ([]) _ _
  refine go_iload dL_law_2040 rfl ?_
  refine go_bipush (-4) dL_law_2042 rfl ?_
  refine go_icmp_eq (pc' := 2070) dL_law_2044 rfl (fun c_2044 => ?_) (fun c_2044 => ?_)
  · -- eq at 2044: yes
    exfalso; have l_4 : (-4 : Int32).toInt = -4 := rfl; have t_0 := nI_toInt (n := v) (by omega); have z := congrArg Int32.toInt c_2044; omega
  · -- eq at 2044: no
    refine go_ls [(0, .retAddr _), (1, .ref _), (2, .ref _), (3, .int _), (4, .int _), (5, .int _), (6, .int _), (7, .int _), (8, .int _), (9, .int _), (11, .ref _), (39, .int _), (40, .ref _), (41, .ref _), (42, .int _), (43, .int _), (47, .int _)] (by show List.Nodup ([0, 1, 2, 3, 4, 5, 6, 7, 8, 9, 11, 39, 40, 41, 42, 43, 47] : List Nat); decide) (by show List.Nodup ([47, 0, 1, 2, 3, 4, 5, 6, 7, 8, 9, 11, 39, 40, 41, 42, 43] : List Nat); decide) (le_cons rfl (le_cons rfl (le_cons rfl (le_cons rfl (le_cons rfl (le_cons rfl (le_cons rfl (le_cons rfl (le_cons rfl (le_cons rfl (le_cons rfl (le_cons rfl (le_cons rfl (le_cons rfl (le_cons rfl (le_cons rfl (le_cons rfl (le_nil _)))))))))))))))))) ?_
    exact f2047 hv hx ha hT9 hd K
set_option maxRecDepth 100000 in
set_option maxHeartbeats 4000000 in
theorem law_L {X : Nat × (Nat → Int32)} {Q : Option Value → bw_H → Prop} {h : bw_H} {S : ST} {W T0 : RW} {B : AC} {K0 : Nat → Option AC} {F T : Nat → Int32} (hx : LX 2 75 h S (A2 F T) W T0 B K0) (hf : LF F B) (hL : X.1 ≤ 260) (K9 : ∀ G S' Bk did U V, did ≤ 14 → LX 4 75 G S' (A4 F T U V) W T0 Bk K0 → acted B Bk did U V → bw_go X 12 9 48 false (some .boolean) cL_law 2110 [(0, .retAddr 1), (1, .ref (0)), (2, .ref (62)), (3, .int (nI (cN (cc B)))), (4, .int (nI (2 ^ cN (cc B) - 1))), (5, .int (nI (cT B.1))), (6, .int (nI (cD (cc B)))), (7, .int (nI (cW (cc B)))), (8, .int (nI (sho (taC (cc B)) (2 ^ cN (cc B) - 1)))), (9, .int (nI (smN (cR (cc B)) (cN (cc B))))), (11, .ref (76)), (40, .ref (77)), (41, .ref (78)), (42, .int (nI did))] [] G Q) : bw_go X 12 9 48 false (some .boolean) cL_law 1909 [(0, .retAddr 1), (1, .ref (0)), (2, .ref (62)), (3, .int (nI (cN (cc B)))), (4, .int (nI (2 ^ cN (cc B) - 1))), (5, .int (nI (cT B.1))), (6, .int (nI (cD (cc B)))), (7, .int (nI (cW (cc B)))), (8, .int (nI (sho (taC (cc B)) (2 ^ cN (cc B) - 1)))), (9, .int (nI (smN (cR (cc B)) (cN (cc B))))), (11, .ref (76))] [] h Q := by
  have hk := lx_k hx
  have hN := hk.1
  have hp := p2N hN
  have hp1 : 1 ≤ 2 ^ cN (cc B) := Nat.one_le_two_pow
  have hn1 := hf.1.2.1
  have hT9 := hf.2.1
  show bw_go _ _ _ _ _ _ _ 1909 [(0, .retAddr _), (1, .ref _), (2, .ref _), (3, .int _), (4, .int _), (5, .int _), (6, .int _), (7, .int _), (8, .int _), (9, .int _), (11, .ref _)] ([]) _ _
  refine go_aloadA_n dL_law_1909 rfl ?_
  refine go_bipush (22) dL_law_1910 rfl ?_
  refine go_cs (as := [.retAddr _, .int _]) 0 dL_law_1912 rfl rfl mt_9_9 (Nat.le_of_ble_eq_true rfl) rfl rfl (Nat.le_of_ble_eq_true rfl) (Nat.le_of_ble_eq_true rfl) (Nat.le_of_ble_eq_true rfl) (Nat.le_of_ble_eq_true rfl) ?_
  refine me_L_cell (k := 22) hL (by decide) ?_
  show bw_go _ _ _ _ _ _ _ 1915 [(0, .retAddr _), (1, .ref _), (2, .ref _), (3, .int _), (4, .int _), (5, .int _), (6, .int _), (7, .int _), (8, .int _), (9, .int _), (11, .ref _)] ((.int _) :: []) _ _
  refine go_bipush (15) dL_law_1915 rfl ?_
  refine go_cs (as := [.int _, .int _]) 0 dL_law_1917 rfl rfl mt_9_15 (Nat.le_of_ble_eq_true rfl) rfl rfl (Nat.le_of_ble_eq_true rfl) (Nat.le_of_ble_eq_true rfl) (Nat.le_of_ble_eq_true rfl) (Nat.le_of_ble_eq_true rfl) ?_
  refine me_L_up (n := 15) (by decide) (by decide) ?_
  generalize hae : upn (clx X 22) 15 = acts
  have ha15 : acts < 15 := by rw [← hae]; exact upn_lt (by decide)
  show bw_go _ _ _ _ _ _ _ 1920 [(0, .retAddr _), (1, .ref _), (2, .ref _), (3, .int _), (4, .int _), (5, .int _), (6, .int _), (7, .int _), (8, .int _), (9, .int _), (11, .ref _)] ((.int _) :: []) _ _
  refine go_istore dL_law_1920 (Nat.lt_of_lt_of_le (Nat.lt_succ_self _) (Nat.le_of_ble_eq_true rfl)) ?_
  show bw_go _ _ _ _ _ _ _ 1922 [(39, .int _), (0, .retAddr _), (1, .ref _), (2, .ref _), (3, .int _), (4, .int _), (5, .int _), (6, .int _), (7, .int _), (8, .int _), (9, .int _), (11, .ref _)] ([]) _ _
  refine go_bipush (16) dL_law_1922 rfl ?_
  refine go_naI dL_law_1924 (by decide) ?_
  rw [show (16 : Int32).toNatClampNeg = 16 from rfl, lb_n hx.1]
  refine go_lx (lx_nw3 hx) (fun H hx => ?_)
  refine go_astore dL_law_1926 (Nat.lt_of_lt_of_le (Nat.lt_succ_self _) (Nat.le_of_ble_eq_true rfl)) ?_
  show bw_go _ _ _ _ _ _ _ 1928 [(40, .ref _), (39, .int _), (0, .retAddr _), (1, .ref _), (2, .ref _), (3, .int _), (4, .int _), (5, .int _), (6, .int _), (7, .int _), (8, .int _), (9, .int _), (11, .ref _)] ([]) _ _
  refine go_bipush (16) dL_law_1928 rfl ?_
  refine go_naI dL_law_1930 (by decide) ?_
  rw [show (16 : Int32).toNatClampNeg = 16 from rfl, lb_n hx.1]
  refine go_lx (lx_nw4 hx) (fun H hx => ?_)
  refine go_astore dL_law_1932 (Nat.lt_of_lt_of_le (Nat.lt_succ_self _) (Nat.le_of_ble_eq_true rfl)) ?_
  show bw_go _ _ _ _ _ _ _ 1934 [(41, .ref _), (40, .ref _), (39, .int _), (0, .retAddr _), (1, .ref _), (2, .ref _), (3, .int _), (4, .int _), (5, .int _), (6, .int _), (7, .int _), (8, .int _), (9, .int _), (11, .ref _)] ([]) _ _
  refine go_iconst (0) dL_law_1934 rfl ?_
  refine go_istore dL_law_1935 (Nat.lt_of_lt_of_le (Nat.lt_succ_self _) (Nat.le_of_ble_eq_true rfl)) ?_
  show bw_go _ _ _ _ _ _ _ 1937 [(42, .int _), (41, .ref _), (40, .ref _), (39, .int _), (0, .retAddr _), (1, .ref _), (2, .ref _), (3, .int _), (4, .int _), (5, .int _), (6, .int _), (7, .int _), (8, .int _), (9, .int _), (11, .ref _)] ([]) _ _
  refine go_aload dL_law_1937 rfl ?_
  refine go_iconst (0) dL_law_1939 rfl ?_
  refine go_iload dL_law_1940 rfl ?_
  refine go_ist dL_law_1942 (lb_a hx.1 (q := 77) rfl).2.1 (lb_a hx.1 (q := 77) rfl).1 (by decide) ?_
  show bw_go _ _ _ _ _ _ _ 1943 [(42, .int _), (41, .ref _), (40, .ref _), (39, .int _), (0, .retAddr _), (1, .ref _), (2, .ref _), (3, .int _), (4, .int _), (5, .int _), (6, .int _), (7, .int _), (8, .int _), (9, .int _), (11, .ref _)] ([]) _ _
  rw [show (0 : Int32).toNatClampNeg = 0 from rfl]
  refine go_lx (lx_si77 hx) (fun H hx => ?_)
  refine go_aload dL_law_1943 rfl ?_
  refine go_iconst (0) dL_law_1945 rfl ?_
  refine go_iload dL_law_1946 rfl ?_
  refine go_ist dL_law_1948 (lb_a hx.1 (q := 78) rfl).2.1 (lb_a hx.1 (q := 78) rfl).1 (by decide) ?_
  show bw_go _ _ _ _ _ _ _ 1949 [(42, .int _), (41, .ref _), (40, .ref _), (39, .int _), (0, .retAddr _), (1, .ref _), (2, .ref _), (3, .int _), (4, .int _), (5, .int _), (6, .int _), (7, .int _), (8, .int _), (9, .int _), (11, .ref _)] ([]) _ _
  rw [show (0 : Int32).toNatClampNeg = 0 from rfl]
  refine go_lx (lx_si78 hx) (fun H hx => ?_)
  refine go_iconst (0) dL_law_1949 rfl ?_
  refine go_istore dL_law_1950 (Nat.lt_of_lt_of_le (Nat.lt_succ_self _) (Nat.le_of_ble_eq_true rfl)) ?_
  show bw_go _ _ _ _ _ _ _ 1952 [(43, .int _), (42, .int _), (41, .ref _), (40, .ref _), (39, .int _), (0, .retAddr _), (1, .ref _), (2, .ref _), (3, .int _), (4, .int _), (5, .int _), (6, .int _), (7, .int _), (8, .int _), (9, .int _), (11, .ref _)] ([]) _ _
  refine go_ls [(0, .retAddr _), (1, .ref _), (2, .ref _), (3, .int _), (4, .int _), (5, .int _), (6, .int _), (7, .int _), (8, .int _), (9, .int _), (11, .ref _), (39, .int _), (40, .ref _), (41, .ref _), (42, .int _), (43, .int _)] (by show List.Nodup ([0, 1, 2, 3, 4, 5, 6, 7, 8, 9, 11, 39, 40, 41, 42, 43] : List Nat); decide) (by show List.Nodup ([43, 42, 41, 40, 39, 0, 1, 2, 3, 4, 5, 6, 7, 8, 9, 11] : List Nat); decide) (le_cons rfl (le_cons rfl (le_cons rfl (le_cons rfl (le_cons rfl (le_cons rfl (le_cons rfl (le_cons rfl (le_cons rfl (le_cons rfl (le_cons rfl (le_cons rfl (le_cons rfl (le_cons rfl (le_cons rfl (le_cons rfl (le_nil _))))))))))))))))) ?_
  refine go_for (P := fun k => ∀ (g : bw_H) (S : ST) (Bk : AC) (did : Nat) (U V : Nat → Int32), (LX 4 75 g S (A4 F T U V) W T0 Bk K0 ∧ acted B Bk did U V ∧ did ≤ k) → bw_go X 12 9 48 false (some .boolean) cL_law 1952 [(0, .retAddr 1), (1, .ref (0)), (2, .ref (62)), (3, .int (nI (cN (cc B)))), (4, .int (nI (2 ^ cN (cc B) - 1))), (5, .int (nI (cT B.1))), (6, .int (nI (cD (cc B)))), (7, .int (nI (cW (cc B)))), (8, .int (nI (sho (taC (cc B)) (2 ^ cN (cc B) - 1)))), (9, .int (nI (smN (cR (cc B)) (cN (cc B))))), (11, .ref (76)), (39, .int (nI acts)), (40, .ref (77)), (41, .ref (78)), (42, .int (nI did)), (43, .int (nI k))] [] g Q) (N := acts) (fun k hk9 KI => ?_) ?_ (0) (Nat.zero_le _) _ _ _ _ _ _ ⟨hx, acted_0 (bw_up_s _ _ _) (bw_up_s _ _ _), Nat.le_refl 0⟩
  · -- a turn
    intro g S Bk did U V hv
    obtain ⟨hx, ha, hdk⟩ := hv
    have haT := ha.1
    show bw_go _ _ _ _ _ _ _ 1952 [(0, .retAddr _), (1, .ref _), (2, .ref _), (3, .int _), (4, .int _), (5, .int _), (6, .int _), (7, .int _), (8, .int _), (9, .int _), (11, .ref _), (39, .int _), (40, .ref _), (41, .ref _), (42, .int _), (43, .int _)] ([]) _ _
    refine go_iload dL_law_1952 rfl ?_
    refine go_iload dL_law_1954 rfl ?_
    refine go_icmp_ge (pc' := 2110) dL_law_1956 rfl (fun c_1956 => ?_) (fun c_1956 => ?_)
    · -- ge at 1956: yes
      exfalso; have t_0 := nI_toInt (n := k) (by omega); have t_1 := nI_toInt (n := acts) (by omega); simp only [i_le, i_lt, i_eq, bi_eq] at c_1956; omega
    · -- ge at 1956: no
      show bw_go _ _ _ _ _ _ _ 1959 [(0, .retAddr _), (1, .ref _), (2, .ref _), (3, .int _), (4, .int _), (5, .int _), (6, .int _), (7, .int _), (8, .int _), (9, .int _), (11, .ref _), (39, .int _), (40, .ref _), (41, .ref _), (42, .int _), (43, .int _)] ([]) _ _
      refine go_aloadA_n dL_law_1959 rfl ?_
      refine go_bipush (23) dL_law_1960 rfl ?_
      refine go_iload dL_law_1962 rfl ?_
      refine go_iadd dL_law_1964 ?_
      rw [show (23 : Int32) = nI 23 from rfl, nI_add]
      refine go_cs (as := [.retAddr _, .int _]) 0 dL_law_1965 rfl rfl mt_9_9 (Nat.le_of_ble_eq_true rfl) rfl rfl (Nat.le_of_ble_eq_true rfl) (Nat.le_of_ble_eq_true rfl) (Nat.le_of_ble_eq_true rfl) (Nat.le_of_ble_eq_true rfl) ?_
      refine me_L_cell (k := 23 + k) hL (by omega) ?_
      show bw_go _ _ _ _ _ _ _ 1968 [(0, .retAddr _), (1, .ref _), (2, .ref _), (3, .int _), (4, .int _), (5, .int _), (6, .int _), (7, .int _), (8, .int _), (9, .int _), (11, .ref _), (39, .int _), (40, .ref _), (41, .ref _), (42, .int _), (43, .int _)] ((.int _) :: []) _ _
      refine go_istore dL_law_1968 (Nat.lt_of_lt_of_le (Nat.lt_succ_self _) (Nat.le_of_ble_eq_true rfl)) ?_
      show bw_go _ _ _ _ _ _ _ 1970 [(44, .int _), (0, .retAddr _), (1, .ref _), (2, .ref _), (3, .int _), (4, .int _), (5, .int _), (6, .int _), (7, .int _), (8, .int _), (9, .int _), (11, .ref _), (39, .int _), (40, .ref _), (41, .ref _), (42, .int _), (43, .int _)] ([]) _ _
      refine go_iload dL_law_1970 rfl ?_
      refine go_iconst (4) dL_law_1972 rfl ?_
      refine go_cs (as := [.int _, .int _]) 0 dL_law_1973 rfl rfl mt_9_15 (Nat.le_of_ble_eq_true rfl) rfl rfl (Nat.le_of_ble_eq_true rfl) (Nat.le_of_ble_eq_true rfl) (Nat.le_of_ble_eq_true rfl) (Nat.le_of_ble_eq_true rfl) ?_
      refine me_L_up (n := 4) (by decide) (by decide) ?_
      show bw_go _ _ _ _ _ _ _ 1976 [(44, .int _), (0, .retAddr _), (1, .ref _), (2, .ref _), (3, .int _), (4, .int _), (5, .int _), (6, .int _), (7, .int _), (8, .int _), (9, .int _), (11, .ref _), (39, .int _), (40, .ref _), (41, .ref _), (42, .int _), (43, .int _)] ((.int _) :: []) _ _
      refine go_istore dL_law_1976 (Nat.lt_of_lt_of_le (Nat.lt_succ_self _) (Nat.le_of_ble_eq_true rfl)) ?_
      show bw_go _ _ _ _ _ _ _ 1978 [(45, .int _), (44, .int _), (0, .retAddr _), (1, .ref _), (2, .ref _), (3, .int _), (4, .int _), (5, .int _), (6, .int _), (7, .int _), (8, .int _), (9, .int _), (11, .ref _), (39, .int _), (40, .ref _), (41, .ref _), (42, .int _), (43, .int _)] ([]) _ _
      refine go_iload dL_law_1978 rfl ?_
      refine go_iconst (2) dL_law_1980 rfl ?_
      refine go_ishr dL_law_1981 ?_
      refine go_iload_n dL_law_1982 rfl ?_
      refine go_cs (as := [.int _, .int _]) 0 dL_law_1983 rfl rfl mt_9_15 (Nat.le_of_ble_eq_true rfl) rfl rfl (Nat.le_of_ble_eq_true rfl) (Nat.le_of_ble_eq_true rfl) (Nat.le_of_ble_eq_true rfl) (Nat.le_of_ble_eq_true rfl) ?_
      refine me_L_up (n := cN (cc B)) (by omega) (by omega) ?_
      generalize hie : upn _ (cN (cc B)) = i
      have hi : i < cN (cc B) := by rw [← hie]; exact upn_lt (by omega)
      show bw_go _ _ _ _ _ _ _ 1986 [(45, .int _), (44, .int _), (0, .retAddr _), (1, .ref _), (2, .ref _), (3, .int _), (4, .int _), (5, .int _), (6, .int _), (7, .int _), (8, .int _), (9, .int _), (11, .ref _), (39, .int _), (40, .ref _), (41, .ref _), (42, .int _), (43, .int _)] ((.int _) :: []) _ _
      refine go_istore dL_law_1986 (Nat.lt_of_lt_of_le (Nat.lt_succ_self _) (Nat.le_of_ble_eq_true rfl)) ?_
      show bw_go _ _ _ _ _ _ _ 1988 [(46, .int _), (45, .int _), (44, .int _), (0, .retAddr _), (1, .ref _), (2, .ref _), (3, .int _), (4, .int _), (5, .int _), (6, .int _), (7, .int _), (8, .int _), (9, .int _), (11, .ref _), (39, .int _), (40, .ref _), (41, .ref _), (42, .int _), (43, .int _)] ([]) _ _
      refine go_iload dL_law_1988 rfl ?_
      refine go_if_ne (pc' := 2002) dL_law_1990 rfl (fun c_1990 => ?_) (fun c_1990 => ?_)
      · -- ne at 1990: yes
        show bw_go _ _ _ _ _ _ _ 2002 [(46, .int _), (45, .int _), (44, .int _), (0, .retAddr _), (1, .ref _), (2, .ref _), (3, .int _), (4, .int _), (5, .int _), (6, .int _), (7, .int _), (8, .int _), (9, .int _), (11, .ref _), (39, .int _), (40, .ref _), (41, .ref _), (42, .int _), (43, .int _)] ([]) _ _
        refine go_iload dL_law_2002 rfl ?_
        refine go_iconst (1) dL_law_2004 rfl ?_
        refine go_icmp_ne (pc' := 2017) dL_law_2005 rfl (fun c_2005 => ?_) (fun c_2005 => ?_)
        · -- ne at 2005: yes
          show bw_go _ _ _ _ _ _ _ 2017 [(46, .int _), (45, .int _), (44, .int _), (0, .retAddr _), (1, .ref _), (2, .ref _), (3, .int _), (4, .int _), (5, .int _), (6, .int _), (7, .int _), (8, .int _), (9, .int _), (11, .ref _), (39, .int _), (40, .ref _), (41, .ref _), (42, .int _), (43, .int _)] ([]) _ _
          refine go_iload dL_law_2017 rfl ?_
          refine go_iconst (2) dL_law_2019 rfl ?_
          refine go_icmp_ne (pc' := 2032) dL_law_2020 rfl (fun c_2020 => ?_) (fun c_2020 => ?_)
          · -- ne at 2020: yes
            show bw_go _ _ _ _ _ _ _ 2032 [(46, .int _), (45, .int _), (44, .int _), (0, .retAddr _), (1, .ref _), (2, .ref _), (3, .int _), (4, .int _), (5, .int _), (6, .int _), (7, .int _), (8, .int _), (9, .int _), (11, .ref _), (39, .int _), (40, .ref _), (41, .ref _), (42, .int _), (43, .int _)] ([]) _ _
            refine go_aload_n dL_law_2032 rfl ?_
            refine go_iload dL_law_2033 rfl ?_
            refine go_cv (as := [.int _]) 4 dL_law_2035 mt_9_153 (Or.inl rfl) rfl rfl (lb_lt hx.1) (lb_k hx.1) (Nat.le_of_ble_eq_true rfl) (Nat.le_of_ble_eq_true rfl) (Nat.le_of_ble_eq_true rfl) (Nat.le_of_ble_eq_true rfl) (Nat.le_of_ble_eq_true rfl) ?_
            refine lx_turn hx (i := i) (by show i < cN Bk.1; rw [ha.2.1]; exact hi) (by omega) (fun G S' hx hcb => ?_) (fun G S' hx hcb => ?_)
            · have hk2 := lx_k hx
              skip
              refine go_ls [(0, .retAddr _), (1, .ref _), (2, .ref _), (3, .int _), (4, .int _), (5, .int _), (6, .int _), (7, .int _), (8, .int _), (9, .int _), (11, .ref _), (39, .int _), (40, .ref _), (41, .ref _), (42, .int _), (43, .int _)] (by show List.Nodup ([0, 1, 2, 3, 4, 5, 6, 7, 8, 9, 11, 39, 40, 41, 42, 43] : List Nat); decide) (by show List.Nodup ([46, 45, 44, 0, 1, 2, 3, 4, 5, 6, 7, 8, 9, 11, 39, 40, 41, 42, 43] : List Nat); decide) (le_cons rfl (le_cons rfl (le_cons rfl (le_cons rfl (le_cons rfl (le_cons rfl (le_cons rfl (le_cons rfl (le_cons rfl (le_cons rfl (le_cons rfl (le_cons rfl (le_cons rfl (le_cons rfl (le_cons rfl (le_cons rfl (le_nil _))))))))))))))))) ?_
              refine f2038_y (by split <;> omega) hx ha hT9 (by omega) (fun G S' U' V' hx ha => ?_)
              refine go_iinc dL_law_2104 rfl (nI_1 k) (Nat.lt_of_lt_of_le (Nat.lt_succ_self _) (Nat.le_of_ble_eq_true rfl)) ?_
              show bw_go _ _ _ _ _ _ _ 2107 [(43, .int _), (0, .retAddr _), (1, .ref _), (2, .ref _), (3, .int _), (4, .int _), (5, .int _), (6, .int _), (7, .int _), (8, .int _), (9, .int _), (11, .ref _), (39, .int _), (40, .ref _), (41, .ref _), (42, .int _)] ([]) _ _
              refine go_goto (pc' := 1952) dL_law_2107 rfl ?_
              refine go_ls [(0, .retAddr _), (1, .ref _), (2, .ref _), (3, .int _), (4, .int _), (5, .int _), (6, .int _), (7, .int _), (8, .int _), (9, .int _), (11, .ref _), (39, .int _), (40, .ref _), (41, .ref _), (42, .int _), (43, .int _)] (by show List.Nodup ([0, 1, 2, 3, 4, 5, 6, 7, 8, 9, 11, 39, 40, 41, 42, 43] : List Nat); decide) (by show List.Nodup ([43, 0, 1, 2, 3, 4, 5, 6, 7, 8, 9, 11, 39, 40, 41, 42] : List Nat); decide) (le_cons rfl (le_cons rfl (le_cons rfl (le_cons rfl (le_cons rfl (le_cons rfl (le_cons rfl (le_cons rfl (le_cons rfl (le_cons rfl (le_cons rfl (le_cons rfl (le_cons rfl (le_cons rfl (le_cons rfl (le_cons rfl (le_nil _))))))))))))))))) ?_
              exact KI _ _ _ _ _ _ ⟨hx, ha, by omega⟩
            · refine go_ls [(0, .retAddr _), (1, .ref _), (2, .ref _), (3, .int _), (4, .int _), (5, .int _), (6, .int _), (7, .int _), (8, .int _), (9, .int _), (11, .ref _), (39, .int _), (40, .ref _), (41, .ref _), (42, .int _), (43, .int _)] (by show List.Nodup ([0, 1, 2, 3, 4, 5, 6, 7, 8, 9, 11, 39, 40, 41, 42, 43] : List Nat); decide) (by show List.Nodup ([46, 45, 44, 0, 1, 2, 3, 4, 5, 6, 7, 8, 9, 11, 39, 40, 41, 42, 43] : List Nat); decide) (le_cons rfl (le_cons rfl (le_cons rfl (le_cons rfl (le_cons rfl (le_cons rfl (le_cons rfl (le_cons rfl (le_cons rfl (le_cons rfl (le_cons rfl (le_cons rfl (le_cons rfl (le_cons rfl (le_cons rfl (le_cons rfl (le_nil _))))))))))))))))) ?_
              refine f2038_n hx ha hT9 (by omega) (fun G S' U' V' hx ha => ?_)
              refine go_iinc dL_law_2104 rfl (nI_1 k) (Nat.lt_of_lt_of_le (Nat.lt_succ_self _) (Nat.le_of_ble_eq_true rfl)) ?_
              show bw_go _ _ _ _ _ _ _ 2107 [(43, .int _), (0, .retAddr _), (1, .ref _), (2, .ref _), (3, .int _), (4, .int _), (5, .int _), (6, .int _), (7, .int _), (8, .int _), (9, .int _), (11, .ref _), (39, .int _), (40, .ref _), (41, .ref _), (42, .int _)] ([]) _ _
              refine go_goto (pc' := 1952) dL_law_2107 rfl ?_
              refine go_ls [(0, .retAddr _), (1, .ref _), (2, .ref _), (3, .int _), (4, .int _), (5, .int _), (6, .int _), (7, .int _), (8, .int _), (9, .int _), (11, .ref _), (39, .int _), (40, .ref _), (41, .ref _), (42, .int _), (43, .int _)] (by show List.Nodup ([0, 1, 2, 3, 4, 5, 6, 7, 8, 9, 11, 39, 40, 41, 42, 43] : List Nat); decide) (by show List.Nodup ([43, 0, 1, 2, 3, 4, 5, 6, 7, 8, 9, 11, 39, 40, 41, 42] : List Nat); decide) (le_cons rfl (le_cons rfl (le_cons rfl (le_cons rfl (le_cons rfl (le_cons rfl (le_cons rfl (le_cons rfl (le_cons rfl (le_cons rfl (le_cons rfl (le_cons rfl (le_cons rfl (le_cons rfl (le_cons rfl (le_cons rfl (le_nil _))))))))))))))))) ?_
              exact KI _ _ _ _ _ _ ⟨hx, ha, by omega⟩
          · -- ne at 2020: no
            show bw_go _ _ _ _ _ _ _ 2023 [(46, .int _), (45, .int _), (44, .int _), (0, .retAddr _), (1, .ref _), (2, .ref _), (3, .int _), (4, .int _), (5, .int _), (6, .int _), (7, .int _), (8, .int _), (9, .int _), (11, .ref _), (39, .int _), (40, .ref _), (41, .ref _), (42, .int _), (43, .int _)] ([]) _ _
            refine go_aload_n dL_law_2023 rfl ?_
            refine go_iload dL_law_2024 rfl ?_
            refine go_cv (as := [.int _]) 4 dL_law_2026 mt_9_150 (Or.inl rfl) rfl rfl (lb_lt hx.1) (lb_k hx.1) (Nat.le_of_ble_eq_true rfl) (Nat.le_of_ble_eq_true rfl) (Nat.le_of_ble_eq_true rfl) (Nat.le_of_ble_eq_true rfl) (Nat.le_of_ble_eq_true rfl) ?_
            refine lx_eye hx (i := i) (by show i < cN Bk.1; rw [ha.2.1]; exact hi) (by omega) (fun G S' hx hcb => ?_) (fun G S' hx hcb => ?_)
            · have hk2 := lx_k hx
              have hv9 := (hk2.2.2.2.2 i (by show i < cN Bk.1; rw [ha.2.1]; exact hi)).2.1
              refine go_goto (pc' := 2038) dL_law_2029 rfl ?_
              refine go_ls [(0, .retAddr _), (1, .ref _), (2, .ref _), (3, .int _), (4, .int _), (5, .int _), (6, .int _), (7, .int _), (8, .int _), (9, .int _), (11, .ref _), (39, .int _), (40, .ref _), (41, .ref _), (42, .int _), (43, .int _)] (by show List.Nodup ([0, 1, 2, 3, 4, 5, 6, 7, 8, 9, 11, 39, 40, 41, 42, 43] : List Nat); decide) (by show List.Nodup ([46, 45, 44, 0, 1, 2, 3, 4, 5, 6, 7, 8, 9, 11, 39, 40, 41, 42, 43] : List Nat); decide) (le_cons rfl (le_cons rfl (le_cons rfl (le_cons rfl (le_cons rfl (le_cons rfl (le_cons rfl (le_cons rfl (le_cons rfl (le_cons rfl (le_cons rfl (le_cons rfl (le_cons rfl (le_cons rfl (le_cons rfl (le_cons rfl (le_nil _))))))))))))))))) ?_
              refine f2038_y (by omega) hx ha hT9 (by omega) (fun G S' U' V' hx ha => ?_)
              refine go_iinc dL_law_2104 rfl (nI_1 k) (Nat.lt_of_lt_of_le (Nat.lt_succ_self _) (Nat.le_of_ble_eq_true rfl)) ?_
              show bw_go _ _ _ _ _ _ _ 2107 [(43, .int _), (0, .retAddr _), (1, .ref _), (2, .ref _), (3, .int _), (4, .int _), (5, .int _), (6, .int _), (7, .int _), (8, .int _), (9, .int _), (11, .ref _), (39, .int _), (40, .ref _), (41, .ref _), (42, .int _)] ([]) _ _
              refine go_goto (pc' := 1952) dL_law_2107 rfl ?_
              refine go_ls [(0, .retAddr _), (1, .ref _), (2, .ref _), (3, .int _), (4, .int _), (5, .int _), (6, .int _), (7, .int _), (8, .int _), (9, .int _), (11, .ref _), (39, .int _), (40, .ref _), (41, .ref _), (42, .int _), (43, .int _)] (by show List.Nodup ([0, 1, 2, 3, 4, 5, 6, 7, 8, 9, 11, 39, 40, 41, 42, 43] : List Nat); decide) (by show List.Nodup ([43, 0, 1, 2, 3, 4, 5, 6, 7, 8, 9, 11, 39, 40, 41, 42] : List Nat); decide) (le_cons rfl (le_cons rfl (le_cons rfl (le_cons rfl (le_cons rfl (le_cons rfl (le_cons rfl (le_cons rfl (le_cons rfl (le_cons rfl (le_cons rfl (le_cons rfl (le_cons rfl (le_cons rfl (le_cons rfl (le_cons rfl (le_nil _))))))))))))))))) ?_
              exact KI _ _ _ _ _ _ ⟨hx, ha, by omega⟩
            · refine go_goto (pc' := 2038) dL_law_2029 rfl ?_
              refine go_ls [(0, .retAddr _), (1, .ref _), (2, .ref _), (3, .int _), (4, .int _), (5, .int _), (6, .int _), (7, .int _), (8, .int _), (9, .int _), (11, .ref _), (39, .int _), (40, .ref _), (41, .ref _), (42, .int _), (43, .int _)] (by show List.Nodup ([0, 1, 2, 3, 4, 5, 6, 7, 8, 9, 11, 39, 40, 41, 42, 43] : List Nat); decide) (by show List.Nodup ([46, 45, 44, 0, 1, 2, 3, 4, 5, 6, 7, 8, 9, 11, 39, 40, 41, 42, 43] : List Nat); decide) (le_cons rfl (le_cons rfl (le_cons rfl (le_cons rfl (le_cons rfl (le_cons rfl (le_cons rfl (le_cons rfl (le_cons rfl (le_cons rfl (le_cons rfl (le_cons rfl (le_cons rfl (le_cons rfl (le_cons rfl (le_cons rfl (le_nil _))))))))))))))))) ?_
              refine f2038_n hx ha hT9 (by omega) (fun G S' U' V' hx ha => ?_)
              refine go_iinc dL_law_2104 rfl (nI_1 k) (Nat.lt_of_lt_of_le (Nat.lt_succ_self _) (Nat.le_of_ble_eq_true rfl)) ?_
              show bw_go _ _ _ _ _ _ _ 2107 [(43, .int _), (0, .retAddr _), (1, .ref _), (2, .ref _), (3, .int _), (4, .int _), (5, .int _), (6, .int _), (7, .int _), (8, .int _), (9, .int _), (11, .ref _), (39, .int _), (40, .ref _), (41, .ref _), (42, .int _)] ([]) _ _
              refine go_goto (pc' := 1952) dL_law_2107 rfl ?_
              refine go_ls [(0, .retAddr _), (1, .ref _), (2, .ref _), (3, .int _), (4, .int _), (5, .int _), (6, .int _), (7, .int _), (8, .int _), (9, .int _), (11, .ref _), (39, .int _), (40, .ref _), (41, .ref _), (42, .int _), (43, .int _)] (by show List.Nodup ([0, 1, 2, 3, 4, 5, 6, 7, 8, 9, 11, 39, 40, 41, 42, 43] : List Nat); decide) (by show List.Nodup ([43, 0, 1, 2, 3, 4, 5, 6, 7, 8, 9, 11, 39, 40, 41, 42] : List Nat); decide) (le_cons rfl (le_cons rfl (le_cons rfl (le_cons rfl (le_cons rfl (le_cons rfl (le_cons rfl (le_cons rfl (le_cons rfl (le_cons rfl (le_cons rfl (le_cons rfl (le_cons rfl (le_cons rfl (le_cons rfl (le_cons rfl (le_nil _))))))))))))))))) ?_
              exact KI _ _ _ _ _ _ ⟨hx, ha, by omega⟩
        · -- ne at 2005: no
          show bw_go _ _ _ _ _ _ _ 2008 [(46, .int _), (45, .int _), (44, .int _), (0, .retAddr _), (1, .ref _), (2, .ref _), (3, .int _), (4, .int _), (5, .int _), (6, .int _), (7, .int _), (8, .int _), (9, .int _), (11, .ref _), (39, .int _), (40, .ref _), (41, .ref _), (42, .int _), (43, .int _)] ([]) _ _
          refine go_aload_n dL_law_2008 rfl ?_
          refine go_iload dL_law_2009 rfl ?_
          refine go_cv (as := [.int _]) 4 dL_law_2011 mt_9_147 (Or.inl rfl) rfl rfl (lb_lt hx.1) (lb_k hx.1) (Nat.le_of_ble_eq_true rfl) (Nat.le_of_ble_eq_true rfl) (Nat.le_of_ble_eq_true rfl) (Nat.le_of_ble_eq_true rfl) (Nat.le_of_ble_eq_true rfl) ?_
          refine lx_mend hx (i := i) (by show i < cN Bk.1; rw [ha.2.1]; exact hi) (by omega) (fun G S' hx hcb => ?_) (fun G S' hx hcb => ?_)
          · have hk2 := lx_k hx
            have hv9 := (hk2.2.2.2.2 i (by show i < cN Bk.1; rw [ha.2.1]; exact hi)).2.2.1
            refine go_goto (pc' := 2038) dL_law_2014 rfl ?_
            refine go_ls [(0, .retAddr _), (1, .ref _), (2, .ref _), (3, .int _), (4, .int _), (5, .int _), (6, .int _), (7, .int _), (8, .int _), (9, .int _), (11, .ref _), (39, .int _), (40, .ref _), (41, .ref _), (42, .int _), (43, .int _)] (by show List.Nodup ([0, 1, 2, 3, 4, 5, 6, 7, 8, 9, 11, 39, 40, 41, 42, 43] : List Nat); decide) (by show List.Nodup ([46, 45, 44, 0, 1, 2, 3, 4, 5, 6, 7, 8, 9, 11, 39, 40, 41, 42, 43] : List Nat); decide) (le_cons rfl (le_cons rfl (le_cons rfl (le_cons rfl (le_cons rfl (le_cons rfl (le_cons rfl (le_cons rfl (le_cons rfl (le_cons rfl (le_cons rfl (le_cons rfl (le_cons rfl (le_cons rfl (le_cons rfl (le_cons rfl (le_nil _))))))))))))))))) ?_
            refine f2038_y (by omega) hx ha hT9 (by omega) (fun G S' U' V' hx ha => ?_)
            refine go_iinc dL_law_2104 rfl (nI_1 k) (Nat.lt_of_lt_of_le (Nat.lt_succ_self _) (Nat.le_of_ble_eq_true rfl)) ?_
            show bw_go _ _ _ _ _ _ _ 2107 [(43, .int _), (0, .retAddr _), (1, .ref _), (2, .ref _), (3, .int _), (4, .int _), (5, .int _), (6, .int _), (7, .int _), (8, .int _), (9, .int _), (11, .ref _), (39, .int _), (40, .ref _), (41, .ref _), (42, .int _)] ([]) _ _
            refine go_goto (pc' := 1952) dL_law_2107 rfl ?_
            refine go_ls [(0, .retAddr _), (1, .ref _), (2, .ref _), (3, .int _), (4, .int _), (5, .int _), (6, .int _), (7, .int _), (8, .int _), (9, .int _), (11, .ref _), (39, .int _), (40, .ref _), (41, .ref _), (42, .int _), (43, .int _)] (by show List.Nodup ([0, 1, 2, 3, 4, 5, 6, 7, 8, 9, 11, 39, 40, 41, 42, 43] : List Nat); decide) (by show List.Nodup ([43, 0, 1, 2, 3, 4, 5, 6, 7, 8, 9, 11, 39, 40, 41, 42] : List Nat); decide) (le_cons rfl (le_cons rfl (le_cons rfl (le_cons rfl (le_cons rfl (le_cons rfl (le_cons rfl (le_cons rfl (le_cons rfl (le_cons rfl (le_cons rfl (le_cons rfl (le_cons rfl (le_cons rfl (le_cons rfl (le_cons rfl (le_nil _))))))))))))))))) ?_
            exact KI _ _ _ _ _ _ ⟨hx, ha, by omega⟩
          · refine go_goto (pc' := 2038) dL_law_2014 rfl ?_
            refine go_ls [(0, .retAddr _), (1, .ref _), (2, .ref _), (3, .int _), (4, .int _), (5, .int _), (6, .int _), (7, .int _), (8, .int _), (9, .int _), (11, .ref _), (39, .int _), (40, .ref _), (41, .ref _), (42, .int _), (43, .int _)] (by show List.Nodup ([0, 1, 2, 3, 4, 5, 6, 7, 8, 9, 11, 39, 40, 41, 42, 43] : List Nat); decide) (by show List.Nodup ([46, 45, 44, 0, 1, 2, 3, 4, 5, 6, 7, 8, 9, 11, 39, 40, 41, 42, 43] : List Nat); decide) (le_cons rfl (le_cons rfl (le_cons rfl (le_cons rfl (le_cons rfl (le_cons rfl (le_cons rfl (le_cons rfl (le_cons rfl (le_cons rfl (le_cons rfl (le_cons rfl (le_cons rfl (le_cons rfl (le_cons rfl (le_cons rfl (le_nil _))))))))))))))))) ?_
            refine f2038_n hx ha hT9 (by omega) (fun G S' U' V' hx ha => ?_)
            refine go_iinc dL_law_2104 rfl (nI_1 k) (Nat.lt_of_lt_of_le (Nat.lt_succ_self _) (Nat.le_of_ble_eq_true rfl)) ?_
            show bw_go _ _ _ _ _ _ _ 2107 [(43, .int _), (0, .retAddr _), (1, .ref _), (2, .ref _), (3, .int _), (4, .int _), (5, .int _), (6, .int _), (7, .int _), (8, .int _), (9, .int _), (11, .ref _), (39, .int _), (40, .ref _), (41, .ref _), (42, .int _)] ([]) _ _
            refine go_goto (pc' := 1952) dL_law_2107 rfl ?_
            refine go_ls [(0, .retAddr _), (1, .ref _), (2, .ref _), (3, .int _), (4, .int _), (5, .int _), (6, .int _), (7, .int _), (8, .int _), (9, .int _), (11, .ref _), (39, .int _), (40, .ref _), (41, .ref _), (42, .int _), (43, .int _)] (by show List.Nodup ([0, 1, 2, 3, 4, 5, 6, 7, 8, 9, 11, 39, 40, 41, 42, 43] : List Nat); decide) (by show List.Nodup ([43, 0, 1, 2, 3, 4, 5, 6, 7, 8, 9, 11, 39, 40, 41, 42] : List Nat); decide) (le_cons rfl (le_cons rfl (le_cons rfl (le_cons rfl (le_cons rfl (le_cons rfl (le_cons rfl (le_cons rfl (le_cons rfl (le_cons rfl (le_cons rfl (le_cons rfl (le_cons rfl (le_cons rfl (le_cons rfl (le_cons rfl (le_nil _))))))))))))))))) ?_
            exact KI _ _ _ _ _ _ ⟨hx, ha, by omega⟩
      · -- ne at 1990: no
        show bw_go _ _ _ _ _ _ _ 1993 [(46, .int _), (45, .int _), (44, .int _), (0, .retAddr _), (1, .ref _), (2, .ref _), (3, .int _), (4, .int _), (5, .int _), (6, .int _), (7, .int _), (8, .int _), (9, .int _), (11, .ref _), (39, .int _), (40, .ref _), (41, .ref _), (42, .int _), (43, .int _)] ([]) _ _
        refine go_aload_n dL_law_1993 rfl ?_
        refine go_iload dL_law_1994 rfl ?_
        refine go_cv (as := [.int _]) 4 dL_law_1996 mt_9_93 (Or.inl rfl) rfl rfl (lb_lt hx.1) (lb_k hx.1) (Nat.le_of_ble_eq_true rfl) (Nat.le_of_ble_eq_true rfl) (Nat.le_of_ble_eq_true rfl) (Nat.le_of_ble_eq_true rfl) (Nat.le_of_ble_eq_true rfl) ?_
        refine lx_press hx (i := i) (by show i < cN Bk.1; rw [ha.2.1]; exact hi) (by omega) (fun G S' hx hcb => ?_) (fun G S' hx hcb => ?_)
        · have hk2 := lx_k hx
          have hv9 := (hk2.2.2.2.2 i (by show i < cN Bk.1; rw [ha.2.1]; exact hi)).2.2.1
          refine go_goto (pc' := 2038) dL_law_1999 rfl ?_
          refine go_ls [(0, .retAddr _), (1, .ref _), (2, .ref _), (3, .int _), (4, .int _), (5, .int _), (6, .int _), (7, .int _), (8, .int _), (9, .int _), (11, .ref _), (39, .int _), (40, .ref _), (41, .ref _), (42, .int _), (43, .int _)] (by show List.Nodup ([0, 1, 2, 3, 4, 5, 6, 7, 8, 9, 11, 39, 40, 41, 42, 43] : List Nat); decide) (by show List.Nodup ([46, 45, 44, 0, 1, 2, 3, 4, 5, 6, 7, 8, 9, 11, 39, 40, 41, 42, 43] : List Nat); decide) (le_cons rfl (le_cons rfl (le_cons rfl (le_cons rfl (le_cons rfl (le_cons rfl (le_cons rfl (le_cons rfl (le_cons rfl (le_cons rfl (le_cons rfl (le_cons rfl (le_cons rfl (le_cons rfl (le_cons rfl (le_cons rfl (le_nil _))))))))))))))))) ?_
          refine f2038_y (by omega) hx ha hT9 (by omega) (fun G S' U' V' hx ha => ?_)
          refine go_iinc dL_law_2104 rfl (nI_1 k) (Nat.lt_of_lt_of_le (Nat.lt_succ_self _) (Nat.le_of_ble_eq_true rfl)) ?_
          show bw_go _ _ _ _ _ _ _ 2107 [(43, .int _), (0, .retAddr _), (1, .ref _), (2, .ref _), (3, .int _), (4, .int _), (5, .int _), (6, .int _), (7, .int _), (8, .int _), (9, .int _), (11, .ref _), (39, .int _), (40, .ref _), (41, .ref _), (42, .int _)] ([]) _ _
          refine go_goto (pc' := 1952) dL_law_2107 rfl ?_
          refine go_ls [(0, .retAddr _), (1, .ref _), (2, .ref _), (3, .int _), (4, .int _), (5, .int _), (6, .int _), (7, .int _), (8, .int _), (9, .int _), (11, .ref _), (39, .int _), (40, .ref _), (41, .ref _), (42, .int _), (43, .int _)] (by show List.Nodup ([0, 1, 2, 3, 4, 5, 6, 7, 8, 9, 11, 39, 40, 41, 42, 43] : List Nat); decide) (by show List.Nodup ([43, 0, 1, 2, 3, 4, 5, 6, 7, 8, 9, 11, 39, 40, 41, 42] : List Nat); decide) (le_cons rfl (le_cons rfl (le_cons rfl (le_cons rfl (le_cons rfl (le_cons rfl (le_cons rfl (le_cons rfl (le_cons rfl (le_cons rfl (le_cons rfl (le_cons rfl (le_cons rfl (le_cons rfl (le_cons rfl (le_cons rfl (le_nil _))))))))))))))))) ?_
          exact KI _ _ _ _ _ _ ⟨hx, ha, by omega⟩
        · refine go_goto (pc' := 2038) dL_law_1999 rfl ?_
          refine go_ls [(0, .retAddr _), (1, .ref _), (2, .ref _), (3, .int _), (4, .int _), (5, .int _), (6, .int _), (7, .int _), (8, .int _), (9, .int _), (11, .ref _), (39, .int _), (40, .ref _), (41, .ref _), (42, .int _), (43, .int _)] (by show List.Nodup ([0, 1, 2, 3, 4, 5, 6, 7, 8, 9, 11, 39, 40, 41, 42, 43] : List Nat); decide) (by show List.Nodup ([46, 45, 44, 0, 1, 2, 3, 4, 5, 6, 7, 8, 9, 11, 39, 40, 41, 42, 43] : List Nat); decide) (le_cons rfl (le_cons rfl (le_cons rfl (le_cons rfl (le_cons rfl (le_cons rfl (le_cons rfl (le_cons rfl (le_cons rfl (le_cons rfl (le_cons rfl (le_cons rfl (le_cons rfl (le_cons rfl (le_cons rfl (le_cons rfl (le_nil _))))))))))))))))) ?_
          refine f2038_n hx ha hT9 (by omega) (fun G S' U' V' hx ha => ?_)
          refine go_iinc dL_law_2104 rfl (nI_1 k) (Nat.lt_of_lt_of_le (Nat.lt_succ_self _) (Nat.le_of_ble_eq_true rfl)) ?_
          show bw_go _ _ _ _ _ _ _ 2107 [(43, .int _), (0, .retAddr _), (1, .ref _), (2, .ref _), (3, .int _), (4, .int _), (5, .int _), (6, .int _), (7, .int _), (8, .int _), (9, .int _), (11, .ref _), (39, .int _), (40, .ref _), (41, .ref _), (42, .int _)] ([]) _ _
          refine go_goto (pc' := 1952) dL_law_2107 rfl ?_
          refine go_ls [(0, .retAddr _), (1, .ref _), (2, .ref _), (3, .int _), (4, .int _), (5, .int _), (6, .int _), (7, .int _), (8, .int _), (9, .int _), (11, .ref _), (39, .int _), (40, .ref _), (41, .ref _), (42, .int _), (43, .int _)] (by show List.Nodup ([0, 1, 2, 3, 4, 5, 6, 7, 8, 9, 11, 39, 40, 41, 42, 43] : List Nat); decide) (by show List.Nodup ([43, 0, 1, 2, 3, 4, 5, 6, 7, 8, 9, 11, 39, 40, 41, 42] : List Nat); decide) (le_cons rfl (le_cons rfl (le_cons rfl (le_cons rfl (le_cons rfl (le_cons rfl (le_cons rfl (le_cons rfl (le_cons rfl (le_cons rfl (le_cons rfl (le_cons rfl (le_cons rfl (le_cons rfl (le_cons rfl (le_cons rfl (le_nil _))))))))))))))))) ?_
          exact KI _ _ _ _ _ _ ⟨hx, ha, by omega⟩
  · -- behind the last
    intro g S Bk did U V hv
    obtain ⟨hx, ha, hdk⟩ := hv
    show bw_go _ _ _ _ _ _ _ 1952 [(0, .retAddr _), (1, .ref _), (2, .ref _), (3, .int _), (4, .int _), (5, .int _), (6, .int _), (7, .int _), (8, .int _), (9, .int _), (11, .ref _), (39, .int _), (40, .ref _), (41, .ref _), (42, .int _), (43, .int _)] ([]) _ _
    refine go_iload dL_law_1952 rfl ?_
    refine go_iload dL_law_1954 rfl ?_
    refine go_icmp_ge (pc' := 2110) dL_law_1956 rfl (fun c_1956 => ?_) (fun c_1956 => ?_)
    · -- ge at 1956: yes
      refine go_ls [(0, .retAddr _), (1, .ref _), (2, .ref _), (3, .int _), (4, .int _), (5, .int _), (6, .int _), (7, .int _), (8, .int _), (9, .int _), (11, .ref _), (40, .ref _), (41, .ref _), (42, .int _)] (by show List.Nodup ([0, 1, 2, 3, 4, 5, 6, 7, 8, 9, 11, 40, 41, 42] : List Nat); decide) (by show List.Nodup ([0, 1, 2, 3, 4, 5, 6, 7, 8, 9, 11, 39, 40, 41, 42, 43] : List Nat); decide) (le_cons rfl (le_cons rfl (le_cons rfl (le_cons rfl (le_cons rfl (le_cons rfl (le_cons rfl (le_cons rfl (le_cons rfl (le_cons rfl (le_cons rfl (le_cons rfl (le_cons rfl (le_cons rfl (le_nil _))))))))))))))) ?_
      exact K9 _ _ _ _ _ _ (by omega) hx ha
    · -- ge at 1956: no
      exfalso; have t_0 := nI_toInt (n := acts) (by omega); simp only [i_le, i_lt, i_eq, bi_eq] at c_1956; omega
