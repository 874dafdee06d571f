/-! the law: its end -/
def sX (W T0 : RW) (B : AC) (K0 : Nat → Option AC) : ST := (W, T0, B, K0, fun _ => 0, 0, 0, 0, 0)
theorem cnf_e {S S' : ST} (h1 : S.1 = S'.1) (h2 : S.2.1 = S'.2.1) (h3 : nowC S = nowC S') (h4 : cT (sA S).1 = cT (sA S').1) (h5 : sK S = sK S') (w : Nat) : cnf S w = cnf S' w := by
  have e1 : sR S = sR S' := congrArg Prod.fst h1
  have e2 : sT S = sT S' := congrArg Prod.fst h2
  unfold cnf
  rw [h3, h4, h5, e1, e2]
theorem dgC_e {S S' : ST} (h : ∀ w, cnf S w = cnf S' w) : ∀ k, dgC S k = dgC S' k
  | 0 => rfl
  | k + 1 => by
    show 31 * dgC S k + (nI (cnf S k)).toInt64 = 31 * dgC S' k + (nI (cnf S' k)).toInt64
    rw [dgC_e h k, h k]
theorem dgK_e {S S' : ST} (h : sK S = sK S') (g : Int64) : ∀ k, dgK S g k = dgK S' g k
  | 0 => rfl
  | k + 1 => by
    show 31 * dgK S g k + (kpv (sK S k)).toInt64 = 31 * dgK S' g k + (kpv (sK S' k)).toInt64
    rw [dgK_e h g k, h]
theorem dig_e {S S' : ST} (h1 : S.1 = S'.1) (h2 : S.2.1 = S'.2.1) (h3 : nowC S = nowC S') (h4 : cT (sA S).1 = cT (sA S').1) (h5 : sK S = sK S') : digS S = digS S' := by
  have e1 : sR S = sR S' := congrArg Prod.fst h1
  have e2 : sT S = sT S' := congrArg Prod.fst h2
  have e3 : sRc S = sRc S' := congrArg Prod.snd h1
  have e4 : sTc S = sTc S' := congrArg Prod.snd h2
  unfold digS
  rw [e1, e2, e3, e4, h3, dgC_e (cnf_e h1 h2 h3 h4 h5) 12, dgK_e h5]
theorem lx_digest {X : Nat × (Nat → Int32)} {Q : Option Value → bw_H → Prop} {h : bw_H} {z c : Nat} {S : ST} {A : LY} {W T0 : RW} {B : AC} {K0 : Nat → Option AC} (hl : LX z c h S A W T0 B K0) (hQ : ∀ G, LX z c G S A W T0 B K0 → Q (some (.long (digS (sX W T0 B K0)))) G) : bw_me X 6 bm_X7_digest false [.ref 0] h Q := by
  obtain ⟨hb, rfl, rfl, rfl, rfl⟩ := hl
  refine lb_me hb (fun h Q hx hq => me_X7_digest hx hq) (fun _ => rfl) (fun _ => rfl) (fun G hG => ?_)
  rw [show digS S = digS (sX S.1 S.2.1 (sA S) (sK S)) from dig_e rfl rfl rfl rfl rfl]
  exact hQ G ⟨hG, rfl, rfl, rfl, rfl⟩
theorem lx_court0 {X : Nat × (Nat → Int32)} {Q : Option Value → bw_H → Prop} {h : bw_H} {z c : Nat} {S : ST} {A : LY} {W T0 : RW} {B : AC} {K0 : Nat → Option AC} (hl : LX z c h S A W T0 B K0) {F : Nat → Int32} {n d : Nat} (hT0 : T0 = TF F n d) (hr : rok F n d) (hQ : ∀ G S', LX z c G S' A W T0 (nwA (Cs F d n)) (fun _ => none) → Q (some (.int (nI n))) G) : bw_me X 6 bm_X7_court false [.ref 0, .int 0] h Q := by
  obtain ⟨hb, rfl, rfl, rfl, rfl⟩ := hl
  have hk := lb_6 hb
  have hN := hk.1
  refine lb_me hb (fun h Q hx hq => me_X7_court hx hq) (fun _ => rfl) (fun _ => rfl) (fun G hG => ?_)
  have e := eCourt (S := S) (S0 := S00) hr hT0
  rw [e] at hG ⊢
  exact hQ G _ ⟨hG, rfl, rfl, rfl, rfl⟩
theorem lx_on0n {X : Nat × (Nat → Int32)} {Q : Option Value → bw_H → Prop} {h : bw_H} {z c : Nat} {S : ST} {A : LY} {W T0 : RW} {B : AC} {K0 : Nat → Option AC} (hl : LX z c h S A W T0 B K0) (hK : K0 0 = none) (hQ : ∀ G S', LX z c G S' A W T0 B K0 → Q (some (.int (-3))) G) : bw_me X 3 bm_X7_on false [.ref 0, .int 0] h Q := by
  obtain ⟨hb, rfl, rfl, rfl, rfl⟩ := hl
  have hk := lb_6 hb
  have hN := hk.1
  refine lb_me hb (fun h Q hx hq => me_X7_on hx hq) (fun _ => rfl) (fun _ => rfl) (fun G hG => ?_)
  have hK2 : sK S 0 = none := hK
  have e : yOn 0 S = (-3, fnd S 1) := by
    unfold yOn
    rw [if_pos (by decide), show rn 0 = 0 from rfl, hK2]
  rw [e] at hG ⊢
  exact hQ G _ ⟨hG, rfl, rfl, rfl, rfl⟩
set_option maxRecDepth 100000 in
set_option maxHeartbeats 4000000 in
theorem law_N {X : Nat × (Nat → Int32)} {Q : Option Value → bw_H → Prop} {h : bw_H} {S : ST} {W T0 : RW} {B : AC} {K0 : Nat → Option AC} {F T : Nat → Int32} {U V : Nat → Int32} {B2 : AC} (hx : LX 4 75 h S (A4 F T U V) W T0 B2 K0) (hf : LF F B) (h2 : ∀ i, i ≤ cT B.1 → hsT B2 i = hsT B i) (hT2 : cT B2.1 = cT B.1) (hK0 : K0 0 = some B) (hT0 : T0 = TF F (cN (cc B)) (cD (cc B))) (hQ : ∀ G, bw_n G ≤ 79 → Q (some (.int 1)) G)  : bw_go X 12 9 48 false (some .boolean) cL_law 2177 [(0, .retAddr 1), (1, .ref (0)), (2, .ref (62)), (3, .int (nI (cN (cc B)))), (4, .int (nI (2 ^ cN (cc B) - 1))), (5, .int (nI (cT B.1))), (6, .int (nI (cD (cc B)))), (7, .int (nI (cW (cc B)))), (8, .int (nI (sho (taC (cc B)) (2 ^ cN (cc B) - 1)))), (9, .int (nI (smN (cR (cc B)) (cN (cc B))))), (11, .ref (76))] [] h Q := by
  have hc2 : cc B2 = cc B := by
    show hsT B2 (cT B2.1) = hsT B (cT B.1)
    rw [hT2]
    exact h2 _ (Nat.le_refl _)
  have hdig : digS (sX W T0 B K0) = digS (sX W T0 B2 K0) := dig_e rfl rfl hc2.symm hT2.symm rfl
  show bw_go _ _ _ _ _ _ _ 2177 [(0, .retAddr _), (1, .ref _), (2, .ref _), (3, .int _), (4, .int _), (5, .int _), (6, .int _), (7, .int _), (8, .int _), (9, .int _), (11, .ref _)] ([]) _ _
  refine go_aload_n dL_law_2177 rfl ?_
  refine go_cv (as := []) 6 dL_law_2178 mt_9_159 (Or.inl rfl) rfl rfl (lb_lt hx.1) (lb_k hx.1) (Nat.le_of_ble_eq_true rfl) (Nat.le_of_ble_eq_true rfl) (Nat.le_of_ble_eq_true rfl) (Nat.le_of_ble_eq_true rfl) (Nat.le_of_ble_eq_true rfl) ?_
  refine lx_digest hx (fun G hx => ?_)
  show bw_go _ _ _ _ _ _ _ 2181 [(0, .retAddr _), (1, .ref _), (2, .ref _), (3, .int _), (4, .int _), (5, .int _), (6, .int _), (7, .int _), (8, .int _), (9, .int _), (11, .ref _)] ((.long _) :: []) _ _
  refine go_lstore dL_law_2181 (Nat.lt_of_lt_of_le (Nat.lt_succ_self _) (Nat.le_of_ble_eq_true rfl)) ?_
  show bw_go _ _ _ _ _ _ _ 2183 [(43, .long _), (0, .retAddr _), (1, .ref _), (2, .ref _), (3, .int _), (4, .int _), (5, .int _), (6, .int _), (7, .int _), (8, .int _), (9, .int _), (11, .ref _)] ([]) _ _
  refine go_aload_n dL_law_2183 rfl ?_
  refine go_iconst (0) dL_law_2184 rfl ?_
  rw [show (0 : Int32) = nI 0 from rfl]
  refine go_cv (as := [.int _]) 3 dL_law_2185 mt_9_156 (Or.inl rfl) rfl rfl (lb_lt hx.1) (lb_k hx.1) (Nat.le_of_ble_eq_true rfl) (Nat.le_of_ble_eq_true rfl) (Nat.le_of_ble_eq_true rfl) (Nat.le_of_ble_eq_true rfl) (Nat.le_of_ble_eq_true rfl) ?_
  refine lx_undo hx (n := 0) (Nat.zero_le _) (fun G S' hx => ?_)
  rw [hT2, Nat.sub_zero]
  show bw_go _ _ _ _ _ _ _ 2188 [(43, .long _), (0, .retAddr _), (1, .ref _), (2, .ref _), (3, .int _), (4, .int _), (5, .int _), (6, .int _), (7, .int _), (8, .int _), (9, .int _), (11, .ref _)] ((.int _) :: []) _ _
  refine go_iload dL_law_2188 rfl ?_
  refine go_icmp_ne (pc' := 2252) dL_law_2190 rfl (fun c_2190 => ?_) (fun c_2190 => ?_)
  · -- ne at 2190: yes
    exact absurd rfl c_2190
  · -- ne at 2190: no
    show bw_go _ _ _ _ _ _ _ 2193 [(43, .long _), (0, .retAddr _), (1, .ref _), (2, .ref _), (3, .int _), (4, .int _), (5, .int _), (6, .int _), (7, .int _), (8, .int _), (9, .int _), (11, .ref _)] ([]) _ _
    refine go_aload_n dL_law_2193 rfl ?_
    refine go_iconst (3) dL_law_2194 rfl ?_
    refine go_cv (as := [.int _]) 5 dL_law_2195 mt_9_59 (Or.inl rfl) rfl rfl (lb_lt hx.1) (lb_k hx.1) (Nat.le_of_ble_eq_true rfl) (Nat.le_of_ble_eq_true rfl) (Nat.le_of_ble_eq_true rfl) (Nat.le_of_ble_eq_true rfl) (Nat.le_of_ble_eq_true rfl) ?_
    refine lx_count3 hx (fun G hx => ?_)
    rw [show cW (cc (acT B2 0)) = 0 from rfl, show nI 0 = (0 : Int32) from rfl]
    show bw_go _ _ _ _ _ _ _ 2198 [(43, .long _), (0, .retAddr _), (1, .ref _), (2, .ref _), (3, .int _), (4, .int _), (5, .int _), (6, .int _), (7, .int _), (8, .int _), (9, .int _), (11, .ref _)] ((.int _) :: []) _ _
    refine go_if_ne (pc' := 2252) dL_law_2198 rfl (fun c => absurd c (by decide)) (fun _ => ?_)
    show bw_go _ _ _ _ _ _ _ 2201 [(43, .long _), (0, .retAddr _), (1, .ref _), (2, .ref _), (3, .int _), (4, .int _), (5, .int _), (6, .int _), (7, .int _), (8, .int _), (9, .int _), (11, .ref _)] ([]) _ _
    refine go_aload_n dL_law_2201 rfl ?_
    refine go_iconst (0) dL_law_2202 rfl ?_
    refine go_cv (as := [.int _]) 3 dL_law_2203 mt_9_96 (Or.inl rfl) rfl rfl (lb_lt hx.1) (lb_k hx.1) (Nat.le_of_ble_eq_true rfl) (Nat.le_of_ble_eq_true rfl) (Nat.le_of_ble_eq_true rfl) (Nat.le_of_ble_eq_true rfl) (Nat.le_of_ble_eq_true rfl) ?_
    refine lx_on0 hx hK0 (fun G S' hx => ?_)
    show bw_go _ _ _ _ _ _ _ 2206 [(43, .long _), (0, .retAddr _), (1, .ref _), (2, .ref _), (3, .int _), (4, .int _), (5, .int _), (6, .int _), (7, .int _), (8, .int _), (9, .int _), (11, .ref _)] ((.int _) :: []) _ _
    refine go_iload dL_law_2206 rfl ?_
    refine go_icmp_ne (pc' := 2252) dL_law_2208 rfl (fun c_2208 => ?_) (fun c_2208 => ?_)
    · -- ne at 2208: yes
      exact absurd rfl c_2208
    · -- ne at 2208: no
      show bw_go _ _ _ _ _ _ _ 2211 [(43, .long _), (0, .retAddr _), (1, .ref _), (2, .ref _), (3, .int _), (4, .int _), (5, .int _), (6, .int _), (7, .int _), (8, .int _), (9, .int _), (11, .ref _)] ([]) _ _
      refine go_aload_n dL_law_2211 rfl ?_
      refine go_cv (as := []) 6 dL_law_2212 mt_9_159 (Or.inl rfl) rfl rfl (lb_lt hx.1) (lb_k hx.1) (Nat.le_of_ble_eq_true rfl) (Nat.le_of_ble_eq_true rfl) (Nat.le_of_ble_eq_true rfl) (Nat.le_of_ble_eq_true rfl) (Nat.le_of_ble_eq_true rfl) ?_
      refine lx_digest hx (fun G hx => ?_)
      show bw_go _ _ _ _ _ _ _ 2215 [(43, .long _), (0, .retAddr _), (1, .ref _), (2, .ref _), (3, .int _), (4, .int _), (5, .int _), (6, .int _), (7, .int _), (8, .int _), (9, .int _), (11, .ref _)] ((.long _) :: []) _ _
      refine go_lload dL_law_2215 rfl ?_
      refine go_lcmp dL_law_2217 ?_
      refine go_if_ne (pc' := 2252) dL_law_2218 rfl (fun c_2218 => ?_) (fun c_2218 => ?_)
      · -- ne at 2218: yes
        exact absurd ((lg_cmp_eq _ _).mpr hdig) c_2218
      · -- ne at 2218: no
        show bw_go _ _ _ _ _ _ _ 2221 [(43, .long _), (0, .retAddr _), (1, .ref _), (2, .ref _), (3, .int _), (4, .int _), (5, .int _), (6, .int _), (7, .int _), (8, .int _), (9, .int _), (11, .ref _)] ([]) _ _
        refine go_aload_n dL_law_2221 rfl ?_
        refine go_iconst (0) dL_law_2222 rfl ?_
        refine go_cv (as := [.int _]) 6 dL_law_2223 mt_9_36 (Or.inl rfl) rfl rfl (lb_lt hx.1) (lb_k hx.1) (Nat.le_of_ble_eq_true rfl) (Nat.le_of_ble_eq_true rfl) (Nat.le_of_ble_eq_true rfl) (Nat.le_of_ble_eq_true rfl) (Nat.le_of_ble_eq_true rfl) ?_
        refine lx_court0 hx hT0 hf.1 (fun G S' hx => ?_)
        show bw_go _ _ _ _ _ _ _ 2226 [(43, .long _), (0, .retAddr _), (1, .ref _), (2, .ref _), (3, .int _), (4, .int _), (5, .int _), (6, .int _), (7, .int _), (8, .int _), (9, .int _), (11, .ref _)] ((.int _) :: []) _ _
        refine go_iload_n dL_law_2226 rfl ?_
        refine go_icmp_ne (pc' := 2252) dL_law_2227 rfl (fun c_2227 => ?_) (fun c_2227 => ?_)
        · -- ne at 2227: yes
          exact absurd rfl c_2227
        · -- ne at 2227: no
          show bw_go _ _ _ _ _ _ _ 2230 [(43, .long _), (0, .retAddr _), (1, .ref _), (2, .ref _), (3, .int _), (4, .int _), (5, .int _), (6, .int _), (7, .int _), (8, .int _), (9, .int _), (11, .ref _)] ([]) _ _
          refine go_aload_n dL_law_2230 rfl ?_
          refine go_iconst (0) dL_law_2231 rfl ?_
          refine go_cv (as := [.int _]) 3 dL_law_2232 mt_9_96 (Or.inl rfl) rfl rfl (lb_lt hx.1) (lb_k hx.1) (Nat.le_of_ble_eq_true rfl) (Nat.le_of_ble_eq_true rfl) (Nat.le_of_ble_eq_true rfl) (Nat.le_of_ble_eq_true rfl) (Nat.le_of_ble_eq_true rfl) ?_
          refine lx_on0n hx rfl (fun G S' hx => ?_)
          show bw_go _ _ _ _ _ _ _ 2235 [(43, .long _), (0, .retAddr _), (1, .ref _), (2, .ref _), (3, .int _), (4, .int _), (5, .int _), (6, .int _), (7, .int _), (8, .int _), (9, .int _), (11, .ref _)] ((.int _) :: []) _ _
          refine go_bipush (-3) dL_law_2235 rfl ?_
          refine go_icmp_ne (pc' := 2252) dL_law_2237 rfl (fun c => absurd c (by decide)) (fun _ => ?_)
          show bw_go _ _ _ _ _ _ _ 2240 [(43, .long _), (0, .retAddr _), (1, .ref _), (2, .ref _), (3, .int _), (4, .int _), (5, .int _), (6, .int _), (7, .int _), (8, .int _), (9, .int _), (11, .ref _)] ([]) _ _
          refine go_aload_n dL_law_2240 rfl ?_
          refine go_iconst (2) dL_law_2241 rfl ?_
          refine go_cv (as := [.int _]) 5 dL_law_2242 mt_9_59 (Or.inl rfl) rfl rfl (lb_lt hx.1) (lb_k hx.1) (Nat.le_of_ble_eq_true rfl) (Nat.le_of_ble_eq_true rfl) (Nat.le_of_ble_eq_true rfl) (Nat.le_of_ble_eq_true rfl) (Nat.le_of_ble_eq_true rfl) ?_
          refine lx_count2 hx (fun G hx => ?_)
          rw [show cT (nwA (Cs F (cD (cc B)) (cN (cc B)))).1 = 0 from (Cs_f F _ _).2.2.2.1, show nI 0 = (0 : Int32) from rfl]
          show bw_go _ _ _ _ _ _ _ 2245 [(43, .long _), (0, .retAddr _), (1, .ref _), (2, .ref _), (3, .int _), (4, .int _), (5, .int _), (6, .int _), (7, .int _), (8, .int _), (9, .int _), (11, .ref _)] ((.int _) :: []) _ _
          refine go_if_ne (pc' := 2252) dL_law_2245 rfl (fun c => absurd c (by decide)) (fun _ => ?_)
          show bw_go _ _ _ _ _ _ _ 2248 [(43, .long _), (0, .retAddr _), (1, .ref _), (2, .ref _), (3, .int _), (4, .int _), (5, .int _), (6, .int _), (7, .int _), (8, .int _), (9, .int _), (11, .ref _)] ([]) _ _
          refine go_iconst (1) dL_law_2248 rfl ?_
          refine go_goto (pc' := 2253) dL_law_2249 rfl ?_
          show bw_go _ _ _ _ _ _ _ 2253 [(43, .long _), (0, .retAddr _), (1, .ref _), (2, .ref _), (3, .int _), (4, .int _), (5, .int _), (6, .int _), (7, .int _), (8, .int _), (9, .int _), (11, .ref _)] ((.int _) :: []) _ _
          refine go_iret dL_law_2253 rfl rfl ?_
          exact hQ _ (by rw [lb_n hx.1]; decide)
