/-! the law: what each bear tells -/
theorem lx_si76 {z c k : Nat} {H : bw_H} {S : ST} {W T0 : RW} {B : AC} {K0 : Nat → Option AC} {F T : Nat → Int32} {v : Int32} (hl : LX z c H S (A2 F T) W T0 B K0) : LX z c (bw_si H 76 k v) S (A2 F (bw_up T k v)) W T0 B K0 := by
  refine ⟨?_, hl.2⟩
  have h1 := lb_si (k := k) (v := v) hl.1 (q := 76) (N := 6) (F := T) rfl
  unfold A2 at h1 ⊢
  rw [upup] at h1
  exact h1
theorem go_lx {X : Nat × (Nat → Int32)} {d o nL : Nat} {ini : Bool} {rt : Option FieldType} {cc1 : ByteArray} {pc : Nat} {ls : bw_L} {st : List Value} {E : bw_H} {Q : Option Value → bw_H → Prop} {z c : Nat} {S : ST} {A : LY} {W T0 : RW} {B : AC} {K0 : Nat → Option AC} (hl : LX z c E S A W T0 B K0) (K : ∀ H, LX z c H S A W T0 B K0 → bw_go X d o nL ini rt cc1 pc ls st H Q) : bw_go X d o nL ini rt cc1 pc ls st E Q := K E hl
theorem tl_wall {C : CT} {i : Nat} (h : (cW C).testBit i = true) : tlC C i = 0 := by unfold tlC tol; rw [if_pos h]
theorem see_9 {k w v e : Nat} (h : 9 ≤ w) : see k w v e = 0 := by unfold see; rw [if_pos h]
theorem tl_9 {C : CT} {i : Nat} (h : 9 ≤ cR C i) : tlC C i = 0 := by
  unfold tlC tol
  split
  · rfl
  · exact see_9 h
theorem tl_5 {C : CT} {i : Nat} (h : cK C i = 5) (h2 : 3 ≤ cR C i) : tlC C i = 0 := by
  unfold tlC tol
  split
  · rfl
  · unfold see
    split
    · rfl
    · rw [if_pos ⟨h, h2⟩]
theorem tl_1 {C : CT} {i : Nat} (h : cK C i = 1) : tlC C i = 0 ∨ tlC C i = cV C i := by
  unfold tlC tol
  split
  · exact Or.inl rfl
  · unfold see
    split
    · exact Or.inl rfl
    · split
      · exact Or.inl rfl
      · rw [if_pos (Or.inl h), if_neg (by omega)]
        exact Or.inr rfl
theorem and_not : ∀ v, v < 64 → v &&& (63 ^^^ v) = 0 := by decide +kernel
theorem on_true {C : CT} {i t : Nat} (h4 : cK C i ≠ 4) (h3 : cK C i ≠ 3 ∨ cR C i < 5) (ht : (tlC C i).testBit t = true) : (onC C i).testBit t = (cD C).testBit t := by
  unfold onC one
  rw [if_neg h4]
  split
  · rename_i h
    rcases h with ⟨h | h, h5⟩
    · omega
    · rw [tl_5 h (by omega), Nat.zero_testBit] at ht
      cases ht
  · rw [Nat.testBit_and, ht]
    rfl
theorem on_4 {C : CT} {i : Nat} (h4 : cK C i = 4) : onC C i = tlC C i := by unfold onC one; rw [if_pos h4]
theorem tlC_lt {C : CT} (hk : co_k C) {i : Nat} (hi : i < cN C) : tlC C i < 64 := tol_lt (hk.2.2.2.2 i hi).2.2.2
set_option maxRecDepth 100000 in
set_option maxHeartbeats 4000000 in
theorem c318_n {X : Nat × (Nat → Int32)} {Q : Option Value → bw_H → Prop} {h : bw_H} {S : ST} {W T0 : RW} {B : AC} {K0 : Nat → Option AC} {F T : Nat → Int32} {i : Nat} (hx : LX 2 75 h S (A2 F T) W T0 B K0) (hf : LF F B) (hi : i < cN (cc B)) (hT : T i = nI (tlC (cc B) i)) {t : Nat} {b : Int32} (ht : t < 6) (e3 : (tlC (cc B) i).testBit t = false) (hb : b ≠ 0 → cK (cc B) i ≠ 4 ∧ (cK (cc B) i ≠ 3 ∨ cR (cc B) i < 5)) (K : ∀ G S', LX 2 75 G S' (A2 F T) W T0 B K0 → bw_go X 12 9 48 false (some .boolean) cL_law 404 [(0, .retAddr 1), (1, .ref (0)), (2, .ref (62)), (3, .int (nI (cN (cc B)))), (4, .int (nI (2 ^ cN (cc B) - 1))), (5, .int (nI (cT B.1))), (6, .int (nI (cD (cc B)))), (7, .int (nI (cW (cc B)))), (8, .int (nI (sho (taC (cc B)) (2 ^ cN (cc B) - 1)))), (9, .int (nI (smN (cR (cc B)) (cN (cc B))))), (10, .int (nI (smN (cR (cc B)) (i + 1)))), (11, .ref (76)), (12, .int (nI i)), (13, .int (nI t))] [] G Q) : bw_go X 12 9 48 false (some .boolean) cL_law 318 [(0, .retAddr 1), (1, .ref (0)), (2, .ref (62)), (3, .int (nI (cN (cc B)))), (4, .int (nI (2 ^ cN (cc B) - 1))), (5, .int (nI (cT B.1))), (6, .int (nI (cD (cc B)))), (7, .int (nI (cW (cc B)))), (8, .int (nI (sho (taC (cc B)) (2 ^ cN (cc B) - 1)))), (9, .int (nI (smN (cR (cc B)) (cN (cc B))))), (10, .int (nI (smN (cR (cc B)) (i + 1)))), (11, .ref (76)), (12, .int (nI i)), (13, .int (nI t)), (14, .int (-9)), (15, .int (nI (cK (cc B) i))), (16, .int (b))] [] h Q := by
  have hk := lx_k hx
  have htl := tlC_lt hk hi
  have hk6 := (hk.2.2.2.2 i hi).1
  have hN := hk.1
  show bw_go _ _ _ _ _ _ _ 318 [(0, .retAddr _), (1, .ref _), (2, .ref _), (3, .int _), (4, .int _), (5, .int _), (6, .int _), (7, .int _), (8, .int _), (9, .int _), (10, .int _), (11, .ref _), (12, .int _), (13, .int _), (14, .int _), (15, .int _), (16, .int _)] ([]) _ _
  refine go_iload dL_law_318 rfl ?_
  refine go_bipush (-9) dL_law_320 rfl ?_
  refine go_icmp_eq (pc' := 336) dL_law_322 rfl (fun _ => ?_) (fun c => absurd (by decide) c)
  show bw_go _ _ _ _ _ _ _ 336 [(0, .retAddr _), (1, .ref _), (2, .ref _), (3, .int _), (4, .int _), (5, .int _), (6, .int _), (7, .int _), (8, .int _), (9, .int _), (10, .int _), (11, .ref _), (12, .int _), (13, .int _), (14, .int _), (15, .int _), (16, .int _)] ([]) _ _
  refine go_iload dL_law_336 rfl ?_
  refine go_bipush (-9) dL_law_338 rfl ?_
  refine go_icmp_ne (pc' := 347) dL_law_340 rfl (fun c => absurd c (by decide)) (fun _ => ?_)
  show bw_go _ _ _ _ _ _ _ 343 [(0, .retAddr _), (1, .ref _), (2, .ref _), (3, .int _), (4, .int _), (5, .int _), (6, .int _), (7, .int _), (8, .int _), (9, .int _), (10, .int _), (11, .ref _), (12, .int _), (13, .int _), (14, .int _), (15, .int _), (16, .int _)] ([]) _ _
  refine go_iconst (1) dL_law_343 rfl ?_
  refine go_goto (pc' := 348) dL_law_344 rfl ?_
  show bw_go _ _ _ _ _ _ _ 348 [(0, .retAddr _), (1, .ref _), (2, .ref _), (3, .int _), (4, .int _), (5, .int _), (6, .int _), (7, .int _), (8, .int _), (9, .int _), (10, .int _), (11, .ref _), (12, .int _), (13, .int _), (14, .int _), (15, .int _), (16, .int _)] ((.int _) :: []) _ _
  refine go_aload dL_law_348 rfl ?_
  refine go_iload dL_law_350 rfl ?_
  refine go_ia dL_law_352 (lb_a hx.1 (q := 76) rfl).2.1 (lb_a hx.1 (q := 76) rfl).1 (n_in (N := 6) (by omega) (by decide)) ?_
  rw [nI_clamp (by omega), (lb_a hx.1 (q := 76) rfl).2.2, hT]
  refine go_iload dL_law_353 rfl ?_
  refine go_ishr dL_law_355 ?_
  refine go_iconst (1) dL_law_356 rfl ?_
  refine go_iand dL_law_357 ?_
  rw [bit_t _ htl t (by omega), e3, show nI (if false = true then 1 else 0) = 0 from rfl]
  refine go_if_ne (pc' := 365) dL_law_358 rfl (fun c => absurd c (by decide)) (fun _ => ?_)
  show bw_go _ _ _ _ _ _ _ 361 [(0, .retAddr _), (1, .ref _), (2, .ref _), (3, .int _), (4, .int _), (5, .int _), (6, .int _), (7, .int _), (8, .int _), (9, .int _), (10, .int _), (11, .ref _), (12, .int _), (13, .int _), (14, .int _), (15, .int _), (16, .int _)] ((.int _) :: []) _ _
  refine go_iconst (1) dL_law_361 rfl ?_
  refine go_goto (pc' := 366) dL_law_362 rfl ?_
  show bw_go _ _ _ _ _ _ _ 366 [(0, .retAddr _), (1, .ref _), (2, .ref _), (3, .int _), (4, .int _), (5, .int _), (6, .int _), (7, .int _), (8, .int _), (9, .int _), (10, .int _), (11, .ref _), (12, .int _), (13, .int _), (14, .int _), (15, .int _), (16, .int _)] ((.int _) :: (.int _) :: []) _ _
  refine go_icmp_ne (pc' := 402) dL_law_366 rfl (fun c => absurd c (by decide)) (fun _ => ?_)
  show bw_go _ _ _ _ _ _ _ 369 [(0, .retAddr _), (1, .ref _), (2, .ref _), (3, .int _), (4, .int _), (5, .int _), (6, .int _), (7, .int _), (8, .int _), (9, .int _), (10, .int _), (11, .ref _), (12, .int _), (13, .int _), (14, .int _), (15, .int _), (16, .int _)] ([]) _ _
  refine go_iload dL_law_369 rfl ?_
  refine go_iconst (4) dL_law_371 rfl ?_
  refine go_icmp_ne (pc' := 380) dL_law_372 rfl (fun c_372 => ?_) (fun c_372 => ?_)
  · -- ne at 372: yes
    show bw_go _ _ _ _ _ _ _ 380 [(0, .retAddr _), (1, .ref _), (2, .ref _), (3, .int _), (4, .int _), (5, .int _), (6, .int _), (7, .int _), (8, .int _), (9, .int _), (10, .int _), (11, .ref _), (12, .int _), (13, .int _), (14, .int _), (15, .int _), (16, .int _)] ([]) _ _
    refine go_iload dL_law_380 rfl ?_
    refine go_if_eq (pc' := 404) dL_law_382 rfl (fun c_382 => ?_) (fun c_382 => ?_)
    · -- eq at 382: yes
      refine go_ls [(0, .retAddr _), (1, .ref _), (2, .ref _), (3, .int _), (4, .int _), (5, .int _), (6, .int _), (7, .int _), (8, .int _), (9, .int _), (10, .int _), (11, .ref _), (12, .int _), (13, .int _)] (by show List.Nodup ([0, 1, 2, 3, 4, 5, 6, 7, 8, 9, 10, 11, 12, 13] : List Nat); decide) (by show List.Nodup ([0, 1, 2, 3, 4, 5, 6, 7, 8, 9, 10, 11, 12, 13, 14, 15, 16] : List Nat); decide) (le_cons rfl (le_cons rfl (le_cons rfl (le_cons rfl (le_cons rfl (le_cons rfl (le_cons rfl (le_cons rfl (le_cons rfl (le_cons rfl (le_cons rfl (le_cons rfl (le_cons rfl (le_cons rfl (le_nil _))))))))))))))) ?_
      exact K _ _ hx
    · -- eq at 382: no
      show bw_go _ _ _ _ _ _ _ 385 [(0, .retAddr _), (1, .ref _), (2, .ref _), (3, .int _), (4, .int _), (5, .int _), (6, .int _), (7, .int _), (8, .int _), (9, .int _), (10, .int _), (11, .ref _), (12, .int _), (13, .int _), (14, .int _), (15, .int _), (16, .int _)] ([]) _ _
      refine go_iload dL_law_385 rfl ?_
      refine go_if_lt (pc' := 404) dL_law_387 rfl (fun _ => ?_) (fun c => absurd (by decide) c)
      refine go_ls [(0, .retAddr _), (1, .ref _), (2, .ref _), (3, .int _), (4, .int _), (5, .int _), (6, .int _), (7, .int _), (8, .int _), (9, .int _), (10, .int _), (11, .ref _), (12, .int _), (13, .int _)] (by show List.Nodup ([0, 1, 2, 3, 4, 5, 6, 7, 8, 9, 10, 11, 12, 13] : List Nat); decide) (by show List.Nodup ([0, 1, 2, 3, 4, 5, 6, 7, 8, 9, 10, 11, 12, 13, 14, 15, 16] : List Nat); decide) (le_cons rfl (le_cons rfl (le_cons rfl (le_cons rfl (le_cons rfl (le_cons rfl (le_cons rfl (le_cons rfl (le_cons rfl (le_cons rfl (le_cons rfl (le_cons rfl (le_cons rfl (le_cons rfl (le_nil _))))))))))))))) ?_
      exact K _ _ hx
  · -- ne at 372: no
    show bw_go _ _ _ _ _ _ _ 375 [(0, .retAddr _), (1, .ref _), (2, .ref _), (3, .int _), (4, .int _), (5, .int _), (6, .int _), (7, .int _), (8, .int _), (9, .int _), (10, .int _), (11, .ref _), (12, .int _), (13, .int _), (14, .int _), (15, .int _), (16, .int _)] ([]) _ _
    refine go_iload dL_law_375 rfl ?_
    refine go_if_eq (pc' := 402) dL_law_377 rfl (fun c => absurd c (by decide)) (fun _ => ?_)
    show bw_go _ _ _ _ _ _ _ 380 [(0, .retAddr _), (1, .ref _), (2, .ref _), (3, .int _), (4, .int _), (5, .int _), (6, .int _), (7, .int _), (8, .int _), (9, .int _), (10, .int _), (11, .ref _), (12, .int _), (13, .int _), (14, .int _), (15, .int _), (16, .int _)] ([]) _ _
    refine go_iload dL_law_380 rfl ?_
    refine go_if_eq (pc' := 404) dL_law_382 rfl (fun c_382 => ?_) (fun c_382 => ?_)
    · -- eq at 382: yes
      refine go_ls [(0, .retAddr _), (1, .ref _), (2, .ref _), (3, .int _), (4, .int _), (5, .int _), (6, .int _), (7, .int _), (8, .int _), (9, .int _), (10, .int _), (11, .ref _), (12, .int _), (13, .int _)] (by show List.Nodup ([0, 1, 2, 3, 4, 5, 6, 7, 8, 9, 10, 11, 12, 13] : List Nat); decide) (by show List.Nodup ([0, 1, 2, 3, 4, 5, 6, 7, 8, 9, 10, 11, 12, 13, 14, 15, 16] : List Nat); decide) (le_cons rfl (le_cons rfl (le_cons rfl (le_cons rfl (le_cons rfl (le_cons rfl (le_cons rfl (le_cons rfl (le_cons rfl (le_cons rfl (le_cons rfl (le_cons rfl (le_cons rfl (le_cons rfl (le_nil _))))))))))))))) ?_
      exact K _ _ hx
    · -- eq at 382: no
      show bw_go _ _ _ _ _ _ _ 385 [(0, .retAddr _), (1, .ref _), (2, .ref _), (3, .int _), (4, .int _), (5, .int _), (6, .int _), (7, .int _), (8, .int _), (9, .int _), (10, .int _), (11, .ref _), (12, .int _), (13, .int _), (14, .int _), (15, .int _), (16, .int _)] ([]) _ _
      refine go_iload dL_law_385 rfl ?_
      refine go_if_lt (pc' := 404) dL_law_387 rfl (fun _ => ?_) (fun c => absurd (by decide) c)
      refine go_ls [(0, .retAddr _), (1, .ref _), (2, .ref _), (3, .int _), (4, .int _), (5, .int _), (6, .int _), (7, .int _), (8, .int _), (9, .int _), (10, .int _), (11, .ref _), (12, .int _), (13, .int _)] (by show List.Nodup ([0, 1, 2, 3, 4, 5, 6, 7, 8, 9, 10, 11, 12, 13] : List Nat); decide) (by show List.Nodup ([0, 1, 2, 3, 4, 5, 6, 7, 8, 9, 10, 11, 12, 13, 14, 15, 16] : List Nat); decide) (le_cons rfl (le_cons rfl (le_cons rfl (le_cons rfl (le_cons rfl (le_cons rfl (le_cons rfl (le_cons rfl (le_cons rfl (le_cons rfl (le_cons rfl (le_cons rfl (le_cons rfl (le_cons rfl (le_nil _))))))))))))))) ?_
      exact K _ _ hx
set_option maxRecDepth 100000 in
set_option maxHeartbeats 4000000 in
theorem c318_0 {X : Nat × (Nat → Int32)} {Q : Option Value → bw_H → Prop} {h : bw_H} {S : ST} {W T0 : RW} {B : AC} {K0 : Nat → Option AC} {F T : Nat → Int32} {i : Nat} (hx : LX 2 75 h S (A2 F T) W T0 B K0) (hf : LF F B) (hi : i < cN (cc B)) (hT : T i = nI (tlC (cc B) i)) {t : Nat} {b : Int32} (ht : t < 6) (e3 : (tlC (cc B) i).testBit t = true) (e4 : (onC (cc B) i).testBit t = false) (hb : b ≠ 0 → cK (cc B) i ≠ 4 ∧ (cK (cc B) i ≠ 3 ∨ cR (cc B) i < 5)) (K : ∀ G S', LX 2 75 G S' (A2 F T) W T0 B K0 → bw_go X 12 9 48 false (some .boolean) cL_law 404 [(0, .retAddr 1), (1, .ref (0)), (2, .ref (62)), (3, .int (nI (cN (cc B)))), (4, .int (nI (2 ^ cN (cc B) - 1))), (5, .int (nI (cT B.1))), (6, .int (nI (cD (cc B)))), (7, .int (nI (cW (cc B)))), (8, .int (nI (sho (taC (cc B)) (2 ^ cN (cc B) - 1)))), (9, .int (nI (smN (cR (cc B)) (cN (cc B))))), (10, .int (nI (smN (cR (cc B)) (i + 1)))), (11, .ref (76)), (12, .int (nI i)), (13, .int (nI t))] [] G Q) : bw_go X 12 9 48 false (some .boolean) cL_law 318 [(0, .retAddr 1), (1, .ref (0)), (2, .ref (62)), (3, .int (nI (cN (cc B)))), (4, .int (nI (2 ^ cN (cc B) - 1))), (5, .int (nI (cT B.1))), (6, .int (nI (cD (cc B)))), (7, .int (nI (cW (cc B)))), (8, .int (nI (sho (taC (cc B)) (2 ^ cN (cc B) - 1)))), (9, .int (nI (smN (cR (cc B)) (cN (cc B))))), (10, .int (nI (smN (cR (cc B)) (i + 1)))), (11, .ref (76)), (12, .int (nI i)), (13, .int (nI t)), (14, .int (0)), (15, .int (nI (cK (cc B) i))), (16, .int (b))] [] h Q := by
  have hk := lx_k hx
  have htl := tlC_lt hk hi
  have hk6 := (hk.2.2.2.2 i hi).1
  have hN := hk.1
  show bw_go _ _ _ _ _ _ _ 318 [(0, .retAddr _), (1, .ref _), (2, .ref _), (3, .int _), (4, .int _), (5, .int _), (6, .int _), (7, .int _), (8, .int _), (9, .int _), (10, .int _), (11, .ref _), (12, .int _), (13, .int _), (14, .int _), (15, .int _), (16, .int _)] ([]) _ _
  refine go_iload dL_law_318 rfl ?_
  refine go_bipush (-9) dL_law_320 rfl ?_
  refine go_icmp_eq (pc' := 336) dL_law_322 rfl (fun c => absurd c (by decide)) (fun _ => ?_)
  show bw_go _ _ _ _ _ _ _ 325 [(0, .retAddr _), (1, .ref _), (2, .ref _), (3, .int _), (4, .int _), (5, .int _), (6, .int _), (7, .int _), (8, .int _), (9, .int _), (10, .int _), (11, .ref _), (12, .int _), (13, .int _), (14, .int _), (15, .int _), (16, .int _)] ([]) _ _
  refine go_iload dL_law_325 rfl ?_
  refine go_if_eq (pc' := 336) dL_law_327 rfl (fun _ => ?_) (fun c => absurd (by decide) c)
  show bw_go _ _ _ _ _ _ _ 336 [(0, .retAddr _), (1, .ref _), (2, .ref _), (3, .int _), (4, .int _), (5, .int _), (6, .int _), (7, .int _), (8, .int _), (9, .int _), (10, .int _), (11, .ref _), (12, .int _), (13, .int _), (14, .int _), (15, .int _), (16, .int _)] ([]) _ _
  refine go_iload dL_law_336 rfl ?_
  refine go_bipush (-9) dL_law_338 rfl ?_
  refine go_icmp_ne (pc' := 347) dL_law_340 rfl (fun _ => ?_) (fun c => absurd (by decide) c)
  show bw_go _ _ _ _ _ _ _ 347 [(0, .retAddr _), (1, .ref _), (2, .ref _), (3, .int _), (4, .int _), (5, .int _), (6, .int _), (7, .int _), (8, .int _), (9, .int _), (10, .int _), (11, .ref _), (12, .int _), (13, .int _), (14, .int _), (15, .int _), (16, .int _)] ([]) _ _
  refine go_iconst (0) dL_law_347 rfl ?_
  refine go_aload dL_law_348 rfl ?_
  refine go_iload dL_law_350 rfl ?_
  refine go_ia dL_law_352 (lb_a hx.1 (q := 76) rfl).2.1 (lb_a hx.1 (q := 76) rfl).1 (n_in (N := 6) (by omega) (by decide)) ?_
  rw [nI_clamp (by omega), (lb_a hx.1 (q := 76) rfl).2.2, hT]
  refine go_iload dL_law_353 rfl ?_
  refine go_ishr dL_law_355 ?_
  refine go_iconst (1) dL_law_356 rfl ?_
  refine go_iand dL_law_357 ?_
  rw [bit_t _ htl t (by omega), e3, show nI (if true = true then 1 else 0) = 1 from rfl]
  refine go_if_ne (pc' := 365) dL_law_358 rfl (fun _ => ?_) (fun c => absurd (by decide) c)
  show bw_go _ _ _ _ _ _ _ 365 [(0, .retAddr _), (1, .ref _), (2, .ref _), (3, .int _), (4, .int _), (5, .int _), (6, .int _), (7, .int _), (8, .int _), (9, .int _), (10, .int _), (11, .ref _), (12, .int _), (13, .int _), (14, .int _), (15, .int _), (16, .int _)] ((.int _) :: []) _ _
  refine go_iconst (0) dL_law_365 rfl ?_
  refine go_icmp_ne (pc' := 402) dL_law_366 rfl (fun c => absurd c (by decide)) (fun _ => ?_)
  show bw_go _ _ _ _ _ _ _ 369 [(0, .retAddr _), (1, .ref _), (2, .ref _), (3, .int _), (4, .int _), (5, .int _), (6, .int _), (7, .int _), (8, .int _), (9, .int _), (10, .int _), (11, .ref _), (12, .int _), (13, .int _), (14, .int _), (15, .int _), (16, .int _)] ([]) _ _
  refine go_iload dL_law_369 rfl ?_
  refine go_iconst (4) dL_law_371 rfl ?_
  refine go_icmp_ne (pc' := 380) dL_law_372 rfl (fun c_372 => ?_) (fun c_372 => ?_)
  · -- ne at 372: yes
    show bw_go _ _ _ _ _ _ _ 380 [(0, .retAddr _), (1, .ref _), (2, .ref _), (3, .int _), (4, .int _), (5, .int _), (6, .int _), (7, .int _), (8, .int _), (9, .int _), (10, .int _), (11, .ref _), (12, .int _), (13, .int _), (14, .int _), (15, .int _), (16, .int _)] ([]) _ _
    refine go_iload dL_law_380 rfl ?_
    refine go_if_eq (pc' := 404) dL_law_382 rfl (fun c_382 => ?_) (fun c_382 => ?_)
    · -- eq at 382: yes
      refine go_ls [(0, .retAddr _), (1, .ref _), (2, .ref _), (3, .int _), (4, .int _), (5, .int _), (6, .int _), (7, .int _), (8, .int _), (9, .int _), (10, .int _), (11, .ref _), (12, .int _), (13, .int _)] (by show List.Nodup ([0, 1, 2, 3, 4, 5, 6, 7, 8, 9, 10, 11, 12, 13] : List Nat); decide) (by show List.Nodup ([0, 1, 2, 3, 4, 5, 6, 7, 8, 9, 10, 11, 12, 13, 14, 15, 16] : List Nat); decide) (le_cons rfl (le_cons rfl (le_cons rfl (le_cons rfl (le_cons rfl (le_cons rfl (le_cons rfl (le_cons rfl (le_cons rfl (le_cons rfl (le_cons rfl (le_cons rfl (le_cons rfl (le_cons rfl (le_nil _))))))))))))))) ?_
      exact K _ _ hx
    · -- eq at 382: no
      show bw_go _ _ _ _ _ _ _ 385 [(0, .retAddr _), (1, .ref _), (2, .ref _), (3, .int _), (4, .int _), (5, .int _), (6, .int _), (7, .int _), (8, .int _), (9, .int _), (10, .int _), (11, .ref _), (12, .int _), (13, .int _), (14, .int _), (15, .int _), (16, .int _)] ([]) _ _
      refine go_iload dL_law_385 rfl ?_
      refine go_if_lt (pc' := 404) dL_law_387 rfl (fun c => absurd c (by decide)) (fun _ => ?_)
      show bw_go _ _ _ _ _ _ _ 390 [(0, .retAddr _), (1, .ref _), (2, .ref _), (3, .int _), (4, .int _), (5, .int _), (6, .int _), (7, .int _), (8, .int _), (9, .int _), (10, .int _), (11, .ref _), (12, .int _), (13, .int _), (14, .int _), (15, .int _), (16, .int _)] ([]) _ _
      refine go_iload dL_law_390 rfl ?_
      refine go_iload dL_law_392 rfl ?_
      refine go_iload dL_law_394 rfl ?_
      refine go_ishr dL_law_396 ?_
      refine go_iconst (1) dL_law_397 rfl ?_
      refine go_iand dL_law_398 ?_
      rw [bit_t _ hk.2.1 t (by omega)]
      refine go_icmp_eq (pc' := 404) dL_law_399 rfl (fun c_399 => ?_) (fun c_399 => ?_)
      · -- eq at 399: yes
        refine go_ls [(0, .retAddr _), (1, .ref _), (2, .ref _), (3, .int _), (4, .int _), (5, .int _), (6, .int _), (7, .int _), (8, .int _), (9, .int _), (10, .int _), (11, .ref _), (12, .int _), (13, .int _)] (by show List.Nodup ([0, 1, 2, 3, 4, 5, 6, 7, 8, 9, 10, 11, 12, 13] : List Nat); decide) (by show List.Nodup ([0, 1, 2, 3, 4, 5, 6, 7, 8, 9, 10, 11, 12, 13, 14, 15, 16] : List Nat); decide) (le_cons rfl (le_cons rfl (le_cons rfl (le_cons rfl (le_cons rfl (le_cons rfl (le_cons rfl (le_cons rfl (le_cons rfl (le_cons rfl (le_cons rfl (le_cons rfl (le_cons rfl (le_cons rfl (le_nil _))))))))))))))) ?_
        exact K _ _ hx
      · -- eq at 399: no
        exfalso
        have hb2 := hb (fun z => c_382 z)
        have e5 := on_true hb2.1 hb2.2 e3
        rw [e4] at e5
        rw [← e5] at c_399
        exact c_399 rfl
  · -- ne at 372: no
    show bw_go _ _ _ _ _ _ _ 375 [(0, .retAddr _), (1, .ref _), (2, .ref _), (3, .int _), (4, .int _), (5, .int _), (6, .int _), (7, .int _), (8, .int _), (9, .int _), (10, .int _), (11, .ref _), (12, .int _), (13, .int _), (14, .int _), (15, .int _), (16, .int _)] ([]) _ _
    refine go_iload dL_law_375 rfl ?_
    refine go_if_eq (pc' := 402) dL_law_377 rfl (fun _ => ?_) (fun c => absurd (by decide) c)
    exfalso
    have h4 : cK (cc B) i = 4 := (nI_eq (b := 4) (by omega) (by decide)).mp (Decidable.of_not_not c_372)
    rw [on_4 h4, e3] at e4
    cases e4
set_option maxRecDepth 100000 in
set_option maxHeartbeats 4000000 in
theorem c318_1 {X : Nat × (Nat → Int32)} {Q : Option Value → bw_H → Prop} {h : bw_H} {S : ST} {W T0 : RW} {B : AC} {K0 : Nat → Option AC} {F T : Nat → Int32} {i : Nat} (hx : LX 2 75 h S (A2 F T) W T0 B K0) (hf : LF F B) (hi : i < cN (cc B)) (hT : T i = nI (tlC (cc B) i)) {t : Nat} {b : Int32} (ht : t < 6) (e3 : (tlC (cc B) i).testBit t = true) (e4 : (onC (cc B) i).testBit t = true) (hb : b ≠ 0 → cK (cc B) i ≠ 4 ∧ (cK (cc B) i ≠ 3 ∨ cR (cc B) i < 5)) (K : ∀ G S', LX 2 75 G S' (A2 F T) W T0 B K0 → bw_go X 12 9 48 false (some .boolean) cL_law 404 [(0, .retAddr 1), (1, .ref (0)), (2, .ref (62)), (3, .int (nI (cN (cc B)))), (4, .int (nI (2 ^ cN (cc B) - 1))), (5, .int (nI (cT B.1))), (6, .int (nI (cD (cc B)))), (7, .int (nI (cW (cc B)))), (8, .int (nI (sho (taC (cc B)) (2 ^ cN (cc B) - 1)))), (9, .int (nI (smN (cR (cc B)) (cN (cc B))))), (10, .int (nI (smN (cR (cc B)) (i + 1)))), (11, .ref (76)), (12, .int (nI i)), (13, .int (nI t))] [] G Q) : bw_go X 12 9 48 false (some .boolean) cL_law 318 [(0, .retAddr 1), (1, .ref (0)), (2, .ref (62)), (3, .int (nI (cN (cc B)))), (4, .int (nI (2 ^ cN (cc B) - 1))), (5, .int (nI (cT B.1))), (6, .int (nI (cD (cc B)))), (7, .int (nI (cW (cc B)))), (8, .int (nI (sho (taC (cc B)) (2 ^ cN (cc B) - 1)))), (9, .int (nI (smN (cR (cc B)) (cN (cc B))))), (10, .int (nI (smN (cR (cc B)) (i + 1)))), (11, .ref (76)), (12, .int (nI i)), (13, .int (nI t)), (14, .int (1)), (15, .int (nI (cK (cc B) i))), (16, .int (b))] [] h Q := by
  have hk := lx_k hx
  have htl := tlC_lt hk hi
  have hk6 := (hk.2.2.2.2 i hi).1
  have hN := hk.1
  show bw_go _ _ _ _ _ _ _ 318 [(0, .retAddr _), (1, .ref _), (2, .ref _), (3, .int _), (4, .int _), (5, .int _), (6, .int _), (7, .int _), (8, .int _), (9, .int _), (10, .int _), (11, .ref _), (12, .int _), (13, .int _), (14, .int _), (15, .int _), (16, .int _)] ([]) _ _
  refine go_iload dL_law_318 rfl ?_
  refine go_bipush (-9) dL_law_320 rfl ?_
  refine go_icmp_eq (pc' := 336) dL_law_322 rfl (fun c => absurd c (by decide)) (fun _ => ?_)
  show bw_go _ _ _ _ _ _ _ 325 [(0, .retAddr _), (1, .ref _), (2, .ref _), (3, .int _), (4, .int _), (5, .int _), (6, .int _), (7, .int _), (8, .int _), (9, .int _), (10, .int _), (11, .ref _), (12, .int _), (13, .int _), (14, .int _), (15, .int _), (16, .int _)] ([]) _ _
  refine go_iload dL_law_325 rfl ?_
  refine go_if_eq (pc' := 336) dL_law_327 rfl (fun c => absurd c (by decide)) (fun _ => ?_)
  show bw_go _ _ _ _ _ _ _ 330 [(0, .retAddr _), (1, .ref _), (2, .ref _), (3, .int _), (4, .int _), (5, .int _), (6, .int _), (7, .int _), (8, .int _), (9, .int _), (10, .int _), (11, .ref _), (12, .int _), (13, .int _), (14, .int _), (15, .int _), (16, .int _)] ([]) _ _
  refine go_iload dL_law_330 rfl ?_
  refine go_iconst (1) dL_law_332 rfl ?_
  refine go_icmp_ne (pc' := 402) dL_law_333 rfl (fun c => absurd c (by decide)) (fun _ => ?_)
  show bw_go _ _ _ _ _ _ _ 336 [(0, .retAddr _), (1, .ref _), (2, .ref _), (3, .int _), (4, .int _), (5, .int _), (6, .int _), (7, .int _), (8, .int _), (9, .int _), (10, .int _), (11, .ref _), (12, .int _), (13, .int _), (14, .int _), (15, .int _), (16, .int _)] ([]) _ _
  refine go_iload dL_law_336 rfl ?_
  refine go_bipush (-9) dL_law_338 rfl ?_
  refine go_icmp_ne (pc' := 347) dL_law_340 rfl (fun _ => ?_) (fun c => absurd (by decide) c)
  show bw_go _ _ _ _ _ _ _ 347 [(0, .retAddr _), (1, .ref _), (2, .ref _), (3, .int _), (4, .int _), (5, .int _), (6, .int _), (7, .int _), (8, .int _), (9, .int _), (10, .int _), (11, .ref _), (12, .int _), (13, .int _), (14, .int _), (15, .int _), (16, .int _)] ([]) _ _
  refine go_iconst (0) dL_law_347 rfl ?_
  refine go_aload dL_law_348 rfl ?_
  refine go_iload dL_law_350 rfl ?_
  refine go_ia dL_law_352 (lb_a hx.1 (q := 76) rfl).2.1 (lb_a hx.1 (q := 76) rfl).1 (n_in (N := 6) (by omega) (by decide)) ?_
  rw [nI_clamp (by omega), (lb_a hx.1 (q := 76) rfl).2.2, hT]
  refine go_iload dL_law_353 rfl ?_
  refine go_ishr dL_law_355 ?_
  refine go_iconst (1) dL_law_356 rfl ?_
  refine go_iand dL_law_357 ?_
  rw [bit_t _ htl t (by omega), e3, show nI (if true = true then 1 else 0) = 1 from rfl]
  refine go_if_ne (pc' := 365) dL_law_358 rfl (fun _ => ?_) (fun c => absurd (by decide) c)
  show bw_go _ _ _ _ _ _ _ 365 [(0, .retAddr _), (1, .ref _), (2, .ref _), (3, .int _), (4, .int _), (5, .int _), (6, .int _), (7, .int _), (8, .int _), (9, .int _), (10, .int _), (11, .ref _), (12, .int _), (13, .int _), (14, .int _), (15, .int _), (16, .int _)] ((.int _) :: []) _ _
  refine go_iconst (0) dL_law_365 rfl ?_
  refine go_icmp_ne (pc' := 402) dL_law_366 rfl (fun c => absurd c (by decide)) (fun _ => ?_)
  show bw_go _ _ _ _ _ _ _ 369 [(0, .retAddr _), (1, .ref _), (2, .ref _), (3, .int _), (4, .int _), (5, .int _), (6, .int _), (7, .int _), (8, .int _), (9, .int _), (10, .int _), (11, .ref _), (12, .int _), (13, .int _), (14, .int _), (15, .int _), (16, .int _)] ([]) _ _
  refine go_iload dL_law_369 rfl ?_
  refine go_iconst (4) dL_law_371 rfl ?_
  refine go_icmp_ne (pc' := 380) dL_law_372 rfl (fun c_372 => ?_) (fun c_372 => ?_)
  · -- ne at 372: yes
    show bw_go _ _ _ _ _ _ _ 380 [(0, .retAddr _), (1, .ref _), (2, .ref _), (3, .int _), (4, .int _), (5, .int _), (6, .int _), (7, .int _), (8, .int _), (9, .int _), (10, .int _), (11, .ref _), (12, .int _), (13, .int _), (14, .int _), (15, .int _), (16, .int _)] ([]) _ _
    refine go_iload dL_law_380 rfl ?_
    refine go_if_eq (pc' := 404) dL_law_382 rfl (fun c_382 => ?_) (fun c_382 => ?_)
    · -- eq at 382: yes
      refine go_ls [(0, .retAddr _), (1, .ref _), (2, .ref _), (3, .int _), (4, .int _), (5, .int _), (6, .int _), (7, .int _), (8, .int _), (9, .int _), (10, .int _), (11, .ref _), (12, .int _), (13, .int _)] (by show List.Nodup ([0, 1, 2, 3, 4, 5, 6, 7, 8, 9, 10, 11, 12, 13] : List Nat); decide) (by show List.Nodup ([0, 1, 2, 3, 4, 5, 6, 7, 8, 9, 10, 11, 12, 13, 14, 15, 16] : List Nat); decide) (le_cons rfl (le_cons rfl (le_cons rfl (le_cons rfl (le_cons rfl (le_cons rfl (le_cons rfl (le_cons rfl (le_cons rfl (le_cons rfl (le_cons rfl (le_cons rfl (le_cons rfl (le_cons rfl (le_nil _))))))))))))))) ?_
      exact K _ _ hx
    · -- eq at 382: no
      show bw_go _ _ _ _ _ _ _ 385 [(0, .retAddr _), (1, .ref _), (2, .ref _), (3, .int _), (4, .int _), (5, .int _), (6, .int _), (7, .int _), (8, .int _), (9, .int _), (10, .int _), (11, .ref _), (12, .int _), (13, .int _), (14, .int _), (15, .int _), (16, .int _)] ([]) _ _
      refine go_iload dL_law_385 rfl ?_
      refine go_if_lt (pc' := 404) dL_law_387 rfl (fun c => absurd c (by decide)) (fun _ => ?_)
      show bw_go _ _ _ _ _ _ _ 390 [(0, .retAddr _), (1, .ref _), (2, .ref _), (3, .int _), (4, .int _), (5, .int _), (6, .int _), (7, .int _), (8, .int _), (9, .int _), (10, .int _), (11, .ref _), (12, .int _), (13, .int _), (14, .int _), (15, .int _), (16, .int _)] ([]) _ _
      refine go_iload dL_law_390 rfl ?_
      refine go_iload dL_law_392 rfl ?_
      refine go_iload dL_law_394 rfl ?_
      refine go_ishr dL_law_396 ?_
      refine go_iconst (1) dL_law_397 rfl ?_
      refine go_iand dL_law_398 ?_
      rw [bit_t _ hk.2.1 t (by omega)]
      refine go_icmp_eq (pc' := 404) dL_law_399 rfl (fun c_399 => ?_) (fun c_399 => ?_)
      · -- eq at 399: yes
        refine go_ls [(0, .retAddr _), (1, .ref _), (2, .ref _), (3, .int _), (4, .int _), (5, .int _), (6, .int _), (7, .int _), (8, .int _), (9, .int _), (10, .int _), (11, .ref _), (12, .int _), (13, .int _)] (by show List.Nodup ([0, 1, 2, 3, 4, 5, 6, 7, 8, 9, 10, 11, 12, 13] : List Nat); decide) (by show List.Nodup ([0, 1, 2, 3, 4, 5, 6, 7, 8, 9, 10, 11, 12, 13, 14, 15, 16] : List Nat); decide) (le_cons rfl (le_cons rfl (le_cons rfl (le_cons rfl (le_cons rfl (le_cons rfl (le_cons rfl (le_cons rfl (le_cons rfl (le_cons rfl (le_cons rfl (le_cons rfl (le_cons rfl (le_cons rfl (le_nil _))))))))))))))) ?_
        exact K _ _ hx
      · -- eq at 399: no
        exfalso
        have hb2 := hb (fun z => c_382 z)
        have e5 := on_true hb2.1 hb2.2 e3
        rw [e4] at e5
        rw [← e5] at c_399
        exact c_399 rfl
  · -- ne at 372: no
    show bw_go _ _ _ _ _ _ _ 375 [(0, .retAddr _), (1, .ref _), (2, .ref _), (3, .int _), (4, .int _), (5, .int _), (6, .int _), (7, .int _), (8, .int _), (9, .int _), (10, .int _), (11, .ref _), (12, .int _), (13, .int _), (14, .int _), (15, .int _), (16, .int _)] ([]) _ _
    refine go_iload dL_law_375 rfl ?_
    refine go_if_eq (pc' := 402) dL_law_377 rfl (fun c => absurd c (by decide)) (fun _ => ?_)
    show bw_go _ _ _ _ _ _ _ 380 [(0, .retAddr _), (1, .ref _), (2, .ref _), (3, .int _), (4, .int _), (5, .int _), (6, .int _), (7, .int _), (8, .int _), (9, .int _), (10, .int _), (11, .ref _), (12, .int _), (13, .int _), (14, .int _), (15, .int _), (16, .int _)] ([]) _ _
    refine go_iload dL_law_380 rfl ?_
    refine go_if_eq (pc' := 404) dL_law_382 rfl (fun c_382 => ?_) (fun c_382 => ?_)
    · -- eq at 382: yes
      refine go_ls [(0, .retAddr _), (1, .ref _), (2, .ref _), (3, .int _), (4, .int _), (5, .int _), (6, .int _), (7, .int _), (8, .int _), (9, .int _), (10, .int _), (11, .ref _), (12, .int _), (13, .int _)] (by show List.Nodup ([0, 1, 2, 3, 4, 5, 6, 7, 8, 9, 10, 11, 12, 13] : List Nat); decide) (by show List.Nodup ([0, 1, 2, 3, 4, 5, 6, 7, 8, 9, 10, 11, 12, 13, 14, 15, 16] : List Nat); decide) (le_cons rfl (le_cons rfl (le_cons rfl (le_cons rfl (le_cons rfl (le_cons rfl (le_cons rfl (le_cons rfl (le_cons rfl (le_cons rfl (le_cons rfl (le_cons rfl (le_cons rfl (le_cons rfl (le_nil _))))))))))))))) ?_
      exact K _ _ hx
    · -- eq at 382: no
      show bw_go _ _ _ _ _ _ _ 385 [(0, .retAddr _), (1, .ref _), (2, .ref _), (3, .int _), (4, .int _), (5, .int _), (6, .int _), (7, .int _), (8, .int _), (9, .int _), (10, .int _), (11, .ref _), (12, .int _), (13, .int _), (14, .int _), (15, .int _), (16, .int _)] ([]) _ _
      refine go_iload dL_law_385 rfl ?_
      refine go_if_lt (pc' := 404) dL_law_387 rfl (fun c => absurd c (by decide)) (fun _ => ?_)
      show bw_go _ _ _ _ _ _ _ 390 [(0, .retAddr _), (1, .ref _), (2, .ref _), (3, .int _), (4, .int _), (5, .int _), (6, .int _), (7, .int _), (8, .int _), (9, .int _), (10, .int _), (11, .ref _), (12, .int _), (13, .int _), (14, .int _), (15, .int _), (16, .int _)] ([]) _ _
      refine go_iload dL_law_390 rfl ?_
      refine go_iload dL_law_392 rfl ?_
      refine go_iload dL_law_394 rfl ?_
      refine go_ishr dL_law_396 ?_
      refine go_iconst (1) dL_law_397 rfl ?_
      refine go_iand dL_law_398 ?_
      rw [bit_t _ hk.2.1 t (by omega)]
      refine go_icmp_eq (pc' := 404) dL_law_399 rfl (fun c_399 => ?_) (fun c_399 => ?_)
      · -- eq at 399: yes
        refine go_ls [(0, .retAddr _), (1, .ref _), (2, .ref _), (3, .int _), (4, .int _), (5, .int _), (6, .int _), (7, .int _), (8, .int _), (9, .int _), (10, .int _), (11, .ref _), (12, .int _), (13, .int _)] (by show List.Nodup ([0, 1, 2, 3, 4, 5, 6, 7, 8, 9, 10, 11, 12, 13] : List Nat); decide) (by show List.Nodup ([0, 1, 2, 3, 4, 5, 6, 7, 8, 9, 10, 11, 12, 13, 14, 15, 16] : List Nat); decide) (le_cons rfl (le_cons rfl (le_cons rfl (le_cons rfl (le_cons rfl (le_cons rfl (le_cons rfl (le_cons rfl (le_cons rfl (le_cons rfl (le_cons rfl (le_cons rfl (le_cons rfl (le_cons rfl (le_nil _))))))))))))))) ?_
        exact K _ _ hx
      · -- eq at 399: no
        exfalso
        have hb2 := hb (fun z => c_382 z)
        have e5 := on_true hb2.1 hb2.2 e3
        rw [e4] at e5
        rw [← e5] at c_399
        exact c_399 rfl
set_option maxRecDepth 100000 in
set_option maxHeartbeats 4000000 in
theorem c259 {X : Nat × (Nat → Int32)} {Q : Option Value → bw_H → Prop} {h : bw_H} {S : ST} {W T0 : RW} {B : AC} {K0 : Nat → Option AC} {F T : Nat → Int32} {i : Nat} (hx : LX 2 75 h S (A2 F T) W T0 B K0) (hf : LF F B) (hi : i < cN (cc B)) (hT : T i = nI (tlC (cc B) i)) (K9 : ∀ G S', LX 2 75 G S' (A2 F T) W T0 B K0 → bw_go X 12 9 48 false (some .boolean) cL_law 410 [(0, .retAddr 1), (1, .ref (0)), (2, .ref (62)), (3, .int (nI (cN (cc B)))), (4, .int (nI (2 ^ cN (cc B) - 1))), (5, .int (nI (cT B.1))), (6, .int (nI (cD (cc B)))), (7, .int (nI (cW (cc B)))), (8, .int (nI (sho (taC (cc B)) (2 ^ cN (cc B) - 1)))), (9, .int (nI (smN (cR (cc B)) (cN (cc B))))), (10, .int (nI (smN (cR (cc B)) (i + 1)))), (11, .ref (76)), (12, .int (nI i))] [] G Q) : bw_go X 12 9 48 false (some .boolean) cL_law 259 [(0, .retAddr 1), (1, .ref (0)), (2, .ref (62)), (3, .int (nI (cN (cc B)))), (4, .int (nI (2 ^ cN (cc B) - 1))), (5, .int (nI (cT B.1))), (6, .int (nI (cD (cc B)))), (7, .int (nI (cW (cc B)))), (8, .int (nI (sho (taC (cc B)) (2 ^ cN (cc B) - 1)))), (9, .int (nI (smN (cR (cc B)) (cN (cc B))))), (10, .int (nI (smN (cR (cc B)) (i + 1)))), (11, .ref (76)), (12, .int (nI i))] [] h Q := by
  have hcc := lx_k hx
  have hN := hcc.1
  show bw_go _ _ _ _ _ _ _ 259 [(0, .retAddr _), (1, .ref _), (2, .ref _), (3, .int _), (4, .int _), (5, .int _), (6, .int _), (7, .int _), (8, .int _), (9, .int _), (10, .int _), (11, .ref _), (12, .int _)] ([]) _ _
  refine go_iconst (0) dL_law_259 rfl ?_
  refine go_istore dL_law_260 (Nat.lt_of_lt_of_le (Nat.lt_succ_self _) (Nat.le_of_ble_eq_true rfl)) ?_
  show bw_go _ _ _ _ _ _ _ 262 [(13, .int _), (0, .retAddr _), (1, .ref _), (2, .ref _), (3, .int _), (4, .int _), (5, .int _), (6, .int _), (7, .int _), (8, .int _), (9, .int _), (10, .int _), (11, .ref _), (12, .int _)] ([]) _ _
  refine go_ls [(0, .retAddr _), (1, .ref _), (2, .ref _), (3, .int _), (4, .int _), (5, .int _), (6, .int _), (7, .int _), (8, .int _), (9, .int _), (10, .int _), (11, .ref _), (12, .int _), (13, .int _)] (by show List.Nodup ([0, 1, 2, 3, 4, 5, 6, 7, 8, 9, 10, 11, 12, 13] : List Nat); decide) (by show List.Nodup ([13, 0, 1, 2, 3, 4, 5, 6, 7, 8, 9, 10, 11, 12] : List Nat); decide) (le_cons rfl (le_cons rfl (le_cons rfl (le_cons rfl (le_cons rfl (le_cons rfl (le_cons rfl (le_cons rfl (le_cons rfl (le_cons rfl (le_cons rfl (le_cons rfl (le_cons rfl (le_cons rfl (le_nil _))))))))))))))) ?_
  refine go_for (P := fun t => ∀ (g : bw_H) (S : ST), (LX 2 75 g S (A2 F T) W T0 B K0) → bw_go X 12 9 48 false (some .boolean) cL_law 262 [(0, .retAddr 1), (1, .ref (0)), (2, .ref (62)), (3, .int (nI (cN (cc B)))), (4, .int (nI (2 ^ cN (cc B) - 1))), (5, .int (nI (cT B.1))), (6, .int (nI (cD (cc B)))), (7, .int (nI (cW (cc B)))), (8, .int (nI (sho (taC (cc B)) (2 ^ cN (cc B) - 1)))), (9, .int (nI (smN (cR (cc B)) (cN (cc B))))), (10, .int (nI (smN (cR (cc B)) (i + 1)))), (11, .ref (76)), (12, .int (nI i)), (13, .int (nI t))] [] g Q) (N := 6) (fun t ht K => ?_) ?_ (0) (Nat.zero_le _) _ _ hx
  · -- a turn
    intro g S hv
    have hx := hv
    show bw_go _ _ _ _ _ _ _ 262 [(0, .retAddr _), (1, .ref _), (2, .ref _), (3, .int _), (4, .int _), (5, .int _), (6, .int _), (7, .int _), (8, .int _), (9, .int _), (10, .int _), (11, .ref _), (12, .int _), (13, .int _)] ([]) _ _
    refine go_iload dL_law_262 rfl ?_
    refine go_bipush (6) dL_law_264 rfl ?_
    refine go_icmp_ge (pc' := 410) dL_law_266 rfl (fun c_266 => ?_) (fun c_266 => ?_)
    · -- ge at 266: yes
      exfalso; have t_0 := nI_toInt (n := t) (by omega); have l_0 : (6 : Int32).toInt = 6 := rfl; simp only [i_le, i_lt, i_eq, bi_eq] at c_266; omega
    · -- ge at 266: no
      show bw_go _ _ _ _ _ _ _ 269 [(0, .retAddr _), (1, .ref _), (2, .ref _), (3, .int _), (4, .int _), (5, .int _), (6, .int _), (7, .int _), (8, .int _), (9, .int _), (10, .int _), (11, .ref _), (12, .int _), (13, .int _)] ([]) _ _
      refine go_aload_n dL_law_269 rfl ?_
      refine go_iload dL_law_270 rfl ?_
      refine go_iload dL_law_272 rfl ?_
      refine go_cv (as := [.int _, .int _]) 5 dL_law_274 mt_9_72 (Or.inl rfl) rfl rfl (lb_lt hx.1) (lb_k hx.1) (Nat.le_of_ble_eq_true rfl) (Nat.le_of_ble_eq_true rfl) (Nat.le_of_ble_eq_true rfl) (Nat.le_of_ble_eq_true rfl) (Nat.le_of_ble_eq_true rfl) ?_
      refine lx_tells hx hi (by omega) (fun G S' hx => ?_)
      show bw_go _ _ _ _ _ _ _ 277 [(0, .retAddr _), (1, .ref _), (2, .ref _), (3, .int _), (4, .int _), (5, .int _), (6, .int _), (7, .int _), (8, .int _), (9, .int _), (10, .int _), (11, .ref _), (12, .int _), (13, .int _)] ((.int _) :: []) _ _
      refine go_istore dL_law_277 (Nat.lt_of_lt_of_le (Nat.lt_succ_self _) (Nat.le_of_ble_eq_true rfl)) ?_
      show bw_go _ _ _ _ _ _ _ 279 [(14, .int _), (0, .retAddr _), (1, .ref _), (2, .ref _), (3, .int _), (4, .int _), (5, .int _), (6, .int _), (7, .int _), (8, .int _), (9, .int _), (10, .int _), (11, .ref _), (12, .int _), (13, .int _)] ([]) _ _
      refine go_aload_n dL_law_279 rfl ?_
      refine go_iload dL_law_280 rfl ?_
      refine go_iconst (0) dL_law_282 rfl ?_
      refine go_cs (as := [.ref _, .int _, .int _]) 5 dL_law_283 rfl rfl mt_9_68 (Nat.le_of_ble_eq_true rfl) rfl rfl (Nat.le_of_ble_eq_true rfl) (Nat.le_of_ble_eq_true rfl) (Nat.le_of_ble_eq_true rfl) (Nat.le_of_ble_eq_true rfl) ?_
      refine lx_told hx (w := 0) hi (by decide) (fun G S' hx => ?_)
      rw [show obf (cc B) i 0 = cK (cc B) i from rfl]
      show bw_go _ _ _ _ _ _ _ 286 [(14, .int _), (0, .retAddr _), (1, .ref _), (2, .ref _), (3, .int _), (4, .int _), (5, .int _), (6, .int _), (7, .int _), (8, .int _), (9, .int _), (10, .int _), (11, .ref _), (12, .int _), (13, .int _)] ((.int _) :: []) _ _
      refine go_istore dL_law_286 (Nat.lt_of_lt_of_le (Nat.lt_succ_self _) (Nat.le_of_ble_eq_true rfl)) ?_
      show bw_go _ _ _ _ _ _ _ 288 [(15, .int _), (14, .int _), (0, .retAddr _), (1, .ref _), (2, .ref _), (3, .int _), (4, .int _), (5, .int _), (6, .int _), (7, .int _), (8, .int _), (9, .int _), (10, .int _), (11, .ref _), (12, .int _), (13, .int _)] ([]) _ _
      refine go_iload dL_law_288 rfl ?_
      refine go_iconst (4) dL_law_290 rfl ?_
      refine go_icmp_eq (pc' := 315) dL_law_291 rfl (fun c_291 => ?_) (fun c_291 => ?_)
      · -- eq at 291: yes
        show bw_go _ _ _ _ _ _ _ 315 [(15, .int _), (14, .int _), (0, .retAddr _), (1, .ref _), (2, .ref _), (3, .int _), (4, .int _), (5, .int _), (6, .int _), (7, .int _), (8, .int _), (9, .int _), (10, .int _), (11, .ref _), (12, .int _), (13, .int _)] ([]) _ _
        refine go_iconst (0) dL_law_315 rfl ?_
        refine go_istore dL_law_316 (Nat.lt_of_lt_of_le (Nat.lt_succ_self _) (Nat.le_of_ble_eq_true rfl)) ?_
        show bw_go _ _ _ _ _ _ _ 318 [(16, .int _), (15, .int _), (14, .int _), (0, .retAddr _), (1, .ref _), (2, .ref _), (3, .int _), (4, .int _), (5, .int _), (6, .int _), (7, .int _), (8, .int _), (9, .int _), (10, .int _), (11, .ref _), (12, .int _), (13, .int _)] ([]) _ _
        refine go_ls [(0, .retAddr _), (1, .ref _), (2, .ref _), (3, .int _), (4, .int _), (5, .int _), (6, .int _), (7, .int _), (8, .int _), (9, .int _), (10, .int _), (11, .ref _), (12, .int _), (13, .int _), (14, .int _), (15, .int _), (16, .int _)] (by show List.Nodup ([0, 1, 2, 3, 4, 5, 6, 7, 8, 9, 10, 11, 12, 13, 14, 15, 16] : List Nat); decide) (by show List.Nodup ([16, 15, 14, 0, 1, 2, 3, 4, 5, 6, 7, 8, 9, 10, 11, 12, 13] : List Nat); decide) (le_cons rfl (le_cons rfl (le_cons rfl (le_cons rfl (le_cons rfl (le_cons rfl (le_cons rfl (le_cons rfl (le_cons rfl (le_cons rfl (le_cons rfl (le_cons rfl (le_cons rfl (le_cons rfl (le_cons rfl (le_cons rfl (le_cons rfl (le_nil _)))))))))))))))))) ?_
        rcases an_c (cc B) i t with ⟨e1, e2, e3⟩ | ⟨e1, e2, e3, e4⟩ | ⟨e1, e2, e3, e4⟩
        · rw [e1]
          refine c318_n hx hf hi hT ht e3 ?_ (fun G S' hx => ?_)
          · intro z9; exact absurd rfl z9
          · skip
            show bw_go _ _ _ _ _ _ _ 404 [(0, .retAddr _), (1, .ref _), (2, .ref _), (3, .int _), (4, .int _), (5, .int _), (6, .int _), (7, .int _), (8, .int _), (9, .int _), (10, .int _), (11, .ref _), (12, .int _), (13, .int _)] ([]) _ _
            refine go_iinc dL_law_404 rfl (nI_1 t) (Nat.lt_of_lt_of_le (Nat.lt_succ_self _) (Nat.le_of_ble_eq_true rfl)) ?_
            show bw_go _ _ _ _ _ _ _ 407 [(13, .int _), (0, .retAddr _), (1, .ref _), (2, .ref _), (3, .int _), (4, .int _), (5, .int _), (6, .int _), (7, .int _), (8, .int _), (9, .int _), (10, .int _), (11, .ref _), (12, .int _)] ([]) _ _
            refine go_goto (pc' := 262) dL_law_407 rfl ?_
            refine go_ls [(0, .retAddr _), (1, .ref _), (2, .ref _), (3, .int _), (4, .int _), (5, .int _), (6, .int _), (7, .int _), (8, .int _), (9, .int _), (10, .int _), (11, .ref _), (12, .int _), (13, .int _)] (by show List.Nodup ([0, 1, 2, 3, 4, 5, 6, 7, 8, 9, 10, 11, 12, 13] : List Nat); decide) (by show List.Nodup ([13, 0, 1, 2, 3, 4, 5, 6, 7, 8, 9, 10, 11, 12] : List Nat); decide) (le_cons rfl (le_cons rfl (le_cons rfl (le_cons rfl (le_cons rfl (le_cons rfl (le_cons rfl (le_cons rfl (le_cons rfl (le_cons rfl (le_cons rfl (le_cons rfl (le_cons rfl (le_cons rfl (le_nil _))))))))))))))) ?_
            exact K _ _ hx
        · rw [e1]
          refine c318_0 hx hf hi hT ht e3 e4 ?_ (fun G S' hx => ?_)
          · intro z9; exact absurd rfl z9
          · skip
            show bw_go _ _ _ _ _ _ _ 404 [(0, .retAddr _), (1, .ref _), (2, .ref _), (3, .int _), (4, .int _), (5, .int _), (6, .int _), (7, .int _), (8, .int _), (9, .int _), (10, .int _), (11, .ref _), (12, .int _), (13, .int _)] ([]) _ _
            refine go_iinc dL_law_404 rfl (nI_1 t) (Nat.lt_of_lt_of_le (Nat.lt_succ_self _) (Nat.le_of_ble_eq_true rfl)) ?_
            show bw_go _ _ _ _ _ _ _ 407 [(13, .int _), (0, .retAddr _), (1, .ref _), (2, .ref _), (3, .int _), (4, .int _), (5, .int _), (6, .int _), (7, .int _), (8, .int _), (9, .int _), (10, .int _), (11, .ref _), (12, .int _)] ([]) _ _
            refine go_goto (pc' := 262) dL_law_407 rfl ?_
            refine go_ls [(0, .retAddr _), (1, .ref _), (2, .ref _), (3, .int _), (4, .int _), (5, .int _), (6, .int _), (7, .int _), (8, .int _), (9, .int _), (10, .int _), (11, .ref _), (12, .int _), (13, .int _)] (by show List.Nodup ([0, 1, 2, 3, 4, 5, 6, 7, 8, 9, 10, 11, 12, 13] : List Nat); decide) (by show List.Nodup ([13, 0, 1, 2, 3, 4, 5, 6, 7, 8, 9, 10, 11, 12] : List Nat); decide) (le_cons rfl (le_cons rfl (le_cons rfl (le_cons rfl (le_cons rfl (le_cons rfl (le_cons rfl (le_cons rfl (le_cons rfl (le_cons rfl (le_cons rfl (le_cons rfl (le_cons rfl (le_cons rfl (le_nil _))))))))))))))) ?_
            exact K _ _ hx
        · rw [e1]
          refine c318_1 hx hf hi hT ht e3 e4 ?_ (fun G S' hx => ?_)
          · intro z9; exact absurd rfl z9
          · skip
            show bw_go _ _ _ _ _ _ _ 404 [(0, .retAddr _), (1, .ref _), (2, .ref _), (3, .int _), (4, .int _), (5, .int _), (6, .int _), (7, .int _), (8, .int _), (9, .int _), (10, .int _), (11, .ref _), (12, .int _), (13, .int _)] ([]) _ _
            refine go_iinc dL_law_404 rfl (nI_1 t) (Nat.lt_of_lt_of_le (Nat.lt_succ_self _) (Nat.le_of_ble_eq_true rfl)) ?_
            show bw_go _ _ _ _ _ _ _ 407 [(13, .int _), (0, .retAddr _), (1, .ref _), (2, .ref _), (3, .int _), (4, .int _), (5, .int _), (6, .int _), (7, .int _), (8, .int _), (9, .int _), (10, .int _), (11, .ref _), (12, .int _)] ([]) _ _
            refine go_goto (pc' := 262) dL_law_407 rfl ?_
            refine go_ls [(0, .retAddr _), (1, .ref _), (2, .ref _), (3, .int _), (4, .int _), (5, .int _), (6, .int _), (7, .int _), (8, .int _), (9, .int _), (10, .int _), (11, .ref _), (12, .int _), (13, .int _)] (by show List.Nodup ([0, 1, 2, 3, 4, 5, 6, 7, 8, 9, 10, 11, 12, 13] : List Nat); decide) (by show List.Nodup ([13, 0, 1, 2, 3, 4, 5, 6, 7, 8, 9, 10, 11, 12] : List Nat); decide) (le_cons rfl (le_cons rfl (le_cons rfl (le_cons rfl (le_cons rfl (le_cons rfl (le_cons rfl (le_cons rfl (le_cons rfl (le_cons rfl (le_cons rfl (le_cons rfl (le_cons rfl (le_cons rfl (le_nil _))))))))))))))) ?_
            exact K _ _ hx
      · -- eq at 291: no
        show bw_go _ _ _ _ _ _ _ 294 [(15, .int _), (14, .int _), (0, .retAddr _), (1, .ref _), (2, .ref _), (3, .int _), (4, .int _), (5, .int _), (6, .int _), (7, .int _), (8, .int _), (9, .int _), (10, .int _), (11, .ref _), (12, .int _), (13, .int _)] ([]) _ _
        refine go_iload dL_law_294 rfl ?_
        refine go_iconst (3) dL_law_296 rfl ?_
        refine go_icmp_ne (pc' := 311) dL_law_297 rfl (fun c_297 => ?_) (fun c_297 => ?_)
        · -- ne at 297: yes
          show bw_go _ _ _ _ _ _ _ 311 [(15, .int _), (14, .int _), (0, .retAddr _), (1, .ref _), (2, .ref _), (3, .int _), (4, .int _), (5, .int _), (6, .int _), (7, .int _), (8, .int _), (9, .int _), (10, .int _), (11, .ref _), (12, .int _), (13, .int _)] ([]) _ _
          refine go_iconst (1) dL_law_311 rfl ?_
          refine go_goto (pc' := 316) dL_law_312 rfl ?_
          show bw_go _ _ _ _ _ _ _ 316 [(15, .int _), (14, .int _), (0, .retAddr _), (1, .ref _), (2, .ref _), (3, .int _), (4, .int _), (5, .int _), (6, .int _), (7, .int _), (8, .int _), (9, .int _), (10, .int _), (11, .ref _), (12, .int _), (13, .int _)] ((.int _) :: []) _ _
          refine go_istore dL_law_316 (Nat.lt_of_lt_of_le (Nat.lt_succ_self _) (Nat.le_of_ble_eq_true rfl)) ?_
          show bw_go _ _ _ _ _ _ _ 318 [(16, .int _), (15, .int _), (14, .int _), (0, .retAddr _), (1, .ref _), (2, .ref _), (3, .int _), (4, .int _), (5, .int _), (6, .int _), (7, .int _), (8, .int _), (9, .int _), (10, .int _), (11, .ref _), (12, .int _), (13, .int _)] ([]) _ _
          refine go_ls [(0, .retAddr _), (1, .ref _), (2, .ref _), (3, .int _), (4, .int _), (5, .int _), (6, .int _), (7, .int _), (8, .int _), (9, .int _), (10, .int _), (11, .ref _), (12, .int _), (13, .int _), (14, .int _), (15, .int _), (16, .int _)] (by show List.Nodup ([0, 1, 2, 3, 4, 5, 6, 7, 8, 9, 10, 11, 12, 13, 14, 15, 16] : List Nat); decide) (by show List.Nodup ([16, 15, 14, 0, 1, 2, 3, 4, 5, 6, 7, 8, 9, 10, 11, 12, 13] : List Nat); decide) (le_cons rfl (le_cons rfl (le_cons rfl (le_cons rfl (le_cons rfl (le_cons rfl (le_cons rfl (le_cons rfl (le_cons rfl (le_cons rfl (le_cons rfl (le_cons rfl (le_cons rfl (le_cons rfl (le_cons rfl (le_cons rfl (le_cons rfl (le_nil _)))))))))))))))))) ?_
          rcases an_c (cc B) i t with ⟨e1, e2, e3⟩ | ⟨e1, e2, e3, e4⟩ | ⟨e1, e2, e3, e4⟩
          · rw [e1]
            refine c318_n hx hf hi hT ht e3 ?_ (fun G S' hx => ?_)
            · intro _
              have k6 := (hcc.2.2.2.2 i hi).1
              have k9 := (hcc.2.2.2.2 i hi).2.2.1
              have t_4 := nI_toInt (n := cK (cc B) i) (by omega)
              have t_5 := nI_toInt (n := cR (cc B) i) (by omega)
              have l_4 : (4 : Int32).toInt = 4 := rfl
              have l_3 : (3 : Int32).toInt = 3 := rfl
              have l_5 : (5 : Int32).toInt = 5 := rfl
              simp only [i_eq] at c_291 c_297
              exact ⟨by omega, Or.inl (by omega)⟩
            · skip
              show bw_go _ _ _ _ _ _ _ 404 [(0, .retAddr _), (1, .ref _), (2, .ref _), (3, .int _), (4, .int _), (5, .int _), (6, .int _), (7, .int _), (8, .int _), (9, .int _), (10, .int _), (11, .ref _), (12, .int _), (13, .int _)] ([]) _ _
              refine go_iinc dL_law_404 rfl (nI_1 t) (Nat.lt_of_lt_of_le (Nat.lt_succ_self _) (Nat.le_of_ble_eq_true rfl)) ?_
              show bw_go _ _ _ _ _ _ _ 407 [(13, .int _), (0, .retAddr _), (1, .ref _), (2, .ref _), (3, .int _), (4, .int _), (5, .int _), (6, .int _), (7, .int _), (8, .int _), (9, .int _), (10, .int _), (11, .ref _), (12, .int _)] ([]) _ _
              refine go_goto (pc' := 262) dL_law_407 rfl ?_
              refine go_ls [(0, .retAddr _), (1, .ref _), (2, .ref _), (3, .int _), (4, .int _), (5, .int _), (6, .int _), (7, .int _), (8, .int _), (9, .int _), (10, .int _), (11, .ref _), (12, .int _), (13, .int _)] (by show List.Nodup ([0, 1, 2, 3, 4, 5, 6, 7, 8, 9, 10, 11, 12, 13] : List Nat); decide) (by show List.Nodup ([13, 0, 1, 2, 3, 4, 5, 6, 7, 8, 9, 10, 11, 12] : List Nat); decide) (le_cons rfl (le_cons rfl (le_cons rfl (le_cons rfl (le_cons rfl (le_cons rfl (le_cons rfl (le_cons rfl (le_cons rfl (le_cons rfl (le_cons rfl (le_cons rfl (le_cons rfl (le_cons rfl (le_nil _))))))))))))))) ?_
              exact K _ _ hx
          · rw [e1]
            refine c318_0 hx hf hi hT ht e3 e4 ?_ (fun G S' hx => ?_)
            · intro _
              have k6 := (hcc.2.2.2.2 i hi).1
              have k9 := (hcc.2.2.2.2 i hi).2.2.1
              have t_4 := nI_toInt (n := cK (cc B) i) (by omega)
              have t_5 := nI_toInt (n := cR (cc B) i) (by omega)
              have l_4 : (4 : Int32).toInt = 4 := rfl
              have l_3 : (3 : Int32).toInt = 3 := rfl
              have l_5 : (5 : Int32).toInt = 5 := rfl
              simp only [i_eq] at c_291 c_297
              exact ⟨by omega, Or.inl (by omega)⟩
            · skip
              show bw_go _ _ _ _ _ _ _ 404 [(0, .retAddr _), (1, .ref _), (2, .ref _), (3, .int _), (4, .int _), (5, .int _), (6, .int _), (7, .int _), (8, .int _), (9, .int _), (10, .int _), (11, .ref _), (12, .int _), (13, .int _)] ([]) _ _
              refine go_iinc dL_law_404 rfl (nI_1 t) (Nat.lt_of_lt_of_le (Nat.lt_succ_self _) (Nat.le_of_ble_eq_true rfl)) ?_
              show bw_go _ _ _ _ _ _ _ 407 [(13, .int _), (0, .retAddr _), (1, .ref _), (2, .ref _), (3, .int _), (4, .int _), (5, .int _), (6, .int _), (7, .int _), (8, .int _), (9, .int _), (10, .int _), (11, .ref _), (12, .int _)] ([]) _ _
              refine go_goto (pc' := 262) dL_law_407 rfl ?_
              refine go_ls [(0, .retAddr _), (1, .ref _), (2, .ref _), (3, .int _), (4, .int _), (5, .int _), (6, .int _), (7, .int _), (8, .int _), (9, .int _), (10, .int _), (11, .ref _), (12, .int _), (13, .int _)] (by show List.Nodup ([0, 1, 2, 3, 4, 5, 6, 7, 8, 9, 10, 11, 12, 13] : List Nat); decide) (by show List.Nodup ([13, 0, 1, 2, 3, 4, 5, 6, 7, 8, 9, 10, 11, 12] : List Nat); decide) (le_cons rfl (le_cons rfl (le_cons rfl (le_cons rfl (le_cons rfl (le_cons rfl (le_cons rfl (le_cons rfl (le_cons rfl (le_cons rfl (le_cons rfl (le_cons rfl (le_cons rfl (le_cons rfl (le_nil _))))))))))))))) ?_
              exact K _ _ hx
          · rw [e1]
            refine c318_1 hx hf hi hT ht e3 e4 ?_ (fun G S' hx => ?_)
            · intro _
              have k6 := (hcc.2.2.2.2 i hi).1
              have k9 := (hcc.2.2.2.2 i hi).2.2.1
              have t_4 := nI_toInt (n := cK (cc B) i) (by omega)
              have t_5 := nI_toInt (n := cR (cc B) i) (by omega)
              have l_4 : (4 : Int32).toInt = 4 := rfl
              have l_3 : (3 : Int32).toInt = 3 := rfl
              have l_5 : (5 : Int32).toInt = 5 := rfl
              simp only [i_eq] at c_291 c_297
              exact ⟨by omega, Or.inl (by omega)⟩
            · skip
              show bw_go _ _ _ _ _ _ _ 404 [(0, .retAddr _), (1, .ref _), (2, .ref _), (3, .int _), (4, .int _), (5, .int _), (6, .int _), (7, .int _), (8, .int _), (9, .int _), (10, .int _), (11, .ref _), (12, .int _), (13, .int _)] ([]) _ _
              refine go_iinc dL_law_404 rfl (nI_1 t) (Nat.lt_of_lt_of_le (Nat.lt_succ_self _) (Nat.le_of_ble_eq_true rfl)) ?_
              show bw_go _ _ _ _ _ _ _ 407 [(13, .int _), (0, .retAddr _), (1, .ref _), (2, .ref _), (3, .int _), (4, .int _), (5, .int _), (6, .int _), (7, .int _), (8, .int _), (9, .int _), (10, .int _), (11, .ref _), (12, .int _)] ([]) _ _
              refine go_goto (pc' := 262) dL_law_407 rfl ?_
              refine go_ls [(0, .retAddr _), (1, .ref _), (2, .ref _), (3, .int _), (4, .int _), (5, .int _), (6, .int _), (7, .int _), (8, .int _), (9, .int _), (10, .int _), (11, .ref _), (12, .int _), (13, .int _)] (by show List.Nodup ([0, 1, 2, 3, 4, 5, 6, 7, 8, 9, 10, 11, 12, 13] : List Nat); decide) (by show List.Nodup ([13, 0, 1, 2, 3, 4, 5, 6, 7, 8, 9, 10, 11, 12] : List Nat); decide) (le_cons rfl (le_cons rfl (le_cons rfl (le_cons rfl (le_cons rfl (le_cons rfl (le_cons rfl (le_cons rfl (le_cons rfl (le_cons rfl (le_cons rfl (le_cons rfl (le_cons rfl (le_cons rfl (le_nil _))))))))))))))) ?_
              exact K _ _ hx
        · -- ne at 297: no
          show bw_go _ _ _ _ _ _ _ 300 [(15, .int _), (14, .int _), (0, .retAddr _), (1, .ref _), (2, .ref _), (3, .int _), (4, .int _), (5, .int _), (6, .int _), (7, .int _), (8, .int _), (9, .int _), (10, .int _), (11, .ref _), (12, .int _), (13, .int _)] ([]) _ _
          refine go_aload_n dL_law_300 rfl ?_
          refine go_iload dL_law_301 rfl ?_
          refine go_iconst (2) dL_law_303 rfl ?_
          refine go_cs (as := [.ref _, .int _, .int _]) 5 dL_law_304 rfl rfl mt_9_68 (Nat.le_of_ble_eq_true rfl) rfl rfl (Nat.le_of_ble_eq_true rfl) (Nat.le_of_ble_eq_true rfl) (Nat.le_of_ble_eq_true rfl) (Nat.le_of_ble_eq_true rfl) ?_
          refine lx_told hx (w := 2) hi (by decide) (fun G S' hx => ?_)
          rw [show obf (cc B) i 2 = cR (cc B) i from rfl]
          show bw_go _ _ _ _ _ _ _ 307 [(15, .int _), (14, .int _), (0, .retAddr _), (1, .ref _), (2, .ref _), (3, .int _), (4, .int _), (5, .int _), (6, .int _), (7, .int _), (8, .int _), (9, .int _), (10, .int _), (11, .ref _), (12, .int _), (13, .int _)] ((.int _) :: []) _ _
          refine go_iconst (5) dL_law_307 rfl ?_
          refine go_icmp_ge (pc' := 315) dL_law_308 rfl (fun c_308 => ?_) (fun c_308 => ?_)
          · -- ge at 308: yes
            show bw_go _ _ _ _ _ _ _ 315 [(15, .int _), (14, .int _), (0, .retAddr _), (1, .ref _), (2, .ref _), (3, .int _), (4, .int _), (5, .int _), (6, .int _), (7, .int _), (8, .int _), (9, .int _), (10, .int _), (11, .ref _), (12, .int _), (13, .int _)] ([]) _ _
            refine go_iconst (0) dL_law_315 rfl ?_
            refine go_istore dL_law_316 (Nat.lt_of_lt_of_le (Nat.lt_succ_self _) (Nat.le_of_ble_eq_true rfl)) ?_
            show bw_go _ _ _ _ _ _ _ 318 [(16, .int _), (15, .int _), (14, .int _), (0, .retAddr _), (1, .ref _), (2, .ref _), (3, .int _), (4, .int _), (5, .int _), (6, .int _), (7, .int _), (8, .int _), (9, .int _), (10, .int _), (11, .ref _), (12, .int _), (13, .int _)] ([]) _ _
            refine go_ls [(0, .retAddr _), (1, .ref _), (2, .ref _), (3, .int _), (4, .int _), (5, .int _), (6, .int _), (7, .int _), (8, .int _), (9, .int _), (10, .int _), (11, .ref _), (12, .int _), (13, .int _), (14, .int _), (15, .int _), (16, .int _)] (by show List.Nodup ([0, 1, 2, 3, 4, 5, 6, 7, 8, 9, 10, 11, 12, 13, 14, 15, 16] : List Nat); decide) (by show List.Nodup ([16, 15, 14, 0, 1, 2, 3, 4, 5, 6, 7, 8, 9, 10, 11, 12, 13] : List Nat); decide) (le_cons rfl (le_cons rfl (le_cons rfl (le_cons rfl (le_cons rfl (le_cons rfl (le_cons rfl (le_cons rfl (le_cons rfl (le_cons rfl (le_cons rfl (le_cons rfl (le_cons rfl (le_cons rfl (le_cons rfl (le_cons rfl (le_cons rfl (le_nil _)))))))))))))))))) ?_
            rcases an_c (cc B) i t with ⟨e1, e2, e3⟩ | ⟨e1, e2, e3, e4⟩ | ⟨e1, e2, e3, e4⟩
            · rw [e1]
              refine c318_n hx hf hi hT ht e3 ?_ (fun G S' hx => ?_)
              · intro z9; exact absurd rfl z9
              · skip
                show bw_go _ _ _ _ _ _ _ 404 [(0, .retAddr _), (1, .ref _), (2, .ref _), (3, .int _), (4, .int _), (5, .int _), (6, .int _), (7, .int _), (8, .int _), (9, .int _), (10, .int _), (11, .ref _), (12, .int _), (13, .int _)] ([]) _ _
                refine go_iinc dL_law_404 rfl (nI_1 t) (Nat.lt_of_lt_of_le (Nat.lt_succ_self _) (Nat.le_of_ble_eq_true rfl)) ?_
                show bw_go _ _ _ _ _ _ _ 407 [(13, .int _), (0, .retAddr _), (1, .ref _), (2, .ref _), (3, .int _), (4, .int _), (5, .int _), (6, .int _), (7, .int _), (8, .int _), (9, .int _), (10, .int _), (11, .ref _), (12, .int _)] ([]) _ _
                refine go_goto (pc' := 262) dL_law_407 rfl ?_
                refine go_ls [(0, .retAddr _), (1, .ref _), (2, .ref _), (3, .int _), (4, .int _), (5, .int _), (6, .int _), (7, .int _), (8, .int _), (9, .int _), (10, .int _), (11, .ref _), (12, .int _), (13, .int _)] (by show List.Nodup ([0, 1, 2, 3, 4, 5, 6, 7, 8, 9, 10, 11, 12, 13] : List Nat); decide) (by show List.Nodup ([13, 0, 1, 2, 3, 4, 5, 6, 7, 8, 9, 10, 11, 12] : List Nat); decide) (le_cons rfl (le_cons rfl (le_cons rfl (le_cons rfl (le_cons rfl (le_cons rfl (le_cons rfl (le_cons rfl (le_cons rfl (le_cons rfl (le_cons rfl (le_cons rfl (le_cons rfl (le_cons rfl (le_nil _))))))))))))))) ?_
                exact K _ _ hx
            · rw [e1]
              refine c318_0 hx hf hi hT ht e3 e4 ?_ (fun G S' hx => ?_)
              · intro z9; exact absurd rfl z9
              · skip
                show bw_go _ _ _ _ _ _ _ 404 [(0, .retAddr _), (1, .ref _), (2, .ref _), (3, .int _), (4, .int _), (5, .int _), (6, .int _), (7, .int _), (8, .int _), (9, .int _), (10, .int _), (11, .ref _), (12, .int _), (13, .int _)] ([]) _ _
                refine go_iinc dL_law_404 rfl (nI_1 t) (Nat.lt_of_lt_of_le (Nat.lt_succ_self _) (Nat.le_of_ble_eq_true rfl)) ?_
                show bw_go _ _ _ _ _ _ _ 407 [(13, .int _), (0, .retAddr _), (1, .ref _), (2, .ref _), (3, .int _), (4, .int _), (5, .int _), (6, .int _), (7, .int _), (8, .int _), (9, .int _), (10, .int _), (11, .ref _), (12, .int _)] ([]) _ _
                refine go_goto (pc' := 262) dL_law_407 rfl ?_
                refine go_ls [(0, .retAddr _), (1, .ref _), (2, .ref _), (3, .int _), (4, .int _), (5, .int _), (6, .int _), (7, .int _), (8, .int _), (9, .int _), (10, .int _), (11, .ref _), (12, .int _), (13, .int _)] (by show List.Nodup ([0, 1, 2, 3, 4, 5, 6, 7, 8, 9, 10, 11, 12, 13] : List Nat); decide) (by show List.Nodup ([13, 0, 1, 2, 3, 4, 5, 6, 7, 8, 9, 10, 11, 12] : List Nat); decide) (le_cons rfl (le_cons rfl (le_cons rfl (le_cons rfl (le_cons rfl (le_cons rfl (le_cons rfl (le_cons rfl (le_cons rfl (le_cons rfl (le_cons rfl (le_cons rfl (le_cons rfl (le_cons rfl (le_nil _))))))))))))))) ?_
                exact K _ _ hx
            · rw [e1]
              refine c318_1 hx hf hi hT ht e3 e4 ?_ (fun G S' hx => ?_)
              · intro z9; exact absurd rfl z9
              · skip
                show bw_go _ _ _ _ _ _ _ 404 [(0, .retAddr _), (1, .ref _), (2, .ref _), (3, .int _), (4, .int _), (5, .int _), (6, .int _), (7, .int _), (8, .int _), (9, .int _), (10, .int _), (11, .ref _), (12, .int _), (13, .int _)] ([]) _ _
                refine go_iinc dL_law_404 rfl (nI_1 t) (Nat.lt_of_lt_of_le (Nat.lt_succ_self _) (Nat.le_of_ble_eq_true rfl)) ?_
                show bw_go _ _ _ _ _ _ _ 407 [(13, .int _), (0, .retAddr _), (1, .ref _), (2, .ref _), (3, .int _), (4, .int _), (5, .int _), (6, .int _), (7, .int _), (8, .int _), (9, .int _), (10, .int _), (11, .ref _), (12, .int _)] ([]) _ _
                refine go_goto (pc' := 262) dL_law_407 rfl ?_
                refine go_ls [(0, .retAddr _), (1, .ref _), (2, .ref _), (3, .int _), (4, .int _), (5, .int _), (6, .int _), (7, .int _), (8, .int _), (9, .int _), (10, .int _), (11, .ref _), (12, .int _), (13, .int _)] (by show List.Nodup ([0, 1, 2, 3, 4, 5, 6, 7, 8, 9, 10, 11, 12, 13] : List Nat); decide) (by show List.Nodup ([13, 0, 1, 2, 3, 4, 5, 6, 7, 8, 9, 10, 11, 12] : List Nat); decide) (le_cons rfl (le_cons rfl (le_cons rfl (le_cons rfl (le_cons rfl (le_cons rfl (le_cons rfl (le_cons rfl (le_cons rfl (le_cons rfl (le_cons rfl (le_cons rfl (le_cons rfl (le_cons rfl (le_nil _))))))))))))))) ?_
                exact K _ _ hx
          · -- ge at 308: no
            show bw_go _ _ _ _ _ _ _ 311 [(15, .int _), (14, .int _), (0, .retAddr _), (1, .ref _), (2, .ref _), (3, .int _), (4, .int _), (5, .int _), (6, .int _), (7, .int _), (8, .int _), (9, .int _), (10, .int _), (11, .ref _), (12, .int _), (13, .int _)] ([]) _ _
            refine go_iconst (1) dL_law_311 rfl ?_
            refine go_goto (pc' := 316) dL_law_312 rfl ?_
            show bw_go _ _ _ _ _ _ _ 316 [(15, .int _), (14, .int _), (0, .retAddr _), (1, .ref _), (2, .ref _), (3, .int _), (4, .int _), (5, .int _), (6, .int _), (7, .int _), (8, .int _), (9, .int _), (10, .int _), (11, .ref _), (12, .int _), (13, .int _)] ((.int _) :: []) _ _
            refine go_istore dL_law_316 (Nat.lt_of_lt_of_le (Nat.lt_succ_self _) (Nat.le_of_ble_eq_true rfl)) ?_
            show bw_go _ _ _ _ _ _ _ 318 [(16, .int _), (15, .int _), (14, .int _), (0, .retAddr _), (1, .ref _), (2, .ref _), (3, .int _), (4, .int _), (5, .int _), (6, .int _), (7, .int _), (8, .int _), (9, .int _), (10, .int _), (11, .ref _), (12, .int _), (13, .int _)] ([]) _ _
            refine go_ls [(0, .retAddr _), (1, .ref _), (2, .ref _), (3, .int _), (4, .int _), (5, .int _), (6, .int _), (7, .int _), (8, .int _), (9, .int _), (10, .int _), (11, .ref _), (12, .int _), (13, .int _), (14, .int _), (15, .int _), (16, .int _)] (by show List.Nodup ([0, 1, 2, 3, 4, 5, 6, 7, 8, 9, 10, 11, 12, 13, 14, 15, 16] : List Nat); decide) (by show List.Nodup ([16, 15, 14, 0, 1, 2, 3, 4, 5, 6, 7, 8, 9, 10, 11, 12, 13] : List Nat); decide) (le_cons rfl (le_cons rfl (le_cons rfl (le_cons rfl (le_cons rfl (le_cons rfl (le_cons rfl (le_cons rfl (le_cons rfl (le_cons rfl (le_cons rfl (le_cons rfl (le_cons rfl (le_cons rfl (le_cons rfl (le_cons rfl (le_cons rfl (le_nil _)))))))))))))))))) ?_
            rcases an_c (cc B) i t with ⟨e1, e2, e3⟩ | ⟨e1, e2, e3, e4⟩ | ⟨e1, e2, e3, e4⟩
            · rw [e1]
              refine c318_n hx hf hi hT ht e3 ?_ (fun G S' hx => ?_)
              · intro _
                have k6 := (hcc.2.2.2.2 i hi).1
                have k9 := (hcc.2.2.2.2 i hi).2.2.1
                have t_4 := nI_toInt (n := cK (cc B) i) (by omega)
                have t_5 := nI_toInt (n := cR (cc B) i) (by omega)
                have l_4 : (4 : Int32).toInt = 4 := rfl
                have l_3 : (3 : Int32).toInt = 3 := rfl
                have l_5 : (5 : Int32).toInt = 5 := rfl
                simp only [i_eq] at c_291 c_297
                simp only [i_le] at c_308
                exact ⟨by omega, Or.inr (by omega)⟩
              · skip
                show bw_go _ _ _ _ _ _ _ 404 [(0, .retAddr _), (1, .ref _), (2, .ref _), (3, .int _), (4, .int _), (5, .int _), (6, .int _), (7, .int _), (8, .int _), (9, .int _), (10, .int _), (11, .ref _), (12, .int _), (13, .int _)] ([]) _ _
                refine go_iinc dL_law_404 rfl (nI_1 t) (Nat.lt_of_lt_of_le (Nat.lt_succ_self _) (Nat.le_of_ble_eq_true rfl)) ?_
                show bw_go _ _ _ _ _ _ _ 407 [(13, .int _), (0, .retAddr _), (1, .ref _), (2, .ref _), (3, .int _), (4, .int _), (5, .int _), (6, .int _), (7, .int _), (8, .int _), (9, .int _), (10, .int _), (11, .ref _), (12, .int _)] ([]) _ _
                refine go_goto (pc' := 262) dL_law_407 rfl ?_
                refine go_ls [(0, .retAddr _), (1, .ref _), (2, .ref _), (3, .int _), (4, .int _), (5, .int _), (6, .int _), (7, .int _), (8, .int _), (9, .int _), (10, .int _), (11, .ref _), (12, .int _), (13, .int _)] (by show List.Nodup ([0, 1, 2, 3, 4, 5, 6, 7, 8, 9, 10, 11, 12, 13] : List Nat); decide) (by show List.Nodup ([13, 0, 1, 2, 3, 4, 5, 6, 7, 8, 9, 10, 11, 12] : List Nat); decide) (le_cons rfl (le_cons rfl (le_cons rfl (le_cons rfl (le_cons rfl (le_cons rfl (le_cons rfl (le_cons rfl (le_cons rfl (le_cons rfl (le_cons rfl (le_cons rfl (le_cons rfl (le_cons rfl (le_nil _))))))))))))))) ?_
                exact K _ _ hx
            · rw [e1]
              refine c318_0 hx hf hi hT ht e3 e4 ?_ (fun G S' hx => ?_)
              · intro _
                have k6 := (hcc.2.2.2.2 i hi).1
                have k9 := (hcc.2.2.2.2 i hi).2.2.1
                have t_4 := nI_toInt (n := cK (cc B) i) (by omega)
                have t_5 := nI_toInt (n := cR (cc B) i) (by omega)
                have l_4 : (4 : Int32).toInt = 4 := rfl
                have l_3 : (3 : Int32).toInt = 3 := rfl
                have l_5 : (5 : Int32).toInt = 5 := rfl
                simp only [i_eq] at c_291 c_297
                simp only [i_le] at c_308
                exact ⟨by omega, Or.inr (by omega)⟩
              · skip
                show bw_go _ _ _ _ _ _ _ 404 [(0, .retAddr _), (1, .ref _), (2, .ref _), (3, .int _), (4, .int _), (5, .int _), (6, .int _), (7, .int _), (8, .int _), (9, .int _), (10, .int _), (11, .ref _), (12, .int _), (13, .int _)] ([]) _ _
                refine go_iinc dL_law_404 rfl (nI_1 t) (Nat.lt_of_lt_of_le (Nat.lt_succ_self _) (Nat.le_of_ble_eq_true rfl)) ?_
                show bw_go _ _ _ _ _ _ _ 407 [(13, .int _), (0, .retAddr _), (1, .ref _), (2, .ref _), (3, .int _), (4, .int _), (5, .int _), (6, .int _), (7, .int _), (8, .int _), (9, .int _), (10, .int _), (11, .ref _), (12, .int _)] ([]) _ _
                refine go_goto (pc' := 262) dL_law_407 rfl ?_
                refine go_ls [(0, .retAddr _), (1, .ref _), (2, .ref _), (3, .int _), (4, .int _), (5, .int _), (6, .int _), (7, .int _), (8, .int _), (9, .int _), (10, .int _), (11, .ref _), (12, .int _), (13, .int _)] (by show List.Nodup ([0, 1, 2, 3, 4, 5, 6, 7, 8, 9, 10, 11, 12, 13] : List Nat); decide) (by show List.Nodup ([13, 0, 1, 2, 3, 4, 5, 6, 7, 8, 9, 10, 11, 12] : List Nat); decide) (le_cons rfl (le_cons rfl (le_cons rfl (le_cons rfl (le_cons rfl (le_cons rfl (le_cons rfl (le_cons rfl (le_cons rfl (le_cons rfl (le_cons rfl (le_cons rfl (le_cons rfl (le_cons rfl (le_nil _))))))))))))))) ?_
                exact K _ _ hx
            · rw [e1]
              refine c318_1 hx hf hi hT ht e3 e4 ?_ (fun G S' hx => ?_)
              · intro _
                have k6 := (hcc.2.2.2.2 i hi).1
                have k9 := (hcc.2.2.2.2 i hi).2.2.1
                have t_4 := nI_toInt (n := cK (cc B) i) (by omega)
                have t_5 := nI_toInt (n := cR (cc B) i) (by omega)
                have l_4 : (4 : Int32).toInt = 4 := rfl
                have l_3 : (3 : Int32).toInt = 3 := rfl
                have l_5 : (5 : Int32).toInt = 5 := rfl
                simp only [i_eq] at c_291 c_297
                simp only [i_le] at c_308
                exact ⟨by omega, Or.inr (by omega)⟩
              · skip
                show bw_go _ _ _ _ _ _ _ 404 [(0, .retAddr _), (1, .ref _), (2, .ref _), (3, .int _), (4, .int _), (5, .int _), (6, .int _), (7, .int _), (8, .int _), (9, .int _), (10, .int _), (11, .ref _), (12, .int _), (13, .int _)] ([]) _ _
                refine go_iinc dL_law_404 rfl (nI_1 t) (Nat.lt_of_lt_of_le (Nat.lt_succ_self _) (Nat.le_of_ble_eq_true rfl)) ?_
                show bw_go _ _ _ _ _ _ _ 407 [(13, .int _), (0, .retAddr _), (1, .ref _), (2, .ref _), (3, .int _), (4, .int _), (5, .int _), (6, .int _), (7, .int _), (8, .int _), (9, .int _), (10, .int _), (11, .ref _), (12, .int _)] ([]) _ _
                refine go_goto (pc' := 262) dL_law_407 rfl ?_
                refine go_ls [(0, .retAddr _), (1, .ref _), (2, .ref _), (3, .int _), (4, .int _), (5, .int _), (6, .int _), (7, .int _), (8, .int _), (9, .int _), (10, .int _), (11, .ref _), (12, .int _), (13, .int _)] (by show List.Nodup ([0, 1, 2, 3, 4, 5, 6, 7, 8, 9, 10, 11, 12, 13] : List Nat); decide) (by show List.Nodup ([13, 0, 1, 2, 3, 4, 5, 6, 7, 8, 9, 10, 11, 12] : List Nat); decide) (le_cons rfl (le_cons rfl (le_cons rfl (le_cons rfl (le_cons rfl (le_cons rfl (le_cons rfl (le_cons rfl (le_cons rfl (le_cons rfl (le_cons rfl (le_cons rfl (le_cons rfl (le_cons rfl (le_nil _))))))))))))))) ?_
                exact K _ _ hx
  · -- behind the last
    intro g S hv
    have hx := hv
    show bw_go _ _ _ _ _ _ _ 262 [(0, .retAddr _), (1, .ref _), (2, .ref _), (3, .int _), (4, .int _), (5, .int _), (6, .int _), (7, .int _), (8, .int _), (9, .int _), (10, .int _), (11, .ref _), (12, .int _), (13, .int _)] ([]) _ _
    refine go_iload dL_law_262 rfl ?_
    refine go_bipush (6) dL_law_264 rfl ?_
    refine go_icmp_ge (pc' := 410) dL_law_266 rfl (fun c_266 => ?_) (fun c_266 => ?_)
    · -- ge at 266: yes
      refine go_ls [(0, .retAddr _), (1, .ref _), (2, .ref _), (3, .int _), (4, .int _), (5, .int _), (6, .int _), (7, .int _), (8, .int _), (9, .int _), (10, .int _), (11, .ref _), (12, .int _)] (by show List.Nodup ([0, 1, 2, 3, 4, 5, 6, 7, 8, 9, 10, 11, 12] : List Nat); decide) (by show List.Nodup ([0, 1, 2, 3, 4, 5, 6, 7, 8, 9, 10, 11, 12, 13] : List Nat); decide) (le_cons rfl (le_cons rfl (le_cons rfl (le_cons rfl (le_cons rfl (le_cons rfl (le_cons rfl (le_cons rfl (le_cons rfl (le_cons rfl (le_cons rfl (le_cons rfl (le_cons rfl (le_nil _)))))))))))))) ?_
      exact K9 _ _ hx
    · -- ge at 266: no
      exfalso; have l_7 : (nI 6).toInt = 6 := rfl; have l_0 : (6 : Int32).toInt = 6 := rfl; simp only [i_le, i_lt, i_eq, bi_eq] at c_266; omega
