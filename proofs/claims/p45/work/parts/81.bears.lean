/-! the law: each bear -/
set_option maxRecDepth 100000 in
set_option maxHeartbeats 4000000 in
theorem c228 {X : Nat × (Nat → Int32)} {Q : Option Value → bw_H → Prop} {h : bw_H} {S : ST} {W T0 : RW} {B : AC} {K0 : Nat → Option AC} {F T : Nat → Int32} {i : Nat} (hx : LX 2 75 h S (A2 F T) W T0 B K0) (hf : LF F B) (hi : i < cN (cc B)) (hT : T i = nI (tlC (cc B) i)) (K : ∀ G S', LX 2 75 G S' (A2 F T) W T0 B K0 → bw_go X 12 9 48 false (some .boolean) cL_law 259 [(0, .retAddr 1), (1, .ref (0)), (2, .ref (62)), (3, .int (nI (cN (cc B)))), (4, .int (nI (2 ^ cN (cc B) - 1))), (5, .int (nI (cT B.1))), (6, .int (nI (cD (cc B)))), (7, .int (nI (cW (cc B)))), (8, .int (nI (sho (taC (cc B)) (2 ^ cN (cc B) - 1)))), (9, .int (nI (smN (cR (cc B)) (cN (cc B))))), (10, .int (nI (smN (cR (cc B)) (i + 1)))), (11, .ref (76)), (12, .int (nI i))] [] G Q) : bw_go X 12 9 48 false (some .boolean) cL_law 228 [(0, .retAddr 1), (1, .ref (0)), (2, .ref (62)), (3, .int (nI (cN (cc B)))), (4, .int (nI (2 ^ cN (cc B) - 1))), (5, .int (nI (cT B.1))), (6, .int (nI (cD (cc B)))), (7, .int (nI (cW (cc B)))), (8, .int (nI (sho (taC (cc B)) (2 ^ cN (cc B) - 1)))), (9, .int (nI (smN (cR (cc B)) (cN (cc B))))), (10, .int (nI (smN (cR (cc B)) (i + 1)))), (11, .ref (76)), (12, .int (nI i))] [] h Q := by
  have hk := lx_k hx
  have htl := tlC_lt hk hi
  have hN := hk.1
  have hv64 := (hk.2.2.2.2 i hi).2.2.2
  have hr9 := (hk.2.2.2.2 i hi).2.2.1
  have hk6 := (hk.2.2.2.2 i hi).1
  show bw_go _ _ _ _ _ _ _ 228 [(0, .retAddr _), (1, .ref _), (2, .ref _), (3, .int _), (4, .int _), (5, .int _), (6, .int _), (7, .int _), (8, .int _), (9, .int _), (10, .int _), (11, .ref _), (12, .int _)] ([]) _ _
  refine go_aload_n dL_law_228 rfl ?_
  refine go_iload dL_law_229 rfl ?_
  refine go_iconst (0) dL_law_231 rfl ?_
  refine go_cs (as := [.ref _, .int _, .int _]) 5 dL_law_232 rfl rfl mt_9_68 (Nat.le_of_ble_eq_true rfl) rfl rfl (Nat.le_of_ble_eq_true rfl) (Nat.le_of_ble_eq_true rfl) (Nat.le_of_ble_eq_true rfl) (Nat.le_of_ble_eq_true rfl) ?_
  refine lx_told hx (w := 0) hi (by decide) (fun G S' hx => ?_)
  rw [show obf (cc B) i 0 = cK (cc B) i from rfl]
  show bw_go _ _ _ _ _ _ _ 235 [(0, .retAddr _), (1, .ref _), (2, .ref _), (3, .int _), (4, .int _), (5, .int _), (6, .int _), (7, .int _), (8, .int _), (9, .int _), (10, .int _), (11, .ref _), (12, .int _)] ((.int _) :: []) _ _
  refine go_iconst (1) dL_law_235 rfl ?_
  refine go_icmp_ne (pc' := 259) dL_law_236 rfl (fun c_236 => ?_) (fun c_236 => ?_)
  · -- ne at 236: yes
    exact K _ _ hx
  · -- ne at 236: no
    show bw_go _ _ _ _ _ _ _ 239 [(0, .retAddr _), (1, .ref _), (2, .ref _), (3, .int _), (4, .int _), (5, .int _), (6, .int _), (7, .int _), (8, .int _), (9, .int _), (10, .int _), (11, .ref _), (12, .int _)] ([]) _ _
    refine go_aload dL_law_239 rfl ?_
    refine go_iload dL_law_241 rfl ?_
    refine go_ia dL_law_243 (lb_a hx.1 (q := 76) rfl).2.1 (lb_a hx.1 (q := 76) rfl).1 (n_in (N := 6) (by omega) (by decide)) ?_
    rw [nI_clamp (by omega), (lb_a hx.1 (q := 76) rfl).2.2, hT]
    refine go_aload_n dL_law_244 rfl ?_
    refine go_bipush (20) dL_law_245 rfl ?_
    refine go_iload dL_law_247 rfl ?_
    refine go_iadd dL_law_249 ?_
    rw [show (20 : Int32) = nI 20 from rfl, nI_add]
    refine go_ia dL_law_250 (lb_a hx.1 (q := 62) rfl).2.1 (lb_a hx.1 (q := 62) rfl).1 (n_in (N := 28) (by omega) (by decide)) ?_
    rw [nI_clamp (by omega), (lb_a hx.1 (q := 62) rfl).2.2, (rk_f hf.1.2.2.2.2.2 hi).2.2.2.1, ← (hf.2.2 i hi).2]
    refine go_iconst (-1) dL_law_251 rfl ?_
    refine go_ixor dL_law_252 ?_
    refine go_iand dL_law_253 ?_
    refine go_if_eq (pc' := 259) dL_law_254 rfl (fun c_254 => ?_) (fun c_254 => ?_)
    · -- eq at 254: yes
      exact K _ _ hx
    · -- eq at 254: no
      exfalso
      have h1 : cK (cc B) i = 1 := (nI_eq (b := 1) (by omega) (by decide)).mp (Decidable.of_not_not c_236)
      refine c_254 ?_
      rw [not_n _ hv64 _ htl]
      rcases tl_1 h1 with h2 | h2
      · rw [h2, Nat.zero_and]; rfl
      · rw [h2, and_not _ hv64]; rfl
set_option maxRecDepth 100000 in
set_option maxHeartbeats 4000000 in
theorem c208 {X : Nat × (Nat → Int32)} {Q : Option Value → bw_H → Prop} {h : bw_H} {S : ST} {W T0 : RW} {B : AC} {K0 : Nat → Option AC} {F T : Nat → Int32} {i : Nat} (hx : LX 2 75 h S (A2 F T) W T0 B K0) (hf : LF F B) (hi : i < cN (cc B)) (hT : T i = nI (tlC (cc B) i)) (K : ∀ G S', LX 2 75 G S' (A2 F T) W T0 B K0 → bw_go X 12 9 48 false (some .boolean) cL_law 228 [(0, .retAddr 1), (1, .ref (0)), (2, .ref (62)), (3, .int (nI (cN (cc B)))), (4, .int (nI (2 ^ cN (cc B) - 1))), (5, .int (nI (cT B.1))), (6, .int (nI (cD (cc B)))), (7, .int (nI (cW (cc B)))), (8, .int (nI (sho (taC (cc B)) (2 ^ cN (cc B) - 1)))), (9, .int (nI (smN (cR (cc B)) (cN (cc B))))), (10, .int (nI (smN (cR (cc B)) (i + 1)))), (11, .ref (76)), (12, .int (nI i))] [] G Q) : bw_go X 12 9 48 false (some .boolean) cL_law 208 [(0, .retAddr 1), (1, .ref (0)), (2, .ref (62)), (3, .int (nI (cN (cc B)))), (4, .int (nI (2 ^ cN (cc B) - 1))), (5, .int (nI (cT B.1))), (6, .int (nI (cD (cc B)))), (7, .int (nI (cW (cc B)))), (8, .int (nI (sho (taC (cc B)) (2 ^ cN (cc B) - 1)))), (9, .int (nI (smN (cR (cc B)) (cN (cc B))))), (10, .int (nI (smN (cR (cc B)) (i + 1)))), (11, .ref (76)), (12, .int (nI i))] [] h Q := by
  have hk := lx_k hx
  have htl := tlC_lt hk hi
  have hN := hk.1
  have hv64 := (hk.2.2.2.2 i hi).2.2.2
  have hr9 := (hk.2.2.2.2 i hi).2.2.1
  have hk6 := (hk.2.2.2.2 i hi).1
  show bw_go _ _ _ _ _ _ _ 208 [(0, .retAddr _), (1, .ref _), (2, .ref _), (3, .int _), (4, .int _), (5, .int _), (6, .int _), (7, .int _), (8, .int _), (9, .int _), (10, .int _), (11, .ref _), (12, .int _)] ([]) _ _
  refine go_aload_n dL_law_208 rfl ?_
  refine go_iload dL_law_209 rfl ?_
  refine go_iconst (2) dL_law_211 rfl ?_
  refine go_cs (as := [.ref _, .int _, .int _]) 5 dL_law_212 rfl rfl mt_9_68 (Nat.le_of_ble_eq_true rfl) rfl rfl (Nat.le_of_ble_eq_true rfl) (Nat.le_of_ble_eq_true rfl) (Nat.le_of_ble_eq_true rfl) (Nat.le_of_ble_eq_true rfl) ?_
  refine lx_told hx (w := 2) hi (by decide) (fun G S' hx => ?_)
  rw [show obf (cc B) i 2 = cR (cc B) i from rfl]
  show bw_go _ _ _ _ _ _ _ 215 [(0, .retAddr _), (1, .ref _), (2, .ref _), (3, .int _), (4, .int _), (5, .int _), (6, .int _), (7, .int _), (8, .int _), (9, .int _), (10, .int _), (11, .ref _), (12, .int _)] ((.int _) :: []) _ _
  refine go_bipush (8) dL_law_215 rfl ?_
  refine go_icmp_le (pc' := 228) dL_law_217 rfl (fun c_217 => ?_) (fun c_217 => ?_)
  · -- le at 217: yes
    exact K _ _ hx
  · -- le at 217: no
    show bw_go _ _ _ _ _ _ _ 220 [(0, .retAddr _), (1, .ref _), (2, .ref _), (3, .int _), (4, .int _), (5, .int _), (6, .int _), (7, .int _), (8, .int _), (9, .int _), (10, .int _), (11, .ref _), (12, .int _)] ([]) _ _
    refine go_aload dL_law_220 rfl ?_
    refine go_iload dL_law_222 rfl ?_
    refine go_ia dL_law_224 (lb_a hx.1 (q := 76) rfl).2.1 (lb_a hx.1 (q := 76) rfl).1 (n_in (N := 6) (by omega) (by decide)) ?_
    rw [nI_clamp (by omega), (lb_a hx.1 (q := 76) rfl).2.2, hT]
    refine go_if_ne (pc' := 257) dL_law_225 rfl (fun c_225 => ?_) (fun c_225 => ?_)
    · -- ne at 225: yes
      exfalso
      have t_5 := nI_toInt (n := cR (cc B) i) (by omega)
      have l_8 : (8 : Int32).toInt = 8 := rfl
      simp only [i_le] at c_217
      refine c_225 ?_
      rw [tl_9 (by omega)]; rfl
    · -- ne at 225: no
      exact K _ _ hx
set_option maxRecDepth 100000 in
set_option maxHeartbeats 4000000 in
theorem law_C {X : Nat × (Nat → Int32)} {Q : Option Value → bw_H → Prop} {h : bw_H} {S : ST} {W T0 : RW} {B : AC} {K0 : Nat → Option AC} {F T : Nat → Int32} (hx : LX 2 75 h S (A2 F T) W T0 B K0) (hf : LF F B) (K9 : ∀ G S' T, LX 2 75 G S' (A2 F T) W T0 B K0 → (∀ j, j < cN (cc B) → T j = nI (tlC (cc B) j)) → bw_go X 12 9 48 false (some .boolean) cL_law 416 [(0, .retAddr 1), (1, .ref (0)), (2, .ref (62)), (3, .int (nI (cN (cc B)))), (4, .int (nI (2 ^ cN (cc B) - 1))), (5, .int (nI (cT B.1))), (6, .int (nI (cD (cc B)))), (7, .int (nI (cW (cc B)))), (8, .int (nI (sho (taC (cc B)) (2 ^ cN (cc B) - 1)))), (9, .int (nI (smN (cR (cc B)) (cN (cc B))))), (11, .ref (76)), (10, .int (nI (smN (cR (cc B)) (cN (cc B)))))] [] G Q) : bw_go X 12 9 48 false (some .boolean) cL_law 142 [(0, .retAddr 1), (1, .ref (0)), (2, .ref (62)), (3, .int (nI (cN (cc B)))), (4, .int (nI (2 ^ cN (cc B) - 1))), (5, .int (nI (cT B.1))), (6, .int (nI (cD (cc B)))), (7, .int (nI (cW (cc B)))), (8, .int (nI (sho (taC (cc B)) (2 ^ cN (cc B) - 1)))), (9, .int (nI (smN (cR (cc B)) (cN (cc B))))), (10, .int (0)), (11, .ref (76)), (12, .int (0))] [] h Q := by
  have hk := lx_k hx
  have hN := hk.1
  refine go_for (P := fun i => ∀ (g : bw_H) (S : ST) (T : Nat → Int32), (LX 2 75 g S (A2 F T) W T0 B K0 ∧ ∀ j, j < i → T j = nI (tlC (cc B) j)) → bw_go X 12 9 48 false (some .boolean) cL_law 142 [(0, .retAddr 1), (1, .ref (0)), (2, .ref (62)), (3, .int (nI (cN (cc B)))), (4, .int (nI (2 ^ cN (cc B) - 1))), (5, .int (nI (cT B.1))), (6, .int (nI (cD (cc B)))), (7, .int (nI (cW (cc B)))), (8, .int (nI (sho (taC (cc B)) (2 ^ cN (cc B) - 1)))), (9, .int (nI (smN (cR (cc B)) (cN (cc B))))), (10, .int (nI (smN (cR (cc B)) i))), (11, .ref (76)), (12, .int (nI i))] [] g Q) (N := (cN (cc B))) (fun i hi K => ?_) ?_ (0) (Nat.zero_le _) _ _ _ ⟨hx, fun j hj => absurd hj (Nat.not_lt_zero j)⟩
  · -- a turn
    intro g S T hv
    obtain ⟨hx, hT⟩ := hv
    show bw_go _ _ _ _ _ _ _ 142 [(0, .retAddr _), (1, .ref _), (2, .ref _), (3, .int _), (4, .int _), (5, .int _), (6, .int _), (7, .int _), (8, .int _), (9, .int _), (10, .int _), (11, .ref _), (12, .int _)] ([]) _ _
    refine go_iload dL_law_142 rfl ?_
    refine go_iload_n dL_law_144 rfl ?_
    refine go_icmp_ge (pc' := 416) dL_law_145 rfl (fun c_145 => ?_) (fun c_145 => ?_)
    · -- ge at 145: yes
      exfalso; have t_0 := nI_toInt (n := i) (by omega); have t_1 := nI_toInt (n := cN (cc B)) (by omega); simp only [i_le, i_lt, i_eq, bi_eq] at c_145; omega
    · -- ge at 145: no
      show bw_go _ _ _ _ _ _ _ 148 [(0, .retAddr _), (1, .ref _), (2, .ref _), (3, .int _), (4, .int _), (5, .int _), (6, .int _), (7, .int _), (8, .int _), (9, .int _), (10, .int _), (11, .ref _), (12, .int _)] ([]) _ _
      refine go_aload dL_law_148 rfl ?_
      refine go_iload dL_law_150 rfl ?_
      refine go_aload_n dL_law_152 rfl ?_
      refine go_iload dL_law_153 rfl ?_
      refine go_iconst (5) dL_law_155 rfl ?_
      refine go_cs (as := [.ref _, .int _, .int _]) 5 dL_law_156 rfl rfl mt_9_68 (Nat.le_of_ble_eq_true rfl) rfl rfl (Nat.le_of_ble_eq_true rfl) (Nat.le_of_ble_eq_true rfl) (Nat.le_of_ble_eq_true rfl) (Nat.le_of_ble_eq_true rfl) ?_
      refine lx_told hx (w := 5) hi (by decide) (fun G S' hx => ?_)
      rw [show obf (cc B) i 5 = tlC (cc B) i from rfl]
      show bw_go _ _ _ _ _ _ _ 159 [(0, .retAddr _), (1, .ref _), (2, .ref _), (3, .int _), (4, .int _), (5, .int _), (6, .int _), (7, .int _), (8, .int _), (9, .int _), (10, .int _), (11, .ref _), (12, .int _)] ((.int _) :: (.int _) :: (.ref _) :: []) _ _
      refine go_ist dL_law_159 (lb_a hx.1 (q := 76) rfl).2.1 (lb_a hx.1 (q := 76) rfl).1 (n_in (N := 6) (by omega) (by decide)) ?_
      show bw_go _ _ _ _ _ _ _ 160 [(0, .retAddr _), (1, .ref _), (2, .ref _), (3, .int _), (4, .int _), (5, .int _), (6, .int _), (7, .int _), (8, .int _), (9, .int _), (10, .int _), (11, .ref _), (12, .int _)] ([]) _ _
      rw [nI_clamp (by omega)]
      refine go_lx (lx_si76 hx) (fun H hx => ?_)
      refine go_iload dL_law_160 rfl ?_
      refine go_aload_n dL_law_162 rfl ?_
      refine go_iload dL_law_163 rfl ?_
      refine go_iconst (2) dL_law_165 rfl ?_
      refine go_cs (as := [.ref _, .int _, .int _]) 5 dL_law_166 rfl rfl mt_9_68 (Nat.le_of_ble_eq_true rfl) rfl rfl (Nat.le_of_ble_eq_true rfl) (Nat.le_of_ble_eq_true rfl) (Nat.le_of_ble_eq_true rfl) (Nat.le_of_ble_eq_true rfl) ?_
      refine lx_told hx (w := 2) hi (by decide) (fun G S' hx => ?_)
      rw [show obf (cc B) i 2 = cR (cc B) i from rfl]
      show bw_go _ _ _ _ _ _ _ 169 [(0, .retAddr _), (1, .ref _), (2, .ref _), (3, .int _), (4, .int _), (5, .int _), (6, .int _), (7, .int _), (8, .int _), (9, .int _), (10, .int _), (11, .ref _), (12, .int _)] ((.int _) :: (.int _) :: []) _ _
      refine go_iadd dL_law_169 ?_
      rw [nI_add, show smN (cR (cc B)) i + cR (cc B) i = smN (cR (cc B)) (i + 1) from rfl]
      refine go_istore dL_law_170 (Nat.lt_of_lt_of_le (Nat.lt_succ_self _) (Nat.le_of_ble_eq_true rfl)) ?_
      show bw_go _ _ _ _ _ _ _ 172 [(10, .int _), (0, .retAddr _), (1, .ref _), (2, .ref _), (3, .int _), (4, .int _), (5, .int _), (6, .int _), (7, .int _), (8, .int _), (9, .int _), (11, .ref _), (12, .int _)] ([]) _ _
      refine go_aload_n dL_law_172 rfl ?_
      refine go_iload dL_law_173 rfl ?_
      refine go_iconst (4) dL_law_175 rfl ?_
      refine go_cs (as := [.ref _, .int _, .int _]) 5 dL_law_176 rfl rfl mt_9_68 (Nat.le_of_ble_eq_true rfl) rfl rfl (Nat.le_of_ble_eq_true rfl) (Nat.le_of_ble_eq_true rfl) (Nat.le_of_ble_eq_true rfl) (Nat.le_of_ble_eq_true rfl) ?_
      refine lx_told hx (w := 4) hi (by decide) (fun G S' hx => ?_)
      rw [show obf (cc B) i 4 = (if (cW (cc B)).testBit i = true then 1 else 0) from rfl]
      show bw_go _ _ _ _ _ _ _ 179 [(10, .int _), (0, .retAddr _), (1, .ref _), (2, .ref _), (3, .int _), (4, .int _), (5, .int _), (6, .int _), (7, .int _), (8, .int _), (9, .int _), (11, .ref _), (12, .int _)] ((.int _) :: []) _ _
      refine go_iload dL_law_179 rfl ?_
      refine go_iload dL_law_181 rfl ?_
      refine go_ishr dL_law_183 ?_
      refine go_iconst (1) dL_law_184 rfl ?_
      refine go_iand dL_law_185 ?_
      rw [bit_t _ hk.2.2.1 i (by omega)]
      refine go_icmp_ne (pc' := 257) dL_law_186 rfl (fun c_186 => ?_) (fun c_186 => ?_)
      · -- ne at 186: yes
        exact absurd rfl c_186
      · -- ne at 186: no
        show bw_go _ _ _ _ _ _ _ 189 [(10, .int _), (0, .retAddr _), (1, .ref _), (2, .ref _), (3, .int _), (4, .int _), (5, .int _), (6, .int _), (7, .int _), (8, .int _), (9, .int _), (11, .ref _), (12, .int _)] ([]) _ _
        refine go_iload dL_law_189 rfl ?_
        refine go_iload dL_law_191 rfl ?_
        refine go_ishr dL_law_193 ?_
        refine go_iconst (1) dL_law_194 rfl ?_
        refine go_iand dL_law_195 ?_
        refine go_iconst (1) dL_law_196 rfl ?_
        rw [bit_t _ hk.2.2.1 i (by omega)]
        refine go_icmp_ne (pc' := 208) dL_law_197 rfl (fun c_197 => ?_) (fun c_197 => ?_)
        · -- ne at 197: yes
          refine go_ls [(0, .retAddr _), (1, .ref _), (2, .ref _), (3, .int _), (4, .int _), (5, .int _), (6, .int _), (7, .int _), (8, .int _), (9, .int _), (10, .int _), (11, .ref _), (12, .int _)] (by show List.Nodup ([0, 1, 2, 3, 4, 5, 6, 7, 8, 9, 10, 11, 12] : List Nat); decide) (by show List.Nodup ([10, 0, 1, 2, 3, 4, 5, 6, 7, 8, 9, 11, 12] : List Nat); decide) (le_cons rfl (le_cons rfl (le_cons rfl (le_cons rfl (le_cons rfl (le_cons rfl (le_cons rfl (le_cons rfl (le_cons rfl (le_cons rfl (le_cons rfl (le_cons rfl (le_cons rfl (le_nil _)))))))))))))) ?_
          have hTi : bw_up T i (nI (tlC (cc B) i)) i = nI (tlC (cc B) i) := bw_up_s _ _ _
          refine c208 hx hf hi hTi (fun G S' hx => ?_)
          refine c228 hx hf hi hTi (fun G S' hx => ?_)
          refine c259 hx hf hi hTi (fun G S' hx => ?_)
          show bw_go _ _ _ _ _ _ _ 410 [(0, .retAddr _), (1, .ref _), (2, .ref _), (3, .int _), (4, .int _), (5, .int _), (6, .int _), (7, .int _), (8, .int _), (9, .int _), (10, .int _), (11, .ref _), (12, .int _)] ([]) _ _
          refine go_iinc dL_law_410 rfl (nI_1 i) (Nat.lt_of_lt_of_le (Nat.lt_succ_self _) (Nat.le_of_ble_eq_true rfl)) ?_
          show bw_go _ _ _ _ _ _ _ 413 [(12, .int _), (0, .retAddr _), (1, .ref _), (2, .ref _), (3, .int _), (4, .int _), (5, .int _), (6, .int _), (7, .int _), (8, .int _), (9, .int _), (10, .int _), (11, .ref _)] ([]) _ _
          refine go_goto (pc' := 142) dL_law_413 rfl ?_
          refine go_ls [(0, .retAddr _), (1, .ref _), (2, .ref _), (3, .int _), (4, .int _), (5, .int _), (6, .int _), (7, .int _), (8, .int _), (9, .int _), (10, .int _), (11, .ref _), (12, .int _)] (by show List.Nodup ([0, 1, 2, 3, 4, 5, 6, 7, 8, 9, 10, 11, 12] : List Nat); decide) (by show List.Nodup ([12, 0, 1, 2, 3, 4, 5, 6, 7, 8, 9, 10, 11] : List Nat); decide) (le_cons rfl (le_cons rfl (le_cons rfl (le_cons rfl (le_cons rfl (le_cons rfl (le_cons rfl (le_cons rfl (le_cons rfl (le_cons rfl (le_cons rfl (le_cons rfl (le_cons rfl (le_nil _)))))))))))))) ?_
          refine K _ _ (bw_up T i (nI (tlC (cc B) i))) ⟨hx, fun j hj => ?_⟩
          by_cases e : j = i
          · subst e; exact bw_up_s _ _ _
          · rw [bw_up_o e]; exact hT j (by omega)
        · -- ne at 197: no
          show bw_go _ _ _ _ _ _ _ 200 [(10, .int _), (0, .retAddr _), (1, .ref _), (2, .ref _), (3, .int _), (4, .int _), (5, .int _), (6, .int _), (7, .int _), (8, .int _), (9, .int _), (11, .ref _), (12, .int _)] ([]) _ _
          refine go_aload dL_law_200 rfl ?_
          refine go_iload dL_law_202 rfl ?_
          refine go_ia dL_law_204 (lb_a hx.1 (q := 76) rfl).2.1 (lb_a hx.1 (q := 76) rfl).1 (n_in (N := 6) (by omega) (by decide)) ?_
          rw [nI_clamp (by omega), (lb_a hx.1 (q := 76) rfl).2.2, bw_up_s]
          refine go_if_ne (pc' := 257) dL_law_205 rfl (fun c_205 => ?_) (fun c_205 => ?_)
          · -- ne at 205: yes
            exfalso
            refine c_205 ?_
            have hb : (cW (cc B)).testBit i = true := by
              cases hh : (cW (cc B)).testBit i with
              | true => rfl
              | false => rw [hh] at c_197; exact absurd (show nI (if false = true then 1 else 0) ≠ 1 by decide) c_197
            rw [tl_wall hb]; rfl
          · -- ne at 205: no
            refine go_ls [(0, .retAddr _), (1, .ref _), (2, .ref _), (3, .int _), (4, .int _), (5, .int _), (6, .int _), (7, .int _), (8, .int _), (9, .int _), (10, .int _), (11, .ref _), (12, .int _)] (by show List.Nodup ([0, 1, 2, 3, 4, 5, 6, 7, 8, 9, 10, 11, 12] : List Nat); decide) (by show List.Nodup ([10, 0, 1, 2, 3, 4, 5, 6, 7, 8, 9, 11, 12] : List Nat); decide) (le_cons rfl (le_cons rfl (le_cons rfl (le_cons rfl (le_cons rfl (le_cons rfl (le_cons rfl (le_cons rfl (le_cons rfl (le_cons rfl (le_cons rfl (le_cons rfl (le_cons rfl (le_nil _)))))))))))))) ?_
            have hTi : bw_up T i (nI (tlC (cc B) i)) i = nI (tlC (cc B) i) := bw_up_s _ _ _
            refine c208 hx hf hi hTi (fun G S' hx => ?_)
            refine c228 hx hf hi hTi (fun G S' hx => ?_)
            refine c259 hx hf hi hTi (fun G S' hx => ?_)
            show bw_go _ _ _ _ _ _ _ 410 [(0, .retAddr _), (1, .ref _), (2, .ref _), (3, .int _), (4, .int _), (5, .int _), (6, .int _), (7, .int _), (8, .int _), (9, .int _), (10, .int _), (11, .ref _), (12, .int _)] ([]) _ _
            refine go_iinc dL_law_410 rfl (nI_1 i) (Nat.lt_of_lt_of_le (Nat.lt_succ_self _) (Nat.le_of_ble_eq_true rfl)) ?_
            show bw_go _ _ _ _ _ _ _ 413 [(12, .int _), (0, .retAddr _), (1, .ref _), (2, .ref _), (3, .int _), (4, .int _), (5, .int _), (6, .int _), (7, .int _), (8, .int _), (9, .int _), (10, .int _), (11, .ref _)] ([]) _ _
            refine go_goto (pc' := 142) dL_law_413 rfl ?_
            refine go_ls [(0, .retAddr _), (1, .ref _), (2, .ref _), (3, .int _), (4, .int _), (5, .int _), (6, .int _), (7, .int _), (8, .int _), (9, .int _), (10, .int _), (11, .ref _), (12, .int _)] (by show List.Nodup ([0, 1, 2, 3, 4, 5, 6, 7, 8, 9, 10, 11, 12] : List Nat); decide) (by show List.Nodup ([12, 0, 1, 2, 3, 4, 5, 6, 7, 8, 9, 10, 11] : List Nat); decide) (le_cons rfl (le_cons rfl (le_cons rfl (le_cons rfl (le_cons rfl (le_cons rfl (le_cons rfl (le_cons rfl (le_cons rfl (le_cons rfl (le_cons rfl (le_cons rfl (le_cons rfl (le_nil _)))))))))))))) ?_
            refine K _ _ (bw_up T i (nI (tlC (cc B) i))) ⟨hx, fun j hj => ?_⟩
            by_cases e : j = i
            · subst e; exact bw_up_s _ _ _
            · rw [bw_up_o e]; exact hT j (by omega)
  · -- behind the last
    intro g S T hv
    obtain ⟨hx, hT⟩ := hv
    show bw_go _ _ _ _ _ _ _ 142 [(0, .retAddr _), (1, .ref _), (2, .ref _), (3, .int _), (4, .int _), (5, .int _), (6, .int _), (7, .int _), (8, .int _), (9, .int _), (10, .int _), (11, .ref _), (12, .int _)] ([]) _ _
    refine go_iload dL_law_142 rfl ?_
    refine go_iload_n dL_law_144 rfl ?_
    refine go_icmp_ge (pc' := 416) dL_law_145 rfl (fun c_145 => ?_) (fun c_145 => ?_)
    · -- ge at 145: yes
      refine go_ls [(0, .retAddr _), (1, .ref _), (2, .ref _), (3, .int _), (4, .int _), (5, .int _), (6, .int _), (7, .int _), (8, .int _), (9, .int _), (11, .ref _), (10, .int _)] (by show List.Nodup ([0, 1, 2, 3, 4, 5, 6, 7, 8, 9, 11, 10] : List Nat); decide) (by show List.Nodup ([0, 1, 2, 3, 4, 5, 6, 7, 8, 9, 10, 11, 12] : List Nat); decide) (le_cons rfl (le_cons rfl (le_cons rfl (le_cons rfl (le_cons rfl (le_cons rfl (le_cons rfl (le_cons rfl (le_cons rfl (le_cons rfl (le_cons rfl (le_cons rfl (le_nil _))))))))))))) ?_
      exact K9 _ _ _ hx hT
    · -- ge at 145: no
      exfalso; have t_0 := nI_toInt (n := cN (cc B)) (by omega); simp only [i_le, i_lt, i_eq, bi_eq] at c_145; omega
