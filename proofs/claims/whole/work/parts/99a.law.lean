/-! the law: both machines, one script -/
theorem pot_frX {h g : bw_H} (hf : frX h g) : bw_n g + 13 * pot g = bw_n h + 13 * pot h := by
  unfold pot pot1
  rw [hf.1.1, hf.1.2.2]
theorem pot_3 (h : bw_H) : pot h ≤ 3 := by
  have p1 : ∀ k, pot1 h k ≤ 1 := fun k => by unfold pot1; split <;> omega
  have a := p1 0
  have b := p1 1
  have c := p1 2
  unfold pot
  omega
theorem and63 (x : Int32) : ∃ w, w < 64 ∧ x &&& 63 = nI w := by
  refine ⟨(x.toBitVec &&& 63#32).toNat, ?_, ?_⟩
  · rw [BitVec.toNat_and]
    exact Nat.lt_succ_of_le Nat.and_le_right
  · apply Int32.toBitVec_inj.mp
    show x.toBitVec &&& 63#32 = BitVec.ofNat 32 (x.toBitVec &&& 63#32).toNat
    rw [BitVec.ofNat_toNat, BitVec.setWidth_eq]
theorem hb_n {i c L : Nat} (hi : 6 * i + 6 ≤ L) (hL : L ≤ 3072) (hc : c < 6) : 0 ≤ (nI (6 * i) + nI c).toInt ∧ (nI (6 * i) + nI c).toInt < L := by
  rw [nI_add]; exact n_in (by omega) (by omega)
set_option maxRecDepth 100000 in
set_option maxHeartbeats 4000000 in
theorem law_c0 {X : Nat × (Nat → Int32)} {Q : Option Value → bw_H → Prop} {h : bw_H} {S : ST} {i : Nat} (hx : XR h S) (hm : MR h S) (hr : bw_n h + 13 * pot h ≤ 117) (hi : 6 * i + 6 ≤ X.1) (hL : X.1 ≤ 3072) (K : ∀ g S', XR g S' → MR g S' → bw_n g + 13 * pot g ≤ 117 → bw_go X 10 9 4 false (some .boolean) cL_law 1335 [(3, .int (nI (6 * i))), (2, .ref 60), (1, .ref 0), (0, .retAddr 1)] [] g Q) : bw_go X 10 9 4 false (some .boolean) cL_law 216 [(3, .int (nI (6 * i))), (2, .ref 60), (1, .ref 0), (0, .retAddr 1)] [] h Q := by
  show bw_go _ _ _ _ _ _ _ 216 [(3, .int _), (2, .ref _), (1, .ref _), (0, .retAddr _)] ([]) _ _
  refine go_aload_n dL_law_216 rfl ?_
  refine go_aloadA_n dL_law_217 rfl ?_
  refine go_iload_n dL_law_218 rfl ?_
  refine go_iconst (1) dL_law_219 rfl ?_
  refine go_iadd dL_law_220 ?_
  refine go_ia1 dL_law_221 (hb_n (c := 1) hi hL (by decide)) ?_
  refine go_aloadA_n dL_law_222 rfl ?_
  refine go_iload_n dL_law_223 rfl ?_
  refine go_iconst (2) dL_law_224 rfl ?_
  refine go_iadd dL_law_225 ?_
  refine go_ia1 dL_law_226 (hb_n (c := 2) hi hL (by decide)) ?_
  refine go_cv (as := [.int _, .int _]) 2 dL_law_227 mt_9_13 (Or.inl rfl) rfl rfl hx.1.1.1 hx.1.1.2.1 (Nat.le_of_ble_eq_true rfl) (Nat.le_of_ble_eq_true rfl) (Nat.le_of_ble_eq_true rfl) (Nat.le_of_ble_eq_true rfl) (Nat.le_of_ble_eq_true rfl) ?_
  refine me_X7_row hx (fun g hg hf => ?_)
  have hm1 := mr_frM hm hf
  show bw_go _ _ _ _ _ _ _ 230 [(3, .int _), (2, .ref _), (1, .ref _), (0, .retAddr _)] ((.int _) :: []) _ _
  refine go_aload_n dL_law_230 rfl ?_
  refine go_aloadA_n dL_law_231 rfl ?_
  refine go_iload_n dL_law_232 rfl ?_
  refine go_iconst (1) dL_law_233 rfl ?_
  refine go_iadd dL_law_234 ?_
  refine go_ia1 dL_law_235 (hb_n (c := 1) hi hL (by decide)) ?_
  refine go_aloadA_n dL_law_236 rfl ?_
  refine go_iload_n dL_law_237 rfl ?_
  refine go_iconst (2) dL_law_238 rfl ?_
  refine go_iadd dL_law_239 ?_
  refine go_ia1 dL_law_240 (hb_n (c := 2) hi hL (by decide)) ?_
  refine go_cv (as := [.int _, .int _]) 2 dL_law_241 mt_9_17 (Or.inl rfl) rfl rfl (ms_lt hm1.1 (by decide)) hm1.1.1.2 (Nat.le_of_ble_eq_true rfl) (Nat.le_of_ble_eq_true rfl) (Nat.le_of_ble_eq_true rfl) (Nat.le_of_ble_eq_true rfl) (Nat.le_of_ble_eq_true rfl) ?_
  refine me_X8_row hm1 (fun g2 hg2 hf2 => ?_)
  show bw_go _ _ _ _ _ _ _ 244 [(3, .int _), (2, .ref _), (1, .ref _), (0, .retAddr _)] ((.int _) :: (.int _) :: []) _ _
  refine go_icmp_eq (pc' := 1335) dL_law_244 rfl (fun c_244 => ?_) (fun c_244 => ?_)
  · -- eq at 244: yes
    have q1 := pot_frX hf2
    have q2 := hf.1.2
    exact K g2 _ (xr_frX hg hf2) hg2 (by omega)
  · -- eq at 244: no
    show bw_go _ _ _ _ _ _ _ 247 [(3, .int _), (2, .ref _), (1, .ref _), (0, .retAddr _)] ([]) _ _
    refine go_iconst (0) dL_law_247 rfl ?_
    refine go_iret dL_law_248 rfl rfl ?_
    exact absurd rfl c_244
set_option maxRecDepth 100000 in
set_option maxHeartbeats 4000000 in
theorem law_c1 {X : Nat × (Nat → Int32)} {Q : Option Value → bw_H → Prop} {h : bw_H} {S : ST} {i : Nat} (hx : XR h S) (hm : MR h S) (hr : bw_n h + 13 * pot h ≤ 117) (hi : 6 * i + 6 ≤ X.1) (hL : X.1 ≤ 3072) (K : ∀ g S', XR g S' → MR g S' → bw_n g + 13 * pot g ≤ 117 → bw_go X 10 9 4 false (some .boolean) cL_law 1335 [(3, .int (nI (6 * i))), (2, .ref 60), (1, .ref 0), (0, .retAddr 1)] [] g Q) : bw_go X 10 9 4 false (some .boolean) cL_law 249 [(3, .int (nI (6 * i))), (2, .ref 60), (1, .ref 0), (0, .retAddr 1)] [] h Q := by
  show bw_go _ _ _ _ _ _ _ 249 [(3, .int _), (2, .ref _), (1, .ref _), (0, .retAddr _)] ([]) _ _
  refine go_aload_n dL_law_249 rfl ?_
  refine go_aloadA_n dL_law_250 rfl ?_
  refine go_iload_n dL_law_251 rfl ?_
  refine go_iconst (1) dL_law_252 rfl ?_
  refine go_iadd dL_law_253 ?_
  refine go_ia1 dL_law_254 (hb_n (c := 1) hi hL (by decide)) ?_
  refine go_aloadA_n dL_law_255 rfl ?_
  refine go_iload_n dL_law_256 rfl ?_
  refine go_iconst (2) dL_law_257 rfl ?_
  refine go_iadd dL_law_258 ?_
  refine go_ia1 dL_law_259 (hb_n (c := 2) hi hL (by decide)) ?_
  refine go_aloadA_n dL_law_260 rfl ?_
  refine go_iload_n dL_law_261 rfl ?_
  refine go_iconst (3) dL_law_262 rfl ?_
  refine go_iadd dL_law_263 ?_
  refine go_ia1 dL_law_264 (hb_n (c := 3) hi hL (by decide)) ?_
  refine go_cv (as := [.int _, .int _, .int _]) 4 dL_law_265 mt_9_18 (Or.inl rfl) rfl rfl hx.1.1.1 hx.1.1.2.1 (Nat.le_of_ble_eq_true rfl) (Nat.le_of_ble_eq_true rfl) (Nat.le_of_ble_eq_true rfl) (Nat.le_of_ble_eq_true rfl) (Nat.le_of_ble_eq_true rfl) ?_
  refine me_X7_lay hx (fun g hg hf => ?_)
  have hm1 := mr_frM hm hf
  show bw_go _ _ _ _ _ _ _ 268 [(3, .int _), (2, .ref _), (1, .ref _), (0, .retAddr _)] ((.int _) :: []) _ _
  refine go_aload_n dL_law_268 rfl ?_
  refine go_aloadA_n dL_law_269 rfl ?_
  refine go_iload_n dL_law_270 rfl ?_
  refine go_iconst (1) dL_law_271 rfl ?_
  refine go_iadd dL_law_272 ?_
  refine go_ia1 dL_law_273 (hb_n (c := 1) hi hL (by decide)) ?_
  refine go_aloadA_n dL_law_274 rfl ?_
  refine go_iload_n dL_law_275 rfl ?_
  refine go_iconst (2) dL_law_276 rfl ?_
  refine go_iadd dL_law_277 ?_
  refine go_ia1 dL_law_278 (hb_n (c := 2) hi hL (by decide)) ?_
  refine go_aloadA_n dL_law_279 rfl ?_
  refine go_iload_n dL_law_280 rfl ?_
  refine go_iconst (3) dL_law_281 rfl ?_
  refine go_iadd dL_law_282 ?_
  refine go_ia1 dL_law_283 (hb_n (c := 3) hi hL (by decide)) ?_
  refine go_cv (as := [.int _, .int _, .int _]) 3 dL_law_284 mt_9_22 (Or.inl rfl) rfl rfl (ms_lt hm1.1 (by decide)) hm1.1.1.2 (Nat.le_of_ble_eq_true rfl) (Nat.le_of_ble_eq_true rfl) (Nat.le_of_ble_eq_true rfl) (Nat.le_of_ble_eq_true rfl) (Nat.le_of_ble_eq_true rfl) ?_
  refine me_X8_lay hm1 (fun g2 hg2 hf2 => ?_)
  show bw_go _ _ _ _ _ _ _ 287 [(3, .int _), (2, .ref _), (1, .ref _), (0, .retAddr _)] ((.int _) :: (.int _) :: []) _ _
  refine go_icmp_eq (pc' := 1335) dL_law_287 rfl (fun c_287 => ?_) (fun c_287 => ?_)
  · -- eq at 287: yes
    have q1 := pot_frX hf2
    have q2 := hf.1.2
    exact K g2 _ (xr_frX hg hf2) hg2 (by omega)
  · -- eq at 287: no
    show bw_go _ _ _ _ _ _ _ 290 [(3, .int _), (2, .ref _), (1, .ref _), (0, .retAddr _)] ([]) _ _
    refine go_iconst (0) dL_law_290 rfl ?_
    refine go_iret dL_law_291 rfl rfl ?_
    exact absurd rfl c_287
set_option maxRecDepth 100000 in
set_option maxHeartbeats 4000000 in
theorem law_c2 {X : Nat × (Nat → Int32)} {Q : Option Value → bw_H → Prop} {h : bw_H} {S : ST} {i : Nat} (hx : XR h S) (hm : MR h S) (hr : bw_n h + 13 * pot h ≤ 117) (hi : 6 * i + 6 ≤ X.1) (hL : X.1 ≤ 3072) (K : ∀ g S', XR g S' → MR g S' → bw_n g + 13 * pot g ≤ 117 → bw_go X 10 9 4 false (some .boolean) cL_law 1335 [(3, .int (nI (6 * i))), (2, .ref 60), (1, .ref 0), (0, .retAddr 1)] [] g Q) : bw_go X 10 9 4 false (some .boolean) cL_law 292 [(3, .int (nI (6 * i))), (2, .ref 60), (1, .ref 0), (0, .retAddr 1)] [] h Q := by
  show bw_go _ _ _ _ _ _ _ 292 [(3, .int _), (2, .ref _), (1, .ref _), (0, .retAddr _)] ([]) _ _
  refine go_aload_n dL_law_292 rfl ?_
  refine go_aloadA_n dL_law_293 rfl ?_
  refine go_iload_n dL_law_294 rfl ?_
  refine go_iconst (1) dL_law_295 rfl ?_
  refine go_iadd dL_law_296 ?_
  refine go_ia1 dL_law_297 (hb_n (c := 1) hi hL (by decide)) ?_
  refine go_aloadA_n dL_law_298 rfl ?_
  refine go_iload_n dL_law_299 rfl ?_
  refine go_iconst (2) dL_law_300 rfl ?_
  refine go_iadd dL_law_301 ?_
  refine go_ia1 dL_law_302 (hb_n (c := 2) hi hL (by decide)) ?_
  refine go_cv (as := [.int _, .int _]) 4 dL_law_303 mt_9_23 (Or.inl rfl) rfl rfl hx.1.1.1 hx.1.1.2.1 (Nat.le_of_ble_eq_true rfl) (Nat.le_of_ble_eq_true rfl) (Nat.le_of_ble_eq_true rfl) (Nat.le_of_ble_eq_true rfl) (Nat.le_of_ble_eq_true rfl) ?_
  refine me_X7_at hx (fun g hg hf => ?_)
  have hm1 := mr_frM hm hf
  show bw_go _ _ _ _ _ _ _ 306 [(3, .int _), (2, .ref _), (1, .ref _), (0, .retAddr _)] ((.int _) :: []) _ _
  refine go_aload_n dL_law_306 rfl ?_
  refine go_aloadA_n dL_law_307 rfl ?_
  refine go_iload_n dL_law_308 rfl ?_
  refine go_iconst (1) dL_law_309 rfl ?_
  refine go_iadd dL_law_310 ?_
  refine go_ia1 dL_law_311 (hb_n (c := 1) hi hL (by decide)) ?_
  refine go_aloadA_n dL_law_312 rfl ?_
  refine go_iload_n dL_law_313 rfl ?_
  refine go_iconst (2) dL_law_314 rfl ?_
  refine go_iadd dL_law_315 ?_
  refine go_ia1 dL_law_316 (hb_n (c := 2) hi hL (by decide)) ?_
  refine go_cv (as := [.int _, .int _]) 2 dL_law_317 mt_9_26 (Or.inl rfl) rfl rfl (ms_lt hm1.1 (by decide)) hm1.1.1.2 (Nat.le_of_ble_eq_true rfl) (Nat.le_of_ble_eq_true rfl) (Nat.le_of_ble_eq_true rfl) (Nat.le_of_ble_eq_true rfl) (Nat.le_of_ble_eq_true rfl) ?_
  refine me_X8_at hm1 (fun g2 hg2 hf2 => ?_)
  show bw_go _ _ _ _ _ _ _ 320 [(3, .int _), (2, .ref _), (1, .ref _), (0, .retAddr _)] ((.int _) :: (.int _) :: []) _ _
  refine go_icmp_eq (pc' := 1335) dL_law_320 rfl (fun c_320 => ?_) (fun c_320 => ?_)
  · -- eq at 320: yes
    have q1 := pot_frX hf2
    have q2 := hf.1.2
    exact K g2 _ (xr_frX hg hf2) hg2 (by omega)
  · -- eq at 320: no
    show bw_go _ _ _ _ _ _ _ 323 [(3, .int _), (2, .ref _), (1, .ref _), (0, .retAddr _)] ([]) _ _
    refine go_iconst (0) dL_law_323 rfl ?_
    refine go_iret dL_law_324 rfl rfl ?_
    exact absurd rfl c_320
set_option maxRecDepth 100000 in
set_option maxHeartbeats 4000000 in
theorem law_c3 {X : Nat × (Nat → Int32)} {Q : Option Value → bw_H → Prop} {h : bw_H} {S : ST} {i : Nat} (hx : XR h S) (hm : MR h S) (hr : bw_n h + 13 * pot h ≤ 117) (hi : 6 * i + 6 ≤ X.1) (hL : X.1 ≤ 3072) (K : ∀ g S', XR g S' → MR g S' → bw_n g + 13 * pot g ≤ 117 → bw_go X 10 9 4 false (some .boolean) cL_law 1335 [(3, .int (nI (6 * i))), (2, .ref 60), (1, .ref 0), (0, .retAddr 1)] [] g Q) : bw_go X 10 9 4 false (some .boolean) cL_law 325 [(3, .int (nI (6 * i))), (2, .ref 60), (1, .ref 0), (0, .retAddr 1)] [] h Q := by
  show bw_go _ _ _ _ _ _ _ 325 [(3, .int _), (2, .ref _), (1, .ref _), (0, .retAddr _)] ([]) _ _
  refine go_aload_n dL_law_325 rfl ?_
  refine go_aloadA_n dL_law_326 rfl ?_
  refine go_iload_n dL_law_327 rfl ?_
  refine go_iconst (1) dL_law_328 rfl ?_
  refine go_iadd dL_law_329 ?_
  refine go_ia1 dL_law_330 (hb_n (c := 1) hi hL (by decide)) ?_
  refine go_cv (as := [.int _]) 3 dL_law_331 mt_9_27 (Or.inl rfl) rfl rfl hx.1.1.1 hx.1.1.2.1 (Nat.le_of_ble_eq_true rfl) (Nat.le_of_ble_eq_true rfl) (Nat.le_of_ble_eq_true rfl) (Nat.le_of_ble_eq_true rfl) (Nat.le_of_ble_eq_true rfl) ?_
  refine me_X7_tear hx (fun g hg hf => ?_)
  have hm1 := mr_frM hm hf
  show bw_go _ _ _ _ _ _ _ 334 [(3, .int _), (2, .ref _), (1, .ref _), (0, .retAddr _)] ((.int _) :: []) _ _
  refine go_aload_n dL_law_334 rfl ?_
  refine go_aloadA_n dL_law_335 rfl ?_
  refine go_iload_n dL_law_336 rfl ?_
  refine go_iconst (1) dL_law_337 rfl ?_
  refine go_iadd dL_law_338 ?_
  refine go_ia1 dL_law_339 (hb_n (c := 1) hi hL (by decide)) ?_
  refine go_cv (as := [.int _]) 2 dL_law_340 mt_9_31 (Or.inl rfl) rfl rfl (ms_lt hm1.1 (by decide)) hm1.1.1.2 (Nat.le_of_ble_eq_true rfl) (Nat.le_of_ble_eq_true rfl) (Nat.le_of_ble_eq_true rfl) (Nat.le_of_ble_eq_true rfl) (Nat.le_of_ble_eq_true rfl) ?_
  refine me_X8_tear hm1 (fun g2 hg2 hf2 => ?_)
  show bw_go _ _ _ _ _ _ _ 343 [(3, .int _), (2, .ref _), (1, .ref _), (0, .retAddr _)] ((.int _) :: (.int _) :: []) _ _
  refine go_icmp_eq (pc' := 1335) dL_law_343 rfl (fun c_343 => ?_) (fun c_343 => ?_)
  · -- eq at 343: yes
    have q1 := pot_frX hf2
    have q2 := hf.1.2
    exact K g2 _ (xr_frX hg hf2) hg2 (by omega)
  · -- eq at 343: no
    show bw_go _ _ _ _ _ _ _ 346 [(3, .int _), (2, .ref _), (1, .ref _), (0, .retAddr _)] ([]) _ _
    refine go_iconst (0) dL_law_346 rfl ?_
    refine go_iret dL_law_347 rfl rfl ?_
    exact absurd rfl c_343
set_option maxRecDepth 100000 in
set_option maxHeartbeats 4000000 in
theorem law_c4 {X : Nat × (Nat → Int32)} {Q : Option Value → bw_H → Prop} {h : bw_H} {S : ST} {i : Nat} (hx : XR h S) (hm : MR h S) (hr : bw_n h + 13 * pot h ≤ 117) (hi : 6 * i + 6 ≤ X.1) (hL : X.1 ≤ 3072) (K : ∀ g S', XR g S' → MR g S' → bw_n g + 13 * pot g ≤ 117 → bw_go X 10 9 4 false (some .boolean) cL_law 1335 [(3, .int (nI (6 * i))), (2, .ref 60), (1, .ref 0), (0, .retAddr 1)] [] g Q) : bw_go X 10 9 4 false (some .boolean) cL_law 348 [(3, .int (nI (6 * i))), (2, .ref 60), (1, .ref 0), (0, .retAddr 1)] [] h Q := by
  show bw_go _ _ _ _ _ _ _ 348 [(3, .int _), (2, .ref _), (1, .ref _), (0, .retAddr _)] ([]) _ _
  refine go_aload_n dL_law_348 rfl ?_
  refine go_aloadA_n dL_law_349 rfl ?_
  refine go_iload_n dL_law_350 rfl ?_
  refine go_iconst (1) dL_law_351 rfl ?_
  refine go_iadd dL_law_352 ?_
  refine go_ia1 dL_law_353 (hb_n (c := 1) hi hL (by decide)) ?_
  refine go_aloadA_n dL_law_354 rfl ?_
  refine go_iload_n dL_law_355 rfl ?_
  refine go_iconst (2) dL_law_356 rfl ?_
  refine go_iadd dL_law_357 ?_
  refine go_ia1 dL_law_358 (hb_n (c := 2) hi hL (by decide)) ?_
  refine go_aloadA_n dL_law_359 rfl ?_
  refine go_iload_n dL_law_360 rfl ?_
  refine go_iconst (3) dL_law_361 rfl ?_
  refine go_iadd dL_law_362 ?_
  refine go_ia1 dL_law_363 (hb_n (c := 3) hi hL (by decide)) ?_
  refine go_aloadA_n dL_law_364 rfl ?_
  refine go_iload_n dL_law_365 rfl ?_
  refine go_iconst (4) dL_law_366 rfl ?_
  refine go_iadd dL_law_367 ?_
  refine go_ia1 dL_law_368 (hb_n (c := 4) hi hL (by decide)) ?_
  refine go_aloadA_n dL_law_369 rfl ?_
  refine go_iload_n dL_law_370 rfl ?_
  refine go_iconst (5) dL_law_371 rfl ?_
  refine go_iadd dL_law_372 ?_
  refine go_ia1 dL_law_373 (hb_n (c := 5) hi hL (by decide)) ?_
  refine go_cv (as := [.int _, .int _, .int _, .int _, .int _]) 4 dL_law_374 mt_9_32 (Or.inl rfl) rfl rfl hx.1.1.1 hx.1.1.2.1 (Nat.le_of_ble_eq_true rfl) (Nat.le_of_ble_eq_true rfl) (Nat.le_of_ble_eq_true rfl) (Nat.le_of_ble_eq_true rfl) (Nat.le_of_ble_eq_true rfl) ?_
  refine me_X7_copy hx (fun g hg hf => ?_)
  have hm1 := mr_frM hm hf
  show bw_go _ _ _ _ _ _ _ 377 [(3, .int _), (2, .ref _), (1, .ref _), (0, .retAddr _)] ((.int _) :: []) _ _
  refine go_aload_n dL_law_377 rfl ?_
  refine go_aloadA_n dL_law_378 rfl ?_
  refine go_iload_n dL_law_379 rfl ?_
  refine go_iconst (1) dL_law_380 rfl ?_
  refine go_iadd dL_law_381 ?_
  refine go_ia1 dL_law_382 (hb_n (c := 1) hi hL (by decide)) ?_
  refine go_aloadA_n dL_law_383 rfl ?_
  refine go_iload_n dL_law_384 rfl ?_
  refine go_iconst (2) dL_law_385 rfl ?_
  refine go_iadd dL_law_386 ?_
  refine go_ia1 dL_law_387 (hb_n (c := 2) hi hL (by decide)) ?_
  refine go_aloadA_n dL_law_388 rfl ?_
  refine go_iload_n dL_law_389 rfl ?_
  refine go_iconst (3) dL_law_390 rfl ?_
  refine go_iadd dL_law_391 ?_
  refine go_ia1 dL_law_392 (hb_n (c := 3) hi hL (by decide)) ?_
  refine go_aloadA_n dL_law_393 rfl ?_
  refine go_iload_n dL_law_394 rfl ?_
  refine go_iconst (4) dL_law_395 rfl ?_
  refine go_iadd dL_law_396 ?_
  refine go_ia1 dL_law_397 (hb_n (c := 4) hi hL (by decide)) ?_
  refine go_aloadA_n dL_law_398 rfl ?_
  refine go_iload_n dL_law_399 rfl ?_
  refine go_iconst (5) dL_law_400 rfl ?_
  refine go_iadd dL_law_401 ?_
  refine go_ia1 dL_law_402 (hb_n (c := 5) hi hL (by decide)) ?_
  refine go_cv (as := [.int _, .int _, .int _, .int _, .int _]) 2 dL_law_403 mt_9_36 (Or.inl rfl) rfl rfl (ms_lt hm1.1 (by decide)) hm1.1.1.2 (Nat.le_of_ble_eq_true rfl) (Nat.le_of_ble_eq_true rfl) (Nat.le_of_ble_eq_true rfl) (Nat.le_of_ble_eq_true rfl) (Nat.le_of_ble_eq_true rfl) ?_
  refine me_X8_copy hm1 (fun g2 hg2 hf2 => ?_)
  show bw_go _ _ _ _ _ _ _ 406 [(3, .int _), (2, .ref _), (1, .ref _), (0, .retAddr _)] ((.int _) :: (.int _) :: []) _ _
  refine go_icmp_eq (pc' := 1335) dL_law_406 rfl (fun c_406 => ?_) (fun c_406 => ?_)
  · -- eq at 406: yes
    have q1 := pot_frX hf2
    have q2 := hf.1.2
    exact K g2 _ (xr_frX hg hf2) hg2 (by omega)
  · -- eq at 406: no
    show bw_go _ _ _ _ _ _ _ 409 [(3, .int _), (2, .ref _), (1, .ref _), (0, .retAddr _)] ([]) _ _
    refine go_iconst (0) dL_law_409 rfl ?_
    refine go_iret dL_law_410 rfl rfl ?_
    exact absurd rfl c_406
set_option maxRecDepth 100000 in
set_option maxHeartbeats 4000000 in
theorem law_c5 {X : Nat × (Nat → Int32)} {Q : Option Value → bw_H → Prop} {h : bw_H} {S : ST} {i : Nat} (hx : XR h S) (hm : MR h S) (hr : bw_n h + 13 * pot h ≤ 117) (hi : 6 * i + 6 ≤ X.1) (hL : X.1 ≤ 3072) (K : ∀ g S', XR g S' → MR g S' → bw_n g + 13 * pot g ≤ 117 → bw_go X 10 9 4 false (some .boolean) cL_law 1335 [(3, .int (nI (6 * i))), (2, .ref 60), (1, .ref 0), (0, .retAddr 1)] [] g Q) : bw_go X 10 9 4 false (some .boolean) cL_law 411 [(3, .int (nI (6 * i))), (2, .ref 60), (1, .ref 0), (0, .retAddr 1)] [] h Q := by
  show bw_go _ _ _ _ _ _ _ 411 [(3, .int _), (2, .ref _), (1, .ref _), (0, .retAddr _)] ([]) _ _
  refine go_aload_n dL_law_411 rfl ?_
  refine go_aloadA_n dL_law_412 rfl ?_
  refine go_iload_n dL_law_413 rfl ?_
  refine go_iconst (1) dL_law_414 rfl ?_
  refine go_iadd dL_law_415 ?_
  refine go_ia1 dL_law_416 (hb_n (c := 1) hi hL (by decide)) ?_
  refine go_cv (as := [.int _]) 5 dL_law_417 mt_9_37 (Or.inl rfl) rfl rfl hx.1.1.1 hx.1.1.2.1 (Nat.le_of_ble_eq_true rfl) (Nat.le_of_ble_eq_true rfl) (Nat.le_of_ble_eq_true rfl) (Nat.le_of_ble_eq_true rfl) (Nat.le_of_ble_eq_true rfl) ?_
  refine me_X7_mean hx (fun g hg hf => ?_)
  have hm1 := mr_frM hm hf
  show bw_go _ _ _ _ _ _ _ 420 [(3, .int _), (2, .ref _), (1, .ref _), (0, .retAddr _)] ((.int _) :: []) _ _
  refine go_aload_n dL_law_420 rfl ?_
  refine go_aloadA_n dL_law_421 rfl ?_
  refine go_iload_n dL_law_422 rfl ?_
  refine go_iconst (1) dL_law_423 rfl ?_
  refine go_iadd dL_law_424 ?_
  refine go_ia1 dL_law_425 (hb_n (c := 1) hi hL (by decide)) ?_
  refine go_cv (as := [.int _]) 2 dL_law_426 mt_9_40 (Or.inl rfl) rfl rfl (ms_lt hm1.1 (by decide)) hm1.1.1.2 (Nat.le_of_ble_eq_true rfl) (Nat.le_of_ble_eq_true rfl) (Nat.le_of_ble_eq_true rfl) (Nat.le_of_ble_eq_true rfl) (Nat.le_of_ble_eq_true rfl) ?_
  refine me_X8_mean hm1 (fun g2 hg2 hf2 => ?_)
  show bw_go _ _ _ _ _ _ _ 429 [(3, .int _), (2, .ref _), (1, .ref _), (0, .retAddr _)] ((.int _) :: (.int _) :: []) _ _
  refine go_icmp_eq (pc' := 1335) dL_law_429 rfl (fun c_429 => ?_) (fun c_429 => ?_)
  · -- eq at 429: yes
    have q1 := pot_frX hf2
    have q2 := hf.1.2
    exact K g2 _ (xr_frX hg hf2) hg2 (by omega)
  · -- eq at 429: no
    show bw_go _ _ _ _ _ _ _ 432 [(3, .int _), (2, .ref _), (1, .ref _), (0, .retAddr _)] ([]) _ _
    refine go_iconst (0) dL_law_432 rfl ?_
    refine go_iret dL_law_433 rfl rfl ?_
    exact absurd rfl c_429
set_option maxRecDepth 100000 in
set_option maxHeartbeats 4000000 in
theorem law_c6 {X : Nat × (Nat → Int32)} {Q : Option Value → bw_H → Prop} {h : bw_H} {S : ST} {i : Nat} (hx : XR h S) (hm : MR h S) (hr : bw_n h + 13 * pot h ≤ 117) (hi : 6 * i + 6 ≤ X.1) (hL : X.1 ≤ 3072) (K : ∀ g S', XR g S' → MR g S' → bw_n g + 13 * pot g ≤ 117 → bw_go X 10 9 4 false (some .boolean) cL_law 1335 [(3, .int (nI (6 * i))), (2, .ref 60), (1, .ref 0), (0, .retAddr 1)] [] g Q) : bw_go X 10 9 4 false (some .boolean) cL_law 434 [(3, .int (nI (6 * i))), (2, .ref 60), (1, .ref 0), (0, .retAddr 1)] [] h Q := by
  show bw_go _ _ _ _ _ _ _ 434 [(3, .int _), (2, .ref _), (1, .ref _), (0, .retAddr _)] ([]) _ _
  refine go_aload_n dL_law_434 rfl ?_
  refine go_aloadA_n dL_law_435 rfl ?_
  refine go_iload_n dL_law_436 rfl ?_
  refine go_iconst (1) dL_law_437 rfl ?_
  refine go_iadd dL_law_438 ?_
  refine go_ia1 dL_law_439 (hb_n (c := 1) hi hL (by decide)) ?_
  refine go_aloadA_n dL_law_440 rfl ?_
  refine go_iload_n dL_law_441 rfl ?_
  refine go_iconst (2) dL_law_442 rfl ?_
  refine go_iadd dL_law_443 ?_
  refine go_ia1 dL_law_444 (hb_n (c := 2) hi hL (by decide)) ?_
  refine go_cv (as := [.int _, .int _]) 2 dL_law_445 mt_9_41 (Or.inl rfl) rfl rfl hx.1.1.1 hx.1.1.2.1 (Nat.le_of_ble_eq_true rfl) (Nat.le_of_ble_eq_true rfl) (Nat.le_of_ble_eq_true rfl) (Nat.le_of_ble_eq_true rfl) (Nat.le_of_ble_eq_true rfl) ?_
  refine me_X7_text hx (fun g hg hf => ?_)
  have hm1 := mr_frM hm hf
  show bw_go _ _ _ _ _ _ _ 448 [(3, .int _), (2, .ref _), (1, .ref _), (0, .retAddr _)] ((.int _) :: []) _ _
  refine go_aload_n dL_law_448 rfl ?_
  refine go_aloadA_n dL_law_449 rfl ?_
  refine go_iload_n dL_law_450 rfl ?_
  refine go_iconst (1) dL_law_451 rfl ?_
  refine go_iadd dL_law_452 ?_
  refine go_ia1 dL_law_453 (hb_n (c := 1) hi hL (by decide)) ?_
  refine go_aloadA_n dL_law_454 rfl ?_
  refine go_iload_n dL_law_455 rfl ?_
  refine go_iconst (2) dL_law_456 rfl ?_
  refine go_iadd dL_law_457 ?_
  refine go_ia1 dL_law_458 (hb_n (c := 2) hi hL (by decide)) ?_
  refine go_cv (as := [.int _, .int _]) 2 dL_law_459 mt_9_44 (Or.inl rfl) rfl rfl (ms_lt hm1.1 (by decide)) hm1.1.1.2 (Nat.le_of_ble_eq_true rfl) (Nat.le_of_ble_eq_true rfl) (Nat.le_of_ble_eq_true rfl) (Nat.le_of_ble_eq_true rfl) (Nat.le_of_ble_eq_true rfl) ?_
  refine me_X8_text hm1 (fun g2 hg2 hf2 => ?_)
  show bw_go _ _ _ _ _ _ _ 462 [(3, .int _), (2, .ref _), (1, .ref _), (0, .retAddr _)] ((.int _) :: (.int _) :: []) _ _
  refine go_icmp_eq (pc' := 1335) dL_law_462 rfl (fun c_462 => ?_) (fun c_462 => ?_)
  · -- eq at 462: yes
    have q1 := pot_frX hf2
    have q2 := hf.1.2
    exact K g2 _ (xr_frX hg hf2) hg2 (by omega)
  · -- eq at 462: no
    show bw_go _ _ _ _ _ _ _ 465 [(3, .int _), (2, .ref _), (1, .ref _), (0, .retAddr _)] ([]) _ _
    refine go_iconst (0) dL_law_465 rfl ?_
    refine go_iret dL_law_466 rfl rfl ?_
    exact absurd rfl c_462
set_option maxRecDepth 100000 in
set_option maxHeartbeats 4000000 in
theorem law_c7 {X : Nat × (Nat → Int32)} {Q : Option Value → bw_H → Prop} {h : bw_H} {S : ST} {i : Nat} (hx : XR h S) (hm : MR h S) (hr : bw_n h + 13 * pot h ≤ 117) (hi : 6 * i + 6 ≤ X.1) (hL : X.1 ≤ 3072) (K : ∀ g S', XR g S' → MR g S' → bw_n g + 13 * pot g ≤ 117 → bw_go X 10 9 4 false (some .boolean) cL_law 1335 [(3, .int (nI (6 * i))), (2, .ref 60), (1, .ref 0), (0, .retAddr 1)] [] g Q) : bw_go X 10 9 4 false (some .boolean) cL_law 467 [(3, .int (nI (6 * i))), (2, .ref 60), (1, .ref 0), (0, .retAddr 1)] [] h Q := by
  show bw_go _ _ _ _ _ _ _ 467 [(3, .int _), (2, .ref _), (1, .ref _), (0, .retAddr _)] ([]) _ _
  refine go_aload_n dL_law_467 rfl ?_
  refine go_aloadA_n dL_law_468 rfl ?_
  refine go_iload_n dL_law_469 rfl ?_
  refine go_iconst (1) dL_law_470 rfl ?_
  refine go_iadd dL_law_471 ?_
  refine go_ia1 dL_law_472 (hb_n (c := 1) hi hL (by decide)) ?_
  refine go_aloadA_n dL_law_473 rfl ?_
  refine go_iload_n dL_law_474 rfl ?_
  refine go_iconst (2) dL_law_475 rfl ?_
  refine go_iadd dL_law_476 ?_
  refine go_ia1 dL_law_477 (hb_n (c := 2) hi hL (by decide)) ?_
  refine go_aloadA_n dL_law_478 rfl ?_
  refine go_iload_n dL_law_479 rfl ?_
  refine go_iconst (3) dL_law_480 rfl ?_
  refine go_iadd dL_law_481 ?_
  refine go_ia1 dL_law_482 (hb_n (c := 3) hi hL (by decide)) ?_
  refine go_cv (as := [.int _, .int _, .int _]) 4 dL_law_483 mt_9_45 (Or.inl rfl) rfl rfl hx.1.1.1 hx.1.1.2.1 (Nat.le_of_ble_eq_true rfl) (Nat.le_of_ble_eq_true rfl) (Nat.le_of_ble_eq_true rfl) (Nat.le_of_ble_eq_true rfl) (Nat.le_of_ble_eq_true rfl) ?_
  refine me_X7_put hx (fun g hg hf => ?_)
  have hm1 := mr_frM hm hf
  show bw_go _ _ _ _ _ _ _ 486 [(3, .int _), (2, .ref _), (1, .ref _), (0, .retAddr _)] ((.int _) :: []) _ _
  refine go_aload_n dL_law_486 rfl ?_
  refine go_aloadA_n dL_law_487 rfl ?_
  refine go_iload_n dL_law_488 rfl ?_
  refine go_iconst (1) dL_law_489 rfl ?_
  refine go_iadd dL_law_490 ?_
  refine go_ia1 dL_law_491 (hb_n (c := 1) hi hL (by decide)) ?_
  refine go_aloadA_n dL_law_492 rfl ?_
  refine go_iload_n dL_law_493 rfl ?_
  refine go_iconst (2) dL_law_494 rfl ?_
  refine go_iadd dL_law_495 ?_
  refine go_ia1 dL_law_496 (hb_n (c := 2) hi hL (by decide)) ?_
  refine go_aloadA_n dL_law_497 rfl ?_
  refine go_iload_n dL_law_498 rfl ?_
  refine go_iconst (3) dL_law_499 rfl ?_
  refine go_iadd dL_law_500 ?_
  refine go_ia1 dL_law_501 (hb_n (c := 3) hi hL (by decide)) ?_
  refine go_cv (as := [.int _, .int _, .int _]) 2 dL_law_502 mt_9_48 (Or.inl rfl) rfl rfl (ms_lt hm1.1 (by decide)) hm1.1.1.2 (Nat.le_of_ble_eq_true rfl) (Nat.le_of_ble_eq_true rfl) (Nat.le_of_ble_eq_true rfl) (Nat.le_of_ble_eq_true rfl) (Nat.le_of_ble_eq_true rfl) ?_
  refine me_X8_put hm1 (fun g2 hg2 hf2 => ?_)
  show bw_go _ _ _ _ _ _ _ 505 [(3, .int _), (2, .ref _), (1, .ref _), (0, .retAddr _)] ((.int _) :: (.int _) :: []) _ _
  refine go_icmp_eq (pc' := 1335) dL_law_505 rfl (fun c_505 => ?_) (fun c_505 => ?_)
  · -- eq at 505: yes
    have q1 := pot_frX hf2
    have q2 := hf.1.2
    exact K g2 _ (xr_frX hg hf2) hg2 (by omega)
  · -- eq at 505: no
    show bw_go _ _ _ _ _ _ _ 508 [(3, .int _), (2, .ref _), (1, .ref _), (0, .retAddr _)] ([]) _ _
    refine go_iconst (0) dL_law_508 rfl ?_
    refine go_iret dL_law_509 rfl rfl ?_
    exact absurd rfl c_505
set_option maxRecDepth 100000 in
set_option maxHeartbeats 4000000 in
theorem law_c8 {X : Nat × (Nat → Int32)} {Q : Option Value → bw_H → Prop} {h : bw_H} {S : ST} {i : Nat} (hx : XR h S) (hm : MR h S) (hr : bw_n h + 13 * pot h ≤ 117) (hi : 6 * i + 6 ≤ X.1) (hL : X.1 ≤ 3072) (K : ∀ g S', XR g S' → MR g S' → bw_n g + 13 * pot g ≤ 117 → bw_go X 10 9 4 false (some .boolean) cL_law 1335 [(3, .int (nI (6 * i))), (2, .ref 60), (1, .ref 0), (0, .retAddr 1)] [] g Q) : bw_go X 10 9 4 false (some .boolean) cL_law 510 [(3, .int (nI (6 * i))), (2, .ref 60), (1, .ref 0), (0, .retAddr 1)] [] h Q := by
  show bw_go _ _ _ _ _ _ _ 510 [(3, .int _), (2, .ref _), (1, .ref _), (0, .retAddr _)] ([]) _ _
  refine go_aload_n dL_law_510 rfl ?_
  refine go_aloadA_n dL_law_511 rfl ?_
  refine go_iload_n dL_law_512 rfl ?_
  refine go_iconst (1) dL_law_513 rfl ?_
  refine go_iadd dL_law_514 ?_
  refine go_ia1 dL_law_515 (hb_n (c := 1) hi hL (by decide)) ?_
  refine go_cv (as := [.int _]) 6 dL_law_516 mt_9_49 (Or.inl rfl) rfl rfl hx.1.1.1 hx.1.1.2.1 (Nat.le_of_ble_eq_true rfl) (Nat.le_of_ble_eq_true rfl) (Nat.le_of_ble_eq_true rfl) (Nat.le_of_ble_eq_true rfl) (Nat.le_of_ble_eq_true rfl) ?_
  refine me_X7_fault hx (fun g hg hf => ?_)
  have hm1 := mr_frM hm hf
  show bw_go _ _ _ _ _ _ _ 519 [(3, .int _), (2, .ref _), (1, .ref _), (0, .retAddr _)] ((.int _) :: []) _ _
  refine go_aload_n dL_law_519 rfl ?_
  refine go_aloadA_n dL_law_520 rfl ?_
  refine go_iload_n dL_law_521 rfl ?_
  refine go_iconst (1) dL_law_522 rfl ?_
  refine go_iadd dL_law_523 ?_
  refine go_ia1 dL_law_524 (hb_n (c := 1) hi hL (by decide)) ?_
  refine go_cv (as := [.int _]) 5 dL_law_525 mt_9_52 (Or.inl rfl) rfl rfl (ms_lt hm1.1 (by decide)) hm1.1.1.2 (Nat.le_of_ble_eq_true rfl) (Nat.le_of_ble_eq_true rfl) (Nat.le_of_ble_eq_true rfl) (Nat.le_of_ble_eq_true rfl) (Nat.le_of_ble_eq_true rfl) ?_
  refine me_X8_fault hm1 (fun g2 hg2 hf2 => ?_)
  show bw_go _ _ _ _ _ _ _ 528 [(3, .int _), (2, .ref _), (1, .ref _), (0, .retAddr _)] ((.int _) :: (.int _) :: []) _ _
  refine go_icmp_eq (pc' := 1335) dL_law_528 rfl (fun c_528 => ?_) (fun c_528 => ?_)
  · -- eq at 528: yes
    have q1 := pot_frX hf2
    have q2 := hf.1.2
    exact K g2 _ (xr_frX hg hf2) hg2 (by omega)
  · -- eq at 528: no
    show bw_go _ _ _ _ _ _ _ 531 [(3, .int _), (2, .ref _), (1, .ref _), (0, .retAddr _)] ([]) _ _
    refine go_iconst (0) dL_law_531 rfl ?_
    refine go_iret dL_law_532 rfl rfl ?_
    exact absurd rfl c_528
set_option maxRecDepth 100000 in
set_option maxHeartbeats 4000000 in
theorem law_c9 {X : Nat × (Nat → Int32)} {Q : Option Value → bw_H → Prop} {h : bw_H} {S : ST} {i : Nat} (hx : XR h S) (hm : MR h S) (hr : bw_n h + 13 * pot h ≤ 117) (hi : 6 * i + 6 ≤ X.1) (hL : X.1 ≤ 3072) (K : ∀ g S', XR g S' → MR g S' → bw_n g + 13 * pot g ≤ 117 → bw_go X 10 9 4 false (some .boolean) cL_law 1335 [(3, .int (nI (6 * i))), (2, .ref 60), (1, .ref 0), (0, .retAddr 1)] [] g Q) : bw_go X 10 9 4 false (some .boolean) cL_law 533 [(3, .int (nI (6 * i))), (2, .ref 60), (1, .ref 0), (0, .retAddr 1)] [] h Q := by
  show bw_go _ _ _ _ _ _ _ 533 [(3, .int _), (2, .ref _), (1, .ref _), (0, .retAddr _)] ([]) _ _
  refine go_aload_n dL_law_533 rfl ?_
  refine go_aloadA_n dL_law_534 rfl ?_
  refine go_iload_n dL_law_535 rfl ?_
  refine go_iconst (1) dL_law_536 rfl ?_
  refine go_iadd dL_law_537 ?_
  refine go_ia1 dL_law_538 (hb_n (c := 1) hi hL (by decide)) ?_
  refine go_cv (as := [.int _]) 6 dL_law_539 mt_9_53 (Or.inl rfl) rfl rfl hx.1.1.1 hx.1.1.2.1 (Nat.le_of_ble_eq_true rfl) (Nat.le_of_ble_eq_true rfl) (Nat.le_of_ble_eq_true rfl) (Nat.le_of_ble_eq_true rfl) (Nat.le_of_ble_eq_true rfl) ?_
  refine me_X7_court hx (fun g hg hf => ?_)
  have hm1 := mr_frM hm hf
  show bw_go _ _ _ _ _ _ _ 542 [(3, .int _), (2, .ref _), (1, .ref _), (0, .retAddr _)] ((.int _) :: []) _ _
  refine go_aload_n dL_law_542 rfl ?_
  refine go_aloadA_n dL_law_543 rfl ?_
  refine go_iload_n dL_law_544 rfl ?_
  refine go_iconst (1) dL_law_545 rfl ?_
  refine go_iadd dL_law_546 ?_
  refine go_ia1 dL_law_547 (hb_n (c := 1) hi hL (by decide)) ?_
  refine go_cv (as := [.int _]) 5 dL_law_548 mt_9_56 (Or.inl rfl) rfl rfl (ms_lt hm1.1 (by decide)) hm1.1.1.2 (Nat.le_of_ble_eq_true rfl) (Nat.le_of_ble_eq_true rfl) (Nat.le_of_ble_eq_true rfl) (Nat.le_of_ble_eq_true rfl) (Nat.le_of_ble_eq_true rfl) ?_
  refine me_X8_court hm1 (fun g2 hg2 hf2 => ?_)
  show bw_go _ _ _ _ _ _ _ 551 [(3, .int _), (2, .ref _), (1, .ref _), (0, .retAddr _)] ((.int _) :: (.int _) :: []) _ _
  refine go_icmp_eq (pc' := 1335) dL_law_551 rfl (fun c_551 => ?_) (fun c_551 => ?_)
  · -- eq at 551: yes
    have q1 := pot_frX hf2
    have q2 := hf.1.2
    exact K g2 _ (xr_frX hg hf2) hg2 (by omega)
  · -- eq at 551: no
    show bw_go _ _ _ _ _ _ _ 554 [(3, .int _), (2, .ref _), (1, .ref _), (0, .retAddr _)] ([]) _ _
    refine go_iconst (0) dL_law_554 rfl ?_
    refine go_iret dL_law_555 rfl rfl ?_
    exact absurd rfl c_551
set_option maxRecDepth 100000 in
set_option maxHeartbeats 4000000 in
theorem law_c10 {X : Nat × (Nat → Int32)} {Q : Option Value → bw_H → Prop} {h : bw_H} {S : ST} {i : Nat} (hx : XR h S) (hm : MR h S) (hr : bw_n h + 13 * pot h ≤ 117) (hi : 6 * i + 6 ≤ X.1) (hL : X.1 ≤ 3072) (K : ∀ g S', XR g S' → MR g S' → bw_n g + 13 * pot g ≤ 117 → bw_go X 10 9 4 false (some .boolean) cL_law 1335 [(3, .int (nI (6 * i))), (2, .ref 60), (1, .ref 0), (0, .retAddr 1)] [] g Q) : bw_go X 10 9 4 false (some .boolean) cL_law 556 [(3, .int (nI (6 * i))), (2, .ref 60), (1, .ref 0), (0, .retAddr 1)] [] h Q := by
  show bw_go _ _ _ _ _ _ _ 556 [(3, .int _), (2, .ref _), (1, .ref _), (0, .retAddr _)] ([]) _ _
  refine go_aload_n dL_law_556 rfl ?_
  refine go_aloadA_n dL_law_557 rfl ?_
  refine go_iload_n dL_law_558 rfl ?_
  refine go_iconst (1) dL_law_559 rfl ?_
  refine go_iadd dL_law_560 ?_
  refine go_ia1 dL_law_561 (hb_n (c := 1) hi hL (by decide)) ?_
  refine go_aloadA_n dL_law_562 rfl ?_
  refine go_iload_n dL_law_563 rfl ?_
  refine go_iconst (2) dL_law_564 rfl ?_
  refine go_iadd dL_law_565 ?_
  refine go_ia1 dL_law_566 (hb_n (c := 2) hi hL (by decide)) ?_
  refine go_cv (as := [.int _, .int _]) 4 dL_law_567 mt_9_57 (Or.inl rfl) rfl rfl hx.1.1.1 hx.1.1.2.1 (Nat.le_of_ble_eq_true rfl) (Nat.le_of_ble_eq_true rfl) (Nat.le_of_ble_eq_true rfl) (Nat.le_of_ble_eq_true rfl) (Nat.le_of_ble_eq_true rfl) ?_
  refine me_X7_bear hx (fun g hg hf => ?_)
  have hm1 := mr_frM hm hf
  show bw_go _ _ _ _ _ _ _ 570 [(3, .int _), (2, .ref _), (1, .ref _), (0, .retAddr _)] ((.int _) :: []) _ _
  refine go_aload_n dL_law_570 rfl ?_
  refine go_aloadA_n dL_law_571 rfl ?_
  refine go_iload_n dL_law_572 rfl ?_
  refine go_iconst (1) dL_law_573 rfl ?_
  refine go_iadd dL_law_574 ?_
  refine go_ia1 dL_law_575 (hb_n (c := 1) hi hL (by decide)) ?_
  refine go_aloadA_n dL_law_576 rfl ?_
  refine go_iload_n dL_law_577 rfl ?_
  refine go_iconst (2) dL_law_578 rfl ?_
  refine go_iadd dL_law_579 ?_
  refine go_ia1 dL_law_580 (hb_n (c := 2) hi hL (by decide)) ?_
  refine go_cv (as := [.int _, .int _]) 8 dL_law_581 mt_9_60 (Or.inl rfl) rfl rfl (ms_lt hm1.1 (by decide)) hm1.1.1.2 (Nat.le_of_ble_eq_true rfl) (Nat.le_of_ble_eq_true rfl) (Nat.le_of_ble_eq_true rfl) (Nat.le_of_ble_eq_true rfl) (Nat.le_of_ble_eq_true rfl) ?_
  refine me_X8_bear hm1 (fun g2 hg2 hf2 => ?_)
  show bw_go _ _ _ _ _ _ _ 584 [(3, .int _), (2, .ref _), (1, .ref _), (0, .retAddr _)] ((.int _) :: (.int _) :: []) _ _
  refine go_icmp_eq (pc' := 1335) dL_law_584 rfl (fun c_584 => ?_) (fun c_584 => ?_)
  · -- eq at 584: yes
    have q1 := pot_frX hf2
    have q2 := hf.1.2
    exact K g2 _ (xr_frX hg hf2) hg2 (by omega)
  · -- eq at 584: no
    show bw_go _ _ _ _ _ _ _ 587 [(3, .int _), (2, .ref _), (1, .ref _), (0, .retAddr _)] ([]) _ _
    refine go_iconst (0) dL_law_587 rfl ?_
    refine go_iret dL_law_588 rfl rfl ?_
    exact absurd rfl c_584
set_option maxRecDepth 100000 in
set_option maxHeartbeats 4000000 in
theorem law_c11 {X : Nat × (Nat → Int32)} {Q : Option Value → bw_H → Prop} {h : bw_H} {S : ST} {i : Nat} (hx : XR h S) (hm : MR h S) (hr : bw_n h + 13 * pot h ≤ 117) (hi : 6 * i + 6 ≤ X.1) (hL : X.1 ≤ 3072) (K : ∀ g S', XR g S' → MR g S' → bw_n g + 13 * pot g ≤ 117 → bw_go X 10 9 4 false (some .boolean) cL_law 1335 [(3, .int (nI (6 * i))), (2, .ref 60), (1, .ref 0), (0, .retAddr 1)] [] g Q) : bw_go X 10 9 4 false (some .boolean) cL_law 589 [(3, .int (nI (6 * i))), (2, .ref 60), (1, .ref 0), (0, .retAddr 1)] [] h Q := by
  show bw_go _ _ _ _ _ _ _ 589 [(3, .int _), (2, .ref _), (1, .ref _), (0, .retAddr _)] ([]) _ _
  refine go_aload_n dL_law_589 rfl ?_
  refine go_aloadA_n dL_law_590 rfl ?_
  refine go_iload_n dL_law_591 rfl ?_
  refine go_iconst (1) dL_law_592 rfl ?_
  refine go_iadd dL_law_593 ?_
  refine go_ia1 dL_law_594 (hb_n (c := 1) hi hL (by decide)) ?_
  refine go_aloadA_n dL_law_595 rfl ?_
  refine go_iload_n dL_law_596 rfl ?_
  refine go_iconst (2) dL_law_597 rfl ?_
  refine go_iadd dL_law_598 ?_
  refine go_ia1 dL_law_599 (hb_n (c := 2) hi hL (by decide)) ?_
  refine go_cv (as := [.int _, .int _]) 3 dL_law_600 mt_9_61 (Or.inl rfl) rfl rfl hx.1.1.1 hx.1.1.2.1 (Nat.le_of_ble_eq_true rfl) (Nat.le_of_ble_eq_true rfl) (Nat.le_of_ble_eq_true rfl) (Nat.le_of_ble_eq_true rfl) (Nat.le_of_ble_eq_true rfl) ?_
  refine me_X7_mark hx (fun g hg hf => ?_)
  have hm1 := mr_frM hm hf
  show bw_go _ _ _ _ _ _ _ 603 [(3, .int _), (2, .ref _), (1, .ref _), (0, .retAddr _)] ((.int _) :: []) _ _
  refine go_aload_n dL_law_603 rfl ?_
  refine go_aloadA_n dL_law_604 rfl ?_
  refine go_iload_n dL_law_605 rfl ?_
  refine go_iconst (1) dL_law_606 rfl ?_
  refine go_iadd dL_law_607 ?_
  refine go_ia1 dL_law_608 (hb_n (c := 1) hi hL (by decide)) ?_
  refine go_aloadA_n dL_law_609 rfl ?_
  refine go_iload_n dL_law_610 rfl ?_
  refine go_iconst (2) dL_law_611 rfl ?_
  refine go_iadd dL_law_612 ?_
  refine go_ia1 dL_law_613 (hb_n (c := 2) hi hL (by decide)) ?_
  refine go_cv (as := [.int _, .int _]) 5 dL_law_614 mt_9_64 (Or.inl rfl) rfl rfl (ms_lt hm1.1 (by decide)) hm1.1.1.2 (Nat.le_of_ble_eq_true rfl) (Nat.le_of_ble_eq_true rfl) (Nat.le_of_ble_eq_true rfl) (Nat.le_of_ble_eq_true rfl) (Nat.le_of_ble_eq_true rfl) ?_
  refine me_X8_mark hm1 (fun g2 hg2 hf2 => ?_)
  show bw_go _ _ _ _ _ _ _ 617 [(3, .int _), (2, .ref _), (1, .ref _), (0, .retAddr _)] ((.int _) :: (.int _) :: []) _ _
  refine go_icmp_eq (pc' := 1335) dL_law_617 rfl (fun c_617 => ?_) (fun c_617 => ?_)
  · -- eq at 617: yes
    have q1 := pot_frX hf2
    have q2 := hf.1.2
    exact K g2 _ (xr_frX hg hf2) hg2 (by omega)
  · -- eq at 617: no
    show bw_go _ _ _ _ _ _ _ 620 [(3, .int _), (2, .ref _), (1, .ref _), (0, .retAddr _)] ([]) _ _
    refine go_iconst (0) dL_law_620 rfl ?_
    refine go_iret dL_law_621 rfl rfl ?_
    exact absurd rfl c_617
set_option maxRecDepth 100000 in
set_option maxHeartbeats 4000000 in
theorem law_c12 {X : Nat × (Nat → Int32)} {Q : Option Value → bw_H → Prop} {h : bw_H} {S : ST} {i : Nat} (hx : XR h S) (hm : MR h S) (hr : bw_n h + 13 * pot h ≤ 117) (hi : 6 * i + 6 ≤ X.1) (hL : X.1 ≤ 3072) (K : ∀ g S', XR g S' → MR g S' → bw_n g + 13 * pot g ≤ 117 → bw_go X 10 9 4 false (some .boolean) cL_law 1335 [(3, .int (nI (6 * i))), (2, .ref 60), (1, .ref 0), (0, .retAddr 1)] [] g Q) : bw_go X 10 9 4 false (some .boolean) cL_law 622 [(3, .int (nI (6 * i))), (2, .ref 60), (1, .ref 0), (0, .retAddr 1)] [] h Q := by
  show bw_go _ _ _ _ _ _ _ 622 [(3, .int _), (2, .ref _), (1, .ref _), (0, .retAddr _)] ([]) _ _
  refine go_aload_n dL_law_622 rfl ?_
  refine go_aloadA_n dL_law_623 rfl ?_
  refine go_iload_n dL_law_624 rfl ?_
  refine go_iconst (1) dL_law_625 rfl ?_
  refine go_iadd dL_law_626 ?_
  refine go_ia1 dL_law_627 (hb_n (c := 1) hi hL (by decide)) ?_
  refine go_cv (as := [.int _]) 4 dL_law_628 mt_9_65 (Or.inl rfl) rfl rfl hx.1.1.1 hx.1.1.2.1 (Nat.le_of_ble_eq_true rfl) (Nat.le_of_ble_eq_true rfl) (Nat.le_of_ble_eq_true rfl) (Nat.le_of_ble_eq_true rfl) (Nat.le_of_ble_eq_true rfl) ?_
  refine me_X7_press hx (fun g hg hf => ?_)
  have hm1 := mr_frM hm hf
  show bw_go _ _ _ _ _ _ _ 631 [(3, .int _), (2, .ref _), (1, .ref _), (0, .retAddr _)] ((.int _) :: []) _ _
  refine go_aload_n dL_law_631 rfl ?_
  refine go_aloadA_n dL_law_632 rfl ?_
  refine go_iload_n dL_law_633 rfl ?_
  refine go_iconst (1) dL_law_634 rfl ?_
  refine go_iadd dL_law_635 ?_
  refine go_ia1 dL_law_636 (hb_n (c := 1) hi hL (by decide)) ?_
  refine go_cv (as := [.int _]) 3 dL_law_637 mt_9_68 (Or.inl rfl) rfl rfl (ms_lt hm1.1 (by decide)) hm1.1.1.2 (Nat.le_of_ble_eq_true rfl) (Nat.le_of_ble_eq_true rfl) (Nat.le_of_ble_eq_true rfl) (Nat.le_of_ble_eq_true rfl) (Nat.le_of_ble_eq_true rfl) ?_
  refine me_X8_press hm1 (fun g2 hg2 hf2 => ?_)
  show bw_go _ _ _ _ _ _ _ 640 [(3, .int _), (2, .ref _), (1, .ref _), (0, .retAddr _)] ((.int _) :: (.int _) :: []) _ _
  refine go_icmp_eq (pc' := 1335) dL_law_640 rfl (fun c_640 => ?_) (fun c_640 => ?_)
  · -- eq at 640: yes
    have q1 := pot_frX hf2
    have q2 := hf.1.2
    exact K g2 _ (xr_frX hg hf2) hg2 (by omega)
  · -- eq at 640: no
    show bw_go _ _ _ _ _ _ _ 643 [(3, .int _), (2, .ref _), (1, .ref _), (0, .retAddr _)] ([]) _ _
    refine go_iconst (0) dL_law_643 rfl ?_
    refine go_iret dL_law_644 rfl rfl ?_
    exact absurd rfl c_640
set_option maxRecDepth 100000 in
set_option maxHeartbeats 4000000 in
theorem law_c13 {X : Nat × (Nat → Int32)} {Q : Option Value → bw_H → Prop} {h : bw_H} {S : ST} {i : Nat} (hx : XR h S) (hm : MR h S) (hr : bw_n h + 13 * pot h ≤ 117) (hi : 6 * i + 6 ≤ X.1) (hL : X.1 ≤ 3072) (K : ∀ g S', XR g S' → MR g S' → bw_n g + 13 * pot g ≤ 117 → bw_go X 10 9 4 false (some .boolean) cL_law 1335 [(3, .int (nI (6 * i))), (2, .ref 60), (1, .ref 0), (0, .retAddr 1)] [] g Q) : bw_go X 10 9 4 false (some .boolean) cL_law 645 [(3, .int (nI (6 * i))), (2, .ref 60), (1, .ref 0), (0, .retAddr 1)] [] h Q := by
  show bw_go _ _ _ _ _ _ _ 645 [(3, .int _), (2, .ref _), (1, .ref _), (0, .retAddr _)] ([]) _ _
  refine go_aload_n dL_law_645 rfl ?_
  refine go_aloadA_n dL_law_646 rfl ?_
  refine go_iload_n dL_law_647 rfl ?_
  refine go_iconst (1) dL_law_648 rfl ?_
  refine go_iadd dL_law_649 ?_
  refine go_ia1 dL_law_650 (hb_n (c := 1) hi hL (by decide)) ?_
  refine go_cv (as := [.int _]) 4 dL_law_651 mt_9_69 (Or.inl rfl) rfl rfl hx.1.1.1 hx.1.1.2.1 (Nat.le_of_ble_eq_true rfl) (Nat.le_of_ble_eq_true rfl) (Nat.le_of_ble_eq_true rfl) (Nat.le_of_ble_eq_true rfl) (Nat.le_of_ble_eq_true rfl) ?_
  refine me_X7_mend hx (fun g hg hf => ?_)
  have hm1 := mr_frM hm hf
  show bw_go _ _ _ _ _ _ _ 654 [(3, .int _), (2, .ref _), (1, .ref _), (0, .retAddr _)] ((.int _) :: []) _ _
  refine go_aload_n dL_law_654 rfl ?_
  refine go_aloadA_n dL_law_655 rfl ?_
  refine go_iload_n dL_law_656 rfl ?_
  refine go_iconst (1) dL_law_657 rfl ?_
  refine go_iadd dL_law_658 ?_
  refine go_ia1 dL_law_659 (hb_n (c := 1) hi hL (by decide)) ?_
  refine go_cv (as := [.int _]) 3 dL_law_660 mt_9_72 (Or.inl rfl) rfl rfl (ms_lt hm1.1 (by decide)) hm1.1.1.2 (Nat.le_of_ble_eq_true rfl) (Nat.le_of_ble_eq_true rfl) (Nat.le_of_ble_eq_true rfl) (Nat.le_of_ble_eq_true rfl) (Nat.le_of_ble_eq_true rfl) ?_
  refine me_X8_mend hm1 (fun g2 hg2 hf2 => ?_)
  show bw_go _ _ _ _ _ _ _ 663 [(3, .int _), (2, .ref _), (1, .ref _), (0, .retAddr _)] ((.int _) :: (.int _) :: []) _ _
  refine go_icmp_eq (pc' := 1335) dL_law_663 rfl (fun c_663 => ?_) (fun c_663 => ?_)
  · -- eq at 663: yes
    have q1 := pot_frX hf2
    have q2 := hf.1.2
    exact K g2 _ (xr_frX hg hf2) hg2 (by omega)
  · -- eq at 663: no
    show bw_go _ _ _ _ _ _ _ 666 [(3, .int _), (2, .ref _), (1, .ref _), (0, .retAddr _)] ([]) _ _
    refine go_iconst (0) dL_law_666 rfl ?_
    refine go_iret dL_law_667 rfl rfl ?_
    exact absurd rfl c_663
set_option maxRecDepth 100000 in
set_option maxHeartbeats 4000000 in
theorem law_c14 {X : Nat × (Nat → Int32)} {Q : Option Value → bw_H → Prop} {h : bw_H} {S : ST} {i : Nat} (hx : XR h S) (hm : MR h S) (hr : bw_n h + 13 * pot h ≤ 117) (hi : 6 * i + 6 ≤ X.1) (hL : X.1 ≤ 3072) (K : ∀ g S', XR g S' → MR g S' → bw_n g + 13 * pot g ≤ 117 → bw_go X 10 9 4 false (some .boolean) cL_law 1335 [(3, .int (nI (6 * i))), (2, .ref 60), (1, .ref 0), (0, .retAddr 1)] [] g Q) : bw_go X 10 9 4 false (some .boolean) cL_law 668 [(3, .int (nI (6 * i))), (2, .ref 60), (1, .ref 0), (0, .retAddr 1)] [] h Q := by
  show bw_go _ _ _ _ _ _ _ 668 [(3, .int _), (2, .ref _), (1, .ref _), (0, .retAddr _)] ([]) _ _
  refine go_aload_n dL_law_668 rfl ?_
  refine go_aloadA_n dL_law_669 rfl ?_
  refine go_iload_n dL_law_670 rfl ?_
  refine go_iconst (1) dL_law_671 rfl ?_
  refine go_iadd dL_law_672 ?_
  refine go_ia1 dL_law_673 (hb_n (c := 1) hi hL (by decide)) ?_
  refine go_cv (as := [.int _]) 4 dL_law_674 mt_9_73 (Or.inl rfl) rfl rfl hx.1.1.1 hx.1.1.2.1 (Nat.le_of_ble_eq_true rfl) (Nat.le_of_ble_eq_true rfl) (Nat.le_of_ble_eq_true rfl) (Nat.le_of_ble_eq_true rfl) (Nat.le_of_ble_eq_true rfl) ?_
  refine me_X7_eye hx (fun g hg hf => ?_)
  have hm1 := mr_frM hm hf
  show bw_go _ _ _ _ _ _ _ 677 [(3, .int _), (2, .ref _), (1, .ref _), (0, .retAddr _)] ((.int _) :: []) _ _
  refine go_aload_n dL_law_677 rfl ?_
  refine go_aloadA_n dL_law_678 rfl ?_
  refine go_iload_n dL_law_679 rfl ?_
  refine go_iconst (1) dL_law_680 rfl ?_
  refine go_iadd dL_law_681 ?_
  refine go_ia1 dL_law_682 (hb_n (c := 1) hi hL (by decide)) ?_
  refine go_cv (as := [.int _]) 3 dL_law_683 mt_9_76 (Or.inl rfl) rfl rfl (ms_lt hm1.1 (by decide)) hm1.1.1.2 (Nat.le_of_ble_eq_true rfl) (Nat.le_of_ble_eq_true rfl) (Nat.le_of_ble_eq_true rfl) (Nat.le_of_ble_eq_true rfl) (Nat.le_of_ble_eq_true rfl) ?_
  refine me_X8_eye hm1 (fun g2 hg2 hf2 => ?_)
  show bw_go _ _ _ _ _ _ _ 686 [(3, .int _), (2, .ref _), (1, .ref _), (0, .retAddr _)] ((.int _) :: (.int _) :: []) _ _
  refine go_icmp_eq (pc' := 1335) dL_law_686 rfl (fun c_686 => ?_) (fun c_686 => ?_)
  · -- eq at 686: yes
    have q1 := pot_frX hf2
    have q2 := hf.1.2
    exact K g2 _ (xr_frX hg hf2) hg2 (by omega)
  · -- eq at 686: no
    show bw_go _ _ _ _ _ _ _ 689 [(3, .int _), (2, .ref _), (1, .ref _), (0, .retAddr _)] ([]) _ _
    refine go_iconst (0) dL_law_689 rfl ?_
    refine go_iret dL_law_690 rfl rfl ?_
    exact absurd rfl c_686
set_option maxRecDepth 100000 in
set_option maxHeartbeats 4000000 in
theorem law_c15 {X : Nat × (Nat → Int32)} {Q : Option Value → bw_H → Prop} {h : bw_H} {S : ST} {i : Nat} (hx : XR h S) (hm : MR h S) (hr : bw_n h + 13 * pot h ≤ 117) (hi : 6 * i + 6 ≤ X.1) (hL : X.1 ≤ 3072) (K : ∀ g S', XR g S' → MR g S' → bw_n g + 13 * pot g ≤ 117 → bw_go X 10 9 4 false (some .boolean) cL_law 1335 [(3, .int (nI (6 * i))), (2, .ref 60), (1, .ref 0), (0, .retAddr 1)] [] g Q) : bw_go X 10 9 4 false (some .boolean) cL_law 691 [(3, .int (nI (6 * i))), (2, .ref 60), (1, .ref 0), (0, .retAddr 1)] [] h Q := by
  show bw_go _ _ _ _ _ _ _ 691 [(3, .int _), (2, .ref _), (1, .ref _), (0, .retAddr _)] ([]) _ _
  refine go_aload_n dL_law_691 rfl ?_
  refine go_aloadA_n dL_law_692 rfl ?_
  refine go_iload_n dL_law_693 rfl ?_
  refine go_iconst (1) dL_law_694 rfl ?_
  refine go_iadd dL_law_695 ?_
  refine go_ia1 dL_law_696 (hb_n (c := 1) hi hL (by decide)) ?_
  refine go_cv (as := [.int _]) 4 dL_law_697 mt_9_77 (Or.inl rfl) rfl rfl hx.1.1.1 hx.1.1.2.1 (Nat.le_of_ble_eq_true rfl) (Nat.le_of_ble_eq_true rfl) (Nat.le_of_ble_eq_true rfl) (Nat.le_of_ble_eq_true rfl) (Nat.le_of_ble_eq_true rfl) ?_
  refine me_X7_turn hx (fun g hg hf => ?_)
  have hm1 := mr_frM hm hf
  show bw_go _ _ _ _ _ _ _ 700 [(3, .int _), (2, .ref _), (1, .ref _), (0, .retAddr _)] ((.int _) :: []) _ _
  refine go_aload_n dL_law_700 rfl ?_
  refine go_aloadA_n dL_law_701 rfl ?_
  refine go_iload_n dL_law_702 rfl ?_
  refine go_iconst (1) dL_law_703 rfl ?_
  refine go_iadd dL_law_704 ?_
  refine go_ia1 dL_law_705 (hb_n (c := 1) hi hL (by decide)) ?_
  refine go_cv (as := [.int _]) 3 dL_law_706 mt_9_80 (Or.inl rfl) rfl rfl (ms_lt hm1.1 (by decide)) hm1.1.1.2 (Nat.le_of_ble_eq_true rfl) (Nat.le_of_ble_eq_true rfl) (Nat.le_of_ble_eq_true rfl) (Nat.le_of_ble_eq_true rfl) (Nat.le_of_ble_eq_true rfl) ?_
  refine me_X8_turn hm1 (fun g2 hg2 hf2 => ?_)
  show bw_go _ _ _ _ _ _ _ 709 [(3, .int _), (2, .ref _), (1, .ref _), (0, .retAddr _)] ((.int _) :: (.int _) :: []) _ _
  refine go_icmp_eq (pc' := 1335) dL_law_709 rfl (fun c_709 => ?_) (fun c_709 => ?_)
  · -- eq at 709: yes
    have q1 := pot_frX hf2
    have q2 := hf.1.2
    exact K g2 _ (xr_frX hg hf2) hg2 (by omega)
  · -- eq at 709: no
    show bw_go _ _ _ _ _ _ _ 712 [(3, .int _), (2, .ref _), (1, .ref _), (0, .retAddr _)] ([]) _ _
    refine go_iconst (0) dL_law_712 rfl ?_
    refine go_iret dL_law_713 rfl rfl ?_
    exact absurd rfl c_709
set_option maxRecDepth 100000 in
set_option maxHeartbeats 4000000 in
theorem law_c16 {X : Nat × (Nat → Int32)} {Q : Option Value → bw_H → Prop} {h : bw_H} {S : ST} {i : Nat} (hx : XR h S) (hm : MR h S) (hr : bw_n h + 13 * pot h ≤ 117) (hi : 6 * i + 6 ≤ X.1) (hL : X.1 ≤ 3072) (K : ∀ g S', XR g S' → MR g S' → bw_n g + 13 * pot g ≤ 117 → bw_go X 10 9 4 false (some .boolean) cL_law 1335 [(3, .int (nI (6 * i))), (2, .ref 60), (1, .ref 0), (0, .retAddr 1)] [] g Q) : bw_go X 10 9 4 false (some .boolean) cL_law 714 [(3, .int (nI (6 * i))), (2, .ref 60), (1, .ref 0), (0, .retAddr 1)] [] h Q := by
  show bw_go _ _ _ _ _ _ _ 714 [(3, .int _), (2, .ref _), (1, .ref _), (0, .retAddr _)] ([]) _ _
  refine go_aload_n dL_law_714 rfl ?_
  refine go_aloadA_n dL_law_715 rfl ?_
  refine go_iload_n dL_law_716 rfl ?_
  refine go_iconst (1) dL_law_717 rfl ?_
  refine go_iadd dL_law_718 ?_
  refine go_ia1 dL_law_719 (hb_n (c := 1) hi hL (by decide)) ?_
  refine go_cv (as := [.int _]) 3 dL_law_720 mt_9_81 (Or.inl rfl) rfl rfl hx.1.1.1 hx.1.1.2.1 (Nat.le_of_ble_eq_true rfl) (Nat.le_of_ble_eq_true rfl) (Nat.le_of_ble_eq_true rfl) (Nat.le_of_ble_eq_true rfl) (Nat.le_of_ble_eq_true rfl) ?_
  refine me_X7_undo hx (fun g hg hf => ?_)
  have hm1 := mr_frM hm hf
  show bw_go _ _ _ _ _ _ _ 723 [(3, .int _), (2, .ref _), (1, .ref _), (0, .retAddr _)] ((.int _) :: []) _ _
  refine go_aload_n dL_law_723 rfl ?_
  refine go_aloadA_n dL_law_724 rfl ?_
  refine go_iload_n dL_law_725 rfl ?_
  refine go_iconst (1) dL_law_726 rfl ?_
  refine go_iadd dL_law_727 ?_
  refine go_ia1 dL_law_728 (hb_n (c := 1) hi hL (by decide)) ?_
  refine go_cv (as := [.int _]) 1 dL_law_729 mt_9_84 (Or.inl rfl) rfl rfl (ms_lt hm1.1 (by decide)) hm1.1.1.2 (Nat.le_of_ble_eq_true rfl) (Nat.le_of_ble_eq_true rfl) (Nat.le_of_ble_eq_true rfl) (Nat.le_of_ble_eq_true rfl) (Nat.le_of_ble_eq_true rfl) ?_
  refine me_X8_undo hm1 (fun g2 hg2 hf2 => ?_)
  show bw_go _ _ _ _ _ _ _ 732 [(3, .int _), (2, .ref _), (1, .ref _), (0, .retAddr _)] ((.int _) :: (.int _) :: []) _ _
  refine go_icmp_eq (pc' := 1335) dL_law_732 rfl (fun c_732 => ?_) (fun c_732 => ?_)
  · -- eq at 732: yes
    have q1 := pot_frX hf2
    have q2 := hf.1.2
    exact K g2 _ (xr_frX hg hf2) hg2 (by omega)
  · -- eq at 732: no
    show bw_go _ _ _ _ _ _ _ 735 [(3, .int _), (2, .ref _), (1, .ref _), (0, .retAddr _)] ([]) _ _
    refine go_iconst (0) dL_law_735 rfl ?_
    refine go_iret dL_law_736 rfl rfl ?_
    exact absurd rfl c_732
set_option maxRecDepth 100000 in
set_option maxHeartbeats 4000000 in
theorem law_c17 {X : Nat × (Nat → Int32)} {Q : Option Value → bw_H → Prop} {h : bw_H} {S : ST} {i : Nat} (hx : XR h S) (hm : MR h S) (hr : bw_n h + 13 * pot h ≤ 117) (hi : 6 * i + 6 ≤ X.1) (hL : X.1 ≤ 3072) (K : ∀ g S', XR g S' → MR g S' → bw_n g + 13 * pot g ≤ 117 → bw_go X 10 9 4 false (some .boolean) cL_law 1335 [(3, .int (nI (6 * i))), (2, .ref 60), (1, .ref 0), (0, .retAddr 1)] [] g Q) : bw_go X 10 9 4 false (some .boolean) cL_law 737 [(3, .int (nI (6 * i))), (2, .ref 60), (1, .ref 0), (0, .retAddr 1)] [] h Q := by
  show bw_go _ _ _ _ _ _ _ 737 [(3, .int _), (2, .ref _), (1, .ref _), (0, .retAddr _)] ([]) _ _
  refine go_aload_n dL_law_737 rfl ?_
  refine go_aloadA_n dL_law_738 rfl ?_
  refine go_iload_n dL_law_739 rfl ?_
  refine go_iconst (1) dL_law_740 rfl ?_
  refine go_iadd dL_law_741 ?_
  refine go_ia1 dL_law_742 (hb_n (c := 1) hi hL (by decide)) ?_
  refine go_cv (as := [.int _]) 3 dL_law_743 mt_9_85 (Or.inl rfl) rfl rfl hx.1.1.1 hx.1.1.2.1 (Nat.le_of_ble_eq_true rfl) (Nat.le_of_ble_eq_true rfl) (Nat.le_of_ble_eq_true rfl) (Nat.le_of_ble_eq_true rfl) (Nat.le_of_ble_eq_true rfl) ?_
  refine me_X7_keep hx (fun g hg hf => ?_)
  have hm1 := mr_frM hm hf
  show bw_go _ _ _ _ _ _ _ 746 [(3, .int _), (2, .ref _), (1, .ref _), (0, .retAddr _)] ((.int _) :: []) _ _
  refine go_aload_n dL_law_746 rfl ?_
  refine go_aloadA_n dL_law_747 rfl ?_
  refine go_iload_n dL_law_748 rfl ?_
  refine go_iconst (1) dL_law_749 rfl ?_
  refine go_iadd dL_law_750 ?_
  refine go_ia1 dL_law_751 (hb_n (c := 1) hi hL (by decide)) ?_
  refine go_cv (as := [.int _]) 2 dL_law_752 mt_9_88 (Or.inl rfl) rfl rfl (ms_lt hm1.1 (by decide)) hm1.1.1.2 (Nat.le_of_ble_eq_true rfl) (Nat.le_of_ble_eq_true rfl) (Nat.le_of_ble_eq_true rfl) (Nat.le_of_ble_eq_true rfl) (Nat.le_of_ble_eq_true rfl) ?_
  refine me_X8_keep hm1 (fun g2 hg2 hf2 => ?_)
  show bw_go _ _ _ _ _ _ _ 755 [(3, .int _), (2, .ref _), (1, .ref _), (0, .retAddr _)] ((.int _) :: (.int _) :: []) _ _
  refine go_icmp_eq (pc' := 1335) dL_law_755 rfl (fun c_755 => ?_) (fun c_755 => ?_)
  · -- eq at 755: yes
    have q1 := pot_frX hf2
    have q2 := hf.1.2
    exact K g2 _ (xr_frX hg hf2) hg2 (by omega)
  · -- eq at 755: no
    show bw_go _ _ _ _ _ _ _ 758 [(3, .int _), (2, .ref _), (1, .ref _), (0, .retAddr _)] ([]) _ _
    refine go_iconst (0) dL_law_758 rfl ?_
    refine go_iret dL_law_759 rfl rfl ?_
    exact absurd rfl c_755
set_option maxRecDepth 100000 in
set_option maxHeartbeats 4000000 in
theorem law_c18 {X : Nat × (Nat → Int32)} {Q : Option Value → bw_H → Prop} {h : bw_H} {S : ST} {i : Nat} (hx : XR h S) (hm : MR h S) (hr : bw_n h + 13 * pot h ≤ 117) (hi : 6 * i + 6 ≤ X.1) (hL : X.1 ≤ 3072) (K : ∀ g S', XR g S' → MR g S' → bw_n g + 13 * pot g ≤ 117 → bw_go X 10 9 4 false (some .boolean) cL_law 1335 [(3, .int (nI (6 * i))), (2, .ref 60), (1, .ref 0), (0, .retAddr 1)] [] g Q) : bw_go X 10 9 4 false (some .boolean) cL_law 760 [(3, .int (nI (6 * i))), (2, .ref 60), (1, .ref 0), (0, .retAddr 1)] [] h Q := by
  show bw_go _ _ _ _ _ _ _ 760 [(3, .int _), (2, .ref _), (1, .ref _), (0, .retAddr _)] ([]) _ _
  refine go_aload_n dL_law_760 rfl ?_
  refine go_aloadA_n dL_law_761 rfl ?_
  refine go_iload_n dL_law_762 rfl ?_
  refine go_iconst (1) dL_law_763 rfl ?_
  refine go_iadd dL_law_764 ?_
  refine go_ia1 dL_law_765 (hb_n (c := 1) hi hL (by decide)) ?_
  refine go_cv (as := [.int _]) 3 dL_law_766 mt_9_89 (Or.inl rfl) rfl rfl hx.1.1.1 hx.1.1.2.1 (Nat.le_of_ble_eq_true rfl) (Nat.le_of_ble_eq_true rfl) (Nat.le_of_ble_eq_true rfl) (Nat.le_of_ble_eq_true rfl) (Nat.le_of_ble_eq_true rfl) ?_
  refine me_X7_on hx (fun g hg hf => ?_)
  have hm1 := mr_frM hm hf
  show bw_go _ _ _ _ _ _ _ 769 [(3, .int _), (2, .ref _), (1, .ref _), (0, .retAddr _)] ((.int _) :: []) _ _
  refine go_aload_n dL_law_769 rfl ?_
  refine go_aloadA_n dL_law_770 rfl ?_
  refine go_iload_n dL_law_771 rfl ?_
  refine go_iconst (1) dL_law_772 rfl ?_
  refine go_iadd dL_law_773 ?_
  refine go_ia1 dL_law_774 (hb_n (c := 1) hi hL (by decide)) ?_
  refine go_cv (as := [.int _]) 2 dL_law_775 mt_9_92 (Or.inl rfl) rfl rfl (ms_lt hm1.1 (by decide)) hm1.1.1.2 (Nat.le_of_ble_eq_true rfl) (Nat.le_of_ble_eq_true rfl) (Nat.le_of_ble_eq_true rfl) (Nat.le_of_ble_eq_true rfl) (Nat.le_of_ble_eq_true rfl) ?_
  refine me_X8_on hm1 (fun g2 hg2 hf2 => ?_)
  show bw_go _ _ _ _ _ _ _ 778 [(3, .int _), (2, .ref _), (1, .ref _), (0, .retAddr _)] ((.int _) :: (.int _) :: []) _ _
  refine go_icmp_eq (pc' := 1335) dL_law_778 rfl (fun c_778 => ?_) (fun c_778 => ?_)
  · -- eq at 778: yes
    have q1 := pot_frX hf2
    have q2 := hf.1.2
    exact K g2 _ (xr_frX hg hf2) hg2 (by omega)
  · -- eq at 778: no
    show bw_go _ _ _ _ _ _ _ 781 [(3, .int _), (2, .ref _), (1, .ref _), (0, .retAddr _)] ([]) _ _
    refine go_iconst (0) dL_law_781 rfl ?_
    refine go_iret dL_law_782 rfl rfl ?_
    exact absurd rfl c_778
set_option maxRecDepth 100000 in
set_option maxHeartbeats 4000000 in
theorem law_c19 {X : Nat × (Nat → Int32)} {Q : Option Value → bw_H → Prop} {h : bw_H} {S : ST} {i : Nat} (hx : XR h S) (hm : MR h S) (hr : bw_n h + 13 * pot h ≤ 117) (hi : 6 * i + 6 ≤ X.1) (hL : X.1 ≤ 3072) (K : ∀ g S', XR g S' → MR g S' → bw_n g + 13 * pot g ≤ 117 → bw_go X 10 9 4 false (some .boolean) cL_law 1335 [(3, .int (nI (6 * i))), (2, .ref 60), (1, .ref 0), (0, .retAddr 1)] [] g Q) : bw_go X 10 9 4 false (some .boolean) cL_law 783 [(3, .int (nI (6 * i))), (2, .ref 60), (1, .ref 0), (0, .retAddr 1)] [] h Q := by
  show bw_go _ _ _ _ _ _ _ 783 [(3, .int _), (2, .ref _), (1, .ref _), (0, .retAddr _)] ([]) _ _
  refine go_aload_n dL_law_783 rfl ?_
  refine go_aloadA_n dL_law_784 rfl ?_
  refine go_iload_n dL_law_785 rfl ?_
  refine go_iconst (1) dL_law_786 rfl ?_
  refine go_iadd dL_law_787 ?_
  refine go_ia1 dL_law_788 (hb_n (c := 1) hi hL (by decide)) ?_
  refine go_aloadA_n dL_law_789 rfl ?_
  refine go_iload_n dL_law_790 rfl ?_
  refine go_iconst (2) dL_law_791 rfl ?_
  refine go_iadd dL_law_792 ?_
  refine go_ia1 dL_law_793 (hb_n (c := 2) hi hL (by decide)) ?_
  refine go_cv (as := [.int _, .int _]) 5 dL_law_794 mt_9_93 (Or.inl rfl) rfl rfl hx.1.1.1 hx.1.1.2.1 (Nat.le_of_ble_eq_true rfl) (Nat.le_of_ble_eq_true rfl) (Nat.le_of_ble_eq_true rfl) (Nat.le_of_ble_eq_true rfl) (Nat.le_of_ble_eq_true rfl) ?_
  refine me_X7_tells hx (fun g hg hf => ?_)
  have hm1 := mr_frM hm hf
  show bw_go _ _ _ _ _ _ _ 797 [(3, .int _), (2, .ref _), (1, .ref _), (0, .retAddr _)] ((.int _) :: []) _ _
  refine go_aload_n dL_law_797 rfl ?_
  refine go_aloadA_n dL_law_798 rfl ?_
  refine go_iload_n dL_law_799 rfl ?_
  refine go_iconst (1) dL_law_800 rfl ?_
  refine go_iadd dL_law_801 ?_
  refine go_ia1 dL_law_802 (hb_n (c := 1) hi hL (by decide)) ?_
  refine go_aloadA_n dL_law_803 rfl ?_
  refine go_iload_n dL_law_804 rfl ?_
  refine go_iconst (2) dL_law_805 rfl ?_
  refine go_iadd dL_law_806 ?_
  refine go_ia1 dL_law_807 (hb_n (c := 2) hi hL (by decide)) ?_
  refine go_cv (as := [.int _, .int _]) 6 dL_law_808 mt_9_96 (Or.inl rfl) rfl rfl (ms_lt hm1.1 (by decide)) hm1.1.1.2 (Nat.le_of_ble_eq_true rfl) (Nat.le_of_ble_eq_true rfl) (Nat.le_of_ble_eq_true rfl) (Nat.le_of_ble_eq_true rfl) (Nat.le_of_ble_eq_true rfl) ?_
  refine me_X8_tells hm1 (fun g2 hg2 hf2 => ?_)
  show bw_go _ _ _ _ _ _ _ 811 [(3, .int _), (2, .ref _), (1, .ref _), (0, .retAddr _)] ((.int _) :: (.int _) :: []) _ _
  refine go_icmp_eq (pc' := 1335) dL_law_811 rfl (fun c_811 => ?_) (fun c_811 => ?_)
  · -- eq at 811: yes
    have q1 := pot_frX hf2
    have q2 := hf.1.2
    exact K g2 _ (xr_frX hg hf2) hg2 (by omega)
  · -- eq at 811: no
    show bw_go _ _ _ _ _ _ _ 814 [(3, .int _), (2, .ref _), (1, .ref _), (0, .retAddr _)] ([]) _ _
    refine go_iconst (0) dL_law_814 rfl ?_
    refine go_iret dL_law_815 rfl rfl ?_
    exact absurd rfl c_811
set_option maxRecDepth 100000 in
set_option maxHeartbeats 4000000 in
theorem law_c20 {X : Nat × (Nat → Int32)} {Q : Option Value → bw_H → Prop} {h : bw_H} {S : ST} {i : Nat} (hx : XR h S) (hm : MR h S) (hr : bw_n h + 13 * pot h ≤ 117) (hi : 6 * i + 6 ≤ X.1) (hL : X.1 ≤ 3072) (K : ∀ g S', XR g S' → MR g S' → bw_n g + 13 * pot g ≤ 117 → bw_go X 10 9 4 false (some .boolean) cL_law 1335 [(3, .int (nI (6 * i))), (2, .ref 60), (1, .ref 0), (0, .retAddr 1)] [] g Q) : bw_go X 10 9 4 false (some .boolean) cL_law 816 [(3, .int (nI (6 * i))), (2, .ref 60), (1, .ref 0), (0, .retAddr 1)] [] h Q := by
  show bw_go _ _ _ _ _ _ _ 816 [(3, .int _), (2, .ref _), (1, .ref _), (0, .retAddr _)] ([]) _ _
  refine go_aload_n dL_law_816 rfl ?_
  refine go_aloadA_n dL_law_817 rfl ?_
  refine go_iload_n dL_law_818 rfl ?_
  refine go_iconst (1) dL_law_819 rfl ?_
  refine go_iadd dL_law_820 ?_
  refine go_ia1 dL_law_821 (hb_n (c := 1) hi hL (by decide)) ?_
  refine go_cv (as := [.int _]) 4 dL_law_822 mt_9_97 (Or.inl rfl) rfl rfl hx.1.1.1 hx.1.1.2.1 (Nat.le_of_ble_eq_true rfl) (Nat.le_of_ble_eq_true rfl) (Nat.le_of_ble_eq_true rfl) (Nat.le_of_ble_eq_true rfl) (Nat.le_of_ble_eq_true rfl) ?_
  refine me_X7_shown hx (fun g hg hf => ?_)
  have hm1 := mr_frM hm hf
  show bw_go _ _ _ _ _ _ _ 825 [(3, .int _), (2, .ref _), (1, .ref _), (0, .retAddr _)] ((.int _) :: []) _ _
  refine go_aload_n dL_law_825 rfl ?_
  refine go_aloadA_n dL_law_826 rfl ?_
  refine go_iload_n dL_law_827 rfl ?_
  refine go_iconst (1) dL_law_828 rfl ?_
  refine go_iadd dL_law_829 ?_
  refine go_ia1 dL_law_830 (hb_n (c := 1) hi hL (by decide)) ?_
  refine go_cv (as := [.int _]) 7 dL_law_831 mt_9_100 (Or.inl rfl) rfl rfl (ms_lt hm1.1 (by decide)) hm1.1.1.2 (Nat.le_of_ble_eq_true rfl) (Nat.le_of_ble_eq_true rfl) (Nat.le_of_ble_eq_true rfl) (Nat.le_of_ble_eq_true rfl) (Nat.le_of_ble_eq_true rfl) ?_
  refine me_X8_shown hm1 (fun g2 hg2 hf2 => ?_)
  show bw_go _ _ _ _ _ _ _ 834 [(3, .int _), (2, .ref _), (1, .ref _), (0, .retAddr _)] ((.int _) :: (.int _) :: []) _ _
  refine go_icmp_eq (pc' := 1335) dL_law_834 rfl (fun c_834 => ?_) (fun c_834 => ?_)
  · -- eq at 834: yes
    have q1 := pot_frX hf2
    have q2 := hf.1.2
    exact K g2 _ (xr_frX hg hf2) hg2 (by omega)
  · -- eq at 834: no
    show bw_go _ _ _ _ _ _ _ 837 [(3, .int _), (2, .ref _), (1, .ref _), (0, .retAddr _)] ([]) _ _
    refine go_iconst (0) dL_law_837 rfl ?_
    refine go_iret dL_law_838 rfl rfl ?_
    exact absurd rfl c_834
set_option maxRecDepth 100000 in
set_option maxHeartbeats 4000000 in
theorem law_c21 {X : Nat × (Nat → Int32)} {Q : Option Value → bw_H → Prop} {h : bw_H} {S : ST} {i : Nat} (hx : XR h S) (hm : MR h S) (hr : bw_n h + 13 * pot h ≤ 117) (hi : 6 * i + 6 ≤ X.1) (hL : X.1 ≤ 3072) (K : ∀ g S', XR g S' → MR g S' → bw_n g + 13 * pot g ≤ 117 → bw_go X 10 9 4 false (some .boolean) cL_law 1335 [(3, .int (nI (6 * i))), (2, .ref 60), (1, .ref 0), (0, .retAddr 1)] [] g Q) : bw_go X 10 9 4 false (some .boolean) cL_law 839 [(3, .int (nI (6 * i))), (2, .ref 60), (1, .ref 0), (0, .retAddr 1)] [] h Q := by
  show bw_go _ _ _ _ _ _ _ 839 [(3, .int _), (2, .ref _), (1, .ref _), (0, .retAddr _)] ([]) _ _
  refine go_aload_n dL_law_839 rfl ?_
  refine go_aloadA_n dL_law_840 rfl ?_
  refine go_iload_n dL_law_841 rfl ?_
  refine go_iconst (1) dL_law_842 rfl ?_
  refine go_iadd dL_law_843 ?_
  refine go_ia1 dL_law_844 (hb_n (c := 1) hi hL (by decide)) ?_
  refine go_cv (as := [.int _]) 4 dL_law_845 mt_9_101 (Or.inl rfl) rfl rfl hx.1.1.1 hx.1.1.2.1 (Nat.le_of_ble_eq_true rfl) (Nat.le_of_ble_eq_true rfl) (Nat.le_of_ble_eq_true rfl) (Nat.le_of_ble_eq_true rfl) (Nat.le_of_ble_eq_true rfl) ?_
  refine me_X7_call hx (fun g hg hf => ?_)
  have hm1 := mr_frM hm hf
  show bw_go _ _ _ _ _ _ _ 848 [(3, .int _), (2, .ref _), (1, .ref _), (0, .retAddr _)] ((.int _) :: []) _ _
  refine go_aload_n dL_law_848 rfl ?_
  refine go_aloadA_n dL_law_849 rfl ?_
  refine go_iload_n dL_law_850 rfl ?_
  refine go_iconst (1) dL_law_851 rfl ?_
  refine go_iadd dL_law_852 ?_
  refine go_ia1 dL_law_853 (hb_n (c := 1) hi hL (by decide)) ?_
  refine go_cv (as := [.int _]) 7 dL_law_854 mt_9_104 (Or.inl rfl) rfl rfl (ms_lt hm1.1 (by decide)) hm1.1.1.2 (Nat.le_of_ble_eq_true rfl) (Nat.le_of_ble_eq_true rfl) (Nat.le_of_ble_eq_true rfl) (Nat.le_of_ble_eq_true rfl) (Nat.le_of_ble_eq_true rfl) ?_
  refine me_X8_call hm1 (fun g2 hg2 hf2 => ?_)
  show bw_go _ _ _ _ _ _ _ 857 [(3, .int _), (2, .ref _), (1, .ref _), (0, .retAddr _)] ((.int _) :: (.int _) :: []) _ _
  refine go_icmp_eq (pc' := 1335) dL_law_857 rfl (fun c_857 => ?_) (fun c_857 => ?_)
  · -- eq at 857: yes
    have q1 := pot_frX hf2
    have q2 := hf.1.2
    exact K g2 _ (xr_frX hg hf2) hg2 (by omega)
  · -- eq at 857: no
    show bw_go _ _ _ _ _ _ _ 860 [(3, .int _), (2, .ref _), (1, .ref _), (0, .retAddr _)] ([]) _ _
    refine go_iconst (0) dL_law_860 rfl ?_
    refine go_iret dL_law_861 rfl rfl ?_
    exact absurd rfl c_857
set_option maxRecDepth 100000 in
set_option maxHeartbeats 4000000 in
theorem law_c22 {X : Nat × (Nat → Int32)} {Q : Option Value → bw_H → Prop} {h : bw_H} {S : ST} {i : Nat} (hx : XR h S) (hm : MR h S) (hr : bw_n h + 13 * pot h ≤ 117) (hi : 6 * i + 6 ≤ X.1) (hL : X.1 ≤ 3072) (K : ∀ g S', XR g S' → MR g S' → bw_n g + 13 * pot g ≤ 117 → bw_go X 10 9 4 false (some .boolean) cL_law 1335 [(3, .int (nI (6 * i))), (2, .ref 60), (1, .ref 0), (0, .retAddr 1)] [] g Q) : bw_go X 10 9 4 false (some .boolean) cL_law 862 [(3, .int (nI (6 * i))), (2, .ref 60), (1, .ref 0), (0, .retAddr 1)] [] h Q := by
  show bw_go _ _ _ _ _ _ _ 862 [(3, .int _), (2, .ref _), (1, .ref _), (0, .retAddr _)] ([]) _ _
  refine go_aload_n dL_law_862 rfl ?_
  refine go_aloadA_n dL_law_863 rfl ?_
  refine go_iload_n dL_law_864 rfl ?_
  refine go_iconst (1) dL_law_865 rfl ?_
  refine go_iadd dL_law_866 ?_
  refine go_ia1 dL_law_867 (hb_n (c := 1) hi hL (by decide)) ?_
  refine go_aloadA_n dL_law_868 rfl ?_
  refine go_iload_n dL_law_869 rfl ?_
  refine go_iconst (2) dL_law_870 rfl ?_
  refine go_iadd dL_law_871 ?_
  refine go_ia1 dL_law_872 (hb_n (c := 2) hi hL (by decide)) ?_
  refine go_aloadA_n dL_law_873 rfl ?_
  refine go_iload_n dL_law_874 rfl ?_
  refine go_iconst (3) dL_law_875 rfl ?_
  refine go_iadd dL_law_876 ?_
  refine go_ia1 dL_law_877 (hb_n (c := 3) hi hL (by decide)) ?_
  refine go_cv (as := [.int _, .int _, .int _]) 9 dL_law_878 mt_9_105 (Or.inl rfl) rfl rfl hx.1.1.1 hx.1.1.2.1 (Nat.le_of_ble_eq_true rfl) (Nat.le_of_ble_eq_true rfl) (Nat.le_of_ble_eq_true rfl) (Nat.le_of_ble_eq_true rfl) (Nat.le_of_ble_eq_true rfl) ?_
  refine me_X7_shake hx (fun g hg hf => ?_)
  have hm1 := mr_frM hm hf
  show bw_go _ _ _ _ _ _ _ 881 [(3, .int _), (2, .ref _), (1, .ref _), (0, .retAddr _)] ((.int _) :: []) _ _
  refine go_aload_n dL_law_881 rfl ?_
  refine go_aloadA_n dL_law_882 rfl ?_
  refine go_iload_n dL_law_883 rfl ?_
  refine go_iconst (1) dL_law_884 rfl ?_
  refine go_iadd dL_law_885 ?_
  refine go_ia1 dL_law_886 (hb_n (c := 1) hi hL (by decide)) ?_
  refine go_aloadA_n dL_law_887 rfl ?_
  refine go_iload_n dL_law_888 rfl ?_
  refine go_iconst (2) dL_law_889 rfl ?_
  refine go_iadd dL_law_890 ?_
  refine go_ia1 dL_law_891 (hb_n (c := 2) hi hL (by decide)) ?_
  refine go_aloadA_n dL_law_892 rfl ?_
  refine go_iload_n dL_law_893 rfl ?_
  refine go_iconst (3) dL_law_894 rfl ?_
  refine go_iadd dL_law_895 ?_
  refine go_ia1 dL_law_896 (hb_n (c := 3) hi hL (by decide)) ?_
  refine go_cv (as := [.int _, .int _, .int _]) 7 dL_law_897 mt_9_108 (Or.inl rfl) rfl rfl (ms_lt hm1.1 (by decide)) hm1.1.1.2 (Nat.le_of_ble_eq_true rfl) (Nat.le_of_ble_eq_true rfl) (Nat.le_of_ble_eq_true rfl) (Nat.le_of_ble_eq_true rfl) (Nat.le_of_ble_eq_true rfl) ?_
  refine me_X8_shake hm1 (fun g2 hg2 hf2 => ?_)
  show bw_go _ _ _ _ _ _ _ 900 [(3, .int _), (2, .ref _), (1, .ref _), (0, .retAddr _)] ((.int _) :: (.int _) :: []) _ _
  refine go_icmp_eq (pc' := 1335) dL_law_900 rfl (fun c_900 => ?_) (fun c_900 => ?_)
  · -- eq at 900: yes
    have q1 := pot_frX hf2
    have q2 := hf.1.2
    exact K g2 _ (xr_frX hg hf2) hg2 (by omega)
  · -- eq at 900: no
    show bw_go _ _ _ _ _ _ _ 903 [(3, .int _), (2, .ref _), (1, .ref _), (0, .retAddr _)] ([]) _ _
    refine go_iconst (0) dL_law_903 rfl ?_
    refine go_iret dL_law_904 rfl rfl ?_
    exact absurd rfl c_900
set_option maxRecDepth 100000 in
set_option maxHeartbeats 4000000 in
theorem law_c23 {X : Nat × (Nat → Int32)} {Q : Option Value → bw_H → Prop} {h : bw_H} {S : ST} {i : Nat} (hx : XR h S) (hm : MR h S) (hr : bw_n h + 13 * pot h ≤ 117) (hi : 6 * i + 6 ≤ X.1) (hL : X.1 ≤ 3072) (K : ∀ g S', XR g S' → MR g S' → bw_n g + 13 * pot g ≤ 117 → bw_go X 10 9 4 false (some .boolean) cL_law 1335 [(3, .int (nI (6 * i))), (2, .ref 60), (1, .ref 0), (0, .retAddr 1)] [] g Q) : bw_go X 10 9 4 false (some .boolean) cL_law 905 [(3, .int (nI (6 * i))), (2, .ref 60), (1, .ref 0), (0, .retAddr 1)] [] h Q := by
  show bw_go _ _ _ _ _ _ _ 905 [(3, .int _), (2, .ref _), (1, .ref _), (0, .retAddr _)] ([]) _ _
  refine go_aload_n dL_law_905 rfl ?_
  refine go_aloadA_n dL_law_906 rfl ?_
  refine go_iload_n dL_law_907 rfl ?_
  refine go_iconst (1) dL_law_908 rfl ?_
  refine go_iadd dL_law_909 ?_
  refine go_ia1 dL_law_910 (hb_n (c := 1) hi hL (by decide)) ?_
  refine go_cv (as := [.int _]) 4 dL_law_911 mt_9_109 (Or.inl rfl) rfl rfl hx.1.1.1 hx.1.1.2.1 (Nat.le_of_ble_eq_true rfl) (Nat.le_of_ble_eq_true rfl) (Nat.le_of_ble_eq_true rfl) (Nat.le_of_ble_eq_true rfl) (Nat.le_of_ble_eq_true rfl) ?_
  refine me_X7_cover hx (fun g hg hf => ?_)
  have hm1 := mr_frM hm hf
  show bw_go _ _ _ _ _ _ _ 914 [(3, .int _), (2, .ref _), (1, .ref _), (0, .retAddr _)] ((.int _) :: []) _ _
  refine go_aload_n dL_law_914 rfl ?_
  refine go_aloadA_n dL_law_915 rfl ?_
  refine go_iload_n dL_law_916 rfl ?_
  refine go_iconst (1) dL_law_917 rfl ?_
  refine go_iadd dL_law_918 ?_
  refine go_ia1 dL_law_919 (hb_n (c := 1) hi hL (by decide)) ?_
  refine go_cv (as := [.int _]) 7 dL_law_920 mt_9_112 (Or.inl rfl) rfl rfl (ms_lt hm1.1 (by decide)) hm1.1.1.2 (Nat.le_of_ble_eq_true rfl) (Nat.le_of_ble_eq_true rfl) (Nat.le_of_ble_eq_true rfl) (Nat.le_of_ble_eq_true rfl) (Nat.le_of_ble_eq_true rfl) ?_
  refine me_X8_cover hm1 (fun g2 hg2 hf2 => ?_)
  show bw_go _ _ _ _ _ _ _ 923 [(3, .int _), (2, .ref _), (1, .ref _), (0, .retAddr _)] ((.int _) :: (.int _) :: []) _ _
  refine go_icmp_eq (pc' := 1335) dL_law_923 rfl (fun c_923 => ?_) (fun c_923 => ?_)
  · -- eq at 923: yes
    have q1 := pot_frX hf2
    have q2 := hf.1.2
    exact K g2 _ (xr_frX hg hf2) hg2 (by omega)
  · -- eq at 923: no
    show bw_go _ _ _ _ _ _ _ 926 [(3, .int _), (2, .ref _), (1, .ref _), (0, .retAddr _)] ([]) _ _
    refine go_iconst (0) dL_law_926 rfl ?_
    refine go_iret dL_law_927 rfl rfl ?_
    exact absurd rfl c_923
set_option maxRecDepth 100000 in
set_option maxHeartbeats 4000000 in
theorem law_c24 {X : Nat × (Nat → Int32)} {Q : Option Value → bw_H → Prop} {h : bw_H} {S : ST} {i : Nat} (hx : XR h S) (hm : MR h S) (hr : bw_n h + 13 * pot h ≤ 117) (hi : 6 * i + 6 ≤ X.1) (hL : X.1 ≤ 3072) (K : ∀ g S', XR g S' → MR g S' → bw_n g + 13 * pot g ≤ 117 → bw_go X 10 9 4 false (some .boolean) cL_law 1335 [(3, .int (nI (6 * i))), (2, .ref 60), (1, .ref 0), (0, .retAddr 1)] [] g Q) : bw_go X 10 9 4 false (some .boolean) cL_law 928 [(3, .int (nI (6 * i))), (2, .ref 60), (1, .ref 0), (0, .retAddr 1)] [] h Q := by
  show bw_go _ _ _ _ _ _ _ 928 [(3, .int _), (2, .ref _), (1, .ref _), (0, .retAddr _)] ([]) _ _
  refine go_aload_n dL_law_928 rfl ?_
  refine go_aloadA_n dL_law_929 rfl ?_
  refine go_iload_n dL_law_930 rfl ?_
  refine go_iconst (1) dL_law_931 rfl ?_
  refine go_iadd dL_law_932 ?_
  refine go_ia1 dL_law_933 (hb_n (c := 1) hi hL (by decide)) ?_
  refine go_aloadA_n dL_law_934 rfl ?_
  refine go_iload_n dL_law_935 rfl ?_
  refine go_iconst (2) dL_law_936 rfl ?_
  refine go_iadd dL_law_937 ?_
  refine go_ia1 dL_law_938 (hb_n (c := 2) hi hL (by decide)) ?_
  refine go_cv (as := [.int _, .int _]) 4 dL_law_939 mt_9_113 (Or.inl rfl) rfl rfl hx.1.1.1 hx.1.1.2.1 (Nat.le_of_ble_eq_true rfl) (Nat.le_of_ble_eq_true rfl) (Nat.le_of_ble_eq_true rfl) (Nat.le_of_ble_eq_true rfl) (Nat.le_of_ble_eq_true rfl) ?_
  refine me_X7_rivals hx (fun g hg hf => ?_)
  have hm1 := mr_frM hm hf
  show bw_go _ _ _ _ _ _ _ 942 [(3, .int _), (2, .ref _), (1, .ref _), (0, .retAddr _)] ((.int _) :: []) _ _
  refine go_aload_n dL_law_942 rfl ?_
  refine go_aloadA_n dL_law_943 rfl ?_
  refine go_iload_n dL_law_944 rfl ?_
  refine go_iconst (1) dL_law_945 rfl ?_
  refine go_iadd dL_law_946 ?_
  refine go_ia1 dL_law_947 (hb_n (c := 1) hi hL (by decide)) ?_
  refine go_aloadA_n dL_law_948 rfl ?_
  refine go_iload_n dL_law_949 rfl ?_
  refine go_iconst (2) dL_law_950 rfl ?_
  refine go_iadd dL_law_951 ?_
  refine go_ia1 dL_law_952 (hb_n (c := 2) hi hL (by decide)) ?_
  refine go_cv (as := [.int _, .int _]) 7 dL_law_953 mt_9_116 (Or.inl rfl) rfl rfl (ms_lt hm1.1 (by decide)) hm1.1.1.2 (Nat.le_of_ble_eq_true rfl) (Nat.le_of_ble_eq_true rfl) (Nat.le_of_ble_eq_true rfl) (Nat.le_of_ble_eq_true rfl) (Nat.le_of_ble_eq_true rfl) ?_
  refine me_X8_rivals hm1 (fun g2 hg2 hf2 => ?_)
  show bw_go _ _ _ _ _ _ _ 956 [(3, .int _), (2, .ref _), (1, .ref _), (0, .retAddr _)] ((.int _) :: (.int _) :: []) _ _
  refine go_icmp_eq (pc' := 1335) dL_law_956 rfl (fun c_956 => ?_) (fun c_956 => ?_)
  · -- eq at 956: yes
    have q1 := pot_frX hf2
    have q2 := hf.1.2
    exact K g2 _ (xr_frX hg hf2) hg2 (by omega)
  · -- eq at 956: no
    show bw_go _ _ _ _ _ _ _ 959 [(3, .int _), (2, .ref _), (1, .ref _), (0, .retAddr _)] ([]) _ _
    refine go_iconst (0) dL_law_959 rfl ?_
    refine go_iret dL_law_960 rfl rfl ?_
    exact absurd rfl c_956
set_option maxRecDepth 100000 in
set_option maxHeartbeats 4000000 in
theorem law_c25 {X : Nat × (Nat → Int32)} {Q : Option Value → bw_H → Prop} {h : bw_H} {S : ST} {i : Nat} (hx : XR h S) (hm : MR h S) (hr : bw_n h + 13 * pot h ≤ 117) (hi : 6 * i + 6 ≤ X.1) (hL : X.1 ≤ 3072) (K : ∀ g S', XR g S' → MR g S' → bw_n g + 13 * pot g ≤ 117 → bw_go X 10 9 4 false (some .boolean) cL_law 1335 [(3, .int (nI (6 * i))), (2, .ref 60), (1, .ref 0), (0, .retAddr 1)] [] g Q) : bw_go X 10 9 4 false (some .boolean) cL_law 961 [(3, .int (nI (6 * i))), (2, .ref 60), (1, .ref 0), (0, .retAddr 1)] [] h Q := by
  show bw_go _ _ _ _ _ _ _ 961 [(3, .int _), (2, .ref _), (1, .ref _), (0, .retAddr _)] ([]) _ _
  refine go_aload_n dL_law_961 rfl ?_
  refine go_cv (as := []) 4 dL_law_962 mt_9_117 (Or.inl rfl) rfl rfl hx.1.1.1 hx.1.1.2.1 (Nat.le_of_ble_eq_true rfl) (Nat.le_of_ble_eq_true rfl) (Nat.le_of_ble_eq_true rfl) (Nat.le_of_ble_eq_true rfl) (Nat.le_of_ble_eq_true rfl) ?_
  refine me_X7_apart hx (fun g hg hf => ?_)
  have hm1 := mr_frM hm hf
  show bw_go _ _ _ _ _ _ _ 965 [(3, .int _), (2, .ref _), (1, .ref _), (0, .retAddr _)] ((.int _) :: []) _ _
  refine go_aload_n dL_law_965 rfl ?_
  refine go_cv (as := []) 7 dL_law_966 mt_9_121 (Or.inl rfl) rfl rfl (ms_lt hm1.1 (by decide)) hm1.1.1.2 (Nat.le_of_ble_eq_true rfl) (Nat.le_of_ble_eq_true rfl) (Nat.le_of_ble_eq_true rfl) (Nat.le_of_ble_eq_true rfl) (Nat.le_of_ble_eq_true rfl) ?_
  refine me_X8_apart hm1 (fun g2 hg2 hf2 => ?_)
  show bw_go _ _ _ _ _ _ _ 969 [(3, .int _), (2, .ref _), (1, .ref _), (0, .retAddr _)] ((.int _) :: (.int _) :: []) _ _
  refine go_icmp_eq (pc' := 1335) dL_law_969 rfl (fun c_969 => ?_) (fun c_969 => ?_)
  · -- eq at 969: yes
    have q1 := pot_frX hf2
    have q2 := hf.1.2
    exact K g2 _ (xr_frX hg hf2) hg2 (by omega)
  · -- eq at 969: no
    show bw_go _ _ _ _ _ _ _ 972 [(3, .int _), (2, .ref _), (1, .ref _), (0, .retAddr _)] ([]) _ _
    refine go_iconst (0) dL_law_972 rfl ?_
    refine go_iret dL_law_973 rfl rfl ?_
    exact absurd rfl c_969
set_option maxRecDepth 100000 in
set_option maxHeartbeats 4000000 in
theorem law_c26 {X : Nat × (Nat → Int32)} {Q : Option Value → bw_H → Prop} {h : bw_H} {S : ST} {i : Nat} (hx : XR h S) (hm : MR h S) (hr : bw_n h + 13 * pot h ≤ 117) (hi : 6 * i + 6 ≤ X.1) (hL : X.1 ≤ 3072) (K : ∀ g S', XR g S' → MR g S' → bw_n g + 13 * pot g ≤ 117 → bw_go X 10 9 4 false (some .boolean) cL_law 1335 [(3, .int (nI (6 * i))), (2, .ref 60), (1, .ref 0), (0, .retAddr 1)] [] g Q) : bw_go X 10 9 4 false (some .boolean) cL_law 974 [(3, .int (nI (6 * i))), (2, .ref 60), (1, .ref 0), (0, .retAddr 1)] [] h Q := by
  show bw_go _ _ _ _ _ _ _ 974 [(3, .int _), (2, .ref _), (1, .ref _), (0, .retAddr _)] ([]) _ _
  refine go_aload_n dL_law_974 rfl ?_
  refine go_aloadA_n dL_law_975 rfl ?_
  refine go_iload_n dL_law_976 rfl ?_
  refine go_iconst (1) dL_law_977 rfl ?_
  refine go_iadd dL_law_978 ?_
  refine go_ia1 dL_law_979 (hb_n (c := 1) hi hL (by decide)) ?_
  refine go_cv (as := [.int _]) 6 dL_law_980 mt_9_122 (Or.inl rfl) rfl rfl hx.1.1.1 hx.1.1.2.1 (Nat.le_of_ble_eq_true rfl) (Nat.le_of_ble_eq_true rfl) (Nat.le_of_ble_eq_true rfl) (Nat.le_of_ble_eq_true rfl) (Nat.le_of_ble_eq_true rfl) ?_
  refine me_X7_truths hx (fun g hg hf => ?_)
  have hm1 := mr_frM hm hf
  show bw_go _ _ _ _ _ _ _ 983 [(3, .int _), (2, .ref _), (1, .ref _), (0, .retAddr _)] ((.int _) :: []) _ _
  refine go_aload_n dL_law_983 rfl ?_
  refine go_aloadA_n dL_law_984 rfl ?_
  refine go_iload_n dL_law_985 rfl ?_
  refine go_iconst (1) dL_law_986 rfl ?_
  refine go_iadd dL_law_987 ?_
  refine go_ia1 dL_law_988 (hb_n (c := 1) hi hL (by decide)) ?_
  refine go_cv (as := [.int _]) 6 dL_law_989 mt_9_125 (Or.inl rfl) rfl rfl (ms_lt hm1.1 (by decide)) hm1.1.1.2 (Nat.le_of_ble_eq_true rfl) (Nat.le_of_ble_eq_true rfl) (Nat.le_of_ble_eq_true rfl) (Nat.le_of_ble_eq_true rfl) (Nat.le_of_ble_eq_true rfl) ?_
  refine me_X8_truths hm1 (fun g2 hg2 hf2 => ?_)
  show bw_go _ _ _ _ _ _ _ 992 [(3, .int _), (2, .ref _), (1, .ref _), (0, .retAddr _)] ((.int _) :: (.int _) :: []) _ _
  refine go_icmp_eq (pc' := 1335) dL_law_992 rfl (fun c_992 => ?_) (fun c_992 => ?_)
  · -- eq at 992: yes
    have q1 := pot_frX hf2
    have q2 := hf.1.2
    exact K g2 _ (xr_frX hg hf2) hg2 (by omega)
  · -- eq at 992: no
    show bw_go _ _ _ _ _ _ _ 995 [(3, .int _), (2, .ref _), (1, .ref _), (0, .retAddr _)] ([]) _ _
    refine go_iconst (0) dL_law_995 rfl ?_
    refine go_iret dL_law_996 rfl rfl ?_
    exact absurd rfl c_992
set_option maxRecDepth 100000 in
set_option maxHeartbeats 4000000 in
theorem law_c27 {X : Nat × (Nat → Int32)} {Q : Option Value → bw_H → Prop} {h : bw_H} {S : ST} {i : Nat} (hx : XR h S) (hm : MR h S) (hr : bw_n h + 13 * pot h ≤ 117) (hi : 6 * i + 6 ≤ X.1) (hL : X.1 ≤ 3072) (K : ∀ g S', XR g S' → MR g S' → bw_n g + 13 * pot g ≤ 117 → bw_go X 10 9 4 false (some .boolean) cL_law 1335 [(3, .int (nI (6 * i))), (2, .ref 60), (1, .ref 0), (0, .retAddr 1)] [] g Q) : bw_go X 10 9 4 false (some .boolean) cL_law 997 [(3, .int (nI (6 * i))), (2, .ref 60), (1, .ref 0), (0, .retAddr 1)] [] h Q := by
  show bw_go _ _ _ _ _ _ _ 997 [(3, .int _), (2, .ref _), (1, .ref _), (0, .retAddr _)] ([]) _ _
  refine go_aload_n dL_law_997 rfl ?_
  refine go_aloadA_n dL_law_998 rfl ?_
  refine go_iload_n dL_law_999 rfl ?_
  refine go_iconst (1) dL_law_1000 rfl ?_
  refine go_iadd dL_law_1001 ?_
  refine go_ia1 dL_law_1002 (hb_n (c := 1) hi hL (by decide)) ?_
  refine go_cv (as := [.int _]) 6 dL_law_1003 mt_9_126 (Or.inl rfl) rfl rfl hx.1.1.1 hx.1.1.2.1 (Nat.le_of_ble_eq_true rfl) (Nat.le_of_ble_eq_true rfl) (Nat.le_of_ble_eq_true rfl) (Nat.le_of_ble_eq_true rfl) (Nat.le_of_ble_eq_true rfl) ?_
  refine me_X7_sure hx (fun g hg hf => ?_)
  have hm1 := mr_frM hm hf
  show bw_go _ _ _ _ _ _ _ 1006 [(3, .int _), (2, .ref _), (1, .ref _), (0, .retAddr _)] ((.int _) :: []) _ _
  refine go_aload_n dL_law_1006 rfl ?_
  refine go_aloadA_n dL_law_1007 rfl ?_
  refine go_iload_n dL_law_1008 rfl ?_
  refine go_iconst (1) dL_law_1009 rfl ?_
  refine go_iadd dL_law_1010 ?_
  refine go_ia1 dL_law_1011 (hb_n (c := 1) hi hL (by decide)) ?_
  refine go_cv (as := [.int _]) 6 dL_law_1012 mt_9_129 (Or.inl rfl) rfl rfl (ms_lt hm1.1 (by decide)) hm1.1.1.2 (Nat.le_of_ble_eq_true rfl) (Nat.le_of_ble_eq_true rfl) (Nat.le_of_ble_eq_true rfl) (Nat.le_of_ble_eq_true rfl) (Nat.le_of_ble_eq_true rfl) ?_
  refine me_X8_sure hm1 (fun g2 hg2 hf2 => ?_)
  show bw_go _ _ _ _ _ _ _ 1015 [(3, .int _), (2, .ref _), (1, .ref _), (0, .retAddr _)] ((.int _) :: (.int _) :: []) _ _
  refine go_icmp_eq (pc' := 1335) dL_law_1015 rfl (fun c_1015 => ?_) (fun c_1015 => ?_)
  · -- eq at 1015: yes
    have q1 := pot_frX hf2
    have q2 := hf.1.2
    exact K g2 _ (xr_frX hg hf2) hg2 (by omega)
  · -- eq at 1015: no
    show bw_go _ _ _ _ _ _ _ 1018 [(3, .int _), (2, .ref _), (1, .ref _), (0, .retAddr _)] ([]) _ _
    refine go_iconst (0) dL_law_1018 rfl ?_
    refine go_iret dL_law_1019 rfl rfl ?_
    exact absurd rfl c_1015
set_option maxRecDepth 100000 in
set_option maxHeartbeats 4000000 in
theorem law_c28 {X : Nat × (Nat → Int32)} {Q : Option Value → bw_H → Prop} {h : bw_H} {S : ST} {i : Nat} (hx : XR h S) (hm : MR h S) (hr : bw_n h + 13 * pot h ≤ 117) (hi : 6 * i + 6 ≤ X.1) (hL : X.1 ≤ 3072) (K : ∀ g S', XR g S' → MR g S' → bw_n g + 13 * pot g ≤ 117 → bw_go X 10 9 4 false (some .boolean) cL_law 1335 [(3, .int (nI (6 * i))), (2, .ref 60), (1, .ref 0), (0, .retAddr 1)] [] g Q) : bw_go X 10 9 4 false (some .boolean) cL_law 1020 [(3, .int (nI (6 * i))), (2, .ref 60), (1, .ref 0), (0, .retAddr 1)] [] h Q := by
  show bw_go _ _ _ _ _ _ _ 1020 [(3, .int _), (2, .ref _), (1, .ref _), (0, .retAddr _)] ([]) _ _
  refine go_aload_n dL_law_1020 rfl ?_
  refine go_aloadA_n dL_law_1021 rfl ?_
  refine go_iload_n dL_law_1022 rfl ?_
  refine go_iconst (1) dL_law_1023 rfl ?_
  refine go_iadd dL_law_1024 ?_
  refine go_ia1 dL_law_1025 (hb_n (c := 1) hi hL (by decide)) ?_
  refine go_cv (as := [.int _]) 6 dL_law_1026 mt_9_130 (Or.inl rfl) rfl rfl hx.1.1.1 hx.1.1.2.1 (Nat.le_of_ble_eq_true rfl) (Nat.le_of_ble_eq_true rfl) (Nat.le_of_ble_eq_true rfl) (Nat.le_of_ble_eq_true rfl) (Nat.le_of_ble_eq_true rfl) ?_
  refine me_X7_next hx (fun g hg hf => ?_)
  have hm1 := mr_frM hm hf
  show bw_go _ _ _ _ _ _ _ 1029 [(3, .int _), (2, .ref _), (1, .ref _), (0, .retAddr _)] ((.int _) :: []) _ _
  refine go_aload_n dL_law_1029 rfl ?_
  refine go_aloadA_n dL_law_1030 rfl ?_
  refine go_iload_n dL_law_1031 rfl ?_
  refine go_iconst (1) dL_law_1032 rfl ?_
  refine go_iadd dL_law_1033 ?_
  refine go_ia1 dL_law_1034 (hb_n (c := 1) hi hL (by decide)) ?_
  refine go_cv (as := [.int _]) 6 dL_law_1035 mt_9_133 (Or.inl rfl) rfl rfl (ms_lt hm1.1 (by decide)) hm1.1.1.2 (Nat.le_of_ble_eq_true rfl) (Nat.le_of_ble_eq_true rfl) (Nat.le_of_ble_eq_true rfl) (Nat.le_of_ble_eq_true rfl) (Nat.le_of_ble_eq_true rfl) ?_
  refine me_X8_next hm1 (fun g2 hg2 hf2 => ?_)
  show bw_go _ _ _ _ _ _ _ 1038 [(3, .int _), (2, .ref _), (1, .ref _), (0, .retAddr _)] ((.int _) :: (.int _) :: []) _ _
  refine go_icmp_eq (pc' := 1335) dL_law_1038 rfl (fun c_1038 => ?_) (fun c_1038 => ?_)
  · -- eq at 1038: yes
    have q1 := pot_frX hf2
    have q2 := hf.1.2
    exact K g2 _ (xr_frX hg hf2) hg2 (by omega)
  · -- eq at 1038: no
    show bw_go _ _ _ _ _ _ _ 1041 [(3, .int _), (2, .ref _), (1, .ref _), (0, .retAddr _)] ([]) _ _
    refine go_iconst (0) dL_law_1041 rfl ?_
    refine go_iret dL_law_1042 rfl rfl ?_
    exact absurd rfl c_1038
set_option maxRecDepth 100000 in
set_option maxHeartbeats 4000000 in
theorem law_c29 {X : Nat × (Nat → Int32)} {Q : Option Value → bw_H → Prop} {h : bw_H} {S : ST} {i : Nat} (hx : XR h S) (hm : MR h S) (hr : bw_n h + 13 * pot h ≤ 117) (hi : 6 * i + 6 ≤ X.1) (hL : X.1 ≤ 3072) (K : ∀ g S', XR g S' → MR g S' → bw_n g + 13 * pot g ≤ 117 → bw_go X 10 9 4 false (some .boolean) cL_law 1335 [(3, .int (nI (6 * i))), (2, .ref 60), (1, .ref 0), (0, .retAddr 1)] [] g Q) : bw_go X 10 9 4 false (some .boolean) cL_law 1043 [(3, .int (nI (6 * i))), (2, .ref 60), (1, .ref 0), (0, .retAddr 1)] [] h Q := by
  show bw_go _ _ _ _ _ _ _ 1043 [(3, .int _), (2, .ref _), (1, .ref _), (0, .retAddr _)] ([]) _ _
  refine go_aload_n dL_law_1043 rfl ?_
  refine go_aloadA_n dL_law_1044 rfl ?_
  refine go_iload_n dL_law_1045 rfl ?_
  refine go_iconst (1) dL_law_1046 rfl ?_
  refine go_iadd dL_law_1047 ?_
  refine go_ia1 dL_law_1048 (hb_n (c := 1) hi hL (by decide)) ?_
  refine go_aloadA_n dL_law_1049 rfl ?_
  refine go_iload_n dL_law_1050 rfl ?_
  refine go_iconst (2) dL_law_1051 rfl ?_
  refine go_iadd dL_law_1052 ?_
  refine go_ia1 dL_law_1053 (hb_n (c := 2) hi hL (by decide)) ?_
  refine go_cv (as := [.int _, .int _]) 6 dL_law_1054 mt_9_134 (Or.inl rfl) rfl rfl hx.1.1.1 hx.1.1.2.1 (Nat.le_of_ble_eq_true rfl) (Nat.le_of_ble_eq_true rfl) (Nat.le_of_ble_eq_true rfl) (Nat.le_of_ble_eq_true rfl) (Nat.le_of_ble_eq_true rfl) ?_
  refine me_X7_kinds hx (fun g hg hf => ?_)
  have hm1 := mr_frM hm hf
  show bw_go _ _ _ _ _ _ _ 1057 [(3, .int _), (2, .ref _), (1, .ref _), (0, .retAddr _)] ((.int _) :: []) _ _
  refine go_aload_n dL_law_1057 rfl ?_
  refine go_aloadA_n dL_law_1058 rfl ?_
  refine go_iload_n dL_law_1059 rfl ?_
  refine go_iconst (1) dL_law_1060 rfl ?_
  refine go_iadd dL_law_1061 ?_
  refine go_ia1 dL_law_1062 (hb_n (c := 1) hi hL (by decide)) ?_
  refine go_aloadA_n dL_law_1063 rfl ?_
  refine go_iload_n dL_law_1064 rfl ?_
  refine go_iconst (2) dL_law_1065 rfl ?_
  refine go_iadd dL_law_1066 ?_
  refine go_ia1 dL_law_1067 (hb_n (c := 2) hi hL (by decide)) ?_
  refine go_cv (as := [.int _, .int _]) 3 dL_law_1068 mt_9_137 (Or.inl rfl) rfl rfl (ms_lt hm1.1 (by decide)) hm1.1.1.2 (Nat.le_of_ble_eq_true rfl) (Nat.le_of_ble_eq_true rfl) (Nat.le_of_ble_eq_true rfl) (Nat.le_of_ble_eq_true rfl) (Nat.le_of_ble_eq_true rfl) ?_
  refine me_X8_kinds hm1 (fun g2 hg2 hf2 => ?_)
  show bw_go _ _ _ _ _ _ _ 1071 [(3, .int _), (2, .ref _), (1, .ref _), (0, .retAddr _)] ((.int _) :: (.int _) :: []) _ _
  refine go_icmp_eq (pc' := 1335) dL_law_1071 rfl (fun c_1071 => ?_) (fun c_1071 => ?_)
  · -- eq at 1071: yes
    have q1 := pot_frX hf2
    have q2 := hf.1.2
    exact K g2 _ (xr_frX hg hf2) hg2 (by omega)
  · -- eq at 1071: no
    show bw_go _ _ _ _ _ _ _ 1074 [(3, .int _), (2, .ref _), (1, .ref _), (0, .retAddr _)] ([]) _ _
    refine go_iconst (0) dL_law_1074 rfl ?_
    refine go_iret dL_law_1075 rfl rfl ?_
    exact absurd rfl c_1071
set_option maxRecDepth 100000 in
set_option maxHeartbeats 4000000 in
theorem law_c30 {X : Nat × (Nat → Int32)} {Q : Option Value → bw_H → Prop} {h : bw_H} {S : ST} {i : Nat} (hx : XR h S) (hm : MR h S) (hr : bw_n h + 13 * pot h ≤ 117) (hi : 6 * i + 6 ≤ X.1) (hL : X.1 ≤ 3072) (K : ∀ g S', XR g S' → MR g S' → bw_n g + 13 * pot g ≤ 117 → bw_go X 10 9 4 false (some .boolean) cL_law 1335 [(3, .int (nI (6 * i))), (2, .ref 60), (1, .ref 0), (0, .retAddr 1)] [] g Q) : bw_go X 10 9 4 false (some .boolean) cL_law 1076 [(3, .int (nI (6 * i))), (2, .ref 60), (1, .ref 0), (0, .retAddr 1)] [] h Q := by
  show bw_go _ _ _ _ _ _ _ 1076 [(3, .int _), (2, .ref _), (1, .ref _), (0, .retAddr _)] ([]) _ _
  refine go_aload_n dL_law_1076 rfl ?_
  refine go_aloadA_n dL_law_1077 rfl ?_
  refine go_iload_n dL_law_1078 rfl ?_
  refine go_iconst (1) dL_law_1079 rfl ?_
  refine go_iadd dL_law_1080 ?_
  refine go_ia1 dL_law_1081 (hb_n (c := 1) hi hL (by decide)) ?_
  refine go_cv (as := [.int _]) 6 dL_law_1082 mt_9_138 (Or.inl rfl) rfl rfl hx.1.1.1 hx.1.1.2.1 (Nat.le_of_ble_eq_true rfl) (Nat.le_of_ble_eq_true rfl) (Nat.le_of_ble_eq_true rfl) (Nat.le_of_ble_eq_true rfl) (Nat.le_of_ble_eq_true rfl) ?_
  refine me_X7_walls hx (fun g hg hf => ?_)
  have hm1 := mr_frM hm hf
  show bw_go _ _ _ _ _ _ _ 1085 [(3, .int _), (2, .ref _), (1, .ref _), (0, .retAddr _)] ((.int _) :: []) _ _
  refine go_aload_n dL_law_1085 rfl ?_
  refine go_aloadA_n dL_law_1086 rfl ?_
  refine go_iload_n dL_law_1087 rfl ?_
  refine go_iconst (1) dL_law_1088 rfl ?_
  refine go_iadd dL_law_1089 ?_
  refine go_ia1 dL_law_1090 (hb_n (c := 1) hi hL (by decide)) ?_
  refine go_cv (as := [.int _]) 4 dL_law_1091 mt_9_141 (Or.inl rfl) rfl rfl (ms_lt hm1.1 (by decide)) hm1.1.1.2 (Nat.le_of_ble_eq_true rfl) (Nat.le_of_ble_eq_true rfl) (Nat.le_of_ble_eq_true rfl) (Nat.le_of_ble_eq_true rfl) (Nat.le_of_ble_eq_true rfl) ?_
  refine me_X8_walls hm1 (fun g2 hg2 hf2 => ?_)
  show bw_go _ _ _ _ _ _ _ 1094 [(3, .int _), (2, .ref _), (1, .ref _), (0, .retAddr _)] ((.int _) :: (.int _) :: []) _ _
  refine go_icmp_eq (pc' := 1335) dL_law_1094 rfl (fun c_1094 => ?_) (fun c_1094 => ?_)
  · -- eq at 1094: yes
    have q1 := pot_frX hf2
    have q2 := hf.1.2
    exact K g2 _ (xr_frX hg hf2) hg2 (by omega)
  · -- eq at 1094: no
    show bw_go _ _ _ _ _ _ _ 1097 [(3, .int _), (2, .ref _), (1, .ref _), (0, .retAddr _)] ([]) _ _
    refine go_iconst (0) dL_law_1097 rfl ?_
    refine go_iret dL_law_1098 rfl rfl ?_
    exact absurd rfl c_1094
set_option maxRecDepth 100000 in
set_option maxHeartbeats 4000000 in
theorem law_c31 {X : Nat × (Nat → Int32)} {Q : Option Value → bw_H → Prop} {h : bw_H} {S : ST} {i : Nat} (hx : XR h S) (hm : MR h S) (hr : bw_n h + 13 * pot h ≤ 117) (hi : 6 * i + 6 ≤ X.1) (hL : X.1 ≤ 3072) (K : ∀ g S', XR g S' → MR g S' → bw_n g + 13 * pot g ≤ 117 → bw_go X 10 9 4 false (some .boolean) cL_law 1335 [(3, .int (nI (6 * i))), (2, .ref 60), (1, .ref 0), (0, .retAddr 1)] [] g Q) : bw_go X 10 9 4 false (some .boolean) cL_law 1099 [(3, .int (nI (6 * i))), (2, .ref 60), (1, .ref 0), (0, .retAddr 1)] [] h Q := by
  show bw_go _ _ _ _ _ _ _ 1099 [(3, .int _), (2, .ref _), (1, .ref _), (0, .retAddr _)] ([]) _ _
  refine go_aload_n dL_law_1099 rfl ?_
  refine go_aloadA_n dL_law_1100 rfl ?_
  refine go_iload_n dL_law_1101 rfl ?_
  refine go_iconst (1) dL_law_1102 rfl ?_
  refine go_iadd dL_law_1103 ?_
  refine go_ia1 dL_law_1104 (hb_n (c := 1) hi hL (by decide)) ?_
  refine go_aloadA_n dL_law_1105 rfl ?_
  refine go_iload_n dL_law_1106 rfl ?_
  refine go_iconst (2) dL_law_1107 rfl ?_
  refine go_iadd dL_law_1108 ?_
  refine go_ia1 dL_law_1109 (hb_n (c := 2) hi hL (by decide)) ?_
  refine go_cv (as := [.int _, .int _]) 8 dL_law_1110 mt_9_142 (Or.inl rfl) rfl rfl hx.1.1.1 hx.1.1.2.1 (Nat.le_of_ble_eq_true rfl) (Nat.le_of_ble_eq_true rfl) (Nat.le_of_ble_eq_true rfl) (Nat.le_of_ble_eq_true rfl) (Nat.le_of_ble_eq_true rfl) ?_
  refine me_X7_duel hx (fun g hg hf => ?_)
  have hm1 := mr_frM hm hf
  show bw_go _ _ _ _ _ _ _ 1113 [(3, .int _), (2, .ref _), (1, .ref _), (0, .retAddr _)] ((.int _) :: []) _ _
  refine go_aload_n dL_law_1113 rfl ?_
  refine go_aloadA_n dL_law_1114 rfl ?_
  refine go_iload_n dL_law_1115 rfl ?_
  refine go_iconst (1) dL_law_1116 rfl ?_
  refine go_iadd dL_law_1117 ?_
  refine go_ia1 dL_law_1118 (hb_n (c := 1) hi hL (by decide)) ?_
  refine go_aloadA_n dL_law_1119 rfl ?_
  refine go_iload_n dL_law_1120 rfl ?_
  refine go_iconst (2) dL_law_1121 rfl ?_
  refine go_iadd dL_law_1122 ?_
  refine go_ia1 dL_law_1123 (hb_n (c := 2) hi hL (by decide)) ?_
  refine go_cv (as := [.int _, .int _]) 7 dL_law_1124 mt_9_145 (Or.inl rfl) rfl rfl (ms_lt hm1.1 (by decide)) hm1.1.1.2 (Nat.le_of_ble_eq_true rfl) (Nat.le_of_ble_eq_true rfl) (Nat.le_of_ble_eq_true rfl) (Nat.le_of_ble_eq_true rfl) (Nat.le_of_ble_eq_true rfl) ?_
  refine me_X8_duel hm1 (fun g2 hg2 hf2 => ?_)
  show bw_go _ _ _ _ _ _ _ 1127 [(3, .int _), (2, .ref _), (1, .ref _), (0, .retAddr _)] ((.int _) :: (.int _) :: []) _ _
  refine go_icmp_eq (pc' := 1335) dL_law_1127 rfl (fun c_1127 => ?_) (fun c_1127 => ?_)
  · -- eq at 1127: yes
    have q1 := pot_frX hf2
    have q2 := hf.1.2
    exact K g2 _ (xr_frX hg hf2) hg2 (by omega)
  · -- eq at 1127: no
    show bw_go _ _ _ _ _ _ _ 1130 [(3, .int _), (2, .ref _), (1, .ref _), (0, .retAddr _)] ([]) _ _
    refine go_iconst (0) dL_law_1130 rfl ?_
    refine go_iret dL_law_1131 rfl rfl ?_
    exact absurd rfl c_1127
set_option maxRecDepth 100000 in
set_option maxHeartbeats 4000000 in
theorem law_c32 {X : Nat × (Nat → Int32)} {Q : Option Value → bw_H → Prop} {h : bw_H} {S : ST} {i : Nat} (hx : XR h S) (hm : MR h S) (hr : bw_n h + 13 * pot h ≤ 117) (hi : 6 * i + 6 ≤ X.1) (hL : X.1 ≤ 3072) (K : ∀ g S', XR g S' → MR g S' → bw_n g + 13 * pot g ≤ 117 → bw_go X 10 9 4 false (some .boolean) cL_law 1335 [(3, .int (nI (6 * i))), (2, .ref 60), (1, .ref 0), (0, .retAddr 1)] [] g Q) : bw_go X 10 9 4 false (some .boolean) cL_law 1132 [(3, .int (nI (6 * i))), (2, .ref 60), (1, .ref 0), (0, .retAddr 1)] [] h Q := by
  show bw_go _ _ _ _ _ _ _ 1132 [(3, .int _), (2, .ref _), (1, .ref _), (0, .retAddr _)] ([]) _ _
  refine go_aload_n dL_law_1132 rfl ?_
  refine go_aloadA_n dL_law_1133 rfl ?_
  refine go_iload_n dL_law_1134 rfl ?_
  refine go_iconst (1) dL_law_1135 rfl ?_
  refine go_iadd dL_law_1136 ?_
  refine go_ia1 dL_law_1137 (hb_n (c := 1) hi hL (by decide)) ?_
  refine go_aloadA_n dL_law_1138 rfl ?_
  refine go_iload_n dL_law_1139 rfl ?_
  refine go_iconst (2) dL_law_1140 rfl ?_
  refine go_iadd dL_law_1141 ?_
  refine go_ia1 dL_law_1142 (hb_n (c := 2) hi hL (by decide)) ?_
  refine go_cv (as := [.int _, .int _]) 4 dL_law_1143 mt_9_146 (Or.inl rfl) rfl rfl hx.1.1.1 hx.1.1.2.1 (Nat.le_of_ble_eq_true rfl) (Nat.le_of_ble_eq_true rfl) (Nat.le_of_ble_eq_true rfl) (Nat.le_of_ble_eq_true rfl) (Nat.le_of_ble_eq_true rfl) ?_
  refine me_X7_odds hx (fun g hg hf => ?_)
  have hm1 := mr_frM hm hf
  show bw_go _ _ _ _ _ _ _ 1146 [(3, .int _), (2, .ref _), (1, .ref _), (0, .retAddr _)] ((.int _) :: []) _ _
  refine go_aload_n dL_law_1146 rfl ?_
  refine go_aloadA_n dL_law_1147 rfl ?_
  refine go_iload_n dL_law_1148 rfl ?_
  refine go_iconst (1) dL_law_1149 rfl ?_
  refine go_iadd dL_law_1150 ?_
  refine go_ia1 dL_law_1151 (hb_n (c := 1) hi hL (by decide)) ?_
  refine go_aloadA_n dL_law_1152 rfl ?_
  refine go_iload_n dL_law_1153 rfl ?_
  refine go_iconst (2) dL_law_1154 rfl ?_
  refine go_iadd dL_law_1155 ?_
  refine go_ia1 dL_law_1156 (hb_n (c := 2) hi hL (by decide)) ?_
  refine go_cv (as := [.int _, .int _]) 8 dL_law_1157 mt_9_149 (Or.inl rfl) rfl rfl (ms_lt hm1.1 (by decide)) hm1.1.1.2 (Nat.le_of_ble_eq_true rfl) (Nat.le_of_ble_eq_true rfl) (Nat.le_of_ble_eq_true rfl) (Nat.le_of_ble_eq_true rfl) (Nat.le_of_ble_eq_true rfl) ?_
  refine me_X8_odds hm1 (fun g2 hg2 hf2 => ?_)
  show bw_go _ _ _ _ _ _ _ 1160 [(3, .int _), (2, .ref _), (1, .ref _), (0, .retAddr _)] ((.int _) :: (.int _) :: []) _ _
  refine go_icmp_eq (pc' := 1335) dL_law_1160 rfl (fun c_1160 => ?_) (fun c_1160 => ?_)
  · -- eq at 1160: yes
    have q1 := pot_frX hf2
    have q2 := hf.1.2
    exact K g2 _ (xr_frX hg hf2) hg2 (by omega)
  · -- eq at 1160: no
    show bw_go _ _ _ _ _ _ _ 1163 [(3, .int _), (2, .ref _), (1, .ref _), (0, .retAddr _)] ([]) _ _
    refine go_iconst (0) dL_law_1163 rfl ?_
    refine go_iret dL_law_1164 rfl rfl ?_
    exact absurd rfl c_1160
set_option maxRecDepth 100000 in
set_option maxHeartbeats 4000000 in
theorem law_c33 {X : Nat × (Nat → Int32)} {Q : Option Value → bw_H → Prop} {h : bw_H} {S : ST} {i : Nat} (hx : XR h S) (hm : MR h S) (hr : bw_n h + 13 * pot h ≤ 117) (hi : 6 * i + 6 ≤ X.1) (hL : X.1 ≤ 3072) (K : ∀ g S', XR g S' → MR g S' → bw_n g + 13 * pot g ≤ 117 → bw_go X 10 9 4 false (some .boolean) cL_law 1335 [(3, .int (nI (6 * i))), (2, .ref 60), (1, .ref 0), (0, .retAddr 1)] [] g Q) : bw_go X 10 9 4 false (some .boolean) cL_law 1165 [(3, .int (nI (6 * i))), (2, .ref 60), (1, .ref 0), (0, .retAddr 1)] [] h Q := by
  show bw_go _ _ _ _ _ _ _ 1165 [(3, .int _), (2, .ref _), (1, .ref _), (0, .retAddr _)] ([]) _ _
  refine go_aload_n dL_law_1165 rfl ?_
  refine go_aloadA_n dL_law_1166 rfl ?_
  refine go_iload_n dL_law_1167 rfl ?_
  refine go_iconst (1) dL_law_1168 rfl ?_
  refine go_iadd dL_law_1169 ?_
  refine go_ia1 dL_law_1170 (hb_n (c := 1) hi hL (by decide)) ?_
  refine go_cv (as := [.int _]) 4 dL_law_1171 mt_9_150 (Or.inl rfl) rfl rfl hx.1.1.1 hx.1.1.2.1 (Nat.le_of_ble_eq_true rfl) (Nat.le_of_ble_eq_true rfl) (Nat.le_of_ble_eq_true rfl) (Nat.le_of_ble_eq_true rfl) (Nat.le_of_ble_eq_true rfl) ?_
  refine me_X7_mid hx (fun g hg hf => ?_)
  have hm1 := mr_frM hm hf
  show bw_go _ _ _ _ _ _ _ 1174 [(3, .int _), (2, .ref _), (1, .ref _), (0, .retAddr _)] ((.int _) :: []) _ _
  refine go_aload_n dL_law_1174 rfl ?_
  refine go_aloadA_n dL_law_1175 rfl ?_
  refine go_iload_n dL_law_1176 rfl ?_
  refine go_iconst (1) dL_law_1177 rfl ?_
  refine go_iadd dL_law_1178 ?_
  refine go_ia1 dL_law_1179 (hb_n (c := 1) hi hL (by decide)) ?_
  refine go_cv (as := [.int _]) 8 dL_law_1180 mt_9_153 (Or.inl rfl) rfl rfl (ms_lt hm1.1 (by decide)) hm1.1.1.2 (Nat.le_of_ble_eq_true rfl) (Nat.le_of_ble_eq_true rfl) (Nat.le_of_ble_eq_true rfl) (Nat.le_of_ble_eq_true rfl) (Nat.le_of_ble_eq_true rfl) ?_
  refine me_X8_mid hm1 (fun g2 hg2 hf2 => ?_)
  show bw_go _ _ _ _ _ _ _ 1183 [(3, .int _), (2, .ref _), (1, .ref _), (0, .retAddr _)] ((.int _) :: (.int _) :: []) _ _
  refine go_icmp_eq (pc' := 1335) dL_law_1183 rfl (fun c_1183 => ?_) (fun c_1183 => ?_)
  · -- eq at 1183: yes
    have q1 := pot_frX hf2
    have q2 := hf.1.2
    exact K g2 _ (xr_frX hg hf2) hg2 (by omega)
  · -- eq at 1183: no
    show bw_go _ _ _ _ _ _ _ 1186 [(3, .int _), (2, .ref _), (1, .ref _), (0, .retAddr _)] ([]) _ _
    refine go_iconst (0) dL_law_1186 rfl ?_
    refine go_iret dL_law_1187 rfl rfl ?_
    exact absurd rfl c_1183
set_option maxRecDepth 100000 in
set_option maxHeartbeats 4000000 in
theorem law_c34 {X : Nat × (Nat → Int32)} {Q : Option Value → bw_H → Prop} {h : bw_H} {S : ST} {i : Nat} (hx : XR h S) (hm : MR h S) (hr : bw_n h + 13 * pot h ≤ 117) (hi : 6 * i + 6 ≤ X.1) (hL : X.1 ≤ 3072) (K : ∀ g S', XR g S' → MR g S' → bw_n g + 13 * pot g ≤ 117 → bw_go X 10 9 4 false (some .boolean) cL_law 1335 [(3, .int (nI (6 * i))), (2, .ref 60), (1, .ref 0), (0, .retAddr 1)] [] g Q) : bw_go X 10 9 4 false (some .boolean) cL_law 1188 [(3, .int (nI (6 * i))), (2, .ref 60), (1, .ref 0), (0, .retAddr 1)] [] h Q := by
  show bw_go _ _ _ _ _ _ _ 1188 [(3, .int _), (2, .ref _), (1, .ref _), (0, .retAddr _)] ([]) _ _
  refine go_aload_n dL_law_1188 rfl ?_
  refine go_aloadA_n dL_law_1189 rfl ?_
  refine go_iload_n dL_law_1190 rfl ?_
  refine go_iconst (1) dL_law_1191 rfl ?_
  refine go_iadd dL_law_1192 ?_
  refine go_ia1 dL_law_1193 (hb_n (c := 1) hi hL (by decide)) ?_
  refine go_aloadA_n dL_law_1194 rfl ?_
  refine go_iload_n dL_law_1195 rfl ?_
  refine go_iconst (2) dL_law_1196 rfl ?_
  refine go_iadd dL_law_1197 ?_
  refine go_ia1 dL_law_1198 (hb_n (c := 2) hi hL (by decide)) ?_
  refine go_cv (as := [.int _, .int _]) 5 dL_law_1199 mt_9_154 (Or.inl rfl) rfl rfl hx.1.1.1 hx.1.1.2.1 (Nat.le_of_ble_eq_true rfl) (Nat.le_of_ble_eq_true rfl) (Nat.le_of_ble_eq_true rfl) (Nat.le_of_ble_eq_true rfl) (Nat.le_of_ble_eq_true rfl) ?_
  refine me_X7_lots hx (fun g hg hf => ?_)
  have hm1 := mr_frM hm hf
  show bw_go _ _ _ _ _ _ _ 1202 [(3, .int _), (2, .ref _), (1, .ref _), (0, .retAddr _)] ((.int _) :: []) _ _
  refine go_aload_n dL_law_1202 rfl ?_
  refine go_aloadA_n dL_law_1203 rfl ?_
  refine go_iload_n dL_law_1204 rfl ?_
  refine go_iconst (1) dL_law_1205 rfl ?_
  refine go_iadd dL_law_1206 ?_
  refine go_ia1 dL_law_1207 (hb_n (c := 1) hi hL (by decide)) ?_
  refine go_aloadA_n dL_law_1208 rfl ?_
  refine go_iload_n dL_law_1209 rfl ?_
  refine go_iconst (2) dL_law_1210 rfl ?_
  refine go_iadd dL_law_1211 ?_
  refine go_ia1 dL_law_1212 (hb_n (c := 2) hi hL (by decide)) ?_
  refine go_cv (as := [.int _, .int _]) 7 dL_law_1213 mt_9_157 (Or.inl rfl) rfl rfl (ms_lt hm1.1 (by decide)) hm1.1.1.2 (Nat.le_of_ble_eq_true rfl) (Nat.le_of_ble_eq_true rfl) (Nat.le_of_ble_eq_true rfl) (Nat.le_of_ble_eq_true rfl) (Nat.le_of_ble_eq_true rfl) ?_
  refine me_X8_lots hm1 (fun g2 hg2 hf2 => ?_)
  show bw_go _ _ _ _ _ _ _ 1216 [(3, .int _), (2, .ref _), (1, .ref _), (0, .retAddr _)] ((.int _) :: (.int _) :: []) _ _
  refine go_icmp_eq (pc' := 1335) dL_law_1216 rfl (fun c_1216 => ?_) (fun c_1216 => ?_)
  · -- eq at 1216: yes
    have q1 := pot_frX hf2
    have q2 := hf.1.2
    exact K g2 _ (xr_frX hg hf2) hg2 (by omega)
  · -- eq at 1216: no
    show bw_go _ _ _ _ _ _ _ 1219 [(3, .int _), (2, .ref _), (1, .ref _), (0, .retAddr _)] ([]) _ _
    refine go_iconst (0) dL_law_1219 rfl ?_
    refine go_iret dL_law_1220 rfl rfl ?_
    exact absurd rfl c_1216
set_option maxRecDepth 100000 in
set_option maxHeartbeats 4000000 in
theorem law_c35 {X : Nat × (Nat → Int32)} {Q : Option Value → bw_H → Prop} {h : bw_H} {S : ST} {i : Nat} (hx : XR h S) (hm : MR h S) (hr : bw_n h + 13 * pot h ≤ 117) (hi : 6 * i + 6 ≤ X.1) (hL : X.1 ≤ 3072) (K : ∀ g S', XR g S' → MR g S' → bw_n g + 13 * pot g ≤ 117 → bw_go X 10 9 4 false (some .boolean) cL_law 1335 [(3, .int (nI (6 * i))), (2, .ref 60), (1, .ref 0), (0, .retAddr 1)] [] g Q) : bw_go X 10 9 4 false (some .boolean) cL_law 1221 [(3, .int (nI (6 * i))), (2, .ref 60), (1, .ref 0), (0, .retAddr 1)] [] h Q := by
  show bw_go _ _ _ _ _ _ _ 1221 [(3, .int _), (2, .ref _), (1, .ref _), (0, .retAddr _)] ([]) _ _
  refine go_aload_n dL_law_1221 rfl ?_
  refine go_cv (as := []) 0 dL_law_1222 mt_9_158 (Or.inl rfl) rfl rfl hx.1.1.1 hx.1.1.2.1 (Nat.le_of_ble_eq_true rfl) (Nat.le_of_ble_eq_true rfl) (Nat.le_of_ble_eq_true rfl) (Nat.le_of_ble_eq_true rfl) (Nat.le_of_ble_eq_true rfl) ?_
  refine me_X7_asked hx (fun g hg hf => ?_)
  have hm1 := mr_frM hm hf
  show bw_go _ _ _ _ _ _ _ 1225 [(3, .int _), (2, .ref _), (1, .ref _), (0, .retAddr _)] ((.int _) :: []) _ _
  refine go_aload_n dL_law_1225 rfl ?_
  refine go_cv (as := []) 0 dL_law_1226 mt_9_161 (Or.inl rfl) rfl rfl (ms_lt hm1.1 (by decide)) hm1.1.1.2 (Nat.le_of_ble_eq_true rfl) (Nat.le_of_ble_eq_true rfl) (Nat.le_of_ble_eq_true rfl) (Nat.le_of_ble_eq_true rfl) (Nat.le_of_ble_eq_true rfl) ?_
  refine me_X8_asked hm1 (fun g2 hg2 hf2 => ?_)
  show bw_go _ _ _ _ _ _ _ 1229 [(3, .int _), (2, .ref _), (1, .ref _), (0, .retAddr _)] ((.int _) :: (.int _) :: []) _ _
  refine go_icmp_eq (pc' := 1335) dL_law_1229 rfl (fun c_1229 => ?_) (fun c_1229 => ?_)
  · -- eq at 1229: yes
    have q1 := pot_frX hf2
    have q2 := hf.1.2
    exact K g2 _ (xr_frX hg hf2) hg2 (by omega)
  · -- eq at 1229: no
    show bw_go _ _ _ _ _ _ _ 1232 [(3, .int _), (2, .ref _), (1, .ref _), (0, .retAddr _)] ([]) _ _
    refine go_iconst (0) dL_law_1232 rfl ?_
    refine go_iret dL_law_1233 rfl rfl ?_
    exact absurd rfl c_1229
set_option maxRecDepth 100000 in
set_option maxHeartbeats 4000000 in
theorem law_c36 {X : Nat × (Nat → Int32)} {Q : Option Value → bw_H → Prop} {h : bw_H} {S : ST} {i : Nat} (hx : XR h S) (hm : MR h S) (hr : bw_n h + 13 * pot h ≤ 117) (hi : 6 * i + 6 ≤ X.1) (hL : X.1 ≤ 3072) (K : ∀ g S', XR g S' → MR g S' → bw_n g + 13 * pot g ≤ 117 → bw_go X 10 9 4 false (some .boolean) cL_law 1335 [(3, .int (nI (6 * i))), (2, .ref 60), (1, .ref 0), (0, .retAddr 1)] [] g Q) : bw_go X 10 9 4 false (some .boolean) cL_law 1234 [(3, .int (nI (6 * i))), (2, .ref 60), (1, .ref 0), (0, .retAddr 1)] [] h Q := by
  show bw_go _ _ _ _ _ _ _ 1234 [(3, .int _), (2, .ref _), (1, .ref _), (0, .retAddr _)] ([]) _ _
  refine go_aload_n dL_law_1234 rfl ?_
  refine go_cv (as := []) 0 dL_law_1235 mt_9_162 (Or.inl rfl) rfl rfl hx.1.1.1 hx.1.1.2.1 (Nat.le_of_ble_eq_true rfl) (Nat.le_of_ble_eq_true rfl) (Nat.le_of_ble_eq_true rfl) (Nat.le_of_ble_eq_true rfl) (Nat.le_of_ble_eq_true rfl) ?_
  refine me_X7_upper hx (fun g hg hf => ?_)
  have hm1 := mr_frM hm hf
  show bw_go _ _ _ _ _ _ _ 1238 [(3, .int _), (2, .ref _), (1, .ref _), (0, .retAddr _)] ((.long _) :: []) _ _
  refine go_aload_n dL_law_1238 rfl ?_
  refine go_cv (as := []) 0 dL_law_1239 mt_9_166 (Or.inl rfl) rfl rfl (ms_lt hm1.1 (by decide)) hm1.1.1.2 (Nat.le_of_ble_eq_true rfl) (Nat.le_of_ble_eq_true rfl) (Nat.le_of_ble_eq_true rfl) (Nat.le_of_ble_eq_true rfl) (Nat.le_of_ble_eq_true rfl) ?_
  refine me_X8_upper hm1 (fun g2 hg2 hf2 => ?_)
  show bw_go _ _ _ _ _ _ _ 1242 [(3, .int _), (2, .ref _), (1, .ref _), (0, .retAddr _)] ((.long _) :: (.long _) :: []) _ _
  refine go_lcmp dL_law_1242 ?_
  refine go_if_eq (pc' := 1335) dL_law_1243 rfl (fun c_1243 => ?_) (fun c_1243 => ?_)
  · -- eq at 1243: yes
    have q1 := pot_frX hf2
    have q2 := hf.1.2
    exact K g2 _ (xr_frX hg hf2) hg2 (by omega)
  · -- eq at 1243: no
    show bw_go _ _ _ _ _ _ _ 1246 [(3, .int _), (2, .ref _), (1, .ref _), (0, .retAddr _)] ([]) _ _
    refine go_iconst (0) dL_law_1246 rfl ?_
    refine go_iret dL_law_1247 rfl rfl ?_
    exact absurd ((lg_cmp_eq _ _).mpr rfl) c_1243
set_option maxRecDepth 100000 in
set_option maxHeartbeats 4000000 in
theorem law_c37 {X : Nat × (Nat → Int32)} {Q : Option Value → bw_H → Prop} {h : bw_H} {S : ST} {i : Nat} (hx : XR h S) (hm : MR h S) (hr : bw_n h + 13 * pot h ≤ 117) (hi : 6 * i + 6 ≤ X.1) (hL : X.1 ≤ 3072) (K : ∀ g S', XR g S' → MR g S' → bw_n g + 13 * pot g ≤ 117 → bw_go X 10 9 4 false (some .boolean) cL_law 1335 [(3, .int (nI (6 * i))), (2, .ref 60), (1, .ref 0), (0, .retAddr 1)] [] g Q) : bw_go X 10 9 4 false (some .boolean) cL_law 1248 [(3, .int (nI (6 * i))), (2, .ref 60), (1, .ref 0), (0, .retAddr 1)] [] h Q := by
  show bw_go _ _ _ _ _ _ _ 1248 [(3, .int _), (2, .ref _), (1, .ref _), (0, .retAddr _)] ([]) _ _
  refine go_aload_n dL_law_1248 rfl ?_
  refine go_cv (as := []) 0 dL_law_1249 mt_9_167 (Or.inl rfl) rfl rfl hx.1.1.1 hx.1.1.2.1 (Nat.le_of_ble_eq_true rfl) (Nat.le_of_ble_eq_true rfl) (Nat.le_of_ble_eq_true rfl) (Nat.le_of_ble_eq_true rfl) (Nat.le_of_ble_eq_true rfl) ?_
  refine me_X7_lower hx (fun g hg hf => ?_)
  have hm1 := mr_frM hm hf
  show bw_go _ _ _ _ _ _ _ 1252 [(3, .int _), (2, .ref _), (1, .ref _), (0, .retAddr _)] ((.long _) :: []) _ _
  refine go_aload_n dL_law_1252 rfl ?_
  refine go_cv (as := []) 0 dL_law_1253 mt_9_170 (Or.inl rfl) rfl rfl (ms_lt hm1.1 (by decide)) hm1.1.1.2 (Nat.le_of_ble_eq_true rfl) (Nat.le_of_ble_eq_true rfl) (Nat.le_of_ble_eq_true rfl) (Nat.le_of_ble_eq_true rfl) (Nat.le_of_ble_eq_true rfl) ?_
  refine me_X8_lower hm1 (fun g2 hg2 hf2 => ?_)
  show bw_go _ _ _ _ _ _ _ 1256 [(3, .int _), (2, .ref _), (1, .ref _), (0, .retAddr _)] ((.long _) :: (.long _) :: []) _ _
  refine go_lcmp dL_law_1256 ?_
  refine go_if_eq (pc' := 1335) dL_law_1257 rfl (fun c_1257 => ?_) (fun c_1257 => ?_)
  · -- eq at 1257: yes
    have q1 := pot_frX hf2
    have q2 := hf.1.2
    exact K g2 _ (xr_frX hg hf2) hg2 (by omega)
  · -- eq at 1257: no
    show bw_go _ _ _ _ _ _ _ 1260 [(3, .int _), (2, .ref _), (1, .ref _), (0, .retAddr _)] ([]) _ _
    refine go_iconst (0) dL_law_1260 rfl ?_
    refine go_iret dL_law_1261 rfl rfl ?_
    exact absurd ((lg_cmp_eq _ _).mpr rfl) c_1257
set_option maxRecDepth 100000 in
set_option maxHeartbeats 4000000 in
theorem law_c38 {X : Nat × (Nat → Int32)} {Q : Option Value → bw_H → Prop} {h : bw_H} {S : ST} {i : Nat} (hx : XR h S) (hm : MR h S) (hr : bw_n h + 13 * pot h ≤ 117) (hi : 6 * i + 6 ≤ X.1) (hL : X.1 ≤ 3072) (K : ∀ g S', XR g S' → MR g S' → bw_n g + 13 * pot g ≤ 117 → bw_go X 10 9 4 false (some .boolean) cL_law 1335 [(3, .int (nI (6 * i))), (2, .ref 60), (1, .ref 0), (0, .retAddr 1)] [] g Q) : bw_go X 10 9 4 false (some .boolean) cL_law 1262 [(3, .int (nI (6 * i))), (2, .ref 60), (1, .ref 0), (0, .retAddr 1)] [] h Q := by
  show bw_go _ _ _ _ _ _ _ 1262 [(3, .int _), (2, .ref _), (1, .ref _), (0, .retAddr _)] ([]) _ _
  refine go_aload_n dL_law_1262 rfl ?_
  refine go_aloadA_n dL_law_1263 rfl ?_
  refine go_iload_n dL_law_1264 rfl ?_
  refine go_iconst (1) dL_law_1265 rfl ?_
  refine go_iadd dL_law_1266 ?_
  refine go_ia1 dL_law_1267 (hb_n (c := 1) hi hL (by decide)) ?_
  refine go_cv (as := [.int _]) 5 dL_law_1268 mt_9_171 (Or.inl rfl) rfl rfl hx.1.1.1 hx.1.1.2.1 (Nat.le_of_ble_eq_true rfl) (Nat.le_of_ble_eq_true rfl) (Nat.le_of_ble_eq_true rfl) (Nat.le_of_ble_eq_true rfl) (Nat.le_of_ble_eq_true rfl) ?_
  refine me_X7_count hx (fun g hg hf => ?_)
  have hm1 := mr_frM hm hf
  show bw_go _ _ _ _ _ _ _ 1271 [(3, .int _), (2, .ref _), (1, .ref _), (0, .retAddr _)] ((.int _) :: []) _ _
  refine go_aload_n dL_law_1271 rfl ?_
  refine go_aloadA_n dL_law_1272 rfl ?_
  refine go_iload_n dL_law_1273 rfl ?_
  refine go_iconst (1) dL_law_1274 rfl ?_
  refine go_iadd dL_law_1275 ?_
  refine go_ia1 dL_law_1276 (hb_n (c := 1) hi hL (by decide)) ?_
  refine go_cv (as := [.int _]) 8 dL_law_1277 mt_9_174 (Or.inl rfl) rfl rfl (ms_lt hm1.1 (by decide)) hm1.1.1.2 (Nat.le_of_ble_eq_true rfl) (Nat.le_of_ble_eq_true rfl) (Nat.le_of_ble_eq_true rfl) (Nat.le_of_ble_eq_true rfl) (Nat.le_of_ble_eq_true rfl) ?_
  refine me_X8_count hm1 (fun g2 hg2 hf2 => ?_)
  show bw_go _ _ _ _ _ _ _ 1280 [(3, .int _), (2, .ref _), (1, .ref _), (0, .retAddr _)] ((.int _) :: (.int _) :: []) _ _
  refine go_icmp_eq (pc' := 1335) dL_law_1280 rfl (fun c_1280 => ?_) (fun c_1280 => ?_)
  · -- eq at 1280: yes
    have q1 := pot_frX hf2
    have q2 := hf.1.2
    exact K g2 _ (xr_frX hg hf2) hg2 (by omega)
  · -- eq at 1280: no
    show bw_go _ _ _ _ _ _ _ 1283 [(3, .int _), (2, .ref _), (1, .ref _), (0, .retAddr _)] ([]) _ _
    refine go_iconst (0) dL_law_1283 rfl ?_
    refine go_iret dL_law_1284 rfl rfl ?_
    exact absurd rfl c_1280
set_option maxRecDepth 100000 in
set_option maxHeartbeats 4000000 in
theorem law_c39 {X : Nat × (Nat → Int32)} {Q : Option Value → bw_H → Prop} {h : bw_H} {S : ST} {i : Nat} (hx : XR h S) (hm : MR h S) (hr : bw_n h + 13 * pot h ≤ 117) (hi : 6 * i + 6 ≤ X.1) (hL : X.1 ≤ 3072) (K : ∀ g S', XR g S' → MR g S' → bw_n g + 13 * pot g ≤ 117 → bw_go X 10 9 4 false (some .boolean) cL_law 1335 [(3, .int (nI (6 * i))), (2, .ref 60), (1, .ref 0), (0, .retAddr 1)] [] g Q) : bw_go X 10 9 4 false (some .boolean) cL_law 1285 [(3, .int (nI (6 * i))), (2, .ref 60), (1, .ref 0), (0, .retAddr 1)] [] h Q := by
  show bw_go _ _ _ _ _ _ _ 1285 [(3, .int _), (2, .ref _), (1, .ref _), (0, .retAddr _)] ([]) _ _
  refine go_aload_n dL_law_1285 rfl ?_
  refine go_cv (as := []) 0 dL_law_1286 mt_9_175 (Or.inl rfl) rfl rfl hx.1.1.1 hx.1.1.2.1 (Nat.le_of_ble_eq_true rfl) (Nat.le_of_ble_eq_true rfl) (Nat.le_of_ble_eq_true rfl) (Nat.le_of_ble_eq_true rfl) (Nat.le_of_ble_eq_true rfl) ?_
  refine me_X7_finding hx (fun g hg hf => ?_)
  have hm1 := mr_frM hm hf
  show bw_go _ _ _ _ _ _ _ 1289 [(3, .int _), (2, .ref _), (1, .ref _), (0, .retAddr _)] ((.int _) :: []) _ _
  refine go_aload_n dL_law_1289 rfl ?_
  refine go_cv (as := []) 0 dL_law_1290 mt_9_178 (Or.inl rfl) rfl rfl (ms_lt hm1.1 (by decide)) hm1.1.1.2 (Nat.le_of_ble_eq_true rfl) (Nat.le_of_ble_eq_true rfl) (Nat.le_of_ble_eq_true rfl) (Nat.le_of_ble_eq_true rfl) (Nat.le_of_ble_eq_true rfl) ?_
  refine me_X8_finding hm1 (fun g2 hg2 hf2 => ?_)
  show bw_go _ _ _ _ _ _ _ 1293 [(3, .int _), (2, .ref _), (1, .ref _), (0, .retAddr _)] ((.int _) :: (.int _) :: []) _ _
  refine go_icmp_eq (pc' := 1335) dL_law_1293 rfl (fun c_1293 => ?_) (fun c_1293 => ?_)
  · -- eq at 1293: yes
    have q1 := pot_frX hf2
    have q2 := hf.1.2
    exact K g2 _ (xr_frX hg hf2) hg2 (by omega)
  · -- eq at 1293: no
    show bw_go _ _ _ _ _ _ _ 1296 [(3, .int _), (2, .ref _), (1, .ref _), (0, .retAddr _)] ([]) _ _
    refine go_iconst (0) dL_law_1296 rfl ?_
    refine go_iret dL_law_1297 rfl rfl ?_
    exact absurd rfl c_1293
set_option maxRecDepth 100000 in
set_option maxHeartbeats 4000000 in
theorem law_c40 {X : Nat × (Nat → Int32)} {Q : Option Value → bw_H → Prop} {h : bw_H} {S : ST} {i : Nat} (hx : XR h S) (hm : MR h S) (hr : bw_n h + 13 * pot h ≤ 117) (hi : 6 * i + 6 ≤ X.1) (hL : X.1 ≤ 3072) (K : ∀ g S', XR g S' → MR g S' → bw_n g + 13 * pot g ≤ 117 → bw_go X 10 9 4 false (some .boolean) cL_law 1335 [(3, .int (nI (6 * i))), (2, .ref 60), (1, .ref 0), (0, .retAddr 1)] [] g Q) : bw_go X 10 9 4 false (some .boolean) cL_law 1298 [(3, .int (nI (6 * i))), (2, .ref 60), (1, .ref 0), (0, .retAddr 1)] [] h Q := by
  show bw_go _ _ _ _ _ _ _ 1298 [(3, .int _), (2, .ref _), (1, .ref _), (0, .retAddr _)] ([]) _ _
  refine go_aload_n dL_law_1298 rfl ?_
  refine go_aloadA_n dL_law_1299 rfl ?_
  refine go_iload_n dL_law_1300 rfl ?_
  refine go_iconst (1) dL_law_1301 rfl ?_
  refine go_iadd dL_law_1302 ?_
  refine go_ia1 dL_law_1303 (hb_n (c := 1) hi hL (by decide)) ?_
  refine go_cv (as := [.int _]) 1 dL_law_1304 mt_9_179 (Or.inl rfl) rfl rfl hx.1.1.1 hx.1.1.2.1 (Nat.le_of_ble_eq_true rfl) (Nat.le_of_ble_eq_true rfl) (Nat.le_of_ble_eq_true rfl) (Nat.le_of_ble_eq_true rfl) (Nat.le_of_ble_eq_true rfl) ?_
  refine me_X7_findings hx (fun g hg hf => ?_)
  have hm1 := mr_frM hm hf
  show bw_go _ _ _ _ _ _ _ 1307 [(3, .int _), (2, .ref _), (1, .ref _), (0, .retAddr _)] ((.int _) :: []) _ _
  refine go_aload_n dL_law_1307 rfl ?_
  refine go_aloadA_n dL_law_1308 rfl ?_
  refine go_iload_n dL_law_1309 rfl ?_
  refine go_iconst (1) dL_law_1310 rfl ?_
  refine go_iadd dL_law_1311 ?_
  refine go_ia1 dL_law_1312 (hb_n (c := 1) hi hL (by decide)) ?_
  refine go_cv (as := [.int _]) 1 dL_law_1313 mt_9_182 (Or.inl rfl) rfl rfl (ms_lt hm1.1 (by decide)) hm1.1.1.2 (Nat.le_of_ble_eq_true rfl) (Nat.le_of_ble_eq_true rfl) (Nat.le_of_ble_eq_true rfl) (Nat.le_of_ble_eq_true rfl) (Nat.le_of_ble_eq_true rfl) ?_
  refine me_X8_findings hm1 (fun g2 hg2 hf2 => ?_)
  show bw_go _ _ _ _ _ _ _ 1316 [(3, .int _), (2, .ref _), (1, .ref _), (0, .retAddr _)] ((.int _) :: (.int _) :: []) _ _
  refine go_icmp_eq (pc' := 1335) dL_law_1316 rfl (fun c_1316 => ?_) (fun c_1316 => ?_)
  · -- eq at 1316: yes
    have q1 := pot_frX hf2
    have q2 := hf.1.2
    exact K g2 _ (xr_frX hg hf2) hg2 (by omega)
  · -- eq at 1316: no
    show bw_go _ _ _ _ _ _ _ 1319 [(3, .int _), (2, .ref _), (1, .ref _), (0, .retAddr _)] ([]) _ _
    refine go_iconst (0) dL_law_1319 rfl ?_
    refine go_iret dL_law_1320 rfl rfl ?_
    exact absurd rfl c_1316
set_option maxRecDepth 100000 in
set_option maxHeartbeats 4000000 in
theorem law_c41 {X : Nat × (Nat → Int32)} {Q : Option Value → bw_H → Prop} {h : bw_H} {S : ST} {i : Nat} (hx : XR h S) (hm : MR h S) (hr : bw_n h + 13 * pot h ≤ 117) (hi : 6 * i + 6 ≤ X.1) (hL : X.1 ≤ 3072) (K : ∀ g S', XR g S' → MR g S' → bw_n g + 13 * pot g ≤ 117 → bw_go X 10 9 4 false (some .boolean) cL_law 1335 [(3, .int (nI (6 * i))), (2, .ref 60), (1, .ref 0), (0, .retAddr 1)] [] g Q) : bw_go X 10 9 4 false (some .boolean) cL_law 1321 [(3, .int (nI (6 * i))), (2, .ref 60), (1, .ref 0), (0, .retAddr 1)] [] h Q := by
  show bw_go _ _ _ _ _ _ _ 1321 [(3, .int _), (2, .ref _), (1, .ref _), (0, .retAddr _)] ([]) _ _
  refine go_aload_n dL_law_1321 rfl ?_
  refine go_cv (as := []) 6 dL_law_1322 mt_9_183 (Or.inl rfl) rfl rfl hx.1.1.1 hx.1.1.2.1 (Nat.le_of_ble_eq_true rfl) (Nat.le_of_ble_eq_true rfl) (Nat.le_of_ble_eq_true rfl) (Nat.le_of_ble_eq_true rfl) (Nat.le_of_ble_eq_true rfl) ?_
  refine me_X7_digest hx (fun g hg hf => ?_)
  have hm1 := mr_frM hm hf
  show bw_go _ _ _ _ _ _ _ 1325 [(3, .int _), (2, .ref _), (1, .ref _), (0, .retAddr _)] ((.long _) :: []) _ _
  refine go_aload_n dL_law_1325 rfl ?_
  refine go_cv (as := []) 8 dL_law_1326 mt_9_186 (Or.inl rfl) rfl rfl (ms_lt hm1.1 (by decide)) hm1.1.1.2 (Nat.le_of_ble_eq_true rfl) (Nat.le_of_ble_eq_true rfl) (Nat.le_of_ble_eq_true rfl) (Nat.le_of_ble_eq_true rfl) (Nat.le_of_ble_eq_true rfl) ?_
  refine me_X8_digest hm1 (fun g2 hg2 hf2 => ?_)
  show bw_go _ _ _ _ _ _ _ 1329 [(3, .int _), (2, .ref _), (1, .ref _), (0, .retAddr _)] ((.long _) :: (.long _) :: []) _ _
  refine go_lcmp dL_law_1329 ?_
  refine go_if_eq (pc' := 1335) dL_law_1330 rfl (fun c_1330 => ?_) (fun c_1330 => ?_)
  · -- eq at 1330: yes
    have q1 := pot_frX hf2
    have q2 := hf.1.2
    exact K g2 _ (xr_frX hg hf2) hg2 (by omega)
  · -- eq at 1330: no
    show bw_go _ _ _ _ _ _ _ 1333 [(3, .int _), (2, .ref _), (1, .ref _), (0, .retAddr _)] ([]) _ _
    refine go_iconst (0) dL_law_1333 rfl ?_
    refine go_iret dL_law_1334 rfl rfl ?_
    exact absurd ((lg_cmp_eq _ _).mpr rfl) c_1330
set_option maxRecDepth 100000 in
set_option maxHeartbeats 4000000 in
theorem law_loop {X : Nat × (Nat → Int32)} {Q : Option Value → bw_H → Prop} (hL : X.1 ≤ 3072) (hQ : ∀ g, bw_n g + 13 * pot g ≤ 117 → Q (some (.int 1)) g) : ∀ i, i ≤ X.1 / 6 → ∀ (h : bw_H) (S : ST), XR h S → MR h S → bw_n h + 13 * pot h ≤ 117 → bw_go X 10 9 4 false (some .boolean) cL_law 18 [(3, .int (nI (6 * i))), (2, .ref 60), (1, .ref 0), (0, .retAddr 1)] [] h Q := by
  refine go_for (P := fun i => ∀ (h : bw_H) (S : ST), XR h S → MR h S → bw_n h + 13 * pot h ≤ 117 → bw_go X 10 9 4 false (some .boolean) cL_law 18 [(3, .int (nI (6 * i))), (2, .ref 60), (1, .ref 0), (0, .retAddr 1)] [] h Q) (N := X.1 / 6) (fun i hi K => ?_) ?_
  · intro h S hx hm hr
    have hi6 : 6 * i + 6 ≤ X.1 := by omega
    have hK : ∀ g S', XR g S' → MR g S' → bw_n g + 13 * pot g ≤ 117 → bw_go X 10 9 4 false (some .boolean) cL_law 1335 [(3, .int (nI (6 * i))), (2, .ref 60), (1, .ref 0), (0, .retAddr 1)] [] g Q := by
      intro g S' hx2 hm2 hr2
      show bw_go _ _ _ _ _ _ _ 1335 [(3, .int _), (2, .ref _), (1, .ref _), (0, .retAddr _)] ([]) _ _
      refine go_iinc dL_law_1335 rfl (show nI (6 * i) + Int32.ofInt 6 = nI (6 * (i + 1)) from nI_add _ 6) (Nat.lt_of_lt_of_le (Nat.lt_succ_self _) (Nat.le_of_ble_eq_true rfl)) ?_
      show bw_go _ _ _ _ _ _ _ 1338 [(3, .int _), (2, .ref _), (1, .ref _), (0, .retAddr _)] ([]) _ _
      refine go_goto (pc' := 18) dL_law_1338 rfl ?_
      exact K g S' hx2 hm2 hr2
    show bw_go _ _ _ _ _ _ _ 18 [(3, .int _), (2, .ref _), (1, .ref _), (0, .retAddr _)] ([]) _ _
    refine go_iload_n dL_law_18 rfl ?_
    refine go_aloadA_n dL_law_19 rfl ?_
    refine go_len1 dL_law_20 ?_
    refine go_bipush (6) dL_law_21 rfl ?_
    refine go_isub dL_law_23 ?_
    rw [show (6 : Int32) = nI 6 from rfl]
    refine go_icmp_gt (pc' := 1341) dL_law_24 rfl (fun c_24 => ?_) (fun c_24 => ?_)
    · -- gt at 24: yes
      exfalso; have t0 := nI_toInt (n := 6 * i) (by omega); have t1 := pk_sub_toInt (a := X.1) (b := 6) (by omega) (by omega); rw [i_lt, t0, t1] at c_24; omega
    · -- gt at 24: no
      show bw_go _ _ _ _ _ _ _ 27 [(3, .int _), (2, .ref _), (1, .ref _), (0, .retAddr _)] ([]) _ _
      refine go_aloadA_n dL_law_27 rfl ?_
      refine go_iload_n dL_law_28 rfl ?_
      refine go_ia1 dL_law_29 (n_in (by omega) (by omega)) ?_
      refine go_bipush (63) dL_law_30 rfl ?_
      refine go_iand dL_law_32 ?_
      obtain ⟨w, hw, ew⟩ := and63 (X.2 (nI (6 * i)).toNatClampNeg)
      rw [show (X.2 (nI (6 * i)).toNatClampNeg &&& 63) = nI w from ew]
      rcases (show w = 0 ∨ w = 1 ∨ w = 2 ∨ w = 3 ∨ w = 4 ∨ w = 5 ∨ w = 6 ∨ w = 7 ∨ w = 8 ∨ w = 9 ∨ w = 10 ∨ w = 11 ∨ w = 12 ∨ w = 13 ∨ w = 14 ∨ w = 15 ∨ w = 16 ∨ w = 17 ∨ w = 18 ∨ w = 19 ∨ w = 20 ∨ w = 21 ∨ w = 22 ∨ w = 23 ∨ w = 24 ∨ w = 25 ∨ w = 26 ∨ w = 27 ∨ w = 28 ∨ w = 29 ∨ w = 30 ∨ w = 31 ∨ w = 32 ∨ w = 33 ∨ w = 34 ∨ w = 35 ∨ w = 36 ∨ w = 37 ∨ w = 38 ∨ w = 39 ∨ w = 40 ∨ w = 41 ∨ 42 ≤ w by omega) with rfl | rfl | rfl | rfl | rfl | rfl | rfl | rfl | rfl | rfl | rfl | rfl | rfl | rfl | rfl | rfl | rfl | rfl | rfl | rfl | rfl | rfl | rfl | rfl | rfl | rfl | rfl | rfl | rfl | rfl | rfl | rfl | rfl | rfl | rfl | rfl | rfl | rfl | rfl | rfl | rfl | rfl | hsw
      · refine go_tsIn (pc' := 216) dL_law_33 (by decide) (by decide) rfl rfl ?_
        exact law_c0 hx hm hr hi6 hL hK
      · refine go_tsIn (pc' := 249) dL_law_33 (by decide) (by decide) rfl rfl ?_
        exact law_c1 hx hm hr hi6 hL hK
      · refine go_tsIn (pc' := 292) dL_law_33 (by decide) (by decide) rfl rfl ?_
        exact law_c2 hx hm hr hi6 hL hK
      · refine go_tsIn (pc' := 325) dL_law_33 (by decide) (by decide) rfl rfl ?_
        exact law_c3 hx hm hr hi6 hL hK
      · refine go_tsIn (pc' := 348) dL_law_33 (by decide) (by decide) rfl rfl ?_
        exact law_c4 hx hm hr hi6 hL hK
      · refine go_tsIn (pc' := 411) dL_law_33 (by decide) (by decide) rfl rfl ?_
        exact law_c5 hx hm hr hi6 hL hK
      · refine go_tsIn (pc' := 434) dL_law_33 (by decide) (by decide) rfl rfl ?_
        exact law_c6 hx hm hr hi6 hL hK
      · refine go_tsIn (pc' := 467) dL_law_33 (by decide) (by decide) rfl rfl ?_
        exact law_c7 hx hm hr hi6 hL hK
      · refine go_tsIn (pc' := 510) dL_law_33 (by decide) (by decide) rfl rfl ?_
        exact law_c8 hx hm hr hi6 hL hK
      · refine go_tsIn (pc' := 533) dL_law_33 (by decide) (by decide) rfl rfl ?_
        exact law_c9 hx hm hr hi6 hL hK
      · refine go_tsIn (pc' := 556) dL_law_33 (by decide) (by decide) rfl rfl ?_
        exact law_c10 hx hm hr hi6 hL hK
      · refine go_tsIn (pc' := 589) dL_law_33 (by decide) (by decide) rfl rfl ?_
        exact law_c11 hx hm hr hi6 hL hK
      · refine go_tsIn (pc' := 622) dL_law_33 (by decide) (by decide) rfl rfl ?_
        exact law_c12 hx hm hr hi6 hL hK
      · refine go_tsIn (pc' := 645) dL_law_33 (by decide) (by decide) rfl rfl ?_
        exact law_c13 hx hm hr hi6 hL hK
      · refine go_tsIn (pc' := 668) dL_law_33 (by decide) (by decide) rfl rfl ?_
        exact law_c14 hx hm hr hi6 hL hK
      · refine go_tsIn (pc' := 691) dL_law_33 (by decide) (by decide) rfl rfl ?_
        exact law_c15 hx hm hr hi6 hL hK
      · refine go_tsIn (pc' := 714) dL_law_33 (by decide) (by decide) rfl rfl ?_
        exact law_c16 hx hm hr hi6 hL hK
      · refine go_tsIn (pc' := 737) dL_law_33 (by decide) (by decide) rfl rfl ?_
        exact law_c17 hx hm hr hi6 hL hK
      · refine go_tsIn (pc' := 760) dL_law_33 (by decide) (by decide) rfl rfl ?_
        exact law_c18 hx hm hr hi6 hL hK
      · refine go_tsIn (pc' := 783) dL_law_33 (by decide) (by decide) rfl rfl ?_
        exact law_c19 hx hm hr hi6 hL hK
      · refine go_tsIn (pc' := 816) dL_law_33 (by decide) (by decide) rfl rfl ?_
        exact law_c20 hx hm hr hi6 hL hK
      · refine go_tsIn (pc' := 839) dL_law_33 (by decide) (by decide) rfl rfl ?_
        exact law_c21 hx hm hr hi6 hL hK
      · refine go_tsIn (pc' := 862) dL_law_33 (by decide) (by decide) rfl rfl ?_
        exact law_c22 hx hm hr hi6 hL hK
      · refine go_tsIn (pc' := 905) dL_law_33 (by decide) (by decide) rfl rfl ?_
        exact law_c23 hx hm hr hi6 hL hK
      · refine go_tsIn (pc' := 928) dL_law_33 (by decide) (by decide) rfl rfl ?_
        exact law_c24 hx hm hr hi6 hL hK
      · refine go_tsIn (pc' := 961) dL_law_33 (by decide) (by decide) rfl rfl ?_
        exact law_c25 hx hm hr hi6 hL hK
      · refine go_tsIn (pc' := 974) dL_law_33 (by decide) (by decide) rfl rfl ?_
        exact law_c26 hx hm hr hi6 hL hK
      · refine go_tsIn (pc' := 997) dL_law_33 (by decide) (by decide) rfl rfl ?_
        exact law_c27 hx hm hr hi6 hL hK
      · refine go_tsIn (pc' := 1020) dL_law_33 (by decide) (by decide) rfl rfl ?_
        exact law_c28 hx hm hr hi6 hL hK
      · refine go_tsIn (pc' := 1043) dL_law_33 (by decide) (by decide) rfl rfl ?_
        exact law_c29 hx hm hr hi6 hL hK
      · refine go_tsIn (pc' := 1076) dL_law_33 (by decide) (by decide) rfl rfl ?_
        exact law_c30 hx hm hr hi6 hL hK
      · refine go_tsIn (pc' := 1099) dL_law_33 (by decide) (by decide) rfl rfl ?_
        exact law_c31 hx hm hr hi6 hL hK
      · refine go_tsIn (pc' := 1132) dL_law_33 (by decide) (by decide) rfl rfl ?_
        exact law_c32 hx hm hr hi6 hL hK
      · refine go_tsIn (pc' := 1165) dL_law_33 (by decide) (by decide) rfl rfl ?_
        exact law_c33 hx hm hr hi6 hL hK
      · refine go_tsIn (pc' := 1188) dL_law_33 (by decide) (by decide) rfl rfl ?_
        exact law_c34 hx hm hr hi6 hL hK
      · refine go_tsIn (pc' := 1221) dL_law_33 (by decide) (by decide) rfl rfl ?_
        exact law_c35 hx hm hr hi6 hL hK
      · refine go_tsIn (pc' := 1234) dL_law_33 (by decide) (by decide) rfl rfl ?_
        exact law_c36 hx hm hr hi6 hL hK
      · refine go_tsIn (pc' := 1248) dL_law_33 (by decide) (by decide) rfl rfl ?_
        exact law_c37 hx hm hr hi6 hL hK
      · refine go_tsIn (pc' := 1262) dL_law_33 (by decide) (by decide) rfl rfl ?_
        exact law_c38 hx hm hr hi6 hL hK
      · refine go_tsIn (pc' := 1285) dL_law_33 (by decide) (by decide) rfl rfl ?_
        exact law_c39 hx hm hr hi6 hL hK
      · refine go_tsIn (pc' := 1298) dL_law_33 (by decide) (by decide) rfl rfl ?_
        exact law_c40 hx hm hr hi6 hL hK
      · refine go_tsIn (pc' := 1321) dL_law_33 (by decide) (by decide) rfl rfl ?_
        exact law_c41 hx hm hr hi6 hL hK
      · refine go_tsOut (pc' := 1335) dL_law_33 (Or.inr (by rw [nI_toInt (by omega)]; omega)) rfl ?_
        exact hK h S hx hm hr
  · intro h S hx hm hr
    show bw_go _ _ _ _ _ _ _ 18 [(3, .int _), (2, .ref _), (1, .ref _), (0, .retAddr _)] ([]) _ _
    refine go_iload_n dL_law_18 rfl ?_
    refine go_aloadA_n dL_law_19 rfl ?_
    refine go_len1 dL_law_20 ?_
    refine go_bipush (6) dL_law_21 rfl ?_
    refine go_isub dL_law_23 ?_
    rw [show (6 : Int32) = nI 6 from rfl]
    refine go_icmp_gt (pc' := 1341) dL_law_24 rfl (fun c_24 => ?_) (fun c_24 => ?_)
    · -- gt at 24: yes
      show bw_go _ _ _ _ _ _ _ 1341 [(3, .int _), (2, .ref _), (1, .ref _), (0, .retAddr _)] ([]) _ _
      refine go_iconst (1) dL_law_1341 rfl ?_
      refine go_iret dL_law_1342 rfl rfl ?_
      exact hQ h hr
    · -- gt at 24: no
      exfalso; have t0 := nI_toInt (n := 6 * (X.1 / 6)) (by omega); have t1 := pk_sub_toInt (a := X.1) (b := 6) (by omega) (by omega); rw [i_lt, t0, t1] at c_24; omega
set_option maxRecDepth 100000 in
set_option maxHeartbeats 4000000 in
theorem law_go {X : Nat × (Nat → Int32)} {Q : Option Value → bw_H → Prop} {h : bw_H} (hn0 : bw_n h = 0) (hL : X.1 ≤ 3072) (hQ : ∀ g, bw_n g ≤ 117 → Q (some (.int 1)) g) : bw_go X 10 9 4 false (some .boolean) cL_law 0 [(0, .retAddr 1)] [] h Q := by
  show bw_go _ _ _ _ _ _ _ 0 [(0, .retAddr _)] ([]) _ _
  refine go_new dL_law_0 (c := 7) rfl (Nat.le_of_ble_eq_true rfl) ?_
  rw [hn0]
  refine go_dupA dL_law_3 ?_
  refine go_ci (as := []) 2 dL_law_4 rfl mt_9_9 (Or.inl rfl) rfl rfl rfl rfl (Nat.le_of_ble_eq_true rfl) (Nat.le_of_ble_eq_true rfl) (Nat.le_of_ble_eq_true rfl) (Nat.le_of_ble_eq_true rfl) ?_
  refine me_X7_init (h := bw_nw h (.inl 7) (bw_N 7)) (by show bw_n h + 1 = 1; omega) (by have z := nwk_ h (.inl 7) (bw_N 7); rw [hn0] at z; exact z) (fun g hn hXR => ?_)
  show bw_go _ _ _ _ _ _ _ 7 [(0, .retAddr _)] ((.ref _) :: []) _ _
  refine go_astore_n dL_law_7 (Nat.lt_of_lt_of_le (Nat.lt_succ_self _) (Nat.le_of_ble_eq_true rfl)) ?_
  show bw_go _ _ _ _ _ _ _ 8 [(1, .ref _), (0, .retAddr _)] ([]) _ _
  refine go_new dL_law_8 (c := 8) rfl (Nat.le_of_ble_eq_true rfl) ?_
  rw [hn]
  refine go_dupA dL_law_11 ?_
  refine go_ci (as := []) 0 dL_law_12 rfl mt_9_12 (Or.inl rfl) rfl rfl rfl rfl (Nat.le_of_ble_eq_true rfl) (Nat.le_of_ble_eq_true rfl) (Nat.le_of_ble_eq_true rfl) (Nat.le_of_ble_eq_true rfl) ?_
  refine me_X8_init (h := bw_nw g (.inl 8) (bw_N 8)) (by show bw_n g + 1 = 63; omega) (by have z := nwk_ g (.inl 8) (bw_N 8); rw [hn] at z; exact z) (by have z := nwi_ g (.inl 8) (bw_N 8); rw [hn] at z; exact z) (by have z := nwl_ g (.inl 8) (bw_N 8); rw [hn] at z; exact z) (fun g2 hm2 hn2 hs2 => ?_)
  show bw_go _ _ _ _ _ _ _ 15 [(1, .ref _), (0, .retAddr _)] ((.ref _) :: []) _ _
  refine go_astore_n dL_law_15 (Nat.lt_of_lt_of_le (Nat.lt_succ_self _) (Nat.le_of_ble_eq_true rfl)) ?_
  show bw_go _ _ _ _ _ _ _ 16 [(2, .ref _), (1, .ref _), (0, .retAddr _)] ([]) _ _
  refine go_iconst (0) dL_law_16 rfl ?_
  refine go_istore_n dL_law_17 (Nat.lt_of_lt_of_le (Nat.lt_succ_self _) (Nat.le_of_ble_eq_true rfl)) ?_
  show bw_go _ _ _ _ _ _ _ 18 [(3, .int _), (2, .ref _), (1, .ref _), (0, .retAddr _)] ([]) _ _
  have hx2 : XR (nm g2) S00 := hXR g2 (by omega) (fun q hq => sm4_t (nw_o (by omega)) (hs2 q hq))
  refine go_ren t_p (by omega) ?_
  exact law_loop (Q := fun v g => Q (v.map (sg_v tT)) (sg_h tT tS g)) hL (fun g9 hg9 => hQ _ (by show bw_n g9 ≤ 117; omega)) 0 (Nat.zero_le _) (nm g2) S00 hx2 hm2 (by have := pot_3 (nm g2); show bw_n g2 + 13 * pot (nm g2) ≤ 117; omega)
