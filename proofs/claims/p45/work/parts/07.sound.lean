/-! what the small machine does with locals and stack, the JVM does -/
def bw_tr (g : Nat × Nat × Nat) (v : Value) : Value := match v with
  | .ref a => .ref (g.1 + a)
  | .retAddr a => .ref (if a = 0 then g.2.1 else g.2.2)
  | .int x => .int x
  | .long x => .long x
  | .float x => .float x
  | .double x => .double x
  | .null => .null
def bw_tl (g : Nat × Nat × Nat) (ls : bw_L) : bw_L := ls.map (fun q => (q.1, bw_tr g q.2))
theorem bw_tr_cat (g : Nat × Nat × Nat) (v : Value) : (bw_tr g v).category = v.category := by cases v <;> rfl
def bw_en (cA : FieldType → ClassId) (g : Nat × Nat × Nat) (h : bw_H) (p : Nat) : va_E := match bw_k h p with
  | .inl c => .inr (c, (List.range (bw_N c)).map (fun k => bw_tr g (bw_fv h p c k)))
  | .inr (ty, N) => .inl (cA ty, N, match ty with
    | .object _ => .inr (.inr (.inr (.inr (fun j => (bw_r h p j).map (fun a => g.1 + a)))))
    | _ => .inl (bw_i h p))
def bw_ws (cA : FieldType → ClassId) (g : Nat × Nat × Nat) (h : bw_H) : va_W := (List.range (bw_n h)).map (fun p => (g.1 + p, bw_en cA g h p))
def bw_A (g : Nat × Nat × Nat) : Nat → Prop := fun q => g.1 ≤ q
abbrev bw_tys (cA : FieldType → ClassId) : List (ClassId × FieldType) := [(cA .int, .int), (cA .long, .long), (cA (.object RX1), .object RX1)]
theorem bw_ws_get {cA : FieldType → ClassId} {g : Nat × Nat × Nat} {h : bw_H} {p : Nat} (hp : p < bw_n h) : (bw_ws cA g h)[p]? = some (g.1 + p, bw_en cA g h p) := by
  unfold bw_ws
  rw [List.getElem?_map, List.getElem?_range hp]
  rfl
theorem bw_ws_lt {cA : FieldType → ClassId} {g : Nat × Nat × Nat} {h : bw_H} {p : Nat} {q : Nat × va_E} (hq : (bw_ws cA g h)[p]? = some q) : p < bw_n h ∧ q = (g.1 + p, bw_en cA g h p) := by
  have hp : p < bw_n h := by
    have := (List.getElem?_eq_some_iff.mp hq).1
    unfold bw_ws at this
    simpa using this
  refine ⟨hp, ?_⟩
  rw [bw_ws_get hp] at hq
  exact (Option.some.inj hq).symm
theorem bw_ws_D (cA : FieldType → ClassId) (g : Nat × Nat × Nat) (h : bw_H) : va_D (bw_A g) (bw_ws cA g h) := by
  refine ⟨fun i j p q hi hj e => ?_, fun k q hq => ?_⟩
  · have h1 := (bw_ws_lt hi).2
    have h2 := (bw_ws_lt hj).2
    subst h1 h2
    have e : g.1 + i = g.1 + j := e
    omega
  · have h1 := (bw_ws_lt hq).2
    subst h1
    exact Nat.le_add_right _ _
theorem bw_ws_set {cA : FieldType → ClassId} {g : Nat × Nat × Nat} {h h' : bw_H} {p : Nat} (hn : bw_n h' = bw_n h) (ho : ∀ q, q ≠ p → bw_en cA g h' q = bw_en cA g h q) : (bw_ws cA g h).set p (g.1 + p, bw_en cA g h' p) = bw_ws cA g h' := by
  refine List.ext_getElem? fun i => ?_
  rw [List.getElem?_set]
  by_cases hi : i < bw_n h
  · rw [bw_ws_get (h := h') (by omega)]
    by_cases hp : p = i
    · subst hp
      rw [if_pos rfl, if_pos (by unfold bw_ws; simpa using hi)]
    · rw [if_neg hp, bw_ws_get hi, ho i (fun q => hp q.symm)]
  · have h1 : (bw_ws cA g h).length ≤ i := by unfold bw_ws; simpa using hi
    have h2 : (bw_ws cA g h').length ≤ i := by unfold bw_ws; simp; omega
    rw [List.getElem?_eq_none h2, List.getElem?_eq_none h1]
    by_cases hp : p = i
    · rw [if_pos hp, if_neg (by omega)]
    · rw [if_neg hp]
theorem bw_ws_push {cA : FieldType → ClassId} {g : Nat × Nat × Nat} {h h' : bw_H} (hn : bw_n h' = bw_n h + 1) (ho : ∀ q, q < bw_n h → bw_en cA g h' q = bw_en cA g h q) : bw_ws cA g h ++ [(g.1 + bw_n h, bw_en cA g h' (bw_n h))] = bw_ws cA g h' := by
  unfold bw_ws
  rw [hn, List.range_succ, List.map_append]
  congr 1
  refine List.map_congr_left fun q hq => ?_
  rw [ho q (List.mem_range.mp hq)]
def bw_inv (D : va_G) (cA : FieldType → ClassId) (g : Nat × Nat × Nat) (s : State) (cells : Nat) (h : bw_H) (H : Heap) (locs : List Loc) : Prop :=
  va_P D vwCl (bw_ws cA g h) H ∧ va_S (bw_A g) s.heap H locs ∧ s.heap.size + cells ≤ g.1 + bw_n h
def bw_at (p : Program) (l : Launch) (e : Env) (R : Room) (s : State) (m : MethodId) (args : Array Value) (below : List Frame) (meth : Method) (c : Code) (Q : State → Prop) (D : va_G) (cA : FieldType → ClassId) (g : Nat × Nat × Nat) (nL cells slots : Nat) (k : bw_C) : Prop :=
  ∀ (H : Heap) (locs : List Loc) (la : Array Slot), bw_inv D cA g s cells k.2.2.2 H locs → lv_has la nL (bw_tl g k.2.1) → W p l e R s m args below meth c H locs cells slots Q (F0 m k.1 la (k.2.2.1.map (bw_tr g)))
theorem bw_lg_mem {ls : bw_L} {i : Nat} {v : Value} (h : bw_lg ls i = some v) : (i, v) ∈ ls := by
  unfold bw_lg at h
  cases hf : ls.find? (fun q => q.1 == i) with
  | none => rw [hf] at h; cases h
  | some q =>
    rw [hf] at h
    have h1 := List.mem_of_find?_eq_some hf
    have h2 := List.find?_some hf
    have h3 : q.1 = i := by simpa using h2
    have h4 : q.2 = v := Option.some.inj h
    have : q = (i, v) := by rw [← h3, ← h4]
    rw [← this]
    exact h1
theorem bw_lg_at {g : Nat × Nat × Nat} {ls : bw_L} {i nL : Nat} {v : Value} {la : Array Slot} (h : bw_lg ls i = some v) (hl : lv_has la nL (bw_tl g ls)) : la[i]? = some (.val (bw_tr g v)) :=
  hl.2.2 (i, bw_tr g v) (List.mem_map.mpr ⟨(i, v), bw_lg_mem h, rfl⟩)
theorem bw_tl_s1 (g : Nat × Nat × Nat) (ls : bw_L) (i : Nat) (v : Value) : bw_tl g (bw_s1 ls i v) = (i, bw_tr g v) :: (bw_tl g ls).filter (fun q => !(q.1 == i) && !(q.1 + 1 == i && q.2.category == 2)) := by
  unfold bw_tl bw_s1
  rw [List.map_cons, List.filter_map]
  congr 2
  refine List.filter_congr fun q _ => ?_
  simp only [Function.comp, bw_tr_cat]
theorem bw_tl_s2 (g : Nat × Nat × Nat) (ls : bw_L) (i : Nat) (v : Value) : bw_tl g (bw_s2 ls i v) = (i, bw_tr g v) :: (bw_tl g ls).filter (fun q => !(q.1 == i) && (!(q.1 == i + 1) && !(q.1 + 1 == i && q.2.category == 2))) := by
  unfold bw_tl bw_s2
  rw [List.map_cons, List.filter_map]
  congr 2
  refine List.filter_congr fun q _ => ?_
  simp only [Function.comp, bw_tr_cat]
theorem bw_jp_ok {pc q : Nat} {off : Int} (h : bw_jp pc off = some q) : (pc : Int) + off = (q : Int) := by
  unfold bw_jp at h
  split at h
  · cases h; omega
  · cases h
section BO
variable {p : Program} {l : Launch} {e : Env} {R : Room} {s : State} {m : MethodId} {args : Array Value} {below : List Frame} {meth : Method} {c : Code} {Q : State → Prop} {D : va_G} {cA : FieldType → ClassId} {g : Nat × Nat × Nat} {nL cells slots : Nat} {pc : Nat} {ls : bw_L} {st : List Value} {h : bw_H} {k : bw_C} {cc : ByteArray}
theorem bo_il {w i : Nat} (row : ∀ (H : Heap) (locs : List Loc) (la : Array Slot) (x : Int32) (r : List Value), la[i]? = some (.val (.int x)) → W p l e R s m args below meth c H locs cells slots Q (F0 m (pc + w) la (.int x :: r)) → W p l e R s m args below meth c H locs cells slots Q (F0 m pc la r))
    (hq : bq_il w i pc ls st h = some k) (K : bw_at p l e R s m args below meth c Q D cA g nL cells slots k) : bw_at p l e R s m args below meth c Q D cA g nL cells slots (pc, ls, st, h) := by
  unfold bq_il at hq
  split at hq
  · rename_i x hx
    cases hq
    intro H locs la hi hl
    exact row H locs la x _ (bw_lg_at hx hl) (K H locs la hi hl)
  · cases hq
theorem bo_ll {w i : Nat} (row : ∀ (H : Heap) (locs : List Loc) (la : Array Slot) (x : Int64) (r : List Value), la[i]? = some (.val (.long x)) → W p l e R s m args below meth c H locs cells slots Q (F0 m (pc + w) la (.long x :: r)) → W p l e R s m args below meth c H locs cells slots Q (F0 m pc la r))
    (hq : bq_ll w i pc ls st h = some k) (K : bw_at p l e R s m args below meth c Q D cA g nL cells slots k) : bw_at p l e R s m args below meth c Q D cA g nL cells slots (pc, ls, st, h) := by
  unfold bq_ll at hq
  split at hq
  · rename_i x hx
    cases hq
    intro H locs la hi hl
    exact row H locs la x _ (bw_lg_at hx hl) (K H locs la hi hl)
  · cases hq
theorem bo_al {w i : Nat} (row : ∀ (H : Heap) (locs : List Loc) (la : Array Slot) (x : Nat) (r : List Value), la[i]? = some (.val (.ref x)) → W p l e R s m args below meth c H locs cells slots Q (F0 m (pc + w) la (.ref x :: r)) → W p l e R s m args below meth c H locs cells slots Q (F0 m pc la r))
    (rowN : ∀ (H : Heap) (locs : List Loc) (la : Array Slot) (r : List Value), la[i]? = some (.val .null) → W p l e R s m args below meth c H locs cells slots Q (F0 m (pc + w) la (.null :: r)) → W p l e R s m args below meth c H locs cells slots Q (F0 m pc la r))
    (hq : bq_al w i pc ls st h = some k) (K : bw_at p l e R s m args below meth c Q D cA g nL cells slots k) : bw_at p l e R s m args below meth c Q D cA g nL cells slots (pc, ls, st, h) := by
  unfold bq_al at hq
  split at hq
  · rename_i x hx
    cases hq
    intro H locs la hi hl
    exact row H locs la (g.1 + x) _ (bw_lg_at hx hl) (K H locs la hi hl)
  · rename_i x hx
    cases hq
    intro H locs la hi hl
    exact row H locs la (if x = 0 then g.2.1 else g.2.2) _ (bw_lg_at hx hl) (K H locs la hi hl)
  · rename_i hx
    cases hq
    intro H locs la hi hl
    exact rowN H locs la _ (bw_lg_at hx hl) (K H locs la hi hl)
  · cases hq
theorem bo_is {w i : Nat} (row : ∀ (H : Heap) (locs : List Loc) (la : Array Slot) (x : Int32) (lv lv' : List (Nat × Value)) (r : List Value), lv_has la nL lv → i < nL → (i, Value.int x) :: lv.filter (fun q => !(q.1 == i) && !(q.1 + 1 == i && q.2.category == 2)) = lv' → (∀ la' : Array Slot, lv_has la' nL lv' → W p l e R s m args below meth c H locs cells slots Q (F0 m (pc + w) la' r)) → W p l e R s m args below meth c H locs cells slots Q (F0 m pc la (.int x :: r)))
    (hq : bq_is nL w i pc ls st h = some k) (K : bw_at p l e R s m args below meth c Q D cA g nL cells slots k) : bw_at p l e R s m args below meth c Q D cA g nL cells slots (pc, ls, st, h) := by
  unfold bq_is at hq
  split at hq
  · rename_i x r
    split at hq
    · rename_i hi
      cases hq
      intro H locs la hv hl
      exact row H locs la x _ _ _ hl hi rfl (fun la' hl' => K H locs la' hv (by
        have e := bw_tl_s1 g ls i (.int x)
        exact e ▸ hl'))
    · cases hq
  · cases hq
theorem bo_ls {w i : Nat} (row : ∀ (H : Heap) (locs : List Loc) (la : Array Slot) (x : Int64) (lv lv' : List (Nat × Value)) (r : List Value), lv_has la nL lv → i + 1 < nL → (i, Value.long x) :: lv.filter (fun q => !(q.1 == i) && (!(q.1 == i + 1) && !(q.1 + 1 == i && q.2.category == 2))) = lv' → (∀ la' : Array Slot, lv_has la' nL lv' → W p l e R s m args below meth c H locs cells slots Q (F0 m (pc + w) la' r)) → W p l e R s m args below meth c H locs cells slots Q (F0 m pc la (.long x :: r)))
    (hq : bq_ls nL w i pc ls st h = some k) (K : bw_at p l e R s m args below meth c Q D cA g nL cells slots k) : bw_at p l e R s m args below meth c Q D cA g nL cells slots (pc, ls, st, h) := by
  unfold bq_ls at hq
  split at hq
  · rename_i x r
    split at hq
    · rename_i hi
      cases hq
      intro H locs la hv hl
      exact row H locs la x _ _ _ hl hi rfl (fun la' hl' => K H locs la' hv (by
        have e := bw_tl_s2 g ls i (.long x)
        exact e ▸ hl'))
    · cases hq
  · cases hq
theorem bo_as {w i : Nat} (row : ∀ (H : Heap) (locs : List Loc) (la : Array Slot) (x : Nat) (lv lv' : List (Nat × Value)) (r : List Value), lv_has la nL lv → i < nL → (i, Value.ref x) :: lv.filter (fun q => !(q.1 == i) && !(q.1 + 1 == i && q.2.category == 2)) = lv' → (∀ la' : Array Slot, lv_has la' nL lv' → W p l e R s m args below meth c H locs cells slots Q (F0 m (pc + w) la' r)) → W p l e R s m args below meth c H locs cells slots Q (F0 m pc la (.ref x :: r)))
    (rowN : ∀ (H : Heap) (locs : List Loc) (la : Array Slot) (lv lv' : List (Nat × Value)) (r : List Value), lv_has la nL lv → i < nL → (i, Value.null) :: lv.filter (fun q => !(q.1 == i) && !(q.1 + 1 == i && q.2.category == 2)) = lv' → (∀ la' : Array Slot, lv_has la' nL lv' → W p l e R s m args below meth c H locs cells slots Q (F0 m (pc + w) la' r)) → W p l e R s m args below meth c H locs cells slots Q (F0 m pc la (.null :: r)))
    (hq : bq_as nL w i pc ls st h = some k) (K : bw_at p l e R s m args below meth c Q D cA g nL cells slots k) : bw_at p l e R s m args below meth c Q D cA g nL cells slots (pc, ls, st, h) := by
  unfold bq_as at hq
  split at hq
  · rename_i x r
    split at hq
    · rename_i hi
      cases hq
      intro H locs la hv hl
      exact row H locs la (g.1 + x) _ _ _ hl hi rfl (fun la' hl' => K H locs la' hv (by
        have e := bw_tl_s1 g ls i (.ref x)
        exact e ▸ hl'))
    · cases hq
  · rename_i r
    split at hq
    · rename_i hi
      cases hq
      intro H locs la hv hl
      exact rowN H locs la _ _ _ hl hi rfl (fun la' hl' => K H locs la' hv (by
        have e := bw_tl_s1 g ls i .null
        exact e ▸ hl'))
    · cases hq
  · cases hq
theorem bo_ic {i : Nat} {n : Int} (row : ∀ (H : Heap) (locs : List Loc) (la : Array Slot) (x v : Int32) (lv lv' : List (Nat × Value)) (kk : Nat) (r : List Value), lv_has la nL lv → lv[kk]? = some (i, .int x) → x + Int32.ofInt n = v → i < nL → (i, Value.int v) :: lv.filter (fun q => !(q.1 == i) && !(q.1 + 1 == i && q.2.category == 2)) = lv' → (∀ la' : Array Slot, lv_has la' nL lv' → W p l e R s m args below meth c H locs cells slots Q (F0 m (pc + 3) la' r)) → W p l e R s m args below meth c H locs cells slots Q (F0 m pc la r))
    (hq : bq_ic nL i n pc ls st h = some k) (K : bw_at p l e R s m args below meth c Q D cA g nL cells slots k) : bw_at p l e R s m args below meth c Q D cA g nL cells slots (pc, ls, st, h) := by
  unfold bq_ic at hq
  split at hq
  · rename_i x hx
    split at hq
    · rename_i hi
      cases hq
      intro H locs la hv hl
      have hm : (i, bw_tr g (.int x)) ∈ bw_tl g ls := List.mem_map.mpr ⟨(i, .int x), bw_lg_mem hx, rfl⟩
      obtain ⟨kk, hk⟩ := List.getElem?_of_mem hm
      exact row H locs la x _ _ _ kk _ hl hk rfl hi rfl (fun la' hl' => K H locs la' hv (by
        have e := bw_tl_s1 g ls i (.int (x + Int32.ofInt n))
        exact e ▸ hl'))
    · cases hq
  · cases hq
theorem bo_ii {f : Int32 → Int32 → Int32} (row : ∀ (H : Heap) (locs : List Loc) (la : Array Slot) (x y : Int32) (r : List Value), W p l e R s m args below meth c H locs cells slots Q (F0 m (pc + 1) la (.int (f x y) :: r)) → W p l e R s m args below meth c H locs cells slots Q (F0 m pc la (.int y :: .int x :: r)))
    (hq : bq_ii f pc ls st h = some k) (K : bw_at p l e R s m args below meth c Q D cA g nL cells slots k) : bw_at p l e R s m args below meth c Q D cA g nL cells slots (pc, ls, st, h) := by
  unfold bq_ii at hq
  split at hq
  · cases hq
    intro H locs la hi hl
    exact row H locs la _ _ _ (K H locs la hi hl)
  · cases hq
theorem bo_id {f : Int32 → Int32 → Int32} (row : ∀ (H : Heap) (locs : List Loc) (la : Array Slot) (x y : Int32) (r : List Value), ¬ y = 0 → W p l e R s m args below meth c H locs cells slots Q (F0 m (pc + 1) la (.int (f x y) :: r)) → W p l e R s m args below meth c H locs cells slots Q (F0 m pc la (.int y :: .int x :: r)))
    (hq : bq_id f pc ls st h = some k) (K : bw_at p l e R s m args below meth c Q D cA g nL cells slots k) : bw_at p l e R s m args below meth c Q D cA g nL cells slots (pc, ls, st, h) := by
  unfold bq_id at hq
  split at hq
  · split at hq
    · cases hq
    · rename_i hne
      cases hq
      intro H locs la hi hl
      exact row H locs la _ _ _ hne (K H locs la hi hl)
  · cases hq
theorem bo_jj {f : Int64 → Int64 → Int64} (row : ∀ (H : Heap) (locs : List Loc) (la : Array Slot) (x y : Int64) (r : List Value), W p l e R s m args below meth c H locs cells slots Q (F0 m (pc + 1) la (.long (f x y) :: r)) → W p l e R s m args below meth c H locs cells slots Q (F0 m pc la (.long y :: .long x :: r)))
    (hq : bq_jj f pc ls st h = some k) (K : bw_at p l e R s m args below meth c Q D cA g nL cells slots k) : bw_at p l e R s m args below meth c Q D cA g nL cells slots (pc, ls, st, h) := by
  unfold bq_jj at hq
  split at hq
  · cases hq
    intro H locs la hi hl
    exact row H locs la _ _ _ (K H locs la hi hl)
  · cases hq
theorem bo_jd {f : Int64 → Int64 → Int64} (row : ∀ (H : Heap) (locs : List Loc) (la : Array Slot) (x y : Int64) (r : List Value), ¬ y = 0 → W p l e R s m args below meth c H locs cells slots Q (F0 m (pc + 1) la (.long (f x y) :: r)) → W p l e R s m args below meth c H locs cells slots Q (F0 m pc la (.long y :: .long x :: r)))
    (hq : bq_jd f pc ls st h = some k) (K : bw_at p l e R s m args below meth c Q D cA g nL cells slots k) : bw_at p l e R s m args below meth c Q D cA g nL cells slots (pc, ls, st, h) := by
  unfold bq_jd at hq
  split at hq
  · split at hq
    · cases hq
    · rename_i hne
      cases hq
      intro H locs la hi hl
      exact row H locs la _ _ _ hne (K H locs la hi hl)
  · cases hq
theorem bo_i1 {f : Int32 → Value} (row : ∀ (H : Heap) (locs : List Loc) (la : Array Slot) (x : Int32) (r : List Value), W p l e R s m args below meth c H locs cells slots Q (F0 m (pc + 1) la (bw_tr g (f x) :: r)) → W p l e R s m args below meth c H locs cells slots Q (F0 m pc la (.int x :: r)))
    (hq : bq_i1 f pc ls st h = some k) (K : bw_at p l e R s m args below meth c Q D cA g nL cells slots k) : bw_at p l e R s m args below meth c Q D cA g nL cells slots (pc, ls, st, h) := by
  unfold bq_i1 at hq
  split at hq
  · cases hq
    intro H locs la hi hl
    exact row H locs la _ _ (K H locs la hi hl)
  · cases hq
theorem bo_j1 {f : Int64 → Value} (row : ∀ (H : Heap) (locs : List Loc) (la : Array Slot) (x : Int64) (r : List Value), W p l e R s m args below meth c H locs cells slots Q (F0 m (pc + 1) la (bw_tr g (f x) :: r)) → W p l e R s m args below meth c H locs cells slots Q (F0 m pc la (.long x :: r)))
    (hq : bq_j1 f pc ls st h = some k) (K : bw_at p l e R s m args below meth c Q D cA g nL cells slots k) : bw_at p l e R s m args below meth c Q D cA g nL cells slots (pc, ls, st, h) := by
  unfold bq_j1 at hq
  split at hq
  · cases hq
    intro H locs la hi hl
    exact row H locs la _ _ (K H locs la hi hl)
  · cases hq
theorem bo_cn {w : Nat} {v : Value} (row : ∀ (H : Heap) (locs : List Loc) (la : Array Slot) (r : List Value), W p l e R s m args below meth c H locs cells slots Q (F0 m (pc + w) la (bw_tr g v :: r)) → W p l e R s m args below meth c H locs cells slots Q (F0 m pc la r))
    (hq : bq_cn w v pc ls st h = some k) (K : bw_at p l e R s m args below meth c Q D cA g nL cells slots k) : bw_at p l e R s m args below meth c Q D cA g nL cells slots (pc, ls, st, h) := by
  unfold bq_cn at hq
  cases hq
  intro H locs la hi hl
  exact row H locs la _ (K H locs la hi hl)
theorem bo_ju (hx : p.tables.exec = Jvm.exec) (hb : c.code = cc) (hdg : decode cc pc = .ok (.lushr, 1))
    (hq : bq_ju pc ls st h = some k) (K : bw_at p l e R s m args below meth c Q D cA g nL cells slots k) : bw_at p l e R s m args below meth c Q D cA g nL cells slots (pc, ls, st, h) := by
  unfold bq_ju at hq
  split at hq
  · cases hq
    intro H locs la hi hl
    exact lv_lushr hx hb hdg rfl (K H locs la hi hl)
  · cases hq
theorem bo_cm (hx : p.tables.exec = Jvm.exec) (hb : c.code = cc) (hdg : decode cc pc = .ok (.lcmp, 1))
    (hq : bq_cm pc ls st h = some k) (K : bw_at p l e R s m args below meth c Q D cA g nL cells slots k) : bw_at p l e R s m args below meth c Q D cA g nL cells slots (pc, ls, st, h) := by
  unfold bq_cm at hq
  split at hq
  · cases hq
    intro H locs la hi hl
    exact W.lcmp hx hb hdg (K H locs la hi hl)
  · cases hq
theorem bo_du (hx : p.tables.exec = Jvm.exec) (hb : c.code = cc) (hdg : decode cc pc = .ok (.dup, 1))
    (hq : bq_du pc ls st h = some k) (K : bw_at p l e R s m args below meth c Q D cA g nL cells slots k) : bw_at p l e R s m args below meth c Q D cA g nL cells slots (pc, ls, st, h) := by
  unfold bq_du at hq
  split at hq
  · split at hq
    · rename_i hc
      cases hq
      intro H locs la hi hl
      exact lv_dup hx hb hdg (by rw [bw_tr_cat]; exact hc) (K H locs la hi hl)
    · cases hq
  · cases hq
theorem bo_d2 (hx : p.tables.exec = Jvm.exec) (hb : c.code = cc) (hdg : decode cc pc = .ok (.dup2, 1))
    (hq : bq_d2 pc ls st h = some k) (K : bw_at p l e R s m args below meth c Q D cA g nL cells slots k) : bw_at p l e R s m args below meth c Q D cA g nL cells slots (pc, ls, st, h) := by
  unfold bq_d2 at hq
  split at hq
  · split at hq
    · rename_i hc
      cases hq
      intro H locs la hi hl
      exact lv_dup2_11 hx hb hdg (by rw [bw_tr_cat]; exact hc.1) (by rw [bw_tr_cat]; exact hc.2) (K H locs la hi hl)
    · cases hq
  · cases hq
theorem bo_go {off : Int} (hx : p.tables.exec = Jvm.exec) (hb : c.code = cc) (hdg : decode cc pc = .ok (.goto off, 3))
    (hq : bq_go off pc ls st h = some k) (K : bw_at p l e R s m args below meth c Q D cA g nL cells slots k) : bw_at p l e R s m args below meth c Q D cA g nL cells slots (pc, ls, st, h) := by
  unfold bq_go at hq
  split at hq
  · rename_i q hj
    cases hq
    intro H locs la hi hl
    exact lv_goto hx hb hdg (bw_jp_ok hj) (K H locs la hi hl)
  · cases hq
theorem bo_if {d : Int32 → Bool} {off : Int} (row : ∀ (H : Heap) (locs : List Loc) (la : Array Slot) (x : Int32) (r : List Value) (q : Nat), (pc : Int) + off = (q : Int) → (d x = true → W p l e R s m args below meth c H locs cells slots Q (F0 m q la r)) → (¬ d x = true → W p l e R s m args below meth c H locs cells slots Q (F0 m (pc + 3) la r)) → W p l e R s m args below meth c H locs cells slots Q (F0 m pc la (.int x :: r)))
    (hq : bq_if d off pc ls st h = some k) (K : bw_at p l e R s m args below meth c Q D cA g nL cells slots k) : bw_at p l e R s m args below meth c Q D cA g nL cells slots (pc, ls, st, h) := by
  unfold bq_if at hq
  split at hq
  · split at hq
    · rename_i q hj
      cases hq
      intro H locs la hi hl
      refine row H locs la _ _ q (bw_jp_ok hj) (fun hd => ?_) (fun hd => ?_)
      · have := K H locs la hi hl
        rw [if_pos hd] at this
        exact this
      · have := K H locs la hi hl
        rw [if_neg hd] at this
        exact this
    · cases hq
  · cases hq
theorem bo_cp {d : Int32 → Int32 → Bool} {off : Int} (row : ∀ (H : Heap) (locs : List Loc) (la : Array Slot) (x y : Int32) (r : List Value) (q : Nat), (pc : Int) + off = (q : Int) → (d x y = true → W p l e R s m args below meth c H locs cells slots Q (F0 m q la r)) → (¬ d x y = true → W p l e R s m args below meth c H locs cells slots Q (F0 m (pc + 3) la r)) → W p l e R s m args below meth c H locs cells slots Q (F0 m pc la (.int y :: .int x :: r)))
    (hq : bq_cp d off pc ls st h = some k) (K : bw_at p l e R s m args below meth c Q D cA g nL cells slots k) : bw_at p l e R s m args below meth c Q D cA g nL cells slots (pc, ls, st, h) := by
  unfold bq_cp at hq
  split at hq
  · split at hq
    · rename_i q hj
      cases hq
      intro H locs la hi hl
      refine row H locs la _ _ _ q (bw_jp_ok hj) (fun hd => ?_) (fun hd => ?_)
      · have := K H locs la hi hl
        rw [if_pos hd] at this
        exact this
      · have := K H locs la hi hl
        rw [if_neg hd] at this
        exact this
    · cases hq
  · cases hq
theorem bo_nu {off : Int} (hx : p.tables.exec = Jvm.exec) (hb : c.code = cc) (hdg : decode cc pc = .ok (.ifnull off, 3))
    (hq : bq_nu off pc ls st h = some k) (K : bw_at p l e R s m args below meth c Q D cA g nL cells slots k) : bw_at p l e R s m args below meth c Q D cA g nL cells slots (pc, ls, st, h) := by
  unfold bq_nu at hq
  split at hq
  · split at hq
    · rename_i q hj
      cases hq
      intro H locs la hi hl
      exact lv_ifnullN hx hb hdg (bw_jp_ok hj) (K H locs la hi hl)
    · cases hq
  · cases hq
    intro H locs la hi hl
    exact lv_ifnull hx hb hdg (K H locs la hi hl)
  · cases hq
theorem bo_nn {off : Int} (hx : p.tables.exec = Jvm.exec) (hb : c.code = cc) (hdg : decode cc pc = .ok (.ifnonnull off, 3))
    (hq : bq_nn off pc ls st h = some k) (K : bw_at p l e R s m args below meth c Q D cA g nL cells slots k) : bw_at p l e R s m args below meth c Q D cA g nL cells slots (pc, ls, st, h) := by
  unfold bq_nn at hq
  split at hq
  · split at hq
    · rename_i q hj
      cases hq
      intro H locs la hi hl
      exact lv_ifnonnull hx hb hdg (bw_jp_ok hj) (K H locs la hi hl)
    · cases hq
  · cases hq
    intro H locs la hi hl
    exact lv_ifnonnullN hx hb hdg (K H locs la hi hl)
  · cases hq
theorem bo_ts {df lo hi : Int} {offs : Array Int} {len : Nat} (hx : p.tables.exec = Jvm.exec) (hb : c.code = cc) (hdg : decode cc pc = .ok (.tableswitch df lo hi offs, len))
    (hq : bq_ts df lo hi offs pc ls st h = some k) (K : bw_at p l e R s m args below meth c Q D cA g nL cells slots k) : bw_at p l e R s m args below meth c Q D cA g nL cells slots (pc, ls, st, h) := by
  unfold bq_ts at hq
  split at hq
  · split at hq
    · rename_i hout
      split at hq
      · rename_i q hj
        cases hq
        intro H locs la hi hl
        exact lv_tableOut hx hb hdg hout (bw_jp_ok hj) (K H locs la hi hl)
      · cases hq
    · rename_i hout
      split at hq
      · rename_i off ho
        split at hq
        · rename_i q hj
          cases hq
          intro H locs la hi hl
          exact lv_tableIn hx hb hdg (fun q => hout (Or.inl q)) (fun q => hout (Or.inr q)) ho (bw_jp_ok hj) (K H locs la hi hl)
        · cases hq
      · cases hq
  · cases hq
end BO
