/-! one instruction; a method's end; a call; and all of it together -/
theorem bz_il {w i : Nat} {pc : Nat} {ls : bw_L} {st : List Value} {h : bw_H} {k : bw_C} (hq : bq_il w i pc ls st h = some k) : k.2.2.2.1 = h.1 := by
  unfold bq_il at hq
  repeat' split at hq
  all_goals (first | (cases hq; rfl) | cases hq)
theorem bz_ll {w i : Nat} {pc : Nat} {ls : bw_L} {st : List Value} {h : bw_H} {k : bw_C} (hq : bq_ll w i pc ls st h = some k) : k.2.2.2.1 = h.1 := by
  unfold bq_ll at hq
  repeat' split at hq
  all_goals (first | (cases hq; rfl) | cases hq)
theorem bz_al {w i : Nat} {pc : Nat} {ls : bw_L} {st : List Value} {h : bw_H} {k : bw_C} (hq : bq_al w i pc ls st h = some k) : k.2.2.2.1 = h.1 := by
  unfold bq_al at hq
  repeat' split at hq
  all_goals (first | (cases hq; rfl) | cases hq)
theorem bz_is {nL w i : Nat} {pc : Nat} {ls : bw_L} {st : List Value} {h : bw_H} {k : bw_C} (hq : bq_is nL w i pc ls st h = some k) : k.2.2.2.1 = h.1 := by
  unfold bq_is at hq
  repeat' split at hq
  all_goals (first | (cases hq; rfl) | cases hq)
theorem bz_ls {nL w i : Nat} {pc : Nat} {ls : bw_L} {st : List Value} {h : bw_H} {k : bw_C} (hq : bq_ls nL w i pc ls st h = some k) : k.2.2.2.1 = h.1 := by
  unfold bq_ls at hq
  repeat' split at hq
  all_goals (first | (cases hq; rfl) | cases hq)
theorem bz_as {nL w i : Nat} {pc : Nat} {ls : bw_L} {st : List Value} {h : bw_H} {k : bw_C} (hq : bq_as nL w i pc ls st h = some k) : k.2.2.2.1 = h.1 := by
  unfold bq_as at hq
  repeat' split at hq
  all_goals (first | (cases hq; rfl) | cases hq)
theorem bz_ic {nL i : Nat} {n : Int} {pc : Nat} {ls : bw_L} {st : List Value} {h : bw_H} {k : bw_C} (hq : bq_ic nL i n pc ls st h = some k) : k.2.2.2.1 = h.1 := by
  unfold bq_ic at hq
  repeat' split at hq
  all_goals (first | (cases hq; rfl) | cases hq)
theorem bz_ii {f : Int32 → Int32 → Int32} {pc : Nat} {ls : bw_L} {st : List Value} {h : bw_H} {k : bw_C} (hq : bq_ii f pc ls st h = some k) : k.2.2.2.1 = h.1 := by
  unfold bq_ii at hq
  repeat' split at hq
  all_goals (first | (cases hq; rfl) | cases hq)
theorem bz_id {f : Int32 → Int32 → Int32} {pc : Nat} {ls : bw_L} {st : List Value} {h : bw_H} {k : bw_C} (hq : bq_id f pc ls st h = some k) : k.2.2.2.1 = h.1 := by
  unfold bq_id at hq
  repeat' split at hq
  all_goals (first | (cases hq; rfl) | cases hq)
theorem bz_jj {f : Int64 → Int64 → Int64} {pc : Nat} {ls : bw_L} {st : List Value} {h : bw_H} {k : bw_C} (hq : bq_jj f pc ls st h = some k) : k.2.2.2.1 = h.1 := by
  unfold bq_jj at hq
  repeat' split at hq
  all_goals (first | (cases hq; rfl) | cases hq)
theorem bz_jd {f : Int64 → Int64 → Int64} {pc : Nat} {ls : bw_L} {st : List Value} {h : bw_H} {k : bw_C} (hq : bq_jd f pc ls st h = some k) : k.2.2.2.1 = h.1 := by
  unfold bq_jd at hq
  repeat' split at hq
  all_goals (first | (cases hq; rfl) | cases hq)
theorem bz_i1 {f : Int32 → Value} {pc : Nat} {ls : bw_L} {st : List Value} {h : bw_H} {k : bw_C} (hq : bq_i1 f pc ls st h = some k) : k.2.2.2.1 = h.1 := by
  unfold bq_i1 at hq
  repeat' split at hq
  all_goals (first | (cases hq; rfl) | cases hq)
theorem bz_j1 {f : Int64 → Value} {pc : Nat} {ls : bw_L} {st : List Value} {h : bw_H} {k : bw_C} (hq : bq_j1 f pc ls st h = some k) : k.2.2.2.1 = h.1 := by
  unfold bq_j1 at hq
  repeat' split at hq
  all_goals (first | (cases hq; rfl) | cases hq)
theorem bz_ju  {pc : Nat} {ls : bw_L} {st : List Value} {h : bw_H} {k : bw_C} (hq : bq_ju  pc ls st h = some k) : k.2.2.2.1 = h.1 := by
  unfold bq_ju at hq
  repeat' split at hq
  all_goals (first | (cases hq; rfl) | cases hq)
theorem bz_cm  {pc : Nat} {ls : bw_L} {st : List Value} {h : bw_H} {k : bw_C} (hq : bq_cm  pc ls st h = some k) : k.2.2.2.1 = h.1 := by
  unfold bq_cm at hq
  repeat' split at hq
  all_goals (first | (cases hq; rfl) | cases hq)
theorem bz_du  {pc : Nat} {ls : bw_L} {st : List Value} {h : bw_H} {k : bw_C} (hq : bq_du  pc ls st h = some k) : k.2.2.2.1 = h.1 := by
  unfold bq_du at hq
  repeat' split at hq
  all_goals (first | (cases hq; rfl) | cases hq)
theorem bz_d2  {pc : Nat} {ls : bw_L} {st : List Value} {h : bw_H} {k : bw_C} (hq : bq_d2  pc ls st h = some k) : k.2.2.2.1 = h.1 := by
  unfold bq_d2 at hq
  repeat' split at hq
  all_goals (first | (cases hq; rfl) | cases hq)
theorem bz_cn {w : Nat} {v : Value} {pc : Nat} {ls : bw_L} {st : List Value} {h : bw_H} {k : bw_C} (hq : bq_cn w v pc ls st h = some k) : k.2.2.2.1 = h.1 := by
  unfold bq_cn at hq
  repeat' split at hq
  all_goals (first | (cases hq; rfl) | cases hq)
theorem bz_go {off : Int} {pc : Nat} {ls : bw_L} {st : List Value} {h : bw_H} {k : bw_C} (hq : bq_go off pc ls st h = some k) : k.2.2.2.1 = h.1 := by
  unfold bq_go at hq
  repeat' split at hq
  all_goals (first | (cases hq; rfl) | cases hq)
theorem bz_if {d : Int32 → Bool} {off : Int} {pc : Nat} {ls : bw_L} {st : List Value} {h : bw_H} {k : bw_C} (hq : bq_if d off pc ls st h = some k) : k.2.2.2.1 = h.1 := by
  unfold bq_if at hq
  repeat' split at hq
  all_goals (first | (cases hq; rfl) | cases hq)
theorem bz_cp {d : Int32 → Int32 → Bool} {off : Int} {pc : Nat} {ls : bw_L} {st : List Value} {h : bw_H} {k : bw_C} (hq : bq_cp d off pc ls st h = some k) : k.2.2.2.1 = h.1 := by
  unfold bq_cp at hq
  repeat' split at hq
  all_goals (first | (cases hq; rfl) | cases hq)
theorem bz_nu {off : Int} {pc : Nat} {ls : bw_L} {st : List Value} {h : bw_H} {k : bw_C} (hq : bq_nu off pc ls st h = some k) : k.2.2.2.1 = h.1 := by
  unfold bq_nu at hq
  repeat' split at hq
  all_goals (first | (cases hq; rfl) | cases hq)
theorem bz_nn {off : Int} {pc : Nat} {ls : bw_L} {st : List Value} {h : bw_H} {k : bw_C} (hq : bq_nn off pc ls st h = some k) : k.2.2.2.1 = h.1 := by
  unfold bq_nn at hq
  repeat' split at hq
  all_goals (first | (cases hq; rfl) | cases hq)
theorem bz_ts {df lo hi : Int} {offs : Array Int} {pc : Nat} {ls : bw_L} {st : List Value} {h : bw_H} {k : bw_C} (hq : bq_ts df lo hi offs pc ls st h = some k) : k.2.2.2.1 = h.1 := by
  unfold bq_ts at hq
  repeat' split at hq
  all_goals (first | (cases hq; rfl) | cases hq)
theorem bz_gf {f : Option (Nat × Nat)} {pc : Nat} {ls : bw_L} {st : List Value} {h : bw_H} {k : bw_C} (hq : bq_gf f pc ls st h = some k) : k.2.2.2.1 = h.1 := by
  unfold bq_gf at hq
  repeat' split at hq
  all_goals (first | (cases hq; rfl) | cases hq)
theorem bz_pf {o : Nat} {ini : Bool} {f : Option (Nat × Nat)} {pc : Nat} {ls : bw_L} {st : List Value} {h : bw_H} {k : bw_C} (hq : bq_pf o ini f pc ls st h = some k) : k.2.2.2.1 = h.1 := by
  unfold bq_pf at hq
  repeat' split at hq
  all_goals (first | (cases hq; rfl) | cases hq)
theorem bz_gs {b : Bool} {pc : Nat} {ls : bw_L} {st : List Value} {h : bw_H} {k : bw_C} (hq : bq_gs b pc ls st h = some k) : k.2.2.2.1 = h.1 := by
  unfold bq_gs at hq
  repeat' split at hq
  all_goals (first | (cases hq; rfl) | cases hq)
theorem bz_la  {pc : Nat} {ls : bw_L} {st : List Value} {h : bw_H} {k : bw_C} (hq : bq_la  pc ls st h = some k) : k.2.2.2.1 = h.1 := by
  unfold bq_la at hq
  repeat' split at hq
  all_goals (first | (cases hq; rfl) | cases hq)
theorem bz_ia {X : Nat × (Nat → Int32)} {pc : Nat} {ls : bw_L} {st : List Value} {h : bw_H} {k : bw_C} (hq : bq_ia X pc ls st h = some k) : k.2.2.2.1 = h.1 := by
  unfold bq_ia at hq
  repeat' split at hq
  all_goals (first | (cases hq; rfl) | cases hq)
theorem bz_ba  {pc : Nat} {ls : bw_L} {st : List Value} {h : bw_H} {k : bw_C} (hq : bq_ba  pc ls st h = some k) : k.2.2.2.1 = h.1 := by
  unfold bq_ba at hq
  repeat' split at hq
  all_goals (first | (cases hq; rfl) | cases hq)
theorem bz_aa  {pc : Nat} {ls : bw_L} {st : List Value} {h : bw_H} {k : bw_C} (hq : bq_aa  pc ls st h = some k) : k.2.2.2.1 = h.1 := by
  unfold bq_aa at hq
  repeat' split at hq
  all_goals (first | (cases hq; rfl) | cases hq)
theorem bz_ist  {pc : Nat} {ls : bw_L} {st : List Value} {h : bw_H} {k : bw_C} (hq : bq_ist  pc ls st h = some k) : k.2.2.2.1 = h.1 := by
  unfold bq_ist at hq
  repeat' split at hq
  all_goals (first | (cases hq; rfl) | cases hq)
theorem bz_bst  {pc : Nat} {ls : bw_L} {st : List Value} {h : bw_H} {k : bw_C} (hq : bq_bst  pc ls st h = some k) : k.2.2.2.1 = h.1 := by
  unfold bq_bst at hq
  repeat' split at hq
  all_goals (first | (cases hq; rfl) | cases hq)
theorem bz_ast  {pc : Nat} {ls : bw_L} {st : List Value} {h : bw_H} {k : bw_C} (hq : bq_ast  pc ls st h = some k) : k.2.2.2.1 = h.1 := by
  unfold bq_ast at hq
  repeat' split at hq
  all_goals (first | (cases hq; rfl) | cases hq)
theorem bz_len {X : Nat × (Nat → Int32)} {pc : Nat} {ls : bw_L} {st : List Value} {h : bw_H} {k : bw_C} (hq : bq_len X pc ls st h = some k) : k.2.2.2.1 = h.1 := by
  unfold bq_len at hq
  repeat' split at hq
  all_goals (first | (cases hq; rfl) | cases hq)
theorem bz_oi {b : Bool} {pc : Nat} {ls : bw_L} {st : List Value} {h : bw_H} {k : bw_C} (hq : bq_oi b pc ls st h = some k) : k.2.2.2.1 = h.1 := by
  unfold bq_oi at hq
  repeat' split at hq
  all_goals (first | (cases hq; rfl) | cases hq)
theorem bz_ac {b : Bool} {pc : Nat} {ls : bw_L} {st : List Value} {h : bw_H} {k : bw_C} (hq : bq_ac b pc ls st h = some k) : k.2.2.2.1 = h.1 := by
  unfold bq_ac at hq
  repeat' split at hq
  all_goals (first | (cases hq; rfl) | cases hq)
theorem bz_mx {b : Bool} {pc : Nat} {ls : bw_L} {st : List Value} {h : bw_H} {k : bw_C} (hq : bq_mx b pc ls st h = some k) : k.2.2.2.1 = h.1 := by
  unfold bq_mx at hq
  repeat' split at hq
  all_goals (first | (cases hq; rfl) | cases hq)
theorem bz_new {c : Option Nat} {pc : Nat} {ls : bw_L} {st : List Value} {h : bw_H} {k : bw_C} (hq : bq_new c pc ls st h = some k) : bw_n h ≤ bw_n k.2.2.2 ∧ bw_s h ≤ bw_s k.2.2.2 := by
  unfold bq_new at hq
  repeat' split at hq
  all_goals (first | (cases hq; exact ⟨Nat.le_add_right _ _, Nat.le_add_right _ _⟩) | cases hq)
theorem bz_na {t : ArrayType} {pc : Nat} {ls : bw_L} {st : List Value} {h : bw_H} {k : bw_C} (hq : bq_na t pc ls st h = some k) : bw_n h ≤ bw_n k.2.2.2 ∧ bw_s h ≤ bw_s k.2.2.2 := by
  unfold bq_na at hq
  repeat' split at hq
  all_goals (first | (cases hq; exact ⟨Nat.le_add_right _ _, Nat.le_add_right _ _⟩) | cases hq)
theorem bz_an {b : Bool} {pc : Nat} {ls : bw_L} {st : List Value} {h : bw_H} {k : bw_C} (hq : bq_an b pc ls st h = some k) : bw_n h ≤ bw_n k.2.2.2 ∧ bw_s h ≤ bw_s k.2.2.2 := by
  unfold bq_an at hq
  repeat' split at hq
  all_goals (first | (cases hq; exact ⟨Nat.le_add_right _ _, Nat.le_add_right _ _⟩) | cases hq)
theorem bz_eq {h : bw_H} {k : bw_C} (e : k.2.2.2.1 = h.1) : bw_n h ≤ bw_n k.2.2.2 ∧ bw_s h ≤ bw_s k.2.2.2 := by
  unfold bw_n bw_s
  rw [e]
  exact ⟨Nat.le_refl _, Nat.le_refl _⟩
theorem bw_wl {len n : Nat} (h : len = n ∨ n = 0) (hn : n ≠ 0) : len = n := h.elim id (fun z => absurd z hn)
def bw_kw (C : String) (ix : Nat) (v : Value) : Cond := match v with
  | .int x => Cond.constant C ix x
  | .long x => Cond.constantLong C ix x
  | _ => Cond.tt
theorem bw_kc_ok {o ix : Nat} {v : Value} (h : bw_kc o ix = some v) : bw_kw (bw_R o) ix v ∈ lw_tbl := by
  unfold bw_kc at h
  cases hf : bw_KT.find? (fun e => e.1 == o && e.2.1 == ix) with
  | none => rw [hf] at h; cases h
  | some x =>
    rw [hf] at h
    have hv : x.2.2.1 = v := Option.some.inj h
    obtain ⟨h1, rfl, rfl⟩ := bw_find_in hf
    have h2 := of_decide_eq_true (List.all_eq_true.mp bw_KT_ok x h1)
    subst hv
    exact List.mem_of_getElem? h2
section BX
variable {p : Program} {l : Launch} {e : Env} {R : Room} {s : State} {m : MethodId} {args : Array Value} {below : List Frame} {meth : Method} {c : Code} {Q : State → Prop} {D : va_G} {cA : FieldType → ClassId} {g : Nat × Nat × Nat} {nL cells slots : Nat} {pc : Nat} {ls : bw_L} {st : List Value} {h : bw_H} {k : bw_C} {cc : ByteArray} {o : Nat} {X : Nat × (Nat → Int32)} {ini : Bool}
theorem bw_keep (e1 : k.2.2.2.1 = h.1) (K : bw_at p l e R s m args below meth c Q D cA g nL (cells + (bw_n k.2.2.2 - bw_n h)) (slots + (bw_s k.2.2.2 - bw_s h)) k) : bw_at p l e R s m args below meth c Q D cA g nL cells slots k := by
  have h1 : bw_n k.2.2.2 - bw_n h = 0 := by unfold bw_n; rw [e1]; exact Nat.sub_self _
  have h2 : bw_s k.2.2.2 - bw_s h = 0 := by unfold bw_s; rw [e1]; exact Nat.sub_self _
  rw [h1, h2] at K
  exact K
def bw_Cx (p : Program) (s : State) (m : MethodId) (args : Array Value) (meth : Method) (c : Code) (D : va_G) (cA : FieldType → ClassId) (g : Nat × Nat × Nat) (X : Nat × (Nat → Int32)) (o nL : Nat) (ini : Bool) (cc : ByteArray) : Prop :=
  p.tables.exec = Jvm.exec ∧ c.code = cc ∧ c.maxLocals = nL ∧ s.vm.findClass (bw_R o) = some m.cls ∧ (∀ w ∈ bw_Ts, w.before args s = true) ∧ va_K D vwCl (bw_tys cA) s ∧ va_Z "BearWitness$Looks" "SETS_WITH" "[J" (.ref g.2.1) (bw_A g) s s.heap ∧ va_T .long g.2.1 6 (fun j => .long (bw_set6 j)) (bw_A g) s s.heap ∧ va_T .int g.2.2 X.1 (fun j => .int (X.2 j)) (bw_A g) s s.heap ∧ (ini = true → meth.name = "<init>") ∧ va_AO RX1 s ∧ (∀ q, s.heap.size ≤ q → bw_A g q)
theorem bw_x_ok {i : Instr} {len : Nat} (C0 : bw_Cx p s m args meth c D cA g X o nL ini cc) (hdg : decode cc pc = .ok (i, len)) (hw : len = bw_w i ∨ bw_w i = 0) (hf1 : 1 ≤ R.frames) (hf2 : 60 ≤ R.locals)
    (hq : bw_x X o nL ini i pc ls st h = some k) (hcells : cells + (bw_n k.2.2.2 - bw_n h) ≤ R.cells) (hslots : slots + (bw_s k.2.2.2 - bw_s h) ≤ R.slots) (K : bw_at p l e R s m args below meth c Q D cA g nL (cells + (bw_n k.2.2.2 - bw_n h)) (slots + (bw_s k.2.2.2 - bw_s h)) k) :
    (bw_n h ≤ bw_n k.2.2.2 ∧ bw_s h ≤ bw_s k.2.2.2) ∧ bw_at p l e R s m args below meth c Q D cA g nL cells slots (pc, ls, st, h) := by
  obtain ⟨hx, hb, hml, hown, hts, hK, hZ, hT6, hT, hini, hao, hA⟩ := C0
  have hA2 : s.heap.size ≤ s.heap.size ∧ ∀ q, s.heap.size ≤ q → bw_A g q := ⟨Nat.le_refl _, hA⟩
  cases i with
  | iload a => obtain rfl := bw_wl (n := 2) hw (by decide); exact ⟨bz_eq (bz_il hq), bo_il (fun H locs la x r ha kk => lv_iload hx hb hdg ha kk) hq (bw_keep (bz_il hq) K)⟩
  | iload_n a => obtain rfl := bw_wl (n := 1) hw (by decide); exact ⟨bz_eq (bz_il hq), bo_il (fun H locs la x r ha kk => lv_iload_n hx hb hdg rfl ha kk) hq (bw_keep (bz_il hq) K)⟩
  | lload a => obtain rfl := bw_wl (n := 2) hw (by decide); exact ⟨bz_eq (bz_ll hq), bo_ll (fun H locs la x r ha kk => lv_lload hx hb hdg ha kk) hq (bw_keep (bz_ll hq) K)⟩
  | lload_n a => obtain rfl := bw_wl (n := 1) hw (by decide); exact ⟨bz_eq (bz_ll hq), bo_ll (fun H locs la x r ha kk => lv_lload_n hx hb hdg rfl ha kk) hq (bw_keep (bz_ll hq) K)⟩
  | aload a => obtain rfl := bw_wl (n := 2) hw (by decide); exact ⟨bz_eq (bz_al hq), bo_al (fun H locs la x r ha kk => lv_aload hx hb hdg ha kk) (fun H locs la r ha kk => lv_aloadN hx hb hdg ha kk) hq (bw_keep (bz_al hq) K)⟩
  | aload_n a => obtain rfl := bw_wl (n := 1) hw (by decide); exact ⟨bz_eq (bz_al hq), bo_al (fun H locs la x r ha kk => lv_aload_n hx hb hdg rfl ha kk) (fun H locs la r ha kk => lv_aload_nN hx hb hdg rfl ha kk) hq (bw_keep (bz_al hq) K)⟩
  | istore a => obtain rfl := bw_wl (n := 2) hw (by decide); exact ⟨bz_eq (bz_is hq), bo_is (fun H locs la x lv lv' r h1 h2 h3 kk => lv_istore hx hb hdg h1 h2 h3 kk) hq (bw_keep (bz_is hq) K)⟩
  | istore_n a => obtain rfl := bw_wl (n := 1) hw (by decide); exact ⟨bz_eq (bz_is hq), bo_is (fun H locs la x lv lv' r h1 h2 h3 kk => lv_istore_n hx hb hdg rfl h1 h2 h3 kk) hq (bw_keep (bz_is hq) K)⟩
  | lstore a => obtain rfl := bw_wl (n := 2) hw (by decide); exact ⟨bz_eq (bz_ls hq), bo_ls (fun H locs la x lv lv' r h1 h2 h3 kk => lv_lstore hx hb hdg h1 h2 h3 kk) hq (bw_keep (bz_ls hq) K)⟩
  | lstore_n a => obtain rfl := bw_wl (n := 1) hw (by decide); exact ⟨bz_eq (bz_ls hq), bo_ls (fun H locs la x lv lv' r h1 h2 h3 kk => lv_lstore_n hx hb hdg rfl h1 h2 h3 kk) hq (bw_keep (bz_ls hq) K)⟩
  | astore a => obtain rfl := bw_wl (n := 2) hw (by decide); exact ⟨bz_eq (bz_as hq), bo_as (fun H locs la x lv lv' r h1 h2 h3 kk => lv_astore hx hb hdg h1 h2 h3 kk) (fun H locs la lv lv' r h1 h2 h3 kk => lv_astoreN hx hb hdg h1 h2 h3 kk) hq (bw_keep (bz_as hq) K)⟩
  | astore_n a => obtain rfl := bw_wl (n := 1) hw (by decide); exact ⟨bz_eq (bz_as hq), bo_as (fun H locs la x lv lv' r h1 h2 h3 kk => lv_astore_n hx hb hdg rfl h1 h2 h3 kk) (fun H locs la lv lv' r h1 h2 h3 kk => lv_astore_nN hx hb hdg rfl h1 h2 h3 kk) hq (bw_keep (bz_as hq) K)⟩
  | iinc a n => obtain rfl := bw_wl (n := 3) hw (by decide); exact ⟨bz_eq (bz_ic hq), bo_ic (fun H locs la x v lv lv' j r h1 h2 h3 h4 h5 kk => lv_iinc hx hb hdg h1 h2 h3 h4 h5 kk) hq (bw_keep (bz_ic hq) K)⟩
  | iconst a => obtain rfl := bw_wl (n := 1) hw (by decide); exact ⟨bz_eq (bz_cn hq), bo_cn (fun H locs la r kk => lv_iconst hx hb hdg rfl kk) hq (bw_keep (bz_cn hq) K)⟩
  | bipush a => obtain rfl := bw_wl (n := 2) hw (by decide); exact ⟨bz_eq (bz_cn hq), bo_cn (fun H locs la r kk => lv_bipush hx hb hdg rfl kk) hq (bw_keep (bz_cn hq) K)⟩
  | sipush a => obtain rfl := bw_wl (n := 3) hw (by decide); exact ⟨bz_eq (bz_cn hq), bo_cn (fun H locs la r kk => lv_sipush hx hb hdg rfl kk) hq (bw_keep (bz_cn hq) K)⟩
  | lconst a => obtain rfl := bw_wl (n := 1) hw (by decide); exact ⟨bz_eq (bz_cn hq), bo_cn (fun H locs la r kk => lv_lconst hx hb hdg rfl kk) hq (bw_keep (bz_cn hq) K)⟩
  | aconst_null => obtain rfl := bw_wl (n := 1) hw (by decide); exact ⟨bz_eq (bz_cn hq), bo_cn (fun H locs la r kk => lv_null hx hb hdg kk) hq (bw_keep (bz_cn hq) K)⟩
  | ldc a =>
    obtain rfl := bw_wl (n := 2) hw (by decide)
    have hq' : (match bw_kc o a with | some (.int v) => bq_cn 2 (.int v) | _ => fun _ _ _ _ => none) pc ls st h = some k := hq
    cases hkc : bw_kc o a with
    | none => rw [hkc] at hq'; cases hq'
    | some v =>
      rw [hkc] at hq'
      cases v with
      | int v =>
        have hm := bw_kc_ok hkc
        exact ⟨bz_eq (bz_cn hq'), bo_cn (fun H locs la r kk => lv_ldc hx hb hown (hts _ (bw_in hm rfl)) hdg kk) hq' (bw_keep (bz_cn hq') K)⟩
      | _ => cases hq'
  | ldc_w a =>
    obtain rfl := bw_wl (n := 3) hw (by decide)
    have hq' : (match bw_kc o a with | some (.int v) => bq_cn 3 (.int v) | _ => fun _ _ _ _ => none) pc ls st h = some k := hq
    cases hkc : bw_kc o a with
    | none => rw [hkc] at hq'; cases hq'
    | some v =>
      rw [hkc] at hq'
      cases v with
      | int v =>
        have hm := bw_kc_ok hkc
        exact ⟨bz_eq (bz_cn hq'), bo_cn (fun H locs la r kk => lv_ldcw hx hb hown (hts _ (bw_in hm rfl)) hdg kk) hq' (bw_keep (bz_cn hq') K)⟩
      | _ => cases hq'
  | ldc2_w a =>
    obtain rfl := bw_wl (n := 3) hw (by decide)
    have hq' : (match bw_kc o a with | some (.long v) => bq_cn 3 (.long v) | _ => fun _ _ _ _ => none) pc ls st h = some k := hq
    cases hkc : bw_kc o a with
    | none => rw [hkc] at hq'; cases hq'
    | some v =>
      rw [hkc] at hq'
      cases v with
      | long v =>
        have hm := bw_kc_ok hkc
        exact ⟨bz_eq (bz_cn hq'), bo_cn (fun H locs la r kk => lv_ldc2 hx hb hown (hts _ (bw_in hm rfl)) hdg kk) hq' (bw_keep (bz_cn hq') K)⟩
      | _ => cases hq'
  | iadd => obtain rfl := bw_wl (n := 1) hw (by decide); exact ⟨bz_eq (bz_ii hq), bo_ii (fun H locs la x y r kk => lv_iadd hx hb hdg kk) hq (bw_keep (bz_ii hq) K)⟩
  | isub => obtain rfl := bw_wl (n := 1) hw (by decide); exact ⟨bz_eq (bz_ii hq), bo_ii (fun H locs la x y r kk => lv_isub hx hb hdg kk) hq (bw_keep (bz_ii hq) K)⟩
  | imul => obtain rfl := bw_wl (n := 1) hw (by decide); exact ⟨bz_eq (bz_ii hq), bo_ii (fun H locs la x y r kk => lv_imul hx hb hdg kk) hq (bw_keep (bz_ii hq) K)⟩
  | iand => obtain rfl := bw_wl (n := 1) hw (by decide); exact ⟨bz_eq (bz_ii hq), bo_ii (fun H locs la x y r kk => lv_iand hx hb hdg kk) hq (bw_keep (bz_ii hq) K)⟩
  | ior => obtain rfl := bw_wl (n := 1) hw (by decide); exact ⟨bz_eq (bz_ii hq), bo_ii (fun H locs la x y r kk => lv_ior hx hb hdg kk) hq (bw_keep (bz_ii hq) K)⟩
  | ixor => obtain rfl := bw_wl (n := 1) hw (by decide); exact ⟨bz_eq (bz_ii hq), bo_ii (fun H locs la x y r kk => lv_ixor hx hb hdg kk) hq (bw_keep (bz_ii hq) K)⟩
  | ishl => obtain rfl := bw_wl (n := 1) hw (by decide); exact ⟨bz_eq (bz_ii hq), bo_ii (fun H locs la x y r kk => lv_ishl hx hb hdg kk) hq (bw_keep (bz_ii hq) K)⟩
  | ishr => obtain rfl := bw_wl (n := 1) hw (by decide); exact ⟨bz_eq (bz_ii hq), bo_ii (fun H locs la x y r kk => lv_ishr hx hb hdg kk) hq (bw_keep (bz_ii hq) K)⟩
  | iushr => obtain rfl := bw_wl (n := 1) hw (by decide); exact ⟨bz_eq (bz_ii hq), bo_ii (fun H locs la x y r kk => lv_iushr hx hb hdg rfl kk) hq (bw_keep (bz_ii hq) K)⟩
  | idiv => obtain rfl := bw_wl (n := 1) hw (by decide); exact ⟨bz_eq (bz_id hq), bo_id (fun H locs la x y r hn kk => lv_idiv hx hb hdg hn kk) hq (bw_keep (bz_id hq) K)⟩
  | irem => obtain rfl := bw_wl (n := 1) hw (by decide); exact ⟨bz_eq (bz_id hq), bo_id (fun H locs la x y r hn kk => lv_irem hx hb hdg hn kk) hq (bw_keep (bz_id hq) K)⟩
  | ladd => obtain rfl := bw_wl (n := 1) hw (by decide); exact ⟨bz_eq (bz_jj hq), bo_jj (fun H locs la x y r kk => lv_ladd hx hb hdg kk) hq (bw_keep (bz_jj hq) K)⟩
  | lsub => obtain rfl := bw_wl (n := 1) hw (by decide); exact ⟨bz_eq (bz_jj hq), bo_jj (fun H locs la x y r kk => lv_lsub hx hb hdg kk) hq (bw_keep (bz_jj hq) K)⟩
  | lmul => obtain rfl := bw_wl (n := 1) hw (by decide); exact ⟨bz_eq (bz_jj hq), bo_jj (fun H locs la x y r kk => lv_lmul hx hb hdg kk) hq (bw_keep (bz_jj hq) K)⟩
  | land => obtain rfl := bw_wl (n := 1) hw (by decide); exact ⟨bz_eq (bz_jj hq), bo_jj (fun H locs la x y r kk => lv_land hx hb hdg kk) hq (bw_keep (bz_jj hq) K)⟩
  | lor => obtain rfl := bw_wl (n := 1) hw (by decide); exact ⟨bz_eq (bz_jj hq), bo_jj (fun H locs la x y r kk => lv_lor hx hb hdg kk) hq (bw_keep (bz_jj hq) K)⟩
  | lxor => obtain rfl := bw_wl (n := 1) hw (by decide); exact ⟨bz_eq (bz_jj hq), bo_jj (fun H locs la x y r kk => lv_lxor hx hb hdg kk) hq (bw_keep (bz_jj hq) K)⟩
  | ldiv => obtain rfl := bw_wl (n := 1) hw (by decide); exact ⟨bz_eq (bz_jd hq), bo_jd (fun H locs la x y r hn kk => lv_ldiv hx hb hdg hn kk) hq (bw_keep (bz_jd hq) K)⟩
  | lrem => obtain rfl := bw_wl (n := 1) hw (by decide); exact ⟨bz_eq (bz_jd hq), bo_jd (fun H locs la x y r hn kk => lv_lrem hx hb hdg hn kk) hq (bw_keep (bz_jd hq) K)⟩
  | lushr => obtain rfl := bw_wl (n := 1) hw (by decide); exact ⟨bz_eq (bz_ju hq), bo_ju hx hb hdg hq (bw_keep (bz_ju hq) K)⟩
  | ineg => obtain rfl := bw_wl (n := 1) hw (by decide); exact ⟨bz_eq (bz_i1 hq), bo_i1 (f := fun x => .int (-x)) (fun H locs la x r kk => lv_ineg hx hb hdg kk) hq (bw_keep (bz_i1 hq) K)⟩
  | lneg => obtain rfl := bw_wl (n := 1) hw (by decide); exact ⟨bz_eq (bz_j1 hq), bo_j1 (f := fun x => .long (-x)) (fun H locs la x r kk => lv_lneg hx hb hdg kk) hq (bw_keep (bz_j1 hq) K)⟩
  | i2l => obtain rfl := bw_wl (n := 1) hw (by decide); exact ⟨bz_eq (bz_i1 hq), bo_i1 (f := fun x => .long x.toInt64) (fun H locs la x r kk => lv_i2l hx hb hdg rfl kk) hq (bw_keep (bz_i1 hq) K)⟩
  | i2b => obtain rfl := bw_wl (n := 1) hw (by decide); exact ⟨bz_eq (bz_i1 hq), bo_i1 (f := fun x => .int x.toInt8.toInt32) (fun H locs la x r kk => lv_i2b hx hb hdg rfl kk) hq (bw_keep (bz_i1 hq) K)⟩
  | l2i => obtain rfl := bw_wl (n := 1) hw (by decide); exact ⟨bz_eq (bz_j1 hq), bo_j1 (f := fun x => .int x.toInt32) (fun H locs la x r kk => lv_l2i hx hb hdg rfl kk) hq (bw_keep (bz_j1 hq) K)⟩
  | lcmp => obtain rfl := bw_wl (n := 1) hw (by decide); exact ⟨bz_eq (bz_cm hq), bo_cm hx hb hdg hq (bw_keep (bz_cm hq) K)⟩
  | dup => obtain rfl := bw_wl (n := 1) hw (by decide); exact ⟨bz_eq (bz_du hq), bo_du hx hb hdg hq (bw_keep (bz_du hq) K)⟩
  | dup2 => obtain rfl := bw_wl (n := 1) hw (by decide); exact ⟨bz_eq (bz_d2 hq), bo_d2 hx hb hdg hq (bw_keep (bz_d2 hq) K)⟩
  | goto a => obtain rfl := bw_wl (n := 3) hw (by decide); exact ⟨bz_eq (bz_go hq), bo_go hx hb hdg hq (bw_keep (bz_go hq) K)⟩
  | ifCond cd off =>
    obtain rfl := bw_wl (n := 3) hw (by decide)
    cases cd with
    | eq => exact ⟨bz_eq (bz_if hq), bo_if (fun H locs la x r q hj k1 k2 => lv_if_eq hx hb hdg hj (fun z => k1 (decide_eq_true z)) (fun z => k2 (fun y => z (of_decide_eq_true y)))) hq (bw_keep (bz_if hq) K)⟩
    | ne => exact ⟨bz_eq (bz_if hq), bo_if (fun H locs la x r q hj k1 k2 => lv_if_ne hx hb hdg hj (fun z => k1 (decide_eq_true z)) (fun z => k2 (fun y => of_decide_eq_true y z))) hq (bw_keep (bz_if hq) K)⟩
    | lt => exact ⟨bz_eq (bz_if hq), bo_if (fun H locs la x r q hj k1 k2 => lv_if_lt hx hb hdg hj (fun z => k1 (decide_eq_true z)) (fun z => k2 (fun y => z (of_decide_eq_true y)))) hq (bw_keep (bz_if hq) K)⟩
    | ge => exact ⟨bz_eq (bz_if hq), bo_if (fun H locs la x r q hj k1 k2 => lv_if_ge hx hb hdg hj (fun z => k1 (decide_eq_true z)) (fun z => k2 (fun y => z (of_decide_eq_true y)))) hq (bw_keep (bz_if hq) K)⟩
    | gt => exact ⟨bz_eq (bz_if hq), bo_if (fun H locs la x r q hj k1 k2 => lv_if_gt hx hb hdg hj (fun z => k1 (decide_eq_true z)) (fun z => k2 (fun y => z (of_decide_eq_true y)))) hq (bw_keep (bz_if hq) K)⟩
    | le => exact ⟨bz_eq (bz_if hq), bo_if (fun H locs la x r q hj k1 k2 => lv_if_le hx hb hdg hj (fun z => k1 (decide_eq_true z)) (fun z => k2 (fun y => z (of_decide_eq_true y)))) hq (bw_keep (bz_if hq) K)⟩
  | if_icmp cd off =>
    obtain rfl := bw_wl (n := 3) hw (by decide)
    cases cd with
    | eq => exact ⟨bz_eq (bz_cp hq), bo_cp (fun H locs la x y r q hj k1 k2 => lv_icmp_eq hx hb hdg hj (fun z => k1 (decide_eq_true z)) (fun z => k2 (fun y => z (of_decide_eq_true y)))) hq (bw_keep (bz_cp hq) K)⟩
    | ne => exact ⟨bz_eq (bz_cp hq), bo_cp (fun H locs la x y r q hj k1 k2 => lv_icmp_ne hx hb hdg hj (fun z => k1 (decide_eq_true z)) (fun z => k2 (fun y => of_decide_eq_true y z))) hq (bw_keep (bz_cp hq) K)⟩
    | lt => exact ⟨bz_eq (bz_cp hq), bo_cp (fun H locs la x y r q hj k1 k2 => lv_icmp_lt hx hb hdg hj (fun z => k1 (decide_eq_true z)) (fun z => k2 (fun y => z (of_decide_eq_true y)))) hq (bw_keep (bz_cp hq) K)⟩
    | ge => exact ⟨bz_eq (bz_cp hq), bo_cp (fun H locs la x y r q hj k1 k2 => lv_icmp_ge hx hb hdg hj (fun z => k1 (decide_eq_true z)) (fun z => k2 (fun y => z (of_decide_eq_true y)))) hq (bw_keep (bz_cp hq) K)⟩
    | gt => exact ⟨bz_eq (bz_cp hq), bo_cp (fun H locs la x y r q hj k1 k2 => lv_icmp_gt hx hb hdg hj (fun z => k1 (decide_eq_true z)) (fun z => k2 (fun y => z (of_decide_eq_true y)))) hq (bw_keep (bz_cp hq) K)⟩
    | le => exact ⟨bz_eq (bz_cp hq), bo_cp (fun H locs la x y r q hj k1 k2 => lv_icmp_le hx hb hdg hj (fun z => k1 (decide_eq_true z)) (fun z => k2 (fun y => z (of_decide_eq_true y)))) hq (bw_keep (bz_cp hq) K)⟩
  | ifnull a => obtain rfl := bw_wl (n := 3) hw (by decide); exact ⟨bz_eq (bz_nu hq), bo_nu hx hb hdg hq (bw_keep (bz_nu hq) K)⟩
  | ifnonnull a => obtain rfl := bw_wl (n := 3) hw (by decide); exact ⟨bz_eq (bz_nn hq), bo_nn hx hb hdg hq (bw_keep (bz_nn hq) K)⟩
  | tableswitch a b d f => exact ⟨bz_eq (bz_ts hq), bo_ts hx hb hdg hq (bw_keep (bz_ts hq) K)⟩
  | getfield a => obtain rfl := bw_wl (n := 3) hw (by decide); exact ⟨bz_eq (bz_gf hq), bo_gf hx hb hown hts hK hdg hq (bw_keep (bz_gf hq) K)⟩
  | putfield a => obtain rfl := bw_wl (n := 3) hw (by decide); exact ⟨bz_eq (bz_pf hq), bo_pf hx hb hown hts hK hini hdg hq (bw_keep (bz_pf hq) K)⟩
  | getstatic a => obtain rfl := bw_wl (n := 3) hw (by decide); exact ⟨bz_eq (bz_gs hq), bo_gs hx hb hown hts hZ hdg hq (bw_keep (bz_gs hq) K)⟩
  | laload => obtain rfl := bw_wl (n := 1) hw (by decide); exact ⟨bz_eq (bz_la hq), bo_la hx hb hT6 hdg hq (bw_keep (bz_la hq) K)⟩
  | iaload => obtain rfl := bw_wl (n := 1) hw (by decide); exact ⟨bz_eq (bz_ia hq), bo_ia hx hb hK hT hdg hq (bw_keep (bz_ia hq) K)⟩
  | baload => exact absurd (show (none : Option bw_C) = some k from hq) (fun z => by cases z)
  | aaload => obtain rfl := bw_wl (n := 1) hw (by decide); exact ⟨bz_eq (bz_aa hq), bo_aa hx hb hK hdg hq (bw_keep (bz_aa hq) K)⟩
  | iastore => obtain rfl := bw_wl (n := 1) hw (by decide); exact ⟨bz_eq (bz_ist hq), bo_ist hx hb hK hdg hq (bw_keep (bz_ist hq) K)⟩
  | bastore => exact absurd (show (none : Option bw_C) = some k from hq) (fun z => by cases z)
  | aastore => obtain rfl := bw_wl (n := 1) hw (by decide); exact ⟨bz_eq (bz_ast hq), bo_ast hx hb hK hdg hq (bw_keep (bz_ast hq) K)⟩
  | arraylength => obtain rfl := bw_wl (n := 1) hw (by decide); exact ⟨bz_eq (bz_len hq), bo_len hx hb hK hT6 hT hdg hq (bw_keep (bz_len hq) K)⟩
  | new a => obtain rfl := bw_wl (n := 3) hw (by decide); exact ⟨bz_new hq, bo_new hx hb hown hts hK hA2 hdg hq hcells hslots K⟩
  | newarray a => obtain rfl := bw_wl (n := 2) hw (by decide); exact ⟨bz_na hq, bo_na hx hb hts hK hA2 hdg hq hcells hslots K⟩
  | anewarray a => obtain rfl := bw_wl (n := 3) hw (by decide); exact ⟨bz_an hq, bo_an hx hb hown hts hao hK hA2 hdg hq hcells hslots K⟩
  | invokespecial a => obtain rfl := bw_wl (n := 3) hw (by decide); exact ⟨bz_eq (bz_oi hq), bo_oi hx hb hml hown hts hf1 hf2 hdg hq (bw_keep (bz_oi hq) K)⟩
  | invokestatic a =>
    obtain rfl := bw_wl (n := 3) hw (by decide)
    have hq' : (match bw_mx o a with | some b => bq_mx b | none => bq_ac (bw_ac o a)) pc ls st h = some k := hq
    cases hmx : bw_mx o a with
    | some b =>
      rw [hmx] at hq'
      have hz := bz_mx hq'
      exact ⟨bz_eq hz, bo_mx hx hb hml hown hts hf1 hf2 (by omega) (by omega) hmx hdg hq' (bw_keep hz K)⟩
    | none =>
      rw [hmx] at hq'
      exact ⟨bz_eq (bz_ac hq'), bo_ac hx hb hml hown hts hK hf1 hf2 hdg hq' (bw_keep (bz_ac hq') K)⟩
  | _ => exact absurd (show (none : Option bw_C) = some k from hq) (fun z => by cases z)
end BX
