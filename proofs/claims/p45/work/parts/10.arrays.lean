/-! arrays, statics, new cells, the JDK's natives -/
theorem bw_sum_tr (g : Nat × Nat × Nat) (r : List Value) : ((r.map (bw_tr g)).map fun v => v.category).sum = (r.map fun v => v.category).sum := by
  rw [List.map_map]
  congr 1
  exact List.map_congr_left fun v _ => bw_tr_cat g v
theorem bw_ty_kinds : ∀ c, c < 9 → ∀ k, k < bw_N c → (match bw_ty c k with | .int => true | .long => true | .object _ => true | .array _ => true | _ => false) = true := by decide +kernel
theorem bw_find_in {α : Type} {T : List (Nat × Nat × α)} {o ix : Nat} {x : Nat × Nat × α} (hf : T.find? (fun e => e.1 == o && e.2.1 == ix) = some x) : x ∈ T ∧ x.1 = o ∧ x.2.1 = ix := by
  have h2 := List.find?_some hf
  simp only [Bool.and_eq_true, beq_iff_eq] at h2
  exact ⟨List.mem_of_find?_eq_some hf, h2⟩
section BA
variable {p : Program} {l : Launch} {e : Env} {R : Room} {s : State} {m : MethodId} {args : Array Value} {below : List Frame} {meth : Method} {c : Code} {Q : State → Prop} {D : va_G} {cA : FieldType → ClassId} {g : Nat × Nat × Nat} {nL cells slots : Nat} {pc : Nat} {ls : bw_L} {st : List Value} {h : bw_H} {k : bw_C} {cc : ByteArray} {o : Nat} {X : Nat × (Nat → Int32)}
theorem bw_Wsz {H : Heap} {locs : List Loc} {fr : JFrame} (kk : H.size ≤ s.heap.size + cells → W p l e R s m args below meth c H locs cells slots Q fr) : W p l e R s m args below meth c H locs cells slots Q fr := by
  intro T hT Y
  exact kk (by have := Y.same.2.2.1; rw [← hT]; exact this) T hT Y
theorem bo_gs {ix : Nat} (hx : p.tables.exec = Jvm.exec) (hb : c.code = cc) (hown : s.vm.findClass (bw_R o) = some m.cls) (hts : ∀ w ∈ bw_Ts, w.before args s = true) (hZ : va_Z "BearWitness$Looks" "SETS_WITH" "[J" (.ref g.2.1) (bw_A g) s s.heap) (hdg : decode cc pc = .ok (.getstatic ix, 3))
    (hq : bq_gs (bw_st o ix) pc ls st h = some k) (K : bw_at p l e R s m args below meth c Q D cA g nL cells slots k) : bw_at p l e R s m args below meth c Q D cA g nL cells slots (pc, ls, st, h) := by
  unfold bq_gs at hq
  split at hq
  · rename_i hst
    cases hq
    unfold bw_st at hst
    obtain ⟨x, hf⟩ := Option.isSome_iff_exists.mp hst
    obtain ⟨h1, rfl, rfl⟩ := bw_find_in hf
    have h2 := List.all_eq_true.mp bw_stT_ok x h1
    have h3 := List.mem_of_getElem? (of_decide_eq_true h2)
    intro H locs la hi hl
    exact va_gets hx hb hZ hi.2.1 hown (hts _ (bw_in h3 rfl)) (fun _ q => q) hdg (K H locs la hi hl)
  · cases hq
theorem bo_la (hx : p.tables.exec = Jvm.exec) (hb : c.code = cc) (hT : va_T .long g.2.1 6 (fun j => .long (bw_set6 j)) (bw_A g) s s.heap) (hdg : decode cc pc = .ok (.laload, 1))
    (hq : bq_la pc ls st h = some k) (K : bw_at p l e R s m args below meth c Q D cA g nL cells slots k) : bw_at p l e R s m args below meth c Q D cA g nL cells slots (pc, ls, st, h) := by
  unfold bq_la at hq
  split at hq
  · split at hq
    · rename_i hh
      cases hq
      intro H locs la hi hl
      exact va_tl hx hb hT hi.2.1 (bw_vin hh.1 hh.2) rfl hdg (K H locs la hi hl)
    · cases hq
  · cases hq
theorem bo_ia (hx : p.tables.exec = Jvm.exec) (hb : c.code = cc) (hK : va_K D vwCl (bw_tys cA) s) (hT : va_T .int g.2.2 X.1 (fun j => .int (X.2 j)) (bw_A g) s s.heap) (hdg : decode cc pc = .ok (.iaload, 1))
    (hq : bq_ia X pc ls st h = some k) (K : bw_at p l e R s m args below meth c Q D cA g nL cells slots k) : bw_at p l e R s m args below meth c Q D cA g nL cells slots (pc, ls, st, h) := by
  unfold bq_ia at hq
  split at hq
  · split at hq
    · rename_i hh
      cases hq
      intro H locs la hi hl
      exact va_ti hx hb hT hi.2.1 (bw_vin hh.1 hh.2) rfl hdg (K H locs la hi hl)
    · cases hq
  · split at hq
    · rename_i hk
      split at hq
      · rename_i hh
        obtain ⟨ha, rfl, h1, h2⟩ := hh
        cases hq
        intro H locs la hi hl
        have he := bw_ws_get (cA := cA) (g := g) ha
        rw [bw_en_i hk] at he
        exact va_iald hx hb hK hi.1 _ 0 he rfl (bw_vin h1 h2) hdg (K H locs la hi hl)
      · cases hq
    · cases hq
  · cases hq
theorem bo_ba (hx : p.tables.exec = Jvm.exec) (hb : c.code = cc) (hK : va_K D vwCl (bw_tys cA) s) (hdg : decode cc pc = .ok (.baload, 1))
    (hq : bq_ba pc ls st h = some k) (K : bw_at p l e R s m args below meth c Q D cA g nL cells slots k) : bw_at p l e R s m args below meth c Q D cA g nL cells slots (pc, ls, st, h) := by
  unfold bq_ba at hq
  cases hq
theorem bo_aa (hx : p.tables.exec = Jvm.exec) (hb : c.code = cc) (hK : va_K D vwCl (bw_tys cA) s) (hdg : decode cc pc = .ok (.aaload, 1))
    (hq : bq_aa pc ls st h = some k) (K : bw_at p l e R s m args below meth c Q D cA g nL cells slots k) : bw_at p l e R s m args below meth c Q D cA g nL cells slots (pc, ls, st, h) := by
  unfold bq_aa at hq
  split at hq
  · split at hq
    · rename_i hk
      split at hq
      · rename_i hh
        obtain ⟨ha, rfl, h1, h2⟩ := hh
        cases hq
        intro H locs la hi hl
        have he := bw_ws_get (cA := cA) (g := g) ha
        rw [bw_en_r hk] at he
        have := K H locs la hi hl
        rw [show (List.map (bw_tr g) (bw_rf (bw_r h _ _) :: _)) = bw_tr g (bw_rf (bw_r h _ _)) :: List.map (bw_tr g) _ from rfl, bw_tr_rf] at this
        exact va_aldq hx hb hK hi.1 _ 2 he rfl (bw_vin h1 h2) hdg this
      · cases hq
    · cases hq
  · cases hq
theorem bo_ist (hx : p.tables.exec = Jvm.exec) (hb : c.code = cc) (hK : va_K D vwCl (bw_tys cA) s) (hdg : decode cc pc = .ok (.iastore, 1))
    (hq : bq_ist pc ls st h = some k) (K : bw_at p l e R s m args below meth c Q D cA g nL cells slots k) : bw_at p l e R s m args below meth c Q D cA g nL cells slots (pc, ls, st, h) := by
  unfold bq_ist at hq
  split at hq
  · rename_i x i a r
    split at hq
    · rename_i N hk
      split at hq
      · rename_i hh
        obtain ⟨ha, rfl, h1, h2⟩ := hh
        cases hq
        intro H locs la hi hl
        have he := bw_ws_get (cA := cA) (g := g) ha
        rw [bw_en_i hk] at he
        have hws := bw_ws_set (cA := cA) (g := g) (h := h) (h' := bw_si h a i.toNatClampNeg x) (p := a) rfl (fun q hq => bw_en_eq rfl (bw_up2_o hq) rfl rfl)
        have e2 : bw_en cA g (bw_si h a i.toNatClampNeg x) a = .inl (cA .int, N, .inl (upd (bw_i h a) i.toNatClampNeg x)) := by
          rw [bw_en_i (h := bw_si h a i.toNatClampNeg x) hk]
          exact congrArg (fun f => Sum.inl (cA .int, N, Sum.inl f)) (bw_up2_s _ _ _ _)
        rw [e2] at hws
        exact va_iast hx hb hK hi.1 (bw_ws_D cA g h) hi.2.1 _ 0 he rfl (bw_vin h1 h2) hdg (fun H1 locs1 hP1 _ hS1 => K H1 locs1 la ⟨hws ▸ hP1, hS1, hi.2.2⟩ hl)
      · cases hq
    · cases hq
  · cases hq
theorem bo_bst (hx : p.tables.exec = Jvm.exec) (hb : c.code = cc) (hK : va_K D vwCl (bw_tys cA) s) (hdg : decode cc pc = .ok (.bastore, 1))
    (hq : bq_bst pc ls st h = some k) (K : bw_at p l e R s m args below meth c Q D cA g nL cells slots k) : bw_at p l e R s m args below meth c Q D cA g nL cells slots (pc, ls, st, h) := by
  unfold bq_bst at hq
  cases hq
theorem bo_ast (hx : p.tables.exec = Jvm.exec) (hb : c.code = cc) (hK : va_K D vwCl (bw_tys cA) s) (hdg : decode cc pc = .ok (.aastore, 1))
    (hq : bq_ast pc ls st h = some k) (K : bw_at p l e R s m args below meth c Q D cA g nL cells slots k) : bw_at p l e R s m args below meth c Q D cA g nL cells slots (pc, ls, st, h) := by
  unfold bq_ast at hq
  split at hq
  · rename_i x i a r
    split at hq
    · rename_i N hk
      split at hq
      · rename_i hh
        obtain ⟨ha, rfl, hxn, hkx, h1, h2⟩ := hh
        cases hq
        intro H locs la hi hl
        have he := bw_ws_get (cA := cA) (g := g) ha
        rw [bw_en_r hk] at he
        have hex := bw_ws_get (cA := cA) (g := g) hxn
        rw [bw_en_o hkx] at hex
        have hws := bw_ws_set (cA := cA) (g := g) (h := h) (h' := bw_sr h a i.toNatClampNeg (some x)) (p := a) rfl (fun q hq => bw_en_eq rfl rfl rfl (bw_up2_o hq))
        have e2 : bw_en cA g (bw_sr h a i.toNatClampNeg (some x)) a = .inl (cA (.object RX1), N, .inr (.inr (.inr (.inr (va_up (fun j => (bw_r h a j).map (fun b => g.1 + b)) i.toNatClampNeg (some (g.1 + x))))))) := by
          rw [bw_en_r (h := bw_sr h a i.toNatClampNeg (some x)) hk]
          refine congrArg (fun f => Sum.inl (cA (.object RX1), N, Sum.inr (Sum.inr (Sum.inr (Sum.inr f))))) (funext fun j => ?_)
          show (bw_up2 h.2.2.2.2 a i.toNatClampNeg (some x) a j).map _ = _
          rw [bw_up2_s]
          unfold bw_up va_up
          by_cases hj : j = i.toNatClampNeg
          · rw [if_pos hj, if_pos hj]; rfl
          · rw [if_neg hj, if_neg hj]; rfl
        rw [e2] at hws
        exact va_astq hx hb hK hi.1 (bw_ws_D cA g h) hi.2.1 _ 2 _ 1 he rfl hex (bw_cl9 1 (by decide)) (bw_vin h1 h2) hdg (fun H1 locs1 hP1 _ hS1 => K H1 locs1 la ⟨hws ▸ hP1, hS1, hi.2.2⟩ hl)
      · cases hq
    · cases hq
  · cases hq
theorem bo_len (hx : p.tables.exec = Jvm.exec) (hb : c.code = cc) (hK : va_K D vwCl (bw_tys cA) s) (hT6 : va_T .long g.2.1 6 (fun j => .long (bw_set6 j)) (bw_A g) s s.heap) (hT : va_T .int g.2.2 X.1 (fun j => .int (X.2 j)) (bw_A g) s s.heap) (hdg : decode cc pc = .ok (.arraylength, 1))
    (hq : bq_len X pc ls st h = some k) (K : bw_at p l e R s m args below meth c Q D cA g nL cells slots k) : bw_at p l e R s m args below meth c Q D cA g nL cells slots (pc, ls, st, h) := by
  unfold bq_len at hq
  split at hq
  · cases hq
    intro H locs la hi hl
    exact va_tlen hx hb hT6 hi.2.1 rfl hdg (K H locs la hi hl)
  · cases hq
    intro H locs la hi hl
    exact va_tlen hx hb hT hi.2.1 rfl hdg (K H locs la hi hl)
  · split at hq
    · rename_i hk
      split at hq
      · rename_i hh
        obtain ⟨ha, hty⟩ := hh
        cases hq
        intro H locs la hi hl
        have he := bw_ws_get (cA := cA) (g := g) ha
        rcases hty with rfl | rfl | rfl
        · rw [bw_en_i hk] at he
          exact va_alen hx hb hK hi.1 _ 0 he rfl rfl hdg (K H locs la hi hl)
        · rw [bw_en_z hk] at he
          exact va_alen hx hb hK hi.1 _ 1 he rfl rfl hdg (K H locs la hi hl)
        · rw [bw_en_r hk] at he
          exact va_alen hx hb hK hi.1 _ 2 he rfl rfl hdg (K H locs la hi hl)
      · cases hq
    · cases hq
  · cases hq
/-- a new cell's address: the next -/
theorem bw_next {q : Nat} {E : va_E} {H1 : Heap} (hP1 : va_P D vwCl (bw_ws cA g h ++ [(q, E)]) H1) (hD1 : va_D (bw_A g) (bw_ws cA g h ++ [(q, E)])) (hsz : H1.size ≤ g.1 + bw_n h + 1) : q = g.1 + bw_n h := by
  have hlen : (bw_ws cA g h).length = bw_n h := by unfold bw_ws; simp
  have hq : (bw_ws cA g h ++ [(q, E)])[bw_n h]? = some (q, E) := by
    rw [List.getElem?_append_right (by omega), hlen, Nat.sub_self]; rfl
  have h1 : q < H1.size := (hP1 _ _ hq).lt
  have h2 : g.1 ≤ q := hD1.2 _ _ hq
  rcases Nat.lt_or_ge (q - g.1) (bw_n h) with h3 | h3
  · have h4 : (bw_ws cA g h ++ [(q, E)])[q - g.1]? = some (g.1 + (q - g.1), bw_en cA g h (q - g.1)) := by
      rw [List.getElem?_append_left (by omega)]; exact bw_ws_get h3
    have := hD1.1 _ _ _ _ h4 hq (by show g.1 + (q - g.1) = q; omega)
    omega
  · omega
theorem bw_en_nw {kd : bw_K} {N : Nat} : ∀ q, q < bw_n h → bw_en cA g (bw_nw h kd N) q = bw_en cA g h q := fun q hq =>
  bw_en_eq (bw_up_o (Nat.ne_of_lt hq)) (bw_up_o (Nat.ne_of_lt hq)) (bw_up_o (Nat.ne_of_lt hq)) (bw_up_o (Nat.ne_of_lt hq))
theorem bo_new {ix : Nat} (hx : p.tables.exec = Jvm.exec) (hb : c.code = cc) (hown : s.vm.findClass (bw_R o) = some m.cls) (hts : ∀ w ∈ bw_Ts, w.before args s = true) (hK : va_K D vwCl (bw_tys cA) s) (hA : s.heap.size ≤ s.heap.size ∧ ∀ q, s.heap.size ≤ q → bw_A g q) (hdg : decode cc pc = .ok (.new ix, 3))
    (hq : bq_new (bw_cl o ix) pc ls st h = some k) (hcells : cells + (bw_n k.2.2.2 - bw_n h) ≤ R.cells) (hslots : slots + (bw_s k.2.2.2 - bw_s h) ≤ R.slots) (K : bw_at p l e R s m args below meth c Q D cA g nL (cells + (bw_n k.2.2.2 - bw_n h)) (slots + (bw_s k.2.2.2 - bw_s h)) k) : bw_at p l e R s m args below meth c Q D cA g nL cells slots (pc, ls, st, h) := by
  unfold bq_new at hq
  split at hq
  · rename_i c0 hc
    split at hq
    · rename_i h9
      cases hq
      unfold bw_cl at hc
      cases hf : bw_NT.find? (fun e => e.1 == o && e.2.1 == ix) with
      | none => rw [hf] at hc; cases hc
      | some x =>
        rw [hf] at hc
        obtain ⟨h1, rfl, rfl⟩ := bw_find_in hf
        have h2 := List.all_eq_true.mp bw_NT_ok x h1
        cases hc
        simp only [Bool.and_eq_true, decide_eq_true_eq] at h2
        obtain ⟨⟨⟨-, w1⟩, w2⟩, w3⟩ := h2
        have en : bw_n (bw_nw h (.inl x.2.2.1) (bw_N x.2.2.1)) - bw_n h = 1 := Nat.add_sub_cancel_left _ _
        have es : bw_s (bw_nw h (.inl x.2.2.1) (bw_N x.2.2.1)) - bw_s h = bw_N x.2.2.1 := Nat.add_sub_cancel_left _ _
        simp only [en, es] at hcells hslots K
        intro H locs la hi hl
        have e2 : bw_en cA g (bw_nw h (.inl x.2.2.1) (bw_N x.2.2.1)) (bw_n h) = .inr (x.2.2.1, (List.range (bw_N x.2.2.1)).map (fun k => bw_tr g (bw_fv (bw_nw h (.inl x.2.2.1) (bw_N x.2.2.1)) (bw_n h) x.2.2.1 k))) := bw_en_o (bw_up_s _ _ _)
        have hws := bw_ws_push (cA := cA) (g := g) (h := h) (h' := bw_nw h (.inl x.2.2.1) (bw_N x.2.2.1)) rfl bw_en_nw
        rw [e2] at hws
        refine va_new hx hb hts (bw_lay_in _ h9) (bw_ty x.2.2.1) (bw_ty_ok _ h9) hown (hts _ (bw_in (List.mem_of_getElem? w1) rfl)) (hts _ (bw_in (List.mem_of_getElem? w2) rfl)) (hts _ (bw_in (List.mem_of_getElem? w3) rfl)) hK hi.1 (bw_ws_D cA g h) hi.2.1 hA.2 (bw_cl9 _ h9) (fs := (List.range (bw_N x.2.2.1)).map (fun k => bw_tr g (bw_fv (bw_nw h (.inl x.2.2.1) (bw_N x.2.2.1)) (bw_n h) x.2.2.1 k))) (fun j hj => ?_) hcells hslots hdg (fun q H1 hP1 hD1 hS1 => ?_)
        · unfold vp_V
          rw [List.getD_eq_getElem?_getD, List.getElem?_map, List.getElem?_range hj]
          have hk := bw_ty_kinds _ h9 j hj
          have zi : bw_i (bw_nw h (.inl x.2.2.1) (bw_N x.2.2.1)) (bw_n h) = fun _ => 0 := bw_up_s _ _ _
          have zl : bw_l (bw_nw h (.inl x.2.2.1) (bw_N x.2.2.1)) (bw_n h) = fun _ => 0 := bw_up_s _ _ _
          have zr : bw_r (bw_nw h (.inl x.2.2.1) (bw_N x.2.2.1)) (bw_n h) = fun _ => none := bw_up_s _ _ _
          show _ = bw_tr g (bw_fv (bw_nw h (.inl x.2.2.1) (bw_N x.2.2.1)) (bw_n h) x.2.2.1 j)
          unfold bw_fv
          rw [zi, zl, zr]
          revert hk
          cases bw_ty x.2.2.1 j <;> intro hk <;> first | rfl | cases hk
        · refine bw_Wsz fun hsz => ?_
          have hqe := bw_next (h := h) hP1 hD1 (by have e0 : s.heap.size + cells ≤ g.1 + bw_n h := hi.2.2; show H1.size ≤ g.1 + bw_n h + 1; omega)
          subst hqe
          rw [hws] at hP1
          exact K H1 locs la ⟨hP1, hS1, by have e0 : s.heap.size + cells ≤ g.1 + bw_n h := hi.2.2; show s.heap.size + (cells + 1) ≤ g.1 + (bw_n h + 1); omega⟩ hl
    · cases hq
  · cases hq
theorem bw_clA {ty : FieldType} {cA' : ClassId} {t0 : Nat} (h1 : va_K D vwCl (bw_tys cA ++ [(cA', ty)]) s) (ht : (bw_tys cA)[t0]? = some (cA ty, ty)) : cA' = cA ty := by
  have ht' : (bw_tys cA ++ [(cA', ty)])[t0]? = some (cA ty, ty) := by
    rw [List.getElem?_append_left (List.getElem?_eq_some_iff.mp ht).1]; exact ht
  have a1 := (h1.2 t0 _ ht').2
  have a2 := (h1.2 3 (cA', ty) rfl).2
  unfold va_RA at a1 a2
  cases ty <;> first
    | (obtain ⟨_, _, -, -, -, b1⟩ := a1; obtain ⟨_, _, -, -, -, b2⟩ := a2; exact Option.some.inj (b2.symm.trans b1))
    | exact Option.some.inj (a2.symm.trans a1)
theorem bo_na {t : ArrayType} (hx : p.tables.exec = Jvm.exec) (hb : c.code = cc) (hts : ∀ w ∈ bw_Ts, w.before args s = true) (hK : va_K D vwCl (bw_tys cA) s) (hA : s.heap.size ≤ s.heap.size ∧ ∀ q, s.heap.size ≤ q → bw_A g q) (hdg : decode cc pc = .ok (.newarray t, 2))
    (hq : bq_na t pc ls st h = some k) (hcells : cells + (bw_n k.2.2.2 - bw_n h) ≤ R.cells) (hslots : slots + (bw_s k.2.2.2 - bw_s h) ≤ R.slots) (K : bw_at p l e R s m args below meth c Q D cA g nL (cells + (bw_n k.2.2.2 - bw_n h)) (slots + (bw_s k.2.2.2 - bw_s h)) k) : bw_at p l e R s m args below meth c Q D cA g nL cells slots (pc, ls, st, h) := by
  unfold bq_na at hq
  split at hq
  · rename_i n r
    split at hq
    · rename_i hh
      cases hq
      have en : bw_n (bw_nw h (.inr (.int, n.toNatClampNeg)) n.toNatClampNeg) - bw_n h = 1 := Nat.add_sub_cancel_left _ _
      have es : bw_s (bw_nw h (.inr (.int, n.toNatClampNeg)) n.toNatClampNeg) - bw_s h = n.toNatClampNeg := Nat.add_sub_cancel_left _ _
      simp only [en, es] at hcells hslots K
      intro H locs la hi hl
      have e2 : bw_en cA g (bw_nw h (.inr (.int, n.toNatClampNeg)) n.toNatClampNeg) (bw_n h) = .inl (cA .int, n.toNatClampNeg, .inl (fun _ => 0)) := by
        have hkn : bw_k (bw_nw h (.inr (.int, n.toNatClampNeg)) n.toNatClampNeg) (bw_n h) = .inr (.int, n.toNatClampNeg) := bw_up_s _ _ _
        rw [bw_en_i hkn]
        exact congrArg (fun f => Sum.inl (cA .int, n.toNatClampNeg, Sum.inl f)) (bw_up_s _ _ _)
      have hws := bw_ws_push (cA := cA) (g := g) (h := h) (h' := bw_nw h (.inr (.int, n.toNatClampNeg)) n.toNatClampNeg) rfl bw_en_nw
      rw [e2] at hws
      have hcl : n.toNatClampNeg < 100000 := by have : n.toNatClampNeg = n.toInt.toNat := rfl; omega
      refine va_newa (atype := .int) (ty := .int) (a0 := (n.toNatClampNeg, .inl (fun _ => 0))) hx hb (hts _ (List.mem_append_right _ List.mem_cons_self)) rfl hK hi.1 (bw_ws_D cA g h) hi.2.1 hA.2 (fun _ => rfl) (fun hn => ?_) rfl ?_ hcells hslots hdg (fun q cA' H1 hK1 hP1 hD1 hS1 => ?_)
      · have := Int32.lt_iff_toInt_lt.mp hn
        have h0 : (0 : Int32).toInt = 0 := rfl
        omega
      · show n.toNatClampNeg * 4 ≤ 536870912
        omega
      · have hce := bw_clA (t0 := 0) hK1 rfl
        subst hce
        refine bw_Wsz fun hsz => ?_
        have hqe := bw_next (h := h) hP1 hD1 (by have e0 : s.heap.size + cells ≤ g.1 + bw_n h := hi.2.2; show H1.size ≤ g.1 + bw_n h + 1; omega)
        subst hqe
        rw [hws] at hP1
        exact K H1 locs la ⟨hP1, hS1, by have e0 : s.heap.size + cells ≤ g.1 + bw_n h := hi.2.2; show s.heap.size + (cells + 1) ≤ g.1 + (bw_n h + 1); omega⟩ hl
    · cases hq
  · cases hq
theorem bo_an {ix : Nat} (hx : p.tables.exec = Jvm.exec) (hb : c.code = cc) (hown : s.vm.findClass (bw_R o) = some m.cls) (hts : ∀ w ∈ bw_Ts, w.before args s = true) (hao : va_AO RX1 s) (hK : va_K D vwCl (bw_tys cA) s) (hA : s.heap.size ≤ s.heap.size ∧ ∀ q, s.heap.size ≤ q → bw_A g q) (hdg : decode cc pc = .ok (.anewarray ix, 3))
    (hq : bq_an (bw_an o ix) pc ls st h = some k) (hcells : cells + (bw_n k.2.2.2 - bw_n h) ≤ R.cells) (hslots : slots + (bw_s k.2.2.2 - bw_s h) ≤ R.slots) (K : bw_at p l e R s m args below meth c Q D cA g nL (cells + (bw_n k.2.2.2 - bw_n h)) (slots + (bw_s k.2.2.2 - bw_s h)) k) : bw_at p l e R s m args below meth c Q D cA g nL cells slots (pc, ls, st, h) := by
  unfold bq_an at hq
  split at hq
  · rename_i n r
    split at hq
    · rename_i hh
      cases hq
      have hst := hh.1
      unfold bw_an at hst
      obtain ⟨x, hf⟩ := Option.isSome_iff_exists.mp hst
      obtain ⟨h1, rfl, rfl⟩ := bw_find_in hf
      have h2 := List.all_eq_true.mp bw_anT_ok x h1
      have h3 := List.mem_of_getElem? (of_decide_eq_true h2)
      have en : bw_n (bw_nw h (.inr (.object RX1, n.toNatClampNeg)) n.toNatClampNeg) - bw_n h = 1 := Nat.add_sub_cancel_left _ _
      have es : bw_s (bw_nw h (.inr (.object RX1, n.toNatClampNeg)) n.toNatClampNeg) - bw_s h = n.toNatClampNeg := Nat.add_sub_cancel_left _ _
      simp only [en, es] at hcells hslots K
      intro H locs la hi hl
      have e2 : bw_en cA g (bw_nw h (.inr (.object RX1, n.toNatClampNeg)) n.toNatClampNeg) (bw_n h) = .inl (cA (.object RX1), n.toNatClampNeg, .inr (.inr (.inr (.inr (fun _ => none))))) := by
        have hkn : bw_k (bw_nw h (.inr (.object RX1, n.toNatClampNeg)) n.toNatClampNeg) (bw_n h) = .inr (.object RX1, n.toNatClampNeg) := bw_up_s _ _ _
        rw [bw_en_r hkn]
        refine congrArg (fun f => Sum.inl (cA (.object RX1), n.toNatClampNeg, Sum.inr (Sum.inr (Sum.inr (Sum.inr f))))) (funext fun j => ?_)
        show ((bw_up h.2.2.2.2 (bw_n h) (fun _ => none)) (bw_n h) j).map _ = none
        rw [bw_up_s]; rfl
      have hws := bw_ws_push (cA := cA) (g := g) (h := h) (h' := bw_nw h (.inr (.object RX1, n.toNatClampNeg)) n.toNatClampNeg) rfl bw_en_nw
      rw [e2] at hws
      have hcl : n.toNatClampNeg < 100000 := by have : n.toNatClampNeg = n.toInt.toNat := rfl; omega
      refine va_newq hx hb hown (hts _ (bw_in h3 rfl)) hao hK hi.1 (bw_ws_D cA g h) hi.2.1 hA.2 (fun hn => ?_) rfl (by omega) hcells hslots hdg (fun q cA' H1 hK1 hP1 hD1 hS1 => ?_)
      · have := Int32.lt_iff_toInt_lt.mp hn
        have h0 : (0 : Int32).toInt = 0 := rfl
        omega
      · have hce := bw_clA (t0 := 2) hK1 rfl
        subst hce
        refine bw_Wsz fun hsz => ?_
        have hqe := bw_next (h := h) hP1 hD1 (by have e0 : s.heap.size + cells ≤ g.1 + bw_n h := hi.2.2; show H1.size ≤ g.1 + bw_n h + 1; omega)
        subst hqe
        rw [hws] at hP1
        exact K H1 locs la ⟨hP1, hS1, by have e0 : s.heap.size + cells ≤ g.1 + bw_n h := hi.2.2; show s.heap.size + (cells + 1) ≤ g.1 + (bw_n h + 1); omega⟩ hl
    · cases hq
  · cases hq
theorem bo_oi {ix : Nat} (hx : p.tables.exec = Jvm.exec) (hb : c.code = cc) (hml : c.maxLocals = nL) (hown : s.vm.findClass (bw_R o) = some m.cls) (hts : ∀ w ∈ bw_Ts, w.before args s = true) (hf1 : 1 ≤ R.frames) (hf2 : 60 ≤ R.locals) (hdg : decode cc pc = .ok (.invokespecial ix, 3))
    (hq : bq_oi (bw_oi o ix) pc ls st h = some k) (K : bw_at p l e R s m args below meth c Q D cA g nL cells slots k) : bw_at p l e R s m args below meth c Q D cA g nL cells slots (pc, ls, st, h) := by
  unfold bq_oi at hq
  split at hq
  · rename_i a r
    split at hq
    · rename_i hh
      cases hq
      have hst := hh.1
      unfold bw_oi at hst
      obtain ⟨x, hf⟩ := Option.isSome_iff_exists.mp hst
      obtain ⟨h1, rfl, rfl⟩ := bw_find_in hf
      have h2 := List.all_eq_true.mp bw_oiT_ok x h1
      have h3 := List.mem_of_getElem? (of_decide_eq_true h2)
      intro H locs la hi hl
      have hsum : ((r.map (bw_tr g)).map fun v => v.category).sum ≤ 8 := by rw [bw_sum_tr]; exact hh.2
      refine W.objInit hx hb hown (hts _ (bw_in h3 rfl)) (hts _ (bw_in bw_w_oi1 rfl)) (hts _ (bw_in bw_w_oi2 rfl)) rfl (by rw [hml]; exact hl.1) rfl hdg hf1 (by show 2 * 0 + _ + 12 ≤ _; omega) ?_
      exact K H locs la hi hl
    · cases hq
  · cases hq
theorem bo_mx {b : Bool} {ix : Nat} (hx : p.tables.exec = Jvm.exec) (hb : c.code = cc) (hml : c.maxLocals = nL) (hown : s.vm.findClass (bw_R o) = some m.cls) (hts : ∀ w ∈ bw_Ts, w.before args s = true) (hf1 : 1 ≤ R.frames) (hf2 : 60 ≤ R.locals) (hc : cells ≤ R.cells) (hs : slots ≤ R.slots) (hmx : bw_mx o ix = some b) (hdg : decode cc pc = .ok (.invokestatic ix, 3))
    (hq : bq_mx b pc ls st h = some k) (K : bw_at p l e R s m args below meth c Q D cA g nL cells slots k) : bw_at p l e R s m args below meth c Q D cA g nL cells slots (pc, ls, st, h) := by
  unfold bq_mx at hq
  split at hq
  · rename_i y x r
    split at hq
    · rename_i hh
      cases hq
      unfold bw_mx at hmx
      cases hf : bw_mxT.find? (fun e => e.1 == o && e.2.1 == ix) with
      | none => rw [hf] at hmx; cases hmx
      | some z =>
        rw [hf] at hmx
        obtain ⟨h1, rfl, rfl⟩ := bw_find_in hf
        have h2 := List.all_eq_true.mp bw_mxT_ok z h1
        have h3 := List.mem_of_getElem? (of_decide_eq_true h2)
        have hzb : z.2.2.1 = b := Option.some.inj hmx
        rw [hzb] at h3
        intro H locs la hi hl
        have hsum : ((r.map (bw_tr g)).map fun v => v.category).sum ≤ 8 := by rw [bw_sum_tr]; exact hh
        have K' := K H locs la hi hl
        cases b
        · exact va_mmin hx hb (by rw [hml]; exact hl.1.symm) hown (hts _ (bw_in (by simpa using h3) rfl)) (hts _ (bw_in bw_w_min1 rfl)) (hts _ (bw_in bw_w_mm rfl)) (hts _ (bw_in bw_w_min2 rfl)) hf1 (by omega) hc hs hdg K'
        · exact va_mmax hx hb (by rw [hml]; exact hl.1.symm) hown (hts _ (bw_in (by simpa using h3) rfl)) (hts _ (bw_in bw_w_max1 rfl)) (hts _ (bw_in bw_w_mm rfl)) (hts _ (bw_in bw_w_max2 rfl)) hf1 (by omega) hc hs hdg K'
    · cases hq
  · cases hq
theorem bo_ac {ix : Nat} (hx : p.tables.exec = Jvm.exec) (hb : c.code = cc) (hml : c.maxLocals = nL) (hown : s.vm.findClass (bw_R o) = some m.cls) (hts : ∀ w ∈ bw_Ts, w.before args s = true) (hK : va_K D vwCl (bw_tys cA) s) (hf1 : 1 ≤ R.frames) (hf2 : 60 ≤ R.locals) (hdg : decode cc pc = .ok (.invokestatic ix, 3))
    (hq : bq_ac (bw_ac o ix) pc ls st h = some k) (K : bw_at p l e R s m args below meth c Q D cA g nL cells slots k) : bw_at p l e R s m args below meth c Q D cA g nL cells slots (pc, ls, st, h) := by
  unfold bq_ac at hq
  split at hq
  · rename_i n dp a sp a0 r
    split at hq
    · rename_i t0 n0 t1 n1 hk0 hk1
      split at hq
      · rename_i hh
        obtain ⟨hst, hsum0, ha0, ha, rfl, rfl, z1, z2, z3, z4, z5⟩ := hh
        cases hq
        unfold bw_ac at hst
        obtain ⟨x, hf⟩ := Option.isSome_iff_exists.mp hst
        exact absurd (List.mem_of_find?_eq_some hf) List.not_mem_nil
      · cases hq
    · cases hq
  · cases hq
end BA
