/-! what the small machine does with objects and arrays, the JVM does -/
def bw_gd : List Cond := lw_tbl.filter (fun w => w.onTables && w.keepsH)
abbrev bw_Ts : List Cond := bw_gd ++ [Cond.arrayClass .int, Cond.arrayClass .long]
theorem bw_in {w : Cond} (h : w ∈ lw_tbl) (hg : (w.onTables && w.keepsH) = true) : w ∈ bw_Ts := List.mem_append_left _ (List.mem_filter.mpr ⟨h, hg⟩)
theorem bw_cl9 : ∀ c, c < 9 → vwCl[c]? = some (bw_R c, bw_T c, bw_N c) := fun c h => by
  rcases (show c = 0 ∨ c = 1 ∨ c = 2 ∨ c = 3 ∨ c = 4 ∨ c = 5 ∨ c = 6 ∨ c = 7 ∨ c = 8 by omega) with rfl | rfl | rfl | rfl | rfl | rfl | rfl | rfl | rfl <;> rfl
theorem bw_lay_in : ∀ c, c < 9 → ∀ w ∈ u_ws (bw_R c) (bw_T c) (bw_N c), w ∈ bw_Ts := fun c h w hw => by
  have hl : w ∈ lw_tbl := by
    rcases (show c = 0 ∨ c = 1 ∨ c = 2 ∨ c = 3 ∨ c = 4 ∨ c = 5 ∨ c = 6 ∨ c = 7 ∨ c = 8 by omega) with rfl | rfl | rfl | rfl | rfl | rfl | rfl | rfl | rfl
    · exact inX0 w hw
    · exact inX1 w hw
    · exact inX2 w hw
    · exact inX3 w hw
    · exact inX4 w hw
    · exact inX5 w hw
    · exact inX6 w hw
    · exact inX7 w hw
    · exact inX0 w hw
  refine bw_in hl ?_
  unfold u_ws at hw
  obtain ⟨k, -, rfl⟩ := List.mem_map.mp hw
  unfold u_lay
  split <;> rfl
theorem bw_ty_ok : ∀ c, c < 9 → ∀ k, k < bw_N c → parseFieldDescriptor (bw_T c k).2.2.1 = some (bw_ty c k) := fun c h => by
  rcases (show c = 0 ∨ c = 1 ∨ c = 2 ∨ c = 3 ∨ c = 4 ∨ c = 5 ∨ c = 6 ∨ c = 7 ∨ c = 8 by omega) with rfl | rfl | rfl | rfl | rfl | rfl | rfl | rfl | rfl
  · exact tyX0_ok
  · exact tyX1_ok
  · exact tyX2_ok
  · exact tyX3_ok
  · exact tyX4_ok
  · exact tyX5_ok
  · exact tyX6_ok
  · exact tyX7_ok
  · exact tyX0_ok
theorem bw_nm_ok : ∀ c, c < 9 → ∀ a, a < bw_N c → ∀ b, b < bw_N c → a ≠ b → (bw_T c a).2.1 ≠ (bw_T c b).2.1 := fun c h => by
  rcases (show c = 0 ∨ c = 1 ∨ c = 2 ∨ c = 3 ∨ c = 4 ∨ c = 5 ∨ c = 6 ∨ c = 7 ∨ c = 8 by omega) with rfl | rfl | rfl | rfl | rfl | rfl | rfl | rfl | rfl
  · exact nmX0
  · exact nmX1
  · exact nmX2
  · exact nmX3
  · exact nmX4
  · exact nmX5
  · exact nmX6
  · exact nmX7
  · exact nmX0
theorem bw_T_own : ∀ c, c < 9 → ∀ k, k < bw_N c → (bw_T c k).1 = bw_R c := by decide +kernel
theorem bw_fl_ok {o ix c k : Nat} (h : bw_fl o ix = some (c, k)) : c < 9 ∧ k < bw_N c ∧ (Cond.fieldLink (bw_R o) ix (bw_T c k).1 (bw_T c k).2.1 (bw_T c k).2.2.1 ∈ bw_Ts ∨ (Cond.fieldLinkNest (bw_R o) ix (bw_T c k).1 (bw_T c k).2.1 (bw_T c k).2.2.1 "BearWitness" ∈ bw_Ts ∧ c ≠ o)) := by
  unfold bw_fl at h
  cases hf : bw_FT.find? (fun e => e.1 == o && e.2.1 == ix) with
  | none => rw [hf] at h; cases h
  | some x =>
    rw [hf] at h
    have h1 := List.all_eq_true.mp bw_FT_ok x (List.mem_of_find?_eq_some hf)
    have h7 := List.all_eq_true.mp bw_FT_ok2 x (List.mem_of_find?_eq_some hf)
    have h2 := List.find?_some hf
    obtain ⟨x1, x2, x3, x4, x5, x6⟩ := x
    cases h
    simp only [Bool.and_eq_true, decide_eq_true_eq, beq_iff_eq] at h1 h2
    obtain ⟨rfl, rfl⟩ := h2
    obtain ⟨⟨h3, h4⟩, h5⟩ := h1
    refine ⟨h3, h4, ?_⟩
    have h6 := List.mem_of_getElem? h5
    cases x5
    · exact Or.inl (bw_in (by simpa using h6) rfl)
    · exact Or.inr ⟨bw_in (by simpa using h6) rfl, by simpa using h7⟩
theorem bw_range_set {α : Type} {N k : Nat} {F F' : Nat → α} {v : α} (hv : F' k = v) (ho : ∀ j, j ≠ k → F' j = F j) : ((List.range N).map F).set k v = (List.range N).map F' := by
  refine List.ext_getElem? fun i => ?_
  rw [List.getElem?_set]
  by_cases hi : i < N
  · rw [List.getElem?_map, List.getElem?_map, List.getElem?_range hi]
    by_cases hk : k = i
    · subst hk
      rw [if_pos rfl, if_pos (by simpa using hi), ← hv]
      rfl
    · rw [if_neg hk]
      show some (F i) = some (F' i)
      rw [ho i (fun e => hk e.symm)]
  · have h1 : ((List.range N).map F).length ≤ i := by simpa using hi
    have h2 : ((List.range N).map F').length ≤ i := by simpa using hi
    rw [List.getElem?_eq_none h2, List.getElem?_eq_none h1]
    by_cases hk : k = i
    · rw [if_pos hk, if_neg (by omega)]
    · rw [if_neg hk]
theorem bw_up_s {α : Type} (f : Nat → α) (p : Nat) (v : α) : bw_up f p v p = v := by unfold bw_up; rw [if_pos rfl]
theorem bw_up_o {α : Type} {f : Nat → α} {p q : Nat} {v : α} (h : q ≠ p) : bw_up f p v q = f q := by unfold bw_up; rw [if_neg h]
theorem bw_up2_o {α : Type} {f : Nat → Nat → α} {p q k : Nat} {v : α} (h : q ≠ p) : bw_up2 f p k v q = f q := by unfold bw_up2; exact bw_up_o h
theorem bw_up2_s {α : Type} (f : Nat → Nat → α) (p k : Nat) (v : α) : bw_up2 f p k v p = bw_up (f p) k v := by unfold bw_up2; exact bw_up_s _ _ _
theorem bw_en_eq {cA : FieldType → ClassId} {g : Nat × Nat × Nat} {h h' : bw_H} {q : Nat} (h1 : bw_k h' q = bw_k h q) (h2 : bw_i h' q = bw_i h q) (h3 : bw_l h' q = bw_l h q) (h4 : bw_r h' q = bw_r h q) : bw_en cA g h' q = bw_en cA g h q := by
  unfold bw_en bw_fv
  rw [h1, h2, h3, h4]
theorem bw_en_o {cA : FieldType → ClassId} {g : Nat × Nat × Nat} {h : bw_H} {a c : Nat} (hk : bw_k h a = .inl c) : bw_en cA g h a = .inr (c, (List.range (bw_N c)).map (fun k => bw_tr g (bw_fv h a c k))) := by
  unfold bw_en; rw [hk]
theorem bw_en_i {cA : FieldType → ClassId} {g : Nat × Nat × Nat} {h : bw_H} {a N : Nat} (hk : bw_k h a = .inr (.int, N)) : bw_en cA g h a = .inl (cA .int, N, .inl (bw_i h a)) := by
  unfold bw_en; rw [hk]
theorem bw_en_z {cA : FieldType → ClassId} {g : Nat × Nat × Nat} {h : bw_H} {a N : Nat} (hk : bw_k h a = .inr (.long, N)) : bw_en cA g h a = .inl (cA .long, N, .inl (bw_i h a)) := by
  unfold bw_en; rw [hk]
theorem bw_en_r {cA : FieldType → ClassId} {g : Nat × Nat × Nat} {h : bw_H} {a N : Nat} (hk : bw_k h a = .inr (.object RX1, N)) : bw_en cA g h a = .inl (cA (.object RX1), N, .inr (.inr (.inr (.inr (fun j => (bw_r h a j).map (fun b => g.1 + b)))))) := by
  unfold bw_en; rw [hk]
theorem bw_tr_rf (g : Nat × Nat × Nat) (r : Option Nat) : bw_tr g (bw_rf r) = va_rf (r.map (fun b => g.1 + b)) := by cases r <;> rfl
theorem bw_vin {i : Int32} {N : Nat} (h1 : 0 ≤ i.toInt) (h2 : i.toInt < N) : vp_in i N := vp_in_iff.mpr ⟨h1, h2⟩
section BP
variable {p : Program} {l : Launch} {e : Env} {R : Room} {s : State} {m : MethodId} {args : Array Value} {below : List Frame} {meth : Method} {c : Code} {Q : State → Prop} {D : va_G} {cA : FieldType → ClassId} {g : Nat × Nat × Nat} {nL cells slots : Nat} {pc : Nat} {ls : bw_L} {st : List Value} {h : bw_H} {k : bw_C} {cc : ByteArray} {o : Nat}
theorem bo_gf {ix : Nat} (hx : p.tables.exec = Jvm.exec) (hb : c.code = cc) (hown : s.vm.findClass (bw_R o) = some m.cls) (hts : ∀ w ∈ bw_Ts, w.before args s = true) (hK : va_K D vwCl (bw_tys cA) s) (hdg : decode cc pc = .ok (.getfield ix, 3))
    (hq : bq_gf (bw_fl o ix) pc ls st h = some k) (K : bw_at p l e R s m args below meth c Q D cA g nL cells slots k) : bw_at p l e R s m args below meth c Q D cA g nL cells slots (pc, ls, st, h) := by
  unfold bq_gf at hq
  split at hq
  · rename_i c0 k0 a r hf
    split at hq
    · rename_i hh
      cases hq
      obtain ⟨h9, hk, hw⟩ := bw_fl_ok hf
      intro H locs la hi hl
      have he := bw_ws_get (cA := cA) (g := g) hh.1
      rw [bw_en_o hh.2] at he
      have hv : ((List.range (bw_N c0)).map (fun k => bw_tr g (bw_fv h a c0 k)))[k0]? = some (bw_tr g (bw_fv h a c0 k0)) := by
        rw [List.getElem?_map, List.getElem?_range hk]; rfl
      rcases hw with hw | ⟨hw, -⟩
      · exact va_get hx hb hts (bw_lay_in c0 h9) hown hK hi.1 a he (bw_cl9 c0 h9) k0 hk (hts _ hw) (fun _ q => q) hv hdg (K H locs la hi hl)
      · exact va_getN hx hb hts (bw_lay_in c0 h9) hown hK hi.1 a he (bw_cl9 c0 h9) k0 hk (hts _ hw) (fun _ q => q) hv hdg (K H locs la hi hl)
    · cases hq
  · cases hq
theorem bw_put {ini : Bool} {ix c0 k0 a : Nat} {v : Value} {r : List Value} {h' : bw_H} (hx : p.tables.exec = Jvm.exec) (hb : c.code = cc) (hown : s.vm.findClass (bw_R o) = some m.cls) (hts : ∀ w ∈ bw_Ts, w.before args s = true) (hK : va_K D vwCl (bw_tys cA) s) (hini : ini = true → meth.name = "<init>") (hdg : decode cc pc = .ok (.putfield ix, 3))
    (hf : bw_fl o ix = some (c0, k0)) (ha : a < bw_n h) (hka : bw_k h a = .inl c0) (hfin : (bw_T c0 k0).2.2.2 = false ∨ ((bw_T c0 k0).2.2.2 = true ∧ ini = true ∧ c0 = o)) (hnw : narrow (bw_ty c0 k0) (bw_tr g v) = bw_tr g v) (hft : fits (bw_ty c0 k0) (bw_tr g v) = true)
    (hn : bw_n h' = bw_n h) (ho : ∀ q, q ≠ a → bw_en cA g h' q = bw_en cA g h q) (he' : bw_en cA g h' a = .inr (c0, ((List.range (bw_N c0)).map (fun k => bw_tr g (bw_fv h a c0 k))).set k0 (bw_tr g v)))
    (K : bw_at p l e R s m args below meth c Q D cA g nL cells slots (pc + 3, ls, r, h')) : bw_at p l e R s m args below meth c Q D cA g nL cells slots (pc, ls, v :: .ref a :: r, h) := by
  obtain ⟨h9, hk, hw⟩ := bw_fl_ok hf
  intro H locs la hi hl
  have he := bw_ws_get (cA := cA) (g := g) ha
  rw [bw_en_o hka] at he
  have hws := bw_ws_set (cA := cA) (g := g) hn ho
  rw [he'] at hws
  have hlen : k0 < ((List.range (bw_N c0)).map (fun k => bw_tr g (bw_fv h a c0 k))).length := by simpa using hk
  have kk : ∀ (H1 : Heap) (locs1 : List Loc), va_P D vwCl ((bw_ws cA g h).set a (g.1 + a, .inr (c0, ((List.range (bw_N c0)).map (fun k => bw_tr g (bw_fv h a c0 k))).set k0 (bw_tr g v)))) H1 → va_D (bw_A g) ((bw_ws cA g h).set a (g.1 + a, .inr (c0, ((List.range (bw_N c0)).map (fun k => bw_tr g (bw_fv h a c0 k))).set k0 (bw_tr g v)))) → va_S (bw_A g) s.heap H1 locs1 → W p l e R s m args below meth c H1 locs1 cells slots Q (F0 m (pc + 3) la (r.map (bw_tr g))) := by
    intro H1 locs1 hP1 _ hS1
    rw [hws] at hP1
    exact K H1 locs1 la ⟨hP1, hS1, by have := hi.2.2; show _ ≤ g.1 + bw_n h'; rw [hn]; exact this⟩ hl
  rcases hfin with hfin | ⟨hfin, hin, rfl⟩
  · rcases hw with hw | ⟨hw, -⟩
    · exact va_put hx hb hts (bw_lay_in c0 h9) (bw_ty c0) (bw_ty_ok c0 h9) (bw_nm_ok c0 h9) hown hK hi.1 (bw_ws_D cA g h) hi.2.1 a he (bw_cl9 c0 h9) k0 hk (hts _ hw) (fun _ q => q) hfin (bw_ty_ok c0 h9 k0 hk) hnw hft hlen hdg kk
    · exact va_putN hx hb hts (bw_lay_in c0 h9) (bw_ty c0) (bw_ty_ok c0 h9) (bw_nm_ok c0 h9) hown hK hi.1 (bw_ws_D cA g h) hi.2.1 a he (bw_cl9 c0 h9) k0 hk (hts _ hw) (fun _ q => q) hfin (bw_ty_ok c0 h9 k0 hk) hnw hft hlen hdg kk
  · have hown2 := bw_T_own c0 h9 k0 hk
    rcases hw with hw | ⟨-, hw⟩
    · exact va_putF hx hb hts (bw_lay_in c0 h9) (bw_ty c0) (bw_ty_ok c0 h9) (bw_nm_ok c0 h9) hown hK hi.1 (bw_ws_D cA g h) hi.2.1 a he (bw_cl9 c0 h9) k0 hk (hts _ hw) (fun _ q => q) hfin (hini hin) hown2 (bw_ty_ok c0 h9 k0 hk) hnw hft hlen hdg kk
    · exact absurd rfl hw
theorem bo_pf {ini : Bool} {ix : Nat} (hx : p.tables.exec = Jvm.exec) (hb : c.code = cc) (hown : s.vm.findClass (bw_R o) = some m.cls) (hts : ∀ w ∈ bw_Ts, w.before args s = true) (hK : va_K D vwCl (bw_tys cA) s) (hini : ini = true → meth.name = "<init>") (hdg : decode cc pc = .ok (.putfield ix, 3))
    (hq : bq_pf o ini (bw_fl o ix) pc ls st h = some k) (K : bw_at p l e R s m args below meth c Q D cA g nL cells slots k) : bw_at p l e R s m args below meth c Q D cA g nL cells slots (pc, ls, st, h) := by
  have pI : ∀ (a c0 k0 : Nat) (x : Int32), bw_k h a = .inl c0 → bw_ty c0 k0 = .int → bw_en cA g (bw_si h a k0 x) a = .inr (c0, ((List.range (bw_N c0)).map (fun k => bw_tr g (bw_fv h a c0 k))).set k0 (bw_tr g (.int x))) := by
    intro a c0 k0 x hka hty
    rw [bw_en_o (h := bw_si h a k0 x) hka]
    refine congrArg (fun z => Sum.inr (c0, z)) (bw_range_set ?_ (fun j hj => ?_)).symm
    · unfold bw_fv
      rw [hty]
      show bw_tr g (.int (bw_up2 h.2.2.1 a k0 x a k0)) = _
      rw [bw_up2_s, bw_up_s]
    · unfold bw_fv
      show bw_tr g (match bw_ty c0 j with | .int => .int (bw_up2 h.2.2.1 a k0 x a j) | .long => .long (bw_l h a j) | _ => bw_rf (bw_r h a j)) = _
      rw [bw_up2_s, bw_up_o hj]
      rfl
  have pL : ∀ (a c0 k0 : Nat) (x : Int64), bw_k h a = .inl c0 → bw_ty c0 k0 = .long → bw_en cA g (bw_sl h a k0 x) a = .inr (c0, ((List.range (bw_N c0)).map (fun k => bw_tr g (bw_fv h a c0 k))).set k0 (bw_tr g (.long x))) := by
    intro a c0 k0 x hka hty
    rw [bw_en_o (h := bw_sl h a k0 x) hka]
    refine congrArg (fun z => Sum.inr (c0, z)) (bw_range_set ?_ (fun j hj => ?_)).symm
    · unfold bw_fv
      rw [hty]
      show bw_tr g (.long (bw_up2 h.2.2.2.1 a k0 x a k0)) = _
      rw [bw_up2_s, bw_up_s]
    · unfold bw_fv
      show bw_tr g (match bw_ty c0 j with | .int => .int (bw_i h a j) | .long => .long (bw_up2 h.2.2.2.1 a k0 x a j) | _ => bw_rf (bw_r h a j)) = _
      rw [bw_up2_s, bw_up_o hj]
      rfl
  have pR : ∀ (a c0 k0 : Nat) (x : Nat), bw_k h a = .inl c0 → (bw_ty c0 k0 ≠ .int ∧ bw_ty c0 k0 ≠ .long) → bw_en cA g (bw_sr h a k0 (some x)) a = .inr (c0, ((List.range (bw_N c0)).map (fun k => bw_tr g (bw_fv h a c0 k))).set k0 (bw_tr g (.ref x))) := by
    intro a c0 k0 x hka hty
    rw [bw_en_o (h := bw_sr h a k0 (some x)) hka]
    refine congrArg (fun z => Sum.inr (c0, z)) (bw_range_set ?_ (fun j hj => ?_)).symm
    · have hz := hty
      unfold bw_fv
      split
      · rename_i e; exact absurd e hz.1
      · rename_i e; exact absurd e hz.2
      · show bw_tr g (bw_rf (bw_up2 h.2.2.2.2 a k0 (some x) a k0)) = _
        rw [bw_up2_s, bw_up_s]
        rfl
    · unfold bw_fv
      show bw_tr g (match bw_ty c0 j with | .int => .int (bw_i h a j) | .long => .long (bw_l h a j) | _ => bw_rf (bw_up2 h.2.2.2.2 a k0 (some x) a j)) = _
      rw [bw_up2_s, bw_up_o hj]
      rfl
  have oI : ∀ (a k0 : Nat) (x : Int32), ∀ q, q ≠ a → bw_en cA g (bw_si h a k0 x) q = bw_en cA g h q := fun a k0 x q hq => bw_en_eq rfl (bw_up2_o hq) rfl rfl
  have oL : ∀ (a k0 : Nat) (x : Int64), ∀ q, q ≠ a → bw_en cA g (bw_sl h a k0 x) q = bw_en cA g h q := fun a k0 x q hq => bw_en_eq rfl rfl (bw_up2_o hq) rfl
  have oR : ∀ (a k0 : Nat) (x : Option Nat), ∀ q, q ≠ a → bw_en cA g (bw_sr h a k0 x) q = bw_en cA g h q := fun a k0 x q hq => bw_en_eq rfl rfl rfl (bw_up2_o hq)
  unfold bq_pf at hq
  split at hq
  · rename_i c0 k0 v a r hf
    split at hq
    · rename_i hh
      split at hq
      · rename_i x hty
        cases hq
        exact bw_put (h' := bw_si h a k0 x) hx hb hown hts hK hini hdg hf hh.1 hh.2.1 (Or.inl hh.2.2.2) (by rw [hty]; rfl) (by rw [hty]; rfl) rfl (oI a k0 x) (pI a c0 k0 x hh.2.1 hty) K
      · rename_i x hty
        cases hq
        exact bw_put (h' := bw_sl h a k0 x) hx hb hown hts hK hini hdg hf hh.1 hh.2.1 (Or.inl hh.2.2.2) (by rw [hty]; rfl) (by rw [hty]; rfl) rfl (oL a k0 x) (pL a c0 k0 x hh.2.1 hty) K
      · cases hq
    · split at hq
      · rename_i hh
        split at hq
        · rename_i x hty
          cases hq
          exact bw_put (h' := bw_si h a k0 x) hx hb hown hts hK hini hdg hf hh.1 hh.2.1 (Or.inr hh.2.2.2) (by rw [hty]; rfl) (by rw [hty]; rfl) rfl (oI a k0 x) (pI a c0 k0 x hh.2.1 hty) K
        · rename_i n x hty
          cases hq
          exact bw_put (h' := bw_sr h a k0 (some x)) hx hb hown hts hK hini hdg hf hh.1 hh.2.1 (Or.inr hh.2.2.2) (by rw [hty]; rfl) (by rw [hty]; rfl) rfl (oR a k0 (some x)) (pR a c0 k0 x hh.2.1 (by rw [hty]; exact ⟨fun q => FieldType.noConfusion q, fun q => FieldType.noConfusion q⟩)) K
        · rename_i n x hty
          cases hq
          exact bw_put (h' := bw_sr h a k0 (some x)) hx hb hown hts hK hini hdg hf hh.1 hh.2.1 (Or.inr hh.2.2.2) (by rw [hty]; rfl) (by rw [hty]; rfl) rfl (oR a k0 (some x)) (pR a c0 k0 x hh.2.1 (by rw [hty]; exact ⟨fun q => FieldType.noConfusion q, fun q => FieldType.noConfusion q⟩)) K
        · cases hq
      · cases hq
  · cases hq
end BP
