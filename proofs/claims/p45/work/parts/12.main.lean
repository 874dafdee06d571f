/-! ends, calls, and the small machine whole: what it answers, the JVM answers -/
def bw_Qc (D : va_G) (cA : FieldType → ClassId) (g : Nat × Nat × Nat) (v : Option Value) (h' : bw_H) : Array Value → State → Outcome → State → Prop := fun _ st oc t => oc = .returned (v.map (bw_tr g)) ∧ va_P D vwCl (bw_ws cA g h') t.heap ∧ va_F (bw_A g) st t
def bw_Pc (D : va_G) (cA : FieldType → ClassId) (g : Nat × Nat × Nat) (X : Nat × (Nat → Int32)) (as : List Value) (h : bw_H) : Array Value → State → Prop := va_Pc (as.map (bw_tr g)) (fun U => U.heap.size ≤ g.1 + bw_n h ∧ va_P D vwCl (bw_ws cA g h) U.heap ∧ va_K D vwCl (bw_tys cA) U ∧ va_AO RX1 U ∧ (∀ w ∈ bw_gd, w.before #[] U = true) ∧ va_Z "BearWitness$Looks" "SETS_WITH" "[J" (.ref g.2.1) (bw_A g) U U.heap ∧ va_T .long g.2.1 6 (fun j => .long (bw_set6 j)) (bw_A g) U U.heap ∧ va_T .int g.2.2 X.1 (fun j => .int (X.2 j)) (bw_A g) U U.heap ∧ (∀ q, U.heap.size ≤ q → bw_A g q))
abbrev bw_wz (M : bw_M) : List Cond := bw_cd M :: [Cond.arrayClass .int, Cond.arrayClass .long]
def bw_ok (M : bw_M) : Prop := bw_cd M ∈ lw_tbl ∧ (M.2.1.cls ≠ "java/lang/invoke/MethodHandle" ∧ M.2.1.cls ≠ "java/lang/invoke/VarHandle") ∧ bw_R M.1 = M.2.1.cls ∧ (parseMethodDescriptor M.2.1.desc).map (fun d => d.parameters.length) = some M.2.2.2.2.2 ∧ Jvm.plainName M.2.1.cls = true
theorem bw_mt_ok {o ix kd : Nat} {M : bw_M} (h : bw_mt o ix = some (kd, M)) : bw_ok M ∧ (if kd % 2 = 1 then Cond.methodLinkNest (bw_R o) ix M.2.1 "BearWitness" else Cond.methodLink (bw_R o) ix M.2.1) ∈ lw_tbl ∧ (if kd ≤ 1 then Cond.static M.2.1 else Cond.instanceMethod M.2.1) ∈ lw_tbl ∧ (kd = 2 ∨ kd = 3 → Cond.selects M.2.1.cls M.2.1 M.2.1 ∈ lw_tbl) ∧ Cond.initialized M.2.1.cls ∈ lw_tbl := by
  unfold bw_mt at h
  cases hf : bw_MT.find? (fun e => e.1 == o && e.2.1 == ix) with
  | none => rw [hf] at h; cases h
  | some x =>
    rw [hf] at h
    have hv : (x.2.2.1, x.2.2.2.1) = (kd, M) := Option.some.inj h
    obtain ⟨h1, rfl, rfl⟩ := bw_find_in hf
    have a1 : x.2.2.1 = kd := congrArg Prod.fst hv
    have a2 : x.2.2.2.1 = M := congrArg Prod.snd hv
    have b1 := List.all_eq_true.mp bw_MT_ok x h1
    have b2 := List.all_eq_true.mp bw_MT_ok2 x h1
    have b3 := List.all_eq_true.mp bw_MT_ok3 x h1
    have b4 := List.all_eq_true.mp bw_MT_ok4 x h1
    have b5 := List.all_eq_true.mp bw_MT_ok5 x h1
    have b6 := bw_all_mem bw_MT_code x h1
    simp only [Bool.and_eq_true, Bool.or_eq_true, decide_eq_true_eq] at b1 b2 b3 b4
    rw [a1, a2] at b1
    rw [a2] at b2 b3 b4 b5 b6
    obtain ⟨⟨⟨c1, c2⟩, c3⟩, c4⟩ := b1
    refine ⟨⟨b6, b2.2, b3, b4, b5⟩, List.mem_of_getElem? c1, List.mem_of_getElem? c2, fun hk => ?_, List.mem_of_getElem? c4⟩
    rcases c3 with c3 | c3
    · omega
    · exact List.mem_of_getElem? c3
theorem bw_lgsl (g : Nat × Nat × Nat) : ∀ as : List Value, (lg_sl (as.map (bw_tr g))).length = (lg_sl as).length
  | [] => rfl
  | v :: as => by
    have ih := bw_lgsl g as
    unfold lg_sl at ih ⊢
    rw [List.map_cons, List.flatMap_cons, List.flatMap_cons, List.length_append, List.length_append, ih, bw_tr_cat]
    congr 1
    split <;> rfl
theorem bw_lvargs (g : Nat × Nat × Nat) : ∀ (as : List Value) (i : Nat), lv_args i (as.map (bw_tr g)) = bw_tl g (lv_args i as)
  | [], _ => rfl
  | v :: as, i => by
    show (i, bw_tr g v) :: lv_args (if (bw_tr g v).category = 2 then i + 2 else i + 1) (as.map (bw_tr g)) = (i, bw_tr g v) :: bw_tl g (lv_args (if v.category = 2 then i + 2 else i + 1) as)
    rw [bw_tr_cat, bw_lvargs g as]
section BC
variable {p : Program} {l : Launch} {e : Env} {R : Room} {s : State} {m : MethodId} {args : Array Value} {below : List Frame} {meth : Method} {c : Code} {Q : State → Prop} {D : va_G} {cA : FieldType → ClassId} {g : Nat × Nat × Nat} {nL cells slots : Nat} {pc : Nat} {ls : bw_L} {st : List Value} {h : bw_H} {k : bw_C} {cc : ByteArray} {o : Nat} {X : Nat × (Nat → Int32)} {ini : Bool}
theorem bw_e_ok {rt : Option FieldType} {i : Instr} {len : Nat} {v : Option Value} (C0 : bw_Cx p s m args meth c D cA g X o nL ini cc) (hdg : decode cc pc = .ok (i, len)) (hw : len = bw_w i ∨ bw_w i = 0) (hr : meth.sig.returnType = rt) (hlocks : meth.locks = false) (hq : bw_e rt i st = some v) :
    bw_at p l e R s m args below meth c (MQ below (bw_Qc D cA g v h) args s cells slots (bw_A g)) D cA g nL cells slots (pc, ls, st, h) := by
  obtain ⟨hx, hb, -, -, -, -, -, -, -, -, -, -⟩ := C0
  unfold bw_e at hq
  split at hq
  · obtain rfl := bw_wl (n := 1) hw (by decide)
    split at hq
    · rename_i ty
      split at hq
      · rename_i hn
        cases hq
        intro H locs la hi hl
        exact W.zret hx hb hr hn (fun t ht _ => ⟨rfl, by rw [ht]; exact hi.1, hi.2.1.F ht⟩) hi.2.1.2.2 hdg hlocks
      · cases hq
    · cases hq
  · obtain rfl := bw_wl (n := 1) hw (by decide)
    split at hq
    · rename_i hrt
      cases hq
      intro H locs la hi hl
      exact W.lret hx hb (hr.trans hrt) (fun t ht _ => ⟨rfl, by rw [ht]; exact hi.1, hi.2.1.F ht⟩) hi.2.1.2.2 hdg hlocks
    · cases hq
  · obtain rfl := bw_wl (n := 1) hw (by decide)
    split at hq
    · rename_i n
      cases hq
      intro H locs la hi hl
      exact W.aret hx hb hr (Or.inl ⟨n, rfl⟩) (Or.inr ⟨_, rfl⟩) (fun t ht _ => ⟨rfl, by rw [ht]; exact hi.1, hi.2.1.F ht⟩) hi.2.1.2.2 hdg hlocks
    · cases hq
  · obtain rfl := bw_wl (n := 1) hw (by decide)
    split at hq
    · rename_i n
      cases hq
      intro H locs la hi hl
      exact W.aret hx hb hr (Or.inl ⟨n, rfl⟩) (Or.inl rfl) (fun t ht _ => ⟨rfl, by rw [ht]; exact hi.1, hi.2.1.F ht⟩) hi.2.1.2.2 hdg hlocks
    · cases hq
  · obtain rfl := bw_wl (n := 1) hw (by decide)
    split at hq
    · rename_i hrt
      cases hq
      intro H locs la hi hl
      exact W.vret hx hb (hr.trans hrt) (fun t ht _ => ⟨rfl, by rw [ht]; exact hi.1, hi.2.1.F ht⟩) hi.2.1.2.2 hdg hlocks
    · cases hq
  · cases hq
theorem bw_cont {H : Heap} {locs : List Loc} {la : Array Slot} {st0 rest : List Value} {mc ms : Nat} {Qa : State → Outcome → State → Prop} {free : Addr → Prop} (hr : va_Run p l e R s m args below meth c H locs cells slots mc ms (F0 m pc la st0) rest Qa free)
    (kk : ∀ (v : Option Value) (st₀ t : State) (H1 : Heap) (L : List Loc), st₀.heap = H → t.heap = H1 → Qa st₀ (.returned v) t → (∀ q ∈ L, free q.base) → W p l e R s m args below meth c H1 (locs ++ L) (cells + mc) (slots + ms) Q (F0 m (pc + 3) la (v.toList ++ rest))) : W p l e R s m args below meth c H locs cells slots Q (F0 m pc la st0) := by
  intro T hT Y
  obtain ⟨v, st₀, t, T', L, a1, a2, a3, a4, -, a6, a7⟩ := hr T hT Y
  obtain ⟨t', b1, b2⟩ := kk v st₀ t T'.heap L a1 a4.symm a6 a3 T' rfl a2
  exact ⟨t', a7 _ b1, b2⟩
theorem bw_blind {as : List Value} : FrameBlind (bw_Pc D cA g X as h) := by
  intro a U fr mk q
  obtain ⟨q1, q2, q3, q4, q5, q6, q7, q8, q9, q10⟩ := q
  exact ⟨q1, q2, q3, va_K.moved (u := U) (U := U.calling fr mk a) (Vm.Alike.refl U.vm) q4, va_AO.moved (u := U) (U := U.calling fr mk a) (Vm.Alike.refl U.vm) q5, fun w hw => va_tabs (u := U) (by
    have := (List.mem_filter.mp hw).2
    simp only [Bool.and_eq_true] at this
    exact this.1) rfl (q6 w hw), va_Z.moved (u := U) (U := U.calling fr mk a) (Vm.Alike.refl U.vm) q7, va_T.moved (u := U) (U := U.calling fr mk a) (Vm.Alike.refl U.vm) q8, va_T.moved (u := U) (U := U.calling fr mk a) (Vm.Alike.refl U.vm) q9, q10⟩
theorem bw_pre {H : Heap} {locs : List Loc} {as : List Value} (C0 : bw_Cx p s m args meth c D cA g X o nL ini cc) (hi : bw_inv D cA g s cells h H locs) (hsz : H.size ≤ s.heap.size + cells) : ∀ U : State, U.heap = H → s.WarmedH U.vm → bw_Pc D cA g X as h (as.map (bw_tr g)).toArray U := by
  obtain ⟨hx, hb, hml, hown, hts, hK, hZ, hT6, hT, hini, hao, hA⟩ := C0
  intro U hU hW
  have hkp : ∀ a : Nat, a < s.heap.size → ¬ bw_A g a → U.heap[a]? = s.heap[a]? := fun a h1 h2 => by rw [hU]; exact hi.2.1.2.1 a h1 h2
  refine ⟨rfl, ?_, ?_, va_K.moved hW.alike hK, va_AO.moved hW.alike hao, fun w hw => ?_, (va_Z.moved hW.alike hZ).kept hkp, (va_T.moved hW.alike hT6).kept hkp, (va_T.moved hW.alike hT).kept hkp, fun q hq => ?_⟩
  · rw [hU]
    have e0 := hi.2.2
    omega
  · rw [hU]; exact hi.1
  · have h0 := (List.mem_filter.mp hw).2
    simp only [Bool.and_eq_true] at h0
    exact va_tabs (u := s.setVm U.vm) (A := #[]) h0.1 rfl (Cond.onTables_warmH (args' := #[]) (T := s) hW h0.1 h0.2 (hts w (List.mem_append_left _ hw)))
  · exact hA q (Nat.le_trans hi.2.1.1 (by rw [← hU]; exact hq))
theorem bw_after {H H1 : Heap} {locs L : List Loc} {v0 : Option Value} {vv : Option Value} {h1 : bw_H} {st₀ t : State} {a : Array Value} (hi : bw_inv D cA g s cells h H locs) (hn : bw_n h ≤ bw_n h1) (e0 : st₀.heap = H) (e1 : t.heap = H1) (hQ : bw_Qc D cA g v0 h1 a st₀ (.returned vv) t) (hL : ∀ q ∈ L, bw_A g q.base) : vv = v0.map (bw_tr g) ∧ bw_inv D cA g s (cells + (bw_n h1 - bw_n h)) h1 H1 (locs ++ L) := by
  obtain ⟨q1, q2, q3⟩ := hQ
  subst e0 e1
  refine ⟨Outcome.returned.inj q1, q2, ⟨Nat.le_trans hi.2.1.1 q3.1, fun q h2 h3 => ?_, fun q hq => ?_⟩, ?_⟩
  · rw [q3.2 q (Nat.lt_of_lt_of_le h2 hi.2.1.1) h3]
    exact hi.2.1.2.1 q h2 h3
  · rcases List.mem_append.mp hq with hq | hq
    · exact hi.2.1.2.2 q hq
    · exact hL q hq
  · have e0 := hi.2.2
    omega
/-- a call: out of the callee's contract, and of what comes behind it -/
theorem bw_c_ok {i : Instr} {len d : Nat} {M : bw_M} {im : Bool} {as r : List Value} {v : Option Value} {h1 : bw_H} (C0 : bw_Cx p s m args meth c D cA g X o nL ini cc) (hdg : decode cc pc = .ok (i, len)) (hw : len = bw_w i ∨ bw_w i = 0) (hf1 : d + 2 ≤ R.frames) (hf2 : 60 * (d + 2) ≤ R.locals)
    (hq : bw_c o i st h = some (M, im, as, r)) (hn : bw_n h ≤ bw_n h1) (hc : cells + (bw_n h1 - bw_n h) ≤ R.cells) (hs : slots + (bw_s h1 - bw_s h) ≤ R.slots)
    (hM : bw_ok M → (im = true → M.2.1.name = "<init>") → (lg_sl as).length ≤ M.2.2.2.1 → Met l M.2.1 (bw_wz M) { frames := d + 1, cells := bw_n h1 - bw_n h, slots := bw_s h1 - bw_s h, locals := 60 * (d + 1) } (bw_Pc D cA g X as h) (bw_Qc D cA g v h1) (bw_n h1 - bw_n h) (bw_s h1 - bw_s h) (bw_A g))
    (K : bw_at p l e R s m args below meth c Q D cA g nL (cells + (bw_n h1 - bw_n h)) (slots + (bw_s h1 - bw_s h)) (pc + 3, ls, v.toList ++ r, h1)) : bw_at p l e R s m args below meth c Q D cA g nL cells slots (pc, ls, st, h) := by
  obtain ⟨hx, hb, hml, hown, hts, hK, hZ, hT6, hT, hini, hao, hA⟩ := id C0
  have hG : ∀ M : bw_M, bw_ok M → GoodIn bw_Ts (bw_wz M) := fun M hok w hw => by
    rcases List.mem_cons.mp hw with rfl | hw
    · exact ⟨bw_in hok.1 rfl, Or.inl rfl⟩
    · refine ⟨List.mem_append_right _ hw, Or.inr ?_⟩
      rcases List.mem_cons.mp hw with rfl | hw
      · exact ⟨_, rfl⟩
      · rcases List.mem_cons.mp hw with rfl | hw
        · exact ⟨_, rfl⟩
        · exact absurd hw List.not_mem_nil
  have hMt : ∀ n : Nat, (st.take n).reverse.map (bw_tr g) = ((st.map (bw_tr g)).take n).reverse := fun n => by rw [← List.map_take, ← List.map_reverse]
  have Kc : ∀ (H : Heap) (locs : List Loc) (la : Array Slot), bw_inv D cA g s cells h H locs → lv_has la nL (bw_tl g ls) → ∀ (vv : Option Value) (st₀ t : State) (H1 : Heap) (L : List Loc), st₀.heap = H → t.heap = H1 → bw_Qc D cA g v h1 (as.map (bw_tr g)).toArray st₀ (.returned vv) t → (∀ q ∈ L, bw_A g q.base) → W p l e R s m args below meth c H1 (locs ++ L) (cells + (bw_n h1 - bw_n h)) (slots + (bw_s h1 - bw_s h)) Q (F0 m (pc + 3) la (vv.toList ++ r.map (bw_tr g))) := by
    intro H locs la hi hl vv st₀ t H1 L a1 a2 a3 a4
    obtain ⟨rfl, hi1⟩ := bw_after hi hn a1 a2 a3 a4
    have := K H1 (locs ++ L) la hi1 hl
    rw [show ((v.toList ++ r).map (bw_tr g)) = (v.map (bw_tr g)).toList ++ r.map (bw_tr g) by cases v <;> rfl] at this
    exact this
  unfold bw_c at hq
  split at hq
  · rename_i ix
    obtain rfl := bw_wl (n := 3) hw (by decide)
    split at hq
    · rename_i kd M0 hmt
      split at hq
      · rename_i hh
        cases hq
        obtain ⟨hkd, hle, hsum, hlen, hL30⟩ := hh
        obtain ⟨hok, w1, w2, -, w4⟩ := bw_mt_ok hmt
        have hMM := hM hok (fun z => by cases z) hlen
        rw [if_pos hkd] at w2
        have hstk : st.map (bw_tr g) = ((st.take M.2.2.2.2.2).reverse.map (bw_tr g)).reverse ++ (st.drop M.2.2.2.2.2).map (bw_tr g) := by
          rw [List.map_reverse, List.reverse_reverse, ← List.map_append, List.take_append_drop]
        have hnn : ((st.take M.2.2.2.2.2).reverse.map (bw_tr g)).length = M.2.2.2.2.2 := by
          rw [List.length_map, List.length_reverse, List.length_take]; omega
        intro H locs la hi hl
        refine bw_Wsz fun hsz => ?_
        have hWd : 2 * (F0 m pc la (st.map (bw_tr g))).monitorRoom + (((st.drop M.2.2.2.2.2).map (bw_tr g)).map fun v => v.category).sum ≤ 8 := by
          rw [bw_sum_tr]; show 2 * 0 + _ ≤ 8; omega
        rcases (show kd = 0 ∨ kd = 1 by omega) with rfl | rfl
        · exact bw_cont (va_runS ⟨hx, hb, hml, hown, hts⟩ hMM (va_cwS M.2.2.2.2.2 hts (by
            intro w hw
            rcases List.mem_append.mp hw with hw | hw
            · rcases List.mem_cons.mp hw with rfl | hw
              · exact ⟨bw_in w1 rfl, Or.inl rfl⟩
              · rcases List.mem_cons.mp hw with rfl | hw
                · exact ⟨bw_in w2 rfl, Or.inl rfl⟩
                · rcases List.mem_cons.mp hw with rfl | hw
                  · exact ⟨bw_in w4 rfl, Or.inl rfl⟩
                  · exact absurd hw List.not_mem_nil
            · exact hG M hok w hw) rfl rfl rfl ⟨hok.2.1.1, hok.2.1.2, hok.2.2.2.1⟩ ⟨by show d + 1 + 1 ≤ _; omega, by show 8 + (M.2.2.2.1 + 11) + 60 * (d + 1) ≤ _; omega⟩) ⟨bw_blind, bw_pre C0 hi hsz⟩ rfl hnn hl.1 hstk hWd hdg ⟨hc, hs⟩) (Kc H locs la hi hl)
        · exact bw_cont (va_runSN ⟨hx, hb, hml, hown, hts⟩ hMM ⟨va_cnB M.2.2.2.2.2 hts (hG M hok) rfl rfl rfl (va_Nw.of rfl (hts _ (bw_in w1 rfl))) (hts _ (bw_in w4 rfl)) ⟨hok.2.1.1, hok.2.1.2, hok.2.2.2.1⟩ ⟨by show d + 1 + 1 ≤ _; omega, by show 8 + (M.2.2.2.1 + 11) + 60 * (d + 1) ≤ _; omega⟩, hts _ (bw_in w2 rfl), trivial⟩ ⟨bw_blind, bw_pre C0 hi hsz⟩ rfl hnn hl.1 hstk hWd hdg ⟨hc, hs⟩) (Kc H locs la hi hl)
      · cases hq
    · cases hq
  · rename_i ix
    obtain rfl := bw_wl (n := 3) hw (by decide)
    split at hq
    · rename_i kd M0 hmt
      split at hq
      · rename_i a r0 hdr
        split at hq
        · rename_i hh
          cases hq
          obtain ⟨hkd, hle, han, hka, hM9, hsum, hlen, hL30⟩ := hh
          obtain ⟨hok, w1, w2, w3, w4⟩ := bw_mt_ok hmt
          have hMM := hM hok (fun z => by cases z) hlen
          rw [if_neg (by omega)] at w2
          have hstk : st.map (bw_tr g) = ((st.take M.2.2.2.2.2).reverse.map (bw_tr g)).reverse ++ Value.ref (g.1 + a) :: r.map (bw_tr g) := by
            rw [List.map_reverse, List.reverse_reverse]
            have := congrArg (List.map (bw_tr g)) (List.take_append_drop M.2.2.2.2.2 st)
            rw [hdr, List.map_append] at this
            exact this.symm
          have hnn : ((st.take M.2.2.2.2.2).reverse.map (bw_tr g)).length = M.2.2.2.2.2 := by
            rw [List.length_map, List.length_reverse, List.length_take]; omega
          intro H locs la hi hl
          refine bw_Wsz fun hsz => ?_
          have hWd : 2 * (F0 m pc la (st.map (bw_tr g))).monitorRoom + ((r.map (bw_tr g)).map fun v => v.category).sum ≤ 8 := by
            rw [bw_sum_tr]; show 2 * 0 + _ ≤ 8; omega
          have he := bw_ws_get (cA := cA) (g := g) han
          rw [bw_en_o hka] at he
          have hrecv := va_recv hK hi.1 (bw_cl9 M.1 hM9) he
          rw [hok.2.2.1] at hrecv
          rcases hkd with rfl | rfl
          · exact bw_cont (va_runV ⟨hx, hb, hml, hown, hts⟩ hMM (cwV M.2.2.2.2.2 hts (by
              intro w hw
              rcases List.mem_append.mp hw with hw | hw
              · rcases List.mem_cons.mp hw with rfl | hw
                · exact ⟨bw_in w1 rfl, Or.inl rfl⟩
                · rcases List.mem_cons.mp hw with rfl | hw
                  · exact ⟨bw_in w2 rfl, Or.inl rfl⟩
                  · rcases List.mem_cons.mp hw with rfl | hw
                    · exact ⟨bw_in (w3 (Or.inl rfl)) rfl, Or.inl rfl⟩
                    · rcases List.mem_cons.mp hw with rfl | hw
                      · exact ⟨bw_in w4 rfl, Or.inl rfl⟩
                      · exact absurd hw List.not_mem_nil
              · exact hG M hok w hw) rfl rfl rfl ⟨rfl, hok.2.1.1, hok.2.1.2, hok.2.2.2.1⟩ ⟨by show d + 1 + 1 ≤ _; omega, by show 8 + (M.2.2.2.1 + 11) + 60 * (d + 1) ≤ _; omega⟩) ⟨bw_blind, hrecv, bw_pre C0 hi hsz⟩ rfl hnn hl.1 hstk hWd hdg ⟨hc, hs⟩) (Kc H locs la hi hl)
          · exact bw_cont (va_runVN ⟨hx, hb, hml, hown, hts⟩ hMM ⟨va_cnB M.2.2.2.2.2 hts (hG M hok) rfl rfl rfl (va_Nw.of rfl (hts _ (bw_in w1 rfl))) (hts _ (bw_in w4 rfl)) ⟨hok.2.1.1, hok.2.1.2, hok.2.2.2.1⟩ ⟨by show d + 1 + 1 ≤ _; omega, by show 8 + (M.2.2.2.1 + 11) + 60 * (d + 1) ≤ _; omega⟩, hts _ (bw_in w2 rfl), hts _ (bw_in (w3 (Or.inr rfl)) rfl)⟩ ⟨bw_blind, hrecv, bw_pre C0 hi hsz⟩ rfl hnn hl.1 hstk hWd hdg ⟨hc, hs⟩) (Kc H locs la hi hl)
        · cases hq
      · cases hq
    · cases hq
  · rename_i ix
    obtain rfl := bw_wl (n := 3) hw (by decide)
    split at hq
    · rename_i kd M0 hmt
      split at hq
      · rename_i a r0 hdr
        split at hq
        · rename_i hh
          cases hq
          obtain ⟨hkd, hle, hnm, hrn, hsum, hlen, hL30⟩ := hh
          obtain ⟨hok, w1, w2, -, w4⟩ := bw_mt_ok hmt
          have hMM := hM hok (fun _ => hnm) hlen
          rw [if_neg (by omega)] at w2
          have hstk : st.map (bw_tr g) = ((st.take M.2.2.2.2.2).reverse.map (bw_tr g)).reverse ++ Value.ref (g.1 + a) :: r.map (bw_tr g) := by
            rw [List.map_reverse, List.reverse_reverse]
            have := congrArg (List.map (bw_tr g)) (List.take_append_drop M.2.2.2.2.2 st)
            rw [hdr, List.map_append] at this
            exact this.symm
          have hnn : ((st.take M.2.2.2.2.2).reverse.map (bw_tr g)).length = M.2.2.2.2.2 := by
            rw [List.length_map, List.length_reverse, List.length_take]; omega
          intro H locs la hi hl
          refine bw_Wsz fun hsz => ?_
          have hWd : 2 * (F0 m pc la (st.map (bw_tr g))).monitorRoom + ((r.map (bw_tr g)).map fun v => v.category).sum ≤ 8 := by
            rw [bw_sum_tr]; show 2 * 0 + _ ≤ 8; omega
          have hcode : bw_wz M = Cond.code M.2.1 M.2.2.1 M.2.2.2.1 none :: [Cond.arrayClass .int, Cond.arrayClass .long] := by
            show Cond.code M.2.1 M.2.2.1 M.2.2.2.1 M.2.2.2.2.1 :: _ = _
            rw [hrn]
          rcases hkd with rfl | rfl
          · exact bw_cont (va_runI ⟨hx, hb, hml, hown, hts⟩ hMM (cwI M.2.2.2.2.2 hts (hG M hok) hcode rfl rfl (hts _ (bw_in w4 rfl)) (hts _ (bw_in w1 rfl)) (hts _ (bw_in w2 rfl)) hnm ⟨hok.2.1.1, hok.2.1.2, hok.2.2.2.1⟩ ⟨by show d + 1 + 1 ≤ _; omega, by show 8 + (M.2.2.2.1 + 11) + 60 * (d + 1) ≤ _; omega⟩) ⟨bw_blind, bw_pre C0 hi hsz⟩ rfl hnn hl.1 hstk hWd hdg ⟨hc, hs⟩) (Kc H locs la hi hl)
          · exact bw_cont (va_runIN ⟨hx, hb, hml, hown, hts⟩ hMM ⟨va_cnB M.2.2.2.2.2 hts (hG M hok) hcode rfl rfl (va_Nw.of rfl (hts _ (bw_in w1 rfl))) (hts _ (bw_in w4 rfl)) ⟨hok.2.1.1, hok.2.1.2, hok.2.2.2.1⟩ ⟨by show d + 1 + 1 ≤ _; omega, by show 8 + (M.2.2.2.1 + 11) + 60 * (d + 1) ≤ _; omega⟩, hnm, hts _ (bw_in w2 rfl)⟩ ⟨bw_blind, bw_pre C0 hi hsz⟩ rfl hnn hl.1 hstk hWd hdg ⟨hc, hs⟩) (Kc H locs la hi hl)
        · cases hq
      · cases hq
    · cases hq
  · cases hq
end BC
