/-! the small machine whole -/
theorem bw_x_mono {X : Nat × (Nat → Int32)} {o nL : Nat} {ini : Bool} {i : Instr} {pc : Nat} {ls : bw_L} {st : List Value} {h : bw_H} {k : bw_C} (hq : bw_x X o nL ini i pc ls st h = some k) : bw_n h ≤ bw_n k.2.2.2 ∧ bw_s h ≤ bw_s k.2.2.2 := by
  cases i with
  | iload a => exact bz_eq (bz_il hq)
  | iload_n a => exact bz_eq (bz_il hq)
  | lload a => exact bz_eq (bz_ll hq)
  | lload_n a => exact bz_eq (bz_ll hq)
  | aload a => exact bz_eq (bz_al hq)
  | aload_n a => exact bz_eq (bz_al hq)
  | istore a => exact bz_eq (bz_is hq)
  | istore_n a => exact bz_eq (bz_is hq)
  | lstore a => exact bz_eq (bz_ls hq)
  | lstore_n a => exact bz_eq (bz_ls hq)
  | astore a => exact bz_eq (bz_as hq)
  | astore_n a => exact bz_eq (bz_as hq)
  | iinc a n => exact bz_eq (bz_ic hq)
  | iconst a => exact bz_eq (bz_cn hq)
  | bipush a => exact bz_eq (bz_cn hq)
  | sipush a => exact bz_eq (bz_cn hq)
  | lconst a => exact bz_eq (bz_cn hq)
  | aconst_null => exact bz_eq (bz_cn hq)
  | iadd => exact bz_eq (bz_ii hq)
  | isub => exact bz_eq (bz_ii hq)
  | imul => exact bz_eq (bz_ii hq)
  | iand => exact bz_eq (bz_ii hq)
  | ior => exact bz_eq (bz_ii hq)
  | ixor => exact bz_eq (bz_ii hq)
  | ishl => exact bz_eq (bz_ii hq)
  | ishr => exact bz_eq (bz_ii hq)
  | iushr => exact bz_eq (bz_ii hq)
  | idiv => exact bz_eq (bz_id hq)
  | irem => exact bz_eq (bz_id hq)
  | ladd => exact bz_eq (bz_jj hq)
  | lsub => exact bz_eq (bz_jj hq)
  | lmul => exact bz_eq (bz_jj hq)
  | land => exact bz_eq (bz_jj hq)
  | lor => exact bz_eq (bz_jj hq)
  | lxor => exact bz_eq (bz_jj hq)
  | ldiv => exact bz_eq (bz_jd hq)
  | lrem => exact bz_eq (bz_jd hq)
  | lushr => exact bz_eq (bz_ju hq)
  | ineg => exact bz_eq (bz_i1 hq)
  | lneg => exact bz_eq (bz_j1 hq)
  | i2l => exact bz_eq (bz_i1 hq)
  | i2b => exact bz_eq (bz_i1 hq)
  | l2i => exact bz_eq (bz_j1 hq)
  | lcmp => exact bz_eq (bz_cm hq)
  | dup => exact bz_eq (bz_du hq)
  | dup2 => exact bz_eq (bz_d2 hq)
  | goto a => exact bz_eq (bz_go hq)
  | ifnull a => exact bz_eq (bz_nu hq)
  | ifnonnull a => exact bz_eq (bz_nn hq)
  | tableswitch a b d f => exact bz_eq (bz_ts hq)
  | getfield a => exact bz_eq (bz_gf hq)
  | putfield a => exact bz_eq (bz_pf hq)
  | getstatic a => exact bz_eq (bz_gs hq)
  | laload => exact bz_eq (bz_la hq)
  | iaload => exact bz_eq (bz_ia hq)
  | baload => exact absurd (show (none : Option bw_C) = some k from hq) (fun z => by cases z)
  | aaload => exact bz_eq (bz_aa hq)
  | iastore => exact bz_eq (bz_ist hq)
  | bastore => exact absurd (show (none : Option bw_C) = some k from hq) (fun z => by cases z)
  | aastore => exact bz_eq (bz_ast hq)
  | arraylength => exact bz_eq (bz_len hq)
  | new a => exact bz_new hq
  | newarray a => exact bz_na hq
  | anewarray a => exact bz_an hq
  | invokespecial a => exact bz_eq (bz_oi hq)
  | ldc a =>
    have hq' : (match bw_kc o a with | some (.int v) => bq_cn 2 (.int v) | _ => fun _ _ _ _ => none) pc ls st h = some k := hq
    cases hkc : bw_kc o a with
    | none => rw [hkc] at hq'; cases hq'
    | some v =>
      rw [hkc] at hq'
      cases v with
      | int v => exact bz_eq (bz_cn hq')
      | _ => cases hq'
  | ldc_w a =>
    have hq' : (match bw_kc o a with | some (.int v) => bq_cn 3 (.int v) | _ => fun _ _ _ _ => none) pc ls st h = some k := hq
    cases hkc : bw_kc o a with
    | none => rw [hkc] at hq'; cases hq'
    | some v =>
      rw [hkc] at hq'
      cases v with
      | int v => exact bz_eq (bz_cn hq')
      | _ => cases hq'
  | ldc2_w a =>
    have hq' : (match bw_kc o a with | some (.long v) => bq_cn 3 (.long v) | _ => fun _ _ _ _ => none) pc ls st h = some k := hq
    cases hkc : bw_kc o a with
    | none => rw [hkc] at hq'; cases hq'
    | some v =>
      rw [hkc] at hq'
      cases v with
      | long v => exact bz_eq (bz_cn hq')
      | _ => cases hq'
  | ifCond cd off => cases cd <;> exact bz_eq (bz_if hq)
  | if_icmp cd off => cases cd <;> exact bz_eq (bz_cp hq)
  | invokestatic a =>
    have hq' : (match bw_mx o a with | some b => bq_mx b | none => bq_ac (bw_ac o a)) pc ls st h = some k := hq
    cases hmx : bw_mx o a with
    | some b => rw [hmx] at hq'; exact bz_eq (bz_mx hq')
    | none => rw [hmx] at hq'; exact bz_eq (bz_ac hq')
  | _ => exact absurd (show (none : Option bw_C) = some k from hq) (fun z => by cases z)
theorem bw_snd (X : Nat × (Nat → Int32)) : ∀ (n d o nL : Nat) (ini : Bool) (rt : Option FieldType) (cc : ByteArray) (pc : Nat) (ls : bw_L) (st : List Value) (h : bw_H) (v : Option Value) (h' : bw_H), bw_run X n d o nL ini rt cc pc ls st h = some (v, h') →
    (bw_n h ≤ bw_n h' ∧ bw_s h ≤ bw_s h') ∧ ∀ {p : Program} {l : Launch} {e : Env} {R : Room} {s : State} {m : MethodId} {args : Array Value} {below : List Frame} {meth : Method} {c : Code} {D : va_G} {cA : FieldType → ClassId} {g : Nat × Nat × Nat} {cells slots mc ms : Nat}, bw_Cx p s m args meth c D cA g X o nL ini cc → meth.sig.returnType = rt → meth.locks = false → d + 1 ≤ R.frames → 60 * (d + 1) ≤ R.locals → mc ≤ R.cells → ms ≤ R.slots → cells + (bw_n h' - bw_n h) = mc → slots + (bw_s h' - bw_s h) = ms →
      bw_at p l e R s m args below meth c (MQ below (bw_Qc D cA g v h') args s mc ms (bw_A g)) D cA g nL cells slots (pc, ls, st, h) := by
  intro n
  induction n with
  | zero =>
    intro d o nL ini rt cc pc ls st h v h' hr
    unfold bw_run at hr
    cases hr
  | succ n ih =>
    intro d o nL ini rt cc pc ls st h v h' hr
    unfold bw_run at hr
    split at hr
    · cases hr
    · rename_i i len hdg
      split at hr
      · cases hr
      · rename_i hw0
        have hw : len = bw_w i ∨ bw_w i = 0 := Decidable.of_not_not hw0
        split at hr
        · rename_i pc' ls' st' h1 hx1
          obtain ⟨m1, ih1⟩ := ih d o nL ini rt cc pc' ls' st' h1 v h' hr
          have m0 : bw_n h ≤ bw_n h1 ∧ bw_s h ≤ bw_s h1 := bw_x_mono hx1
          refine ⟨⟨Nat.le_trans m0.1 m1.1, Nat.le_trans m0.2 m1.2⟩, ?_⟩
          intro p l e R s m args below meth c D cA g cells slots mc ms C0 hrt hlk hf1 hf2 hc hs ec es
          refine (bw_x_ok C0 hdg hw (by omega) (by omega) hx1 ?_ ?_ ?_).2
          · have z1 := m0.1; have z2 := m1.1; show cells + (bw_n h1 - bw_n h) ≤ _; omega
          · have z1 := m0.2; have z2 := m1.2; show slots + (bw_s h1 - bw_s h) ≤ _; omega
          · exact ih1 C0 hrt hlk hf1 hf2 hc hs (by have z1 := m0.1; have z2 := m1.1; show cells + (bw_n h1 - bw_n h) + (bw_n h' - bw_n h1) = mc; omega) (by have z1 := m0.2; have z2 := m1.2; show slots + (bw_s h1 - bw_s h) + (bw_s h' - bw_s h1) = ms; omega)
        · split at hr
          · rename_i v1 he
            cases hr
            refine ⟨⟨Nat.le_refl _, Nat.le_refl _⟩, ?_⟩
            intro p l e R s m args below meth c D cA g cells slots mc ms C0 hrt hlk hf1 hf2 hc hs ec es
            rw [Nat.sub_self, Nat.add_zero] at ec es
            subst ec es
            exact bw_e_ok C0 hdg hw hrt hlk he
          · split at hr
            · cases hr
            · rename_i d'
              split at hr
              · rename_i M im as r hcc
                split at hr
                · rename_i v1 h1 hrun
                  obtain ⟨m0, ih0⟩ := ih _ _ _ _ _ _ _ _ _ _ _ _ hrun
                  obtain ⟨m1, ih1⟩ := ih _ _ _ _ _ _ _ _ _ _ _ _ hr
                  refine ⟨⟨Nat.le_trans m0.1 m1.1, Nat.le_trans m0.2 m1.2⟩, ?_⟩
                  intro p l e R s m args below meth c D cA g cells slots mc ms C0 hrt hlk hf1 hf2 hc hs ec es
                  have a1 := m0.1
                  have a2 := m0.2
                  have b1 := m1.1
                  have b2 := m1.2
                  refine bw_c_ok (d := d') C0 hdg hw (by omega) (by omega) hcc a1 (by omega) (by omega) (fun hok hnm hlen => ?_) (ih1 C0 hrt hlk hf1 hf2 hc hs (by omega) (by omega))
                  refine Met.ofW (cc := M.2.2.1) (maxL := M.2.2.2.1) (ret := M.2.2.2.2.1) hok.2.2.2.2 rfl ?_
                  intro p e s m args below meth c s₁ B hml hv
                  obtain ⟨rfl, q2, q3, q4, q5, q6, q7, q8, q9, q10⟩ := hv
                  have hts0 := atoms_spec (ws := bw_wz M) B.pre
                  have hts : ∀ w ∈ bw_Ts, w.before ((as.map (bw_tr g)).toArray) s = true := by
                    intro w hw
                    rcases List.mem_append.mp hw with hw | hw
                    · have h0 := (List.mem_filter.mp hw).2
                      simp only [Bool.and_eq_true] at h0
                      exact va_tabs h0.1 rfl (q6 w hw)
                    · exact hts0 w (List.mem_cons_of_mem _ hw)
                  have C1 : bw_Cx p s m ((as.map (bw_tr g)).toArray) meth c D cA g X M.1 M.2.2.2.1 im M.2.2.1 :=
                    ⟨B.exec, B.bytes, hml, by rw [hok.2.2.1]; exact findClass_of_methodNamed B.named, hts, q4, q7, q8, q9, fun hz => ((name_of_methodNamed B.named B.method).1).trans (hnm hz), q5, q10⟩
                  rw [lg_entry_eq]
                  have hlen2 : (lg_sl (as.map (bw_tr g))).length ≤ M.2.2.2.1 := by rw [bw_lgsl]; exact hlen
                  have hl := lv_entry (as.map (bw_tr g)) hlen2
                  rw [bw_lvargs] at hl
                  exact ih0 C1 B.returns B.notSynchronized (Nat.le_refl _) (Nat.le_refl _) (Nat.le_refl _) (Nat.le_refl _) (Nat.zero_add _) (Nat.zero_add _) s.heap [] _ ⟨q3, va_S.rf, q2⟩ hl
                · cases hr
              · cases hr
