/-! room: what a run takes of the heap's slots -/
theorem rz_eq {h : bw_H} {k : bw_C} (e : k.2.2.2.1 = h.1) : bw_s k.2.2.2 ≤ bw_s h + 60000 * (bw_n k.2.2.2 - bw_n h) := by
  unfold bw_n bw_s
  rw [e]
  exact Nat.le_add_right _ _
theorem rz_nw {h : bw_H} {kd : bw_K} {N : Nat} (hN : N ≤ 60000) : bw_s (bw_nw h kd N) ≤ bw_s h + 60000 * (bw_n (bw_nw h kd N) - bw_n h) := by
  show h.1.2 + N ≤ h.1.2 + 60000 * (h.1.1 + 1 - h.1.1)
  rw [Nat.add_sub_cancel_left]
  omega
theorem bw_N_le (c : Nat) : bw_N c ≤ 60000 := by
  unfold bw_N
  split <;> decide
theorem rz_cl {n : Int32} (h : 0 ≤ n.toInt ∧ n.toInt < 60000) : n.toNatClampNeg ≤ 60000 := by
  have : n.toNatClampNeg = n.toInt.toNat := rfl
  omega
theorem rz_new {c : Option Nat} {pc : Nat} {ls : bw_L} {st : List Value} {h : bw_H} {k : bw_C} (hq : bq_new c pc ls st h = some k) : bw_s k.2.2.2 ≤ bw_s h + 60000 * (bw_n k.2.2.2 - bw_n h) := by
  unfold bq_new at hq
  repeat' split at hq
  all_goals (first | (cases hq; exact rz_nw (bw_N_le _)) | cases hq)
theorem rz_na {t : ArrayType} {pc : Nat} {ls : bw_L} {st : List Value} {h : bw_H} {k : bw_C} (hq : bq_na t pc ls st h = some k) : bw_s k.2.2.2 ≤ bw_s h + 60000 * (bw_n k.2.2.2 - bw_n h) := by
  unfold bq_na at hq
  repeat' split at hq
  all_goals (first | (rename_i hc; cases hq; exact rz_nw (rz_cl hc)) | cases hq)
theorem rz_an {b : Bool} {pc : Nat} {ls : bw_L} {st : List Value} {h : bw_H} {k : bw_C} (hq : bq_an b pc ls st h = some k) : bw_s k.2.2.2 ≤ bw_s h + 60000 * (bw_n k.2.2.2 - bw_n h) := by
  unfold bq_an at hq
  repeat' split at hq
  all_goals (first | (rename_i hc; cases hq; exact rz_nw (rz_cl hc.2)) | cases hq)
theorem bw_x_room {X : Nat × (Nat → Int32)} {o nL : Nat} {ini : Bool} {i : Instr} {pc : Nat} {ls : bw_L} {st : List Value} {h : bw_H} {k : bw_C} (hq : bw_x X o nL ini i pc ls st h = some k) : bw_s k.2.2.2 ≤ bw_s h + 60000 * (bw_n k.2.2.2 - bw_n h) := by
  cases i with
  | iload a => exact rz_eq (bz_il hq)
  | iload_n a => exact rz_eq (bz_il hq)
  | lload a => exact rz_eq (bz_ll hq)
  | lload_n a => exact rz_eq (bz_ll hq)
  | aload a => exact rz_eq (bz_al hq)
  | aload_n a => exact rz_eq (bz_al hq)
  | istore a => exact rz_eq (bz_is hq)
  | istore_n a => exact rz_eq (bz_is hq)
  | lstore a => exact rz_eq (bz_ls hq)
  | lstore_n a => exact rz_eq (bz_ls hq)
  | astore a => exact rz_eq (bz_as hq)
  | astore_n a => exact rz_eq (bz_as hq)
  | iinc a n => exact rz_eq (bz_ic hq)
  | iconst a => exact rz_eq (bz_cn hq)
  | bipush a => exact rz_eq (bz_cn hq)
  | sipush a => exact rz_eq (bz_cn hq)
  | lconst a => exact rz_eq (bz_cn hq)
  | aconst_null => exact rz_eq (bz_cn hq)
  | iadd => exact rz_eq (bz_ii hq)
  | isub => exact rz_eq (bz_ii hq)
  | imul => exact rz_eq (bz_ii hq)
  | iand => exact rz_eq (bz_ii hq)
  | ior => exact rz_eq (bz_ii hq)
  | ixor => exact rz_eq (bz_ii hq)
  | ishl => exact rz_eq (bz_ii hq)
  | ishr => exact rz_eq (bz_ii hq)
  | iushr => exact rz_eq (bz_ii hq)
  | idiv => exact rz_eq (bz_id hq)
  | irem => exact rz_eq (bz_id hq)
  | ladd => exact rz_eq (bz_jj hq)
  | lsub => exact rz_eq (bz_jj hq)
  | lmul => exact rz_eq (bz_jj hq)
  | land => exact rz_eq (bz_jj hq)
  | lor => exact rz_eq (bz_jj hq)
  | lxor => exact rz_eq (bz_jj hq)
  | ldiv => exact rz_eq (bz_jd hq)
  | lrem => exact rz_eq (bz_jd hq)
  | lushr => exact rz_eq (bz_ju hq)
  | ineg => exact rz_eq (bz_i1 hq)
  | lneg => exact rz_eq (bz_j1 hq)
  | i2l => exact rz_eq (bz_i1 hq)
  | i2b => exact rz_eq (bz_i1 hq)
  | l2i => exact rz_eq (bz_j1 hq)
  | lcmp => exact rz_eq (bz_cm hq)
  | dup => exact rz_eq (bz_du hq)
  | dup2 => exact rz_eq (bz_d2 hq)
  | goto a => exact rz_eq (bz_go hq)
  | ifnull a => exact rz_eq (bz_nu hq)
  | ifnonnull a => exact rz_eq (bz_nn hq)
  | tableswitch a b d f => exact rz_eq (bz_ts hq)
  | getfield a => exact rz_eq (bz_gf hq)
  | putfield a => exact rz_eq (bz_pf hq)
  | getstatic a => exact rz_eq (bz_gs hq)
  | laload => exact rz_eq (bz_la hq)
  | iaload => exact rz_eq (bz_ia hq)
  | baload => exact absurd (show (none : Option bw_C) = some k from hq) (fun z => by cases z)
  | aaload => exact rz_eq (bz_aa hq)
  | iastore => exact rz_eq (bz_ist hq)
  | bastore => exact absurd (show (none : Option bw_C) = some k from hq) (fun z => by cases z)
  | aastore => exact rz_eq (bz_ast hq)
  | arraylength => exact rz_eq (bz_len hq)
  | new a => exact rz_new hq
  | newarray a => exact rz_na hq
  | anewarray a => exact rz_an hq
  | invokespecial a => exact rz_eq (bz_oi hq)
  | ldc a =>
    have hq' : (match bw_kc o a with | some (.int v) => bq_cn 2 (.int v) | _ => fun _ _ _ _ => none) pc ls st h = some k := hq
    cases hkc : bw_kc o a with
    | none => rw [hkc] at hq'; cases hq'
    | some v =>
      rw [hkc] at hq'
      cases v with
      | int v => exact rz_eq (bz_cn hq')
      | _ => cases hq'
  | ldc_w a =>
    have hq' : (match bw_kc o a with | some (.int v) => bq_cn 3 (.int v) | _ => fun _ _ _ _ => none) pc ls st h = some k := hq
    cases hkc : bw_kc o a with
    | none => rw [hkc] at hq'; cases hq'
    | some v =>
      rw [hkc] at hq'
      cases v with
      | int v => exact rz_eq (bz_cn hq')
      | _ => cases hq'
  | ldc2_w a =>
    have hq' : (match bw_kc o a with | some (.long v) => bq_cn 3 (.long v) | _ => fun _ _ _ _ => none) pc ls st h = some k := hq
    cases hkc : bw_kc o a with
    | none => rw [hkc] at hq'; cases hq'
    | some v =>
      rw [hkc] at hq'
      cases v with
      | long v => exact rz_eq (bz_cn hq')
      | _ => cases hq'
  | ifCond cd off => cases cd <;> exact rz_eq (bz_if hq)
  | if_icmp cd off => cases cd <;> exact rz_eq (bz_cp hq)
  | invokestatic a =>
    have hq' : (match bw_mx o a with | some b => bq_mx b | none => bq_ac (bw_ac o a)) pc ls st h = some k := hq
    cases hmx : bw_mx o a with
    | some b => rw [hmx] at hq'; exact rz_eq (bz_mx hq')
    | none => rw [hmx] at hq'; exact rz_eq (bz_ac hq')
  | _ => exact absurd (show (none : Option bw_C) = some k from hq) (fun z => by cases z)

theorem bw_room (X : Nat × (Nat → Int32)) : ∀ (n d o nL : Nat) (ini : Bool) (rt : Option FieldType) (cc : ByteArray) (pc : Nat) (ls : bw_L) (st : List Value) (h : bw_H) (v : Option Value) (h' : bw_H), bw_run X n d o nL ini rt cc pc ls st h = some (v, h') → bw_n h ≤ bw_n h' ∧ bw_s h' ≤ bw_s h + 60000 * (bw_n h' - bw_n h) := by
  intro n
  induction n with
  | zero =>
    intro d o nL ini rt cc pc ls st h v h' hr
    unfold bw_run at hr
    cases hr
  | succ n ih =>
    intro d o nL ini rt cc pc ls st h v h' hr
    unfold bw_run at hr
    split at hr
    · cases hr
    · split at hr
      · cases hr
      · split at hr
        · rename_i pc' ls' st' h1 hx1
          obtain ⟨m1, m2⟩ := ih d o nL ini rt cc pc' ls' st' h1 v h' hr
          have a1 : bw_n h ≤ bw_n h1 := (bw_x_mono hx1).1
          have a2 : bw_s h1 ≤ bw_s h + 60000 * (bw_n h1 - bw_n h) := bw_x_room hx1
          exact ⟨by omega, by omega⟩
        · split at hr
          · cases hr
            exact ⟨Nat.le_refl _, by omega⟩
          · split at hr
            · cases hr
            · split at hr
              · split at hr
                · rename_i v1 h1 hrun
                  obtain ⟨m0, m1⟩ := ih _ _ _ _ _ _ _ _ _ _ _ _ hrun
                  obtain ⟨m2, m3⟩ := ih _ _ _ _ _ _ _ _ _ _ _ _ hr
                  exact ⟨by omega, by omega⟩
                · cases hr
              · cases hr
