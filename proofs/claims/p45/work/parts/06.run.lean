/-- one instruction that is neither a call nor an end -/
def bw_x (X : Nat × (Nat → Int32)) (o nL : Nat) (ini : Bool) (i : Instr) : Nat → bw_L → List Value → bw_H → Option bw_C := match i with
  | .iload_n k => bq_il 1 (k : Nat)
  | .iload k => bq_il 2 k
  | .lload_n k => bq_ll 1 (k : Nat)
  | .lload k => bq_ll 2 k
  | .aload_n k => bq_al 1 (k : Nat)
  | .aload k => bq_al 2 k
  | .istore_n k => bq_is nL 1 (k : Nat)
  | .istore k => bq_is nL 2 k
  | .lstore_n k => bq_ls nL 1 (k : Nat)
  | .lstore k => bq_ls nL 2 k
  | .astore_n k => bq_as nL 1 (k : Nat)
  | .astore k => bq_as nL 2 k
  | .iinc k n => bq_ic nL k n
  | .iconst n => bq_cn 1 (.int (Int32.ofInt n))
  | .bipush n => bq_cn 2 (.int (Int8.ofInt n).toInt32)
  | .sipush n => bq_cn 3 (.int (Int16.ofInt n).toInt32)
  | .lconst n => bq_cn 1 (.long (Int64.ofNat (n : Nat)))
  | .aconst_null => bq_cn 1 .null
  | .ldc ix => match bw_kc o ix with
    | some (.int v) => bq_cn 2 (.int v)
    | _ => fun _ _ _ _ => none
  | .ldc_w ix => match bw_kc o ix with
    | some (.int v) => bq_cn 3 (.int v)
    | _ => fun _ _ _ _ => none
  | .ldc2_w ix => match bw_kc o ix with
    | some (.long v) => bq_cn 3 (.long v)
    | _ => fun _ _ _ _ => none
  | .iadd => bq_ii (fun x y => x + y)
  | .isub => bq_ii (fun x y => x - y)
  | .imul => bq_ii (fun x y => x * y)
  | .iand => bq_ii (fun x y => x &&& y)
  | .ior => bq_ii (fun x y => x ||| y)
  | .ixor => bq_ii (fun x y => x ^^^ y)
  | .ishl => bq_ii (fun x y => x <<< (y &&& 31))
  | .ishr => bq_ii (fun x y => x >>> (y &&& 31))
  | .iushr => bq_ii (fun x y => (x.toUInt32 >>> (y.toUInt32 &&& Int32.toUInt32 31)).toInt32)
  | .idiv => bq_id (fun x y => x / y)
  | .irem => bq_id (fun x y => x - x / y * y)
  | .ladd => bq_jj (fun x y => x + y)
  | .lsub => bq_jj (fun x y => x - y)
  | .lmul => bq_jj (fun x y => x * y)
  | .land => bq_jj (fun x y => x &&& y)
  | .lor => bq_jj (fun x y => x ||| y)
  | .lxor => bq_jj (fun x y => x ^^^ y)
  | .ldiv => bq_jd (fun x y => x / y)
  | .lrem => bq_jd (fun x y => x - x / y * y)
  | .lushr => bq_ju
  | .ineg => bq_i1 (fun x => .int (-x))
  | .i2l => bq_i1 (fun x => .long x.toInt64)
  | .i2b => bq_i1 (fun x => .int x.toInt8.toInt32)
  | .lneg => bq_j1 (fun x => .long (-x))
  | .l2i => bq_j1 (fun x => .int x.toInt32)
  | .lcmp => bq_cm
  | .dup => bq_du
  | .dup2 => bq_d2
  | .goto off => bq_go off
  | .ifCond .eq off => bq_if (fun x => decide (x = 0)) off
  | .ifCond .ne off => bq_if (fun x => decide (¬ x = 0)) off
  | .ifCond .lt off => bq_if (fun x => decide (x < 0)) off
  | .ifCond .ge off => bq_if (fun x => decide (0 ≤ x)) off
  | .ifCond .gt off => bq_if (fun x => decide (0 < x)) off
  | .ifCond .le off => bq_if (fun x => decide (x ≤ 0)) off
  | .if_icmp .eq off => bq_cp (fun x y => decide (x = y)) off
  | .if_icmp .ne off => bq_cp (fun x y => decide (¬ x = y)) off
  | .if_icmp .lt off => bq_cp (fun x y => decide (x < y)) off
  | .if_icmp .ge off => bq_cp (fun x y => decide (y ≤ x)) off
  | .if_icmp .gt off => bq_cp (fun x y => decide (y < x)) off
  | .if_icmp .le off => bq_cp (fun x y => decide (x ≤ y)) off
  | .ifnull off => bq_nu off
  | .ifnonnull off => bq_nn off
  | .tableswitch df lo hi offs => bq_ts df lo hi offs
  | .getfield ix => bq_gf (bw_fl o ix)
  | .putfield ix => bq_pf o ini (bw_fl o ix)
  | .getstatic ix => bq_gs (bw_st o ix)
  | .laload => bq_la
  | .iaload => bq_ia X
  | .baload => bq_ba
  | .aaload => bq_aa
  | .iastore => bq_ist
  | .bastore => bq_bst
  | .aastore => bq_ast
  | .arraylength => bq_len X
  | .new ix => bq_new (bw_cl o ix)
  | .newarray t => bq_na t
  | .anewarray ix => bq_an (bw_an o ix)
  | .invokespecial ix => bq_oi (bw_oi o ix)
  | .invokestatic ix => (match bw_mx o ix with
    | some b => bq_mx b
    | none => bq_ac (bw_ac o ix))
  | _ => fun _ _ _ _ => none
/-- an end: what is returned -/
def bw_e (rt : Option FieldType) (i : Instr) (st : List Value) : Option (Option Value) := match i, st with
  | .ireturn, [.int v] => (match rt with
    | some ty => if narrow ty (.int v) = .int v then some (some (.int v)) else none
    | none => none)
  | .lreturn, [.long v] => if rt = some .long then some (some (.long v)) else none
  | .areturn, [.ref a] => (match rt with
    | some (.object _) => some (some (.ref a))
    | _ => none)
  | .areturn, [.null] => (match rt with
    | some (.object _) => some (some .null)
    | _ => none)
  | .return_, [] => if rt = none then some none else none
  | _, _ => none
/-- a call: by its kind (0 static, 2 virtual, 4 init; 1 more: of a nest mate), the method, its arguments (receiver first), the rest -/
def bw_c (o : Nat) (i : Instr) (st : List Value) (h : bw_H) : Option (bw_M × Bool × List Value × List Value) := match i with
  | .invokestatic ix => (match bw_mt o ix with
    | some (kd, M) => if kd ≤ 1 ∧ M.2.2.2.2.2 ≤ st.length ∧ ((st.drop M.2.2.2.2.2).map fun v => v.category).sum ≤ 8 ∧ (lg_sl (st.take M.2.2.2.2.2).reverse).length ≤ M.2.2.2.1 ∧ M.2.2.2.1 ≤ 30
        then some (M, false, (st.take M.2.2.2.2.2).reverse, st.drop M.2.2.2.2.2) else none
    | none => none)
  | .invokevirtual ix => (match bw_mt o ix with
    | some (kd, M) => (match st.drop M.2.2.2.2.2 with
      | .ref a :: r => if (kd = 2 ∨ kd = 3) ∧ M.2.2.2.2.2 ≤ st.length ∧ a < bw_n h ∧ bw_k h a = .inl M.1 ∧ M.1 < 9 ∧ (r.map fun v => v.category).sum ≤ 8 ∧ (lg_sl (.ref a :: (st.take M.2.2.2.2.2).reverse)).length ≤ M.2.2.2.1 ∧ M.2.2.2.1 ≤ 30
        then some (M, false, .ref a :: (st.take M.2.2.2.2.2).reverse, r) else none
      | _ => none)
    | none => none)
  | .invokespecial ix => (match bw_mt o ix with
    | some (kd, M) => (match st.drop M.2.2.2.2.2 with
      | .ref a :: r => if (kd = 4 ∨ kd = 5) ∧ M.2.2.2.2.2 ≤ st.length ∧ M.2.1.name = "<init>" ∧ M.2.2.2.2.1 = none ∧ (r.map fun v => v.category).sum ≤ 8 ∧ (lg_sl (.ref a :: (st.take M.2.2.2.2.2).reverse)).length ≤ M.2.2.2.1 ∧ M.2.2.2.1 ≤ 30
        then some (M, true, .ref a :: (st.take M.2.2.2.2.2).reverse, r) else none
      | _ => none)
    | none => none)
  | _ => none
/-- how long an instruction is (0: by its table) -/
def bw_w (i : Instr) : Nat := match i with
  | .iload _ | .lload _ | .aload _ | .istore _ | .lstore _ | .astore _ | .bipush _ | .ldc _ | .newarray _ => 2
  | .sipush _ | .ldc_w _ | .ldc2_w _ | .iinc _ _ | .goto _ | .ifCond _ _ | .if_icmp _ _ | .ifnull _ | .ifnonnull _ | .getfield _ | .putfield _ | .getstatic _ | .new _ | .anewarray _ | .invokestatic _ | .invokevirtual _ | .invokespecial _ => 3
  | .tableswitch _ _ _ _ => 0
  | _ => 1
/-- runs n steps at most (of the method and of all that it calls), at most d calls deep -/
def bw_run (X : Nat × (Nat → Int32)) : Nat → Nat → Nat → Nat → Bool → Option FieldType → ByteArray → Nat → bw_L → List Value → bw_H → Option (Option Value × bw_H)
  | 0, _, _, _, _, _, _, _, _, _, _ => none
  | n + 1, d, o, nL, ini, rt, cc, pc, ls, st, h => match decode cc pc with
    | .error _ => none
    | .ok (i, len) => if ¬ (len = bw_w i ∨ bw_w i = 0) then none else match bw_x X o nL ini i pc ls st h with
      | some (pc', ls', st', h') => bw_run X n d o nL ini rt cc pc' ls' st' h'
      | none => match bw_e rt i st with
        | some v => some (v, h)
        | none => match d with
          | 0 => none
          | d' + 1 => match bw_c o i st h with
            | some (M, im, as, r) => (match bw_run X n d' M.1 M.2.2.2.1 im M.2.2.2.2.1 M.2.2.1 0 (lv_args 0 as) [] h with
              | some (v, h1) => bw_run X n d o nL ini rt cc (pc + 3) ls (v.toList ++ r) h1
              | none => none)
            | none => none
