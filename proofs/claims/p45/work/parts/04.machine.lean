/-! A small machine of its own: places instead of addresses, contents as functions; what it runs, the JVM runs (part 'sound') -/
abbrev bw_K : Type := Nat ⊕ (FieldType × Nat)
abbrev bw_H : Type := (Nat × Nat) × (Nat → bw_K) × (Nat → Nat → Int32) × (Nat → Nat → Int64) × (Nat → Nat → Option Nat)
abbrev bw_L : Type := List (Nat × Value)
abbrev bw_C : Type := Nat × bw_L × List Value × bw_H
def bw_up {α : Type} (f : Nat → α) (p : Nat) (v : α) : Nat → α := fun a => if a = p then v else f a
def bw_up2 {α : Type} (f : Nat → Nat → α) (p k : Nat) (v : α) : Nat → Nat → α := bw_up f p (bw_up (f p) k v)
def bw_n (h : bw_H) : Nat := h.1.1
def bw_s (h : bw_H) : Nat := h.1.2
def bw_k (h : bw_H) : Nat → bw_K := h.2.1
def bw_i (h : bw_H) : Nat → Nat → Int32 := h.2.2.1
def bw_l (h : bw_H) : Nat → Nat → Int64 := h.2.2.2.1
def bw_r (h : bw_H) : Nat → Nat → Option Nat := h.2.2.2.2
def bw_si (h : bw_H) (p k : Nat) (v : Int32) : bw_H := (h.1, h.2.1, bw_up2 h.2.2.1 p k v, h.2.2.2)
def bw_sl (h : bw_H) (p k : Nat) (v : Int64) : bw_H := (h.1, h.2.1, h.2.2.1, bw_up2 h.2.2.2.1 p k v, h.2.2.2.2)
def bw_sr (h : bw_H) (p k : Nat) (v : Option Nat) : bw_H := (h.1, h.2.1, h.2.2.1, h.2.2.2.1, bw_up2 h.2.2.2.2 p k v)
def bw_sa (h : bw_H) (p : Nat) (f : Nat → Int32) : bw_H := (h.1, h.2.1, bw_up h.2.2.1 p f, h.2.2.2)
/-- a new cell: ints 0, longs 0, references null -/
def bw_nw (h : bw_H) (kd : bw_K) (N : Nat) : bw_H := ((h.1.1 + 1, h.1.2 + N), bw_up h.2.1 h.1.1 kd, bw_up h.2.2.1 h.1.1 (fun _ => 0), bw_up h.2.2.2.1 h.1.1 (fun _ => 0), bw_up h.2.2.2.2 h.1.1 (fun _ => none))
def bw_ty (c k : Nat) : FieldType := match c with
  | 0 => tyX0 k
  | 1 => tyX1 k
  | 2 => tyX2 k
  | 3 => tyX3 k
  | 4 => tyX4 k
  | 5 => tyX5 k
  | 6 => tyX6 k
  | 7 => tyX7 k
  | _ => tyX0 k
def bw_T (c : Nat) : u_T := match c with
  | 0 => TX0
  | 1 => TX1
  | 2 => TX2
  | 3 => TX3
  | 4 => TX4
  | 5 => TX5
  | 6 => TX6
  | 7 => TX7
  | _ => TX0
def bw_N (c : Nat) : Nat := match c with
  | 0 => 1
  | 1 => 10
  | 2 => 4
  | 3 => 4
  | 4 => 4
  | 5 => 3
  | 6 => 6
  | 7 => 14
  | _ => 1
def bw_R (o : Nat) : String := match o with
  | 0 => RX0
  | 1 => RX1
  | 2 => RX2
  | 3 => RX3
  | 4 => RX4
  | 5 => RX5
  | 6 => RX6
  | 7 => RX7
  | 8 => RX0
  | 9 => RL
  | 10 => RJ6
  | 11 => RJ13
  | _ => RJ9
def bw_rf (r : Option Nat) : Value := match r with
  | none => .null
  | some a => .ref a
/-- a field's value: by its type -/
def bw_fv (h : bw_H) (p c k : Nat) : Value := match bw_ty c k with
  | .int => .int (bw_i h p k)
  | .long => .long (bw_l h p k)
  | _ => bw_rf (bw_r h p k)
def bw_lg (ls : bw_L) (i : Nat) : Option Value := (ls.find? (fun q => q.1 == i)).map (fun q => q.2)
def bw_s1 (ls : bw_L) (i : Nat) (v : Value) : bw_L := (i, v) :: ls.filter (fun q => !(q.1 == i) && !(q.1 + 1 == i && q.2.category == 2))
def bw_s2 (ls : bw_L) (i : Nat) (v : Value) : bw_L := (i, v) :: ls.filter (fun q => !(q.1 == i) && (!(q.1 == i + 1) && !(q.1 + 1 == i && q.2.category == 2)))
def bw_jp (pc : Nat) (off : Int) : Option Nat := if 0 ≤ (pc : Int) + off then some ((pc : Int) + off).toNat else none
-- what single instructions do
def bq_il (w k pc : Nat) (ls : bw_L) (st : List Value) (h : bw_H) : Option bw_C := match bw_lg ls k with
  | some (.int x) => some (pc + w, ls, .int x :: st, h)
  | _ => none
def bq_ll (w k pc : Nat) (ls : bw_L) (st : List Value) (h : bw_H) : Option bw_C := match bw_lg ls k with
  | some (.long x) => some (pc + w, ls, .long x :: st, h)
  | _ => none
def bq_al (w k pc : Nat) (ls : bw_L) (st : List Value) (h : bw_H) : Option bw_C := match bw_lg ls k with
  | some (.ref x) => some (pc + w, ls, .ref x :: st, h)
  | some (.retAddr x) => some (pc + w, ls, .retAddr x :: st, h)
  | some .null => some (pc + w, ls, .null :: st, h)
  | _ => none
def bq_is (nL w k pc : Nat) (ls : bw_L) (st : List Value) (h : bw_H) : Option bw_C := match st with
  | .int x :: r => if k < nL then some (pc + w, bw_s1 ls k (.int x), r, h) else none
  | _ => none
def bq_ls (nL w k pc : Nat) (ls : bw_L) (st : List Value) (h : bw_H) : Option bw_C := match st with
  | .long x :: r => if k + 1 < nL then some (pc + w, bw_s2 ls k (.long x), r, h) else none
  | _ => none
def bq_as (nL w k pc : Nat) (ls : bw_L) (st : List Value) (h : bw_H) : Option bw_C := match st with
  | .ref x :: r => if k < nL then some (pc + w, bw_s1 ls k (.ref x), r, h) else none
  | .null :: r => if k < nL then some (pc + w, bw_s1 ls k .null, r, h) else none
  | _ => none
def bq_ic (nL k : Nat) (n : Int) (pc : Nat) (ls : bw_L) (st : List Value) (h : bw_H) : Option bw_C := match bw_lg ls k with
  | some (.int x) => if k < nL then some (pc + 3, bw_s1 ls k (.int (x + Int32.ofInt n)), st, h) else none
  | _ => none
def bq_ii (f : Int32 → Int32 → Int32) (pc : Nat) (ls : bw_L) (st : List Value) (h : bw_H) : Option bw_C := match st with
  | .int y :: .int x :: r => some (pc + 1, ls, .int (f x y) :: r, h)
  | _ => none
def bq_id (f : Int32 → Int32 → Int32) (pc : Nat) (ls : bw_L) (st : List Value) (h : bw_H) : Option bw_C := match st with
  | .int y :: .int x :: r => if y = 0 then none else some (pc + 1, ls, .int (f x y) :: r, h)
  | _ => none
def bq_jj (f : Int64 → Int64 → Int64) (pc : Nat) (ls : bw_L) (st : List Value) (h : bw_H) : Option bw_C := match st with
  | .long y :: .long x :: r => some (pc + 1, ls, .long (f x y) :: r, h)
  | _ => none
def bq_jd (f : Int64 → Int64 → Int64) (pc : Nat) (ls : bw_L) (st : List Value) (h : bw_H) : Option bw_C := match st with
  | .long y :: .long x :: r => if y = 0 then none else some (pc + 1, ls, .long (f x y) :: r, h)
  | _ => none
def bq_i1 (f : Int32 → Value) (pc : Nat) (ls : bw_L) (st : List Value) (h : bw_H) : Option bw_C := match st with
  | .int x :: r => some (pc + 1, ls, f x :: r, h)
  | _ => none
def bq_j1 (f : Int64 → Value) (pc : Nat) (ls : bw_L) (st : List Value) (h : bw_H) : Option bw_C := match st with
  | .long x :: r => some (pc + 1, ls, f x :: r, h)
  | _ => none
def bq_ju (pc : Nat) (ls : bw_L) (st : List Value) (h : bw_H) : Option bw_C := match st with
  | .int y :: .long x :: r => some (pc + 1, ls, .long ((x.toUInt64 >>> (y.toInt64.toUInt64 &&& Int64.toUInt64 63)).toInt64) :: r, h)
  | _ => none
def bq_cm (pc : Nat) (ls : bw_L) (st : List Value) (h : bw_H) : Option bw_C := match st with
  | .long y :: .long x :: r => some (pc + 1, ls, .int (lg_cmp x y) :: r, h)
  | _ => none
def bq_du (pc : Nat) (ls : bw_L) (st : List Value) (h : bw_H) : Option bw_C := match st with
  | v :: r => if v.category = 1 then some (pc + 1, ls, v :: v :: r, h) else none
  | _ => none
def bq_d2 (pc : Nat) (ls : bw_L) (st : List Value) (h : bw_H) : Option bw_C := match st with
  | v :: w :: r => if v.category = 1 ∧ w.category = 1 then some (pc + 1, ls, v :: w :: v :: w :: r, h) else none
  | _ => none
def bq_cn (w : Nat) (v : Value) (pc : Nat) (ls : bw_L) (st : List Value) (h : bw_H) : Option bw_C := some (pc + w, ls, v :: st, h)
def bq_go (off : Int) (pc : Nat) (ls : bw_L) (st : List Value) (h : bw_H) : Option bw_C := match bw_jp pc off with
  | some q => some (q, ls, st, h)
  | none => none
def bq_if (d : Int32 → Bool) (off : Int) (pc : Nat) (ls : bw_L) (st : List Value) (h : bw_H) : Option bw_C := match st with
  | .int x :: r => match bw_jp pc off with
    | some q => some (if d x = true then q else pc + 3, ls, r, h)
    | none => none
  | _ => none
def bq_cp (d : Int32 → Int32 → Bool) (off : Int) (pc : Nat) (ls : bw_L) (st : List Value) (h : bw_H) : Option bw_C := match st with
  | .int y :: .int x :: r => match bw_jp pc off with
    | some q => some (if d x y = true then q else pc + 3, ls, r, h)
    | none => none
  | _ => none
def bq_nu (off : Int) (pc : Nat) (ls : bw_L) (st : List Value) (h : bw_H) : Option bw_C := match st with
  | .null :: r => match bw_jp pc off with
    | some q => some (q, ls, r, h)
    | none => none
  | .ref _ :: r => some (pc + 3, ls, r, h)
  | _ => none
def bq_nn (off : Int) (pc : Nat) (ls : bw_L) (st : List Value) (h : bw_H) : Option bw_C := match st with
  | .ref _ :: r => match bw_jp pc off with
    | some q => some (q, ls, r, h)
    | none => none
  | .null :: r => some (pc + 3, ls, r, h)
  | _ => none
def bq_ts (df lo hi : Int) (offs : Array Int) (pc : Nat) (ls : bw_L) (st : List Value) (h : bw_H) : Option bw_C := match st with
  | .int x :: r => if x.toInt < lo ∨ hi < x.toInt then (match bw_jp pc df with
      | some q => some (q, ls, r, h)
      | none => none)
    else match offs[(x.toInt - lo).toNat]? with
      | some off => (match bw_jp pc off with
        | some q => some (q, ls, r, h)
        | none => none)
      | none => none
  | _ => none
-- the heap's
def bq_gf (f : Option (Nat × Nat)) (pc : Nat) (ls : bw_L) (st : List Value) (h : bw_H) : Option bw_C := match f, st with
  | some (c, k), .ref a :: r => if a < bw_n h ∧ bw_k h a = .inl c then some (pc + 3, ls, bw_fv h a c k :: r, h) else none
  | _, _ => none
def bq_pf (o : Nat) (ini : Bool) (f : Option (Nat × Nat)) (pc : Nat) (ls : bw_L) (st : List Value) (h : bw_H) : Option bw_C := match f, st with
  | some (c, k), v :: .ref a :: r => if a < bw_n h ∧ bw_k h a = .inl c ∧ k < bw_N c ∧ (bw_T c k).2.2.2 = false then (match bw_ty c k, v with
      | .int, .int x => some (pc + 3, ls, r, bw_si h a k x)
      | .long, .long x => some (pc + 3, ls, r, bw_sl h a k x)
      | _, _ => none)
    else if a < bw_n h ∧ bw_k h a = .inl c ∧ k < bw_N c ∧ (bw_T c k).2.2.2 = true ∧ ini = true ∧ c = o then (match bw_ty c k, v with
      | .int, .int x => some (pc + 3, ls, r, bw_si h a k x)
      | .object _, .ref x => some (pc + 3, ls, r, bw_sr h a k (some x))
      | .array _, .ref x => some (pc + 3, ls, r, bw_sr h a k (some x))
      | _, _ => none)
    else none
  | _, _ => none
def bq_gs (b : Bool) (pc : Nat) (ls : bw_L) (st : List Value) (h : bw_H) : Option bw_C := if b = true then some (pc + 3, ls, .retAddr 0 :: st, h) else none
def bw_set6 (j : Nat) : Int64 := match j with
  | 0 => 0xAAAAAAAAAAAAAAAA
  | 1 => 0xCCCCCCCCCCCCCCCC
  | 2 => 0xF0F0F0F0F0F0F0F0
  | 3 => 0xFF00FF00FF00FF00
  | 4 => 0xFFFF0000FFFF0000
  | _ => 0xFFFFFFFF00000000
def bq_la (pc : Nat) (ls : bw_L) (st : List Value) (h : bw_H) : Option bw_C := match st with
  | .int i :: .retAddr 0 :: r => if 0 ≤ i.toInt ∧ i.toInt < 6 then some (pc + 1, ls, .long (bw_set6 i.toNatClampNeg) :: r, h) else none
  | _ => none
def bq_ia (X : Nat × (Nat → Int32)) (pc : Nat) (ls : bw_L) (st : List Value) (h : bw_H) : Option bw_C := match st with
  | .int i :: .retAddr 1 :: r => if 0 ≤ i.toInt ∧ i.toInt < X.1 then some (pc + 1, ls, .int (X.2 i.toNatClampNeg) :: r, h) else none
  | .int i :: .ref a :: r => (match bw_k h a with
    | .inr (ty, N) => if a < bw_n h ∧ ty = .int ∧ 0 ≤ i.toInt ∧ i.toInt < N then some (pc + 1, ls, .int (bw_i h a i.toNatClampNeg) :: r, h) else none
    | _ => none)
  | _ => none
def bq_ba (_pc : Nat) (_ls : bw_L) (_st : List Value) (_h : bw_H) : Option bw_C := none
def bq_aa (pc : Nat) (ls : bw_L) (st : List Value) (h : bw_H) : Option bw_C := match st with
  | .int i :: .ref a :: r => (match bw_k h a with
    | .inr (ty, N) => if a < bw_n h ∧ ty = .object RX1 ∧ 0 ≤ i.toInt ∧ i.toInt < N then some (pc + 1, ls, bw_rf (bw_r h a i.toNatClampNeg) :: r, h) else none
    | _ => none)
  | _ => none
def bq_ist (pc : Nat) (ls : bw_L) (st : List Value) (h : bw_H) : Option bw_C := match st with
  | .int x :: .int i :: .ref a :: r => (match bw_k h a with
    | .inr (ty, N) => if a < bw_n h ∧ ty = .int ∧ 0 ≤ i.toInt ∧ i.toInt < N then some (pc + 1, ls, r, bw_si h a i.toNatClampNeg x) else none
    | _ => none)
  | _ => none
def bq_bst (_pc : Nat) (_ls : bw_L) (_st : List Value) (_h : bw_H) : Option bw_C := none
def bq_ast (pc : Nat) (ls : bw_L) (st : List Value) (h : bw_H) : Option bw_C := match st with
  | .ref x :: .int i :: .ref a :: r => (match bw_k h a with
    | .inr (ty, N) => if a < bw_n h ∧ ty = .object RX1 ∧ x < bw_n h ∧ bw_k h x = .inl 1 ∧ 0 ≤ i.toInt ∧ i.toInt < N then some (pc + 1, ls, r, bw_sr h a i.toNatClampNeg (some x)) else none
    | _ => none)
  | _ => none
def bq_len (X : Nat × (Nat → Int32)) (pc : Nat) (ls : bw_L) (st : List Value) (h : bw_H) : Option bw_C := match st with
  | .retAddr 0 :: r => some (pc + 1, ls, .int 6 :: r, h)
  | .retAddr 1 :: r => some (pc + 1, ls, .int (Int32.ofNat X.1) :: r, h)
  | .ref a :: r => (match bw_k h a with
    | .inr (ty, N) => if a < bw_n h ∧ (ty = .int ∨ ty = .long ∨ ty = .object RX1) then some (pc + 1, ls, .int (Int32.ofNat N) :: r, h) else none
    | _ => none)
  | _ => none
def bq_new (c : Option Nat) (pc : Nat) (ls : bw_L) (st : List Value) (h : bw_H) : Option bw_C := match c with
  | some c => if c < 9 then some (pc + 3, ls, .ref (bw_n h) :: st, bw_nw h (.inl c) (bw_N c)) else none
  | none => none
def bq_na (t : ArrayType) (pc : Nat) (ls : bw_L) (st : List Value) (h : bw_H) : Option bw_C := match t, st with
  | .int, .int n :: r => if 0 ≤ n.toInt ∧ n.toInt < 60000 then some (pc + 2, ls, .ref (bw_n h) :: r, bw_nw h (.inr (.int, n.toNatClampNeg)) n.toNatClampNeg) else none
  | _, _ => none
def bq_an (b : Bool) (pc : Nat) (ls : bw_L) (st : List Value) (h : bw_H) : Option bw_C := match st with
  | .int n :: r => if b = true ∧ 0 ≤ n.toInt ∧ n.toInt < 60000 then some (pc + 3, ls, .ref (bw_n h) :: r, bw_nw h (.inr (.object RX1, n.toNatClampNeg)) n.toNatClampNeg) else none
  | _ => none
def bq_oi (b : Bool) (pc : Nat) (ls : bw_L) (st : List Value) (h : bw_H) : Option bw_C := match st with
  | .ref _ :: r => if b = true ∧ (r.map fun v => v.category).sum ≤ 8 then some (pc + 3, ls, r, h) else none
  | _ => none
def bq_ac (b : Bool) (pc : Nat) (ls : bw_L) (st : List Value) (h : bw_H) : Option bw_C := match st with
  | .int n :: .int dp :: .ref a :: .int sp :: .ref a0 :: r => (match bw_k h a0, bw_k h a with
    | .inr (t0, n0), .inr (t1, n1) => if b = true ∧ (r.map fun v => v.category).sum ≤ 8 ∧ a0 < bw_n h ∧ a < bw_n h ∧ t0 = .int ∧ t1 = .int ∧ 0 ≤ sp.toInt ∧ 0 ≤ dp.toInt ∧ 0 ≤ n.toInt ∧ sp.toInt + n.toInt ≤ n0 ∧ dp.toInt + n.toInt ≤ n1
        then some (pc + 3, ls, r, bw_sa h a (va_cpy (bw_i h a0) (bw_i h a) sp.toNatClampNeg dp.toNatClampNeg n.toNatClampNeg)) else none
    | _, _ => none)
  | _ => none
def bq_mx (b : Bool) (pc : Nat) (ls : bw_L) (st : List Value) (h : bw_H) : Option bw_C := match st with
  | .int y :: .int x :: r => if (r.map fun v => v.category).sum ≤ 8 then some (pc + 3, ls, .int (if b = true then (if x < y then y else x) else (if y < x then y else x)) :: r, h) else none
  | _ => none
