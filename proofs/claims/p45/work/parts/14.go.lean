/-! walking the small machine: a row an instruction -/
def bw_go (X : Nat × (Nat → Int32)) (d o nL : Nat) (ini : Bool) (rt : Option FieldType) (cc : ByteArray) (pc : Nat) (ls : bw_L) (st : List Value) (h : bw_H) (Q : Option Value → bw_H → Prop) : Prop := ∃ (n : Nat) (v : Option Value) (h' : bw_H), bw_run X n d o nL ini rt cc pc ls st h = some (v, h') ∧ Q v h'
def bw_me (X : Nat × (Nat → Int32)) (d : Nat) (M : bw_M) (im : Bool) (as : List Value) (h : bw_H) (Q : Option Value → bw_H → Prop) : Prop := bw_go X d M.1 M.2.2.2.1 im M.2.2.2.2.1 M.2.2.1 0 (lv_args 0 as) [] h Q
theorem bw_run_mono (X : Nat × (Nat → Int32)) : ∀ (n n' d d' o nL : Nat) (ini : Bool) (rt : Option FieldType) (cc : ByteArray) (pc : Nat) (ls : bw_L) (st : List Value) (h : bw_H) (r : Option Value × bw_H), n ≤ n' → d ≤ d' → bw_run X n d o nL ini rt cc pc ls st h = some r → bw_run X n' d' o nL ini rt cc pc ls st h = some r := by
  intro n
  induction n with
  | zero => intro n' d d' o nL ini rt cc pc ls st h r _ _ hr; unfold bw_run at hr; cases hr
  | succ n ih =>
    intro n' d d' o nL ini rt cc pc ls st h r hn hd hr
    obtain ⟨n1, rfl⟩ : ∃ n1, n' = n1 + 1 := ⟨n' - 1, by omega⟩
    have hn1 : n ≤ n1 := by omega
    unfold bw_run at hr ⊢
    split at hr
    · cases hr
    · rename_i i len hdg
      try simp only
      split at hr
      · cases hr
      · rename_i hw
        rw [if_neg hw]
        split at hr
        · rename_i hx
          exact ih _ _ _ _ _ _ _ _ _ _ _ _ _ hn1 hd hr
        · rename_i hx
          try simp only
          split at hr
          · exact hr
          · try simp only
            split at hr
            · cases hr
            · rename_i d1
              obtain ⟨d2, rfl⟩ : ∃ d2, d' = d2 + 1 := ⟨d' - 1, by omega⟩
              have hd1 : d1 ≤ d2 := by omega
              try simp only
              split at hr
              · rename_i hc
                split at hr
                · rename_i hrun
                  rw [ih _ _ _ _ _ _ _ _ _ _ _ _ _ hn1 hd1 hrun]
                  exact ih _ _ _ _ _ _ _ _ _ _ _ _ _ hn1 hd hr
                · cases hr
              · cases hr
theorem bw_me_mono {X : Nat × (Nat → Int32)} {d d' : Nat} {M : bw_M} {im : Bool} {as : List Value} {h : bw_H} {Q : Option Value → bw_H → Prop} (hd : d ≤ d') (hm : bw_me X d M im as h Q) : bw_me X d' M im as h Q := by
  obtain ⟨n, v, h', h1, h2⟩ := hm
  exact ⟨n, v, h', bw_run_mono X _ _ _ _ _ _ _ _ _ _ _ _ _ _ (Nat.le_refl _) hd h1, h2⟩
theorem go_for {P : Nat → Prop} {N : Nat} (step : ∀ k, k < N → P (k + 1) → P k) (last : P N) : ∀ k, k ≤ N → P k := by
  intro k hk
  obtain ⟨j, rfl⟩ : ∃ j, k = N - j := ⟨N - k, by omega⟩
  clear hk
  induction j with
  | zero => exact last
  | succ j ih =>
    by_cases hj : j < N
    · refine step _ (by omega) ?_
      rw [show N - (j + 1) + 1 = N - j by omega]
      exact ih
    · rw [show N - (j + 1) = N - j by omega]; exact ih
def bi (b : Bool) : Int32 := if b = true then 1 else 0
section GO
variable {X : Nat × (Nat → Int32)} {d o nL : Nat} {ini : Bool} {rt : Option FieldType} {cc : ByteArray} {pc pc' : Nat} {ls : bw_L} {st r : List Value} {h : bw_H} {Q : Option Value → bw_H → Prop}
theorem go_x {i : Instr} {len : Nat} {ls' : bw_L} {st' : List Value} {h' : bw_H} (hd : decode cc pc = .ok (i, len)) (hw : len = bw_w i ∨ bw_w i = 0) (hx : bw_x X o nL ini i pc ls st h = some (pc', ls', st', h')) (K : bw_go X d o nL ini rt cc pc' ls' st' h' Q) : bw_go X d o nL ini rt cc pc ls st h Q := by
  obtain ⟨n, v, h1, h2, h3⟩ := K
  refine ⟨n + 1, v, h1, ?_, h3⟩
  unfold bw_run
  rw [hd]
  try simp only
  rw [if_neg (fun z => z hw), hx]
  exact h2
theorem go_e {i : Instr} {len : Nat} {v : Option Value} (hd : decode cc pc = .ok (i, len)) (hw : len = bw_w i ∨ bw_w i = 0) (hx : bw_x X o nL ini i pc ls st h = none) (he : bw_e rt i st = some v) (hQ : Q v h) : bw_go X d o nL ini rt cc pc ls st h Q := by
  refine ⟨1, v, h, ?_, hQ⟩
  unfold bw_run
  rw [hd]
  try simp only
  rw [if_neg (fun z => z hw), hx]
  try simp only
  rw [he]
theorem go_c {i : Instr} {len : Nat} {M : bw_M} {im : Bool} {as : List Value} (hd : decode cc pc = .ok (i, len)) (hw : len = bw_w i ∨ bw_w i = 0) (hx : bw_x X o nL ini i pc ls st h = none) (he : bw_e rt i st = none) (hc : bw_c o i st h = some (M, im, as, r)) (hm : bw_me X d M im as h (fun v h1 => bw_go X (d + 1) o nL ini rt cc (pc + 3) ls (v.toList ++ r) h1 Q)) : bw_go X (d + 1) o nL ini rt cc pc ls st h Q := by
  obtain ⟨n, v, h1, h2, n2, v2, h3, h4, h5⟩ := hm
  refine ⟨n + n2 + 1, v2, h3, ?_, h5⟩
  unfold bw_run
  rw [hd]
  try simp only
  rw [if_neg (fun z => z hw), hx]
  try simp only
  rw [he]
  try simp only
  rw [hc]
  try simp only
  rw [bw_run_mono X _ _ _ _ _ _ _ _ _ _ _ _ _ _ (Nat.le_add_right n n2) (Nat.le_refl d) h2]
  exact bw_run_mono X _ _ _ _ _ _ _ _ _ _ _ _ _ _ (Nat.le_add_left n2 n) (Nat.le_refl _) h4
theorem go_iload_n {k : Fin 4} {x : Int32} (hd : decode cc pc = .ok (.iload_n k, 1)) (hl : bw_lg ls (k : Nat) = some (.int x)) (K : bw_go X d o nL ini rt cc (pc + 1) ls (.int x :: st) h Q) : bw_go X d o nL ini rt cc pc ls (st) h Q := by
  refine go_x hd (by first | exact Or.inl rfl | exact Or.inr rfl) ?_ K
  show bq_il 1 (k : Nat) pc ls st h = _
  unfold bq_il; rw [hl]
theorem go_iload {k : Nat} {x : Int32} (hd : decode cc pc = .ok (.iload k, 2)) (hl : bw_lg ls k = some (.int x)) (K : bw_go X d o nL ini rt cc (pc + 2) ls (.int x :: st) h Q) : bw_go X d o nL ini rt cc pc ls (st) h Q := by
  refine go_x hd (by first | exact Or.inl rfl | exact Or.inr rfl) ?_ K
  show bq_il 2 k pc ls st h = _
  unfold bq_il; rw [hl]
theorem go_lload_n {k : Fin 4} {x : Int64} (hd : decode cc pc = .ok (.lload_n k, 1)) (hl : bw_lg ls (k : Nat) = some (.long x)) (K : bw_go X d o nL ini rt cc (pc + 1) ls (.long x :: st) h Q) : bw_go X d o nL ini rt cc pc ls (st) h Q := by
  refine go_x hd (by first | exact Or.inl rfl | exact Or.inr rfl) ?_ K
  show bq_ll 1 (k : Nat) pc ls st h = _
  unfold bq_ll; rw [hl]
theorem go_lload {k : Nat} {x : Int64} (hd : decode cc pc = .ok (.lload k, 2)) (hl : bw_lg ls k = some (.long x)) (K : bw_go X d o nL ini rt cc (pc + 2) ls (.long x :: st) h Q) : bw_go X d o nL ini rt cc pc ls (st) h Q := by
  refine go_x hd (by first | exact Or.inl rfl | exact Or.inr rfl) ?_ K
  show bq_ll 2 k pc ls st h = _
  unfold bq_ll; rw [hl]
theorem go_aload_n {k : Fin 4} {x : Nat} (hd : decode cc pc = .ok (.aload_n k, 1)) (hl : bw_lg ls (k : Nat) = some (.ref x)) (K : bw_go X d o nL ini rt cc (pc + 1) ls (.ref x :: st) h Q) : bw_go X d o nL ini rt cc pc ls (st) h Q := by
  refine go_x hd (by first | exact Or.inl rfl | exact Or.inr rfl) ?_ K
  show bq_al 1 (k : Nat) pc ls st h = _
  unfold bq_al; rw [hl]
theorem go_aloadA_n {k : Fin 4} {x : Nat} (hd : decode cc pc = .ok (.aload_n k, 1)) (hl : bw_lg ls (k : Nat) = some (.retAddr x)) (K : bw_go X d o nL ini rt cc (pc + 1) ls (.retAddr x :: st) h Q) : bw_go X d o nL ini rt cc pc ls (st) h Q := by
  refine go_x hd (by first | exact Or.inl rfl | exact Or.inr rfl) ?_ K
  show bq_al 1 (k : Nat) pc ls st h = _
  unfold bq_al; rw [hl]
theorem go_aloadN_n {k : Fin 4} (hd : decode cc pc = .ok (.aload_n k, 1)) (hl : bw_lg ls (k : Nat) = some .null) (K : bw_go X d o nL ini rt cc (pc + 1) ls (.null :: st) h Q) : bw_go X d o nL ini rt cc pc ls (st) h Q := by
  refine go_x hd (by first | exact Or.inl rfl | exact Or.inr rfl) ?_ K
  show bq_al 1 (k : Nat) pc ls st h = _
  unfold bq_al; rw [hl]
theorem go_istore_n {k : Fin 4} {x : Int32} (hd : decode cc pc = .ok (.istore_n k, 1)) (hk : (k : Nat) < nL) (K : bw_go X d o nL ini rt cc (pc + 1) (bw_s1 ls (k : Nat) (.int x)) (r) h Q) : bw_go X d o nL ini rt cc pc ls (.int x :: r) h Q := by
  refine go_x hd (by first | exact Or.inl rfl | exact Or.inr rfl) ?_ K
  show bq_is nL 1 (k : Nat) pc ls (.int x :: r) h = _
  unfold bq_is; (try simp only); rw [if_pos hk]
theorem go_lstore_n {k : Fin 4} {x : Int64} (hd : decode cc pc = .ok (.lstore_n k, 1)) (hk : (k : Nat) + 1 < nL) (K : bw_go X d o nL ini rt cc (pc + 1) (bw_s2 ls (k : Nat) (.long x)) (r) h Q) : bw_go X d o nL ini rt cc pc ls (.long x :: r) h Q := by
  refine go_x hd (by first | exact Or.inl rfl | exact Or.inr rfl) ?_ K
  show bq_ls nL 1 (k : Nat) pc ls (.long x :: r) h = _
  unfold bq_ls; (try simp only); rw [if_pos hk]
theorem go_astore_n {k : Fin 4} {x : Nat} (hd : decode cc pc = .ok (.astore_n k, 1)) (hk : (k : Nat) < nL) (K : bw_go X d o nL ini rt cc (pc + 1) (bw_s1 ls (k : Nat) (.ref x)) (r) h Q) : bw_go X d o nL ini rt cc pc ls (.ref x :: r) h Q := by
  refine go_x hd (by first | exact Or.inl rfl | exact Or.inr rfl) ?_ K
  show bq_as nL 1 (k : Nat) pc ls (.ref x :: r) h = _
  unfold bq_as; (try simp only); rw [if_pos hk]
theorem go_astoreN_n {k : Fin 4} (hd : decode cc pc = .ok (.astore_n k, 1)) (hk : (k : Nat) < nL) (K : bw_go X d o nL ini rt cc (pc + 1) (bw_s1 ls (k : Nat) .null) (r) h Q) : bw_go X d o nL ini rt cc pc ls (.null :: r) h Q := by
  refine go_x hd (by first | exact Or.inl rfl | exact Or.inr rfl) ?_ K
  show bq_as nL 1 (k : Nat) pc ls (.null :: r) h = _
  unfold bq_as; (try simp only); rw [if_pos hk]
theorem go_aload {k : Nat} {x : Nat} (hd : decode cc pc = .ok (.aload k, 2)) (hl : bw_lg ls k = some (.ref x)) (K : bw_go X d o nL ini rt cc (pc + 2) ls (.ref x :: st) h Q) : bw_go X d o nL ini rt cc pc ls (st) h Q := by
  refine go_x hd (by first | exact Or.inl rfl | exact Or.inr rfl) ?_ K
  show bq_al 2 k pc ls st h = _
  unfold bq_al; rw [hl]
theorem go_aloadA {k : Nat} {x : Nat} (hd : decode cc pc = .ok (.aload k, 2)) (hl : bw_lg ls k = some (.retAddr x)) (K : bw_go X d o nL ini rt cc (pc + 2) ls (.retAddr x :: st) h Q) : bw_go X d o nL ini rt cc pc ls (st) h Q := by
  refine go_x hd (by first | exact Or.inl rfl | exact Or.inr rfl) ?_ K
  show bq_al 2 k pc ls st h = _
  unfold bq_al; rw [hl]
theorem go_aloadN {k : Nat} (hd : decode cc pc = .ok (.aload k, 2)) (hl : bw_lg ls k = some .null) (K : bw_go X d o nL ini rt cc (pc + 2) ls (.null :: st) h Q) : bw_go X d o nL ini rt cc pc ls (st) h Q := by
  refine go_x hd (by first | exact Or.inl rfl | exact Or.inr rfl) ?_ K
  show bq_al 2 k pc ls st h = _
  unfold bq_al; rw [hl]
theorem go_istore {k : Nat} {x : Int32} (hd : decode cc pc = .ok (.istore k, 2)) (hk : k < nL) (K : bw_go X d o nL ini rt cc (pc + 2) (bw_s1 ls k (.int x)) (r) h Q) : bw_go X d o nL ini rt cc pc ls (.int x :: r) h Q := by
  refine go_x hd (by first | exact Or.inl rfl | exact Or.inr rfl) ?_ K
  show bq_is nL 2 k pc ls (.int x :: r) h = _
  unfold bq_is; (try simp only); rw [if_pos hk]
theorem go_lstore {k : Nat} {x : Int64} (hd : decode cc pc = .ok (.lstore k, 2)) (hk : k + 1 < nL) (K : bw_go X d o nL ini rt cc (pc + 2) (bw_s2 ls k (.long x)) (r) h Q) : bw_go X d o nL ini rt cc pc ls (.long x :: r) h Q := by
  refine go_x hd (by first | exact Or.inl rfl | exact Or.inr rfl) ?_ K
  show bq_ls nL 2 k pc ls (.long x :: r) h = _
  unfold bq_ls; (try simp only); rw [if_pos hk]
theorem go_astore {k : Nat} {x : Nat} (hd : decode cc pc = .ok (.astore k, 2)) (hk : k < nL) (K : bw_go X d o nL ini rt cc (pc + 2) (bw_s1 ls k (.ref x)) (r) h Q) : bw_go X d o nL ini rt cc pc ls (.ref x :: r) h Q := by
  refine go_x hd (by first | exact Or.inl rfl | exact Or.inr rfl) ?_ K
  show bq_as nL 2 k pc ls (.ref x :: r) h = _
  unfold bq_as; (try simp only); rw [if_pos hk]
theorem go_astoreN {k : Nat} (hd : decode cc pc = .ok (.astore k, 2)) (hk : k < nL) (K : bw_go X d o nL ini rt cc (pc + 2) (bw_s1 ls k .null) (r) h Q) : bw_go X d o nL ini rt cc pc ls (.null :: r) h Q := by
  refine go_x hd (by first | exact Or.inl rfl | exact Or.inr rfl) ?_ K
  show bq_as nL 2 k pc ls (.null :: r) h = _
  unfold bq_as; (try simp only); rw [if_pos hk]
theorem go_iinc {k : Nat} {n : Int} {x v : Int32} (hd : decode cc pc = .ok (.iinc k n, 3)) (hl : bw_lg ls k = some (.int x)) (hv : x + Int32.ofInt n = v) (hk : k < nL) (K : bw_go X d o nL ini rt cc (pc + 3) (bw_s1 ls k (.int v)) (st) h Q) : bw_go X d o nL ini rt cc pc ls (st) h Q := by
  refine go_x hd (by first | exact Or.inl rfl | exact Or.inr rfl) ?_ K
  show bq_ic nL k n pc ls st h = _
  unfold bq_ic; rw [hl]; (try simp only); rw [if_pos hk, hv]
theorem go_iconst {n : Int} (v : Int32) (hd : decode cc pc = .ok (.iconst n, 1)) (hv : Int32.ofInt n = v) (K : bw_go X d o nL ini rt cc (pc + 1) ls (.int v :: st) h Q) : bw_go X d o nL ini rt cc pc ls (st) h Q := by
  refine go_x hd (by first | exact Or.inl rfl | exact Or.inr rfl) ?_ K
  subst hv; rfl
theorem go_bipush {n : Int} (v : Int32) (hd : decode cc pc = .ok (.bipush n, 2)) (hv : (Int8.ofInt n).toInt32 = v) (K : bw_go X d o nL ini rt cc (pc + 2) ls (.int v :: st) h Q) : bw_go X d o nL ini rt cc pc ls (st) h Q := by
  refine go_x hd (by first | exact Or.inl rfl | exact Or.inr rfl) ?_ K
  subst hv; rfl
theorem go_sipush {n : Int} (v : Int32) (hd : decode cc pc = .ok (.sipush n, 3)) (hv : (Int16.ofInt n).toInt32 = v) (K : bw_go X d o nL ini rt cc (pc + 3) ls (.int v :: st) h Q) : bw_go X d o nL ini rt cc pc ls (st) h Q := by
  refine go_x hd (by first | exact Or.inl rfl | exact Or.inr rfl) ?_ K
  subst hv; rfl
theorem go_lconst {n : Fin 2} (v : Int64) (hd : decode cc pc = .ok (.lconst n, 1)) (hv : Int64.ofNat (n : Nat) = v) (K : bw_go X d o nL ini rt cc (pc + 1) ls (.long v :: st) h Q) : bw_go X d o nL ini rt cc pc ls (st) h Q := by
  refine go_x hd (by first | exact Or.inl rfl | exact Or.inr rfl) ?_ K
  subst hv; rfl
theorem go_null (hd : decode cc pc = .ok (.aconst_null, 1)) (K : bw_go X d o nL ini rt cc (pc + 1) ls (.null :: st) h Q) : bw_go X d o nL ini rt cc pc ls (st) h Q := by
  refine go_x hd (by first | exact Or.inl rfl | exact Or.inr rfl) ?_ K
  rfl
theorem go_ldc {ix : Nat} {v : Int32} (hd : decode cc pc = .ok (.ldc ix, 2)) (hc : bw_kc o ix = some (.int v)) (K : bw_go X d o nL ini rt cc (pc + 2) ls (.int v :: st) h Q) : bw_go X d o nL ini rt cc pc ls (st) h Q := by
  refine go_x hd (by first | exact Or.inl rfl | exact Or.inr rfl) ?_ K
  show (match bw_kc o ix with | some (.int v) => bq_cn 2 (.int v) | _ => fun _ _ _ _ => none) pc ls st h = _
  rw [hc]; rfl
theorem go_ldc_w {ix : Nat} {v : Int32} (hd : decode cc pc = .ok (.ldc_w ix, 3)) (hc : bw_kc o ix = some (.int v)) (K : bw_go X d o nL ini rt cc (pc + 3) ls (.int v :: st) h Q) : bw_go X d o nL ini rt cc pc ls (st) h Q := by
  refine go_x hd (by first | exact Or.inl rfl | exact Or.inr rfl) ?_ K
  show (match bw_kc o ix with | some (.int v) => bq_cn 3 (.int v) | _ => fun _ _ _ _ => none) pc ls st h = _
  rw [hc]; rfl
theorem go_ldc2_w {ix : Nat} {v : Int64} (hd : decode cc pc = .ok (.ldc2_w ix, 3)) (hc : bw_kc o ix = some (.long v)) (K : bw_go X d o nL ini rt cc (pc + 3) ls (.long v :: st) h Q) : bw_go X d o nL ini rt cc pc ls (st) h Q := by
  refine go_x hd (by first | exact Or.inl rfl | exact Or.inr rfl) ?_ K
  show (match bw_kc o ix with | some (.long v) => bq_cn 3 (.long v) | _ => fun _ _ _ _ => none) pc ls st h = _
  rw [hc]; rfl
theorem go_iadd {x y : Int32} (hd : decode cc pc = .ok (.iadd, 1)) (K : bw_go X d o nL ini rt cc (pc + 1) ls (.int (x + y) :: r) h Q) : bw_go X d o nL ini rt cc pc ls (.int y :: .int x :: r) h Q := by
  refine go_x hd (by first | exact Or.inl rfl | exact Or.inr rfl) ?_ K
  rfl
theorem go_isub {x y : Int32} (hd : decode cc pc = .ok (.isub, 1)) (K : bw_go X d o nL ini rt cc (pc + 1) ls (.int (x - y) :: r) h Q) : bw_go X d o nL ini rt cc pc ls (.int y :: .int x :: r) h Q := by
  refine go_x hd (by first | exact Or.inl rfl | exact Or.inr rfl) ?_ K
  rfl
theorem go_imul {x y : Int32} (hd : decode cc pc = .ok (.imul, 1)) (K : bw_go X d o nL ini rt cc (pc + 1) ls (.int (x * y) :: r) h Q) : bw_go X d o nL ini rt cc pc ls (.int y :: .int x :: r) h Q := by
  refine go_x hd (by first | exact Or.inl rfl | exact Or.inr rfl) ?_ K
  rfl
theorem go_iand {x y : Int32} (hd : decode cc pc = .ok (.iand, 1)) (K : bw_go X d o nL ini rt cc (pc + 1) ls (.int (x &&& y) :: r) h Q) : bw_go X d o nL ini rt cc pc ls (.int y :: .int x :: r) h Q := by
  refine go_x hd (by first | exact Or.inl rfl | exact Or.inr rfl) ?_ K
  rfl
theorem go_ior {x y : Int32} (hd : decode cc pc = .ok (.ior, 1)) (K : bw_go X d o nL ini rt cc (pc + 1) ls (.int (x ||| y) :: r) h Q) : bw_go X d o nL ini rt cc pc ls (.int y :: .int x :: r) h Q := by
  refine go_x hd (by first | exact Or.inl rfl | exact Or.inr rfl) ?_ K
  rfl
theorem go_ixor {x y : Int32} (hd : decode cc pc = .ok (.ixor, 1)) (K : bw_go X d o nL ini rt cc (pc + 1) ls (.int (x ^^^ y) :: r) h Q) : bw_go X d o nL ini rt cc pc ls (.int y :: .int x :: r) h Q := by
  refine go_x hd (by first | exact Or.inl rfl | exact Or.inr rfl) ?_ K
  rfl
theorem go_ishl {x y : Int32} (hd : decode cc pc = .ok (.ishl, 1)) (K : bw_go X d o nL ini rt cc (pc + 1) ls (.int (x <<< (y &&& 31)) :: r) h Q) : bw_go X d o nL ini rt cc pc ls (.int y :: .int x :: r) h Q := by
  refine go_x hd (by first | exact Or.inl rfl | exact Or.inr rfl) ?_ K
  rfl
theorem go_ishr {x y : Int32} (hd : decode cc pc = .ok (.ishr, 1)) (K : bw_go X d o nL ini rt cc (pc + 1) ls (.int (x >>> (y &&& 31)) :: r) h Q) : bw_go X d o nL ini rt cc pc ls (.int y :: .int x :: r) h Q := by
  refine go_x hd (by first | exact Or.inl rfl | exact Or.inr rfl) ?_ K
  rfl
theorem go_iushr {x y : Int32} (hd : decode cc pc = .ok (.iushr, 1)) (K : bw_go X d o nL ini rt cc (pc + 1) ls (.int ((x.toUInt32 >>> (y.toUInt32 &&& Int32.toUInt32 31)).toInt32) :: r) h Q) : bw_go X d o nL ini rt cc pc ls (.int y :: .int x :: r) h Q := by
  refine go_x hd (by first | exact Or.inl rfl | exact Or.inr rfl) ?_ K
  rfl
theorem go_idiv {x y : Int32} (hd : decode cc pc = .ok (.idiv, 1)) (hn : ¬ y = 0) (K : bw_go X d o nL ini rt cc (pc + 1) ls (.int (x / y) :: r) h Q) : bw_go X d o nL ini rt cc pc ls (.int y :: .int x :: r) h Q := by
  refine go_x hd (by first | exact Or.inl rfl | exact Or.inr rfl) ?_ K
  show bq_id _ pc ls (.int y :: .int x :: r) h = _
  unfold bq_id; (try simp only); rw [if_neg hn]
theorem go_irem {x y : Int32} (hd : decode cc pc = .ok (.irem, 1)) (hn : ¬ y = 0) (K : bw_go X d o nL ini rt cc (pc + 1) ls (.int (x - x / y * y) :: r) h Q) : bw_go X d o nL ini rt cc pc ls (.int y :: .int x :: r) h Q := by
  refine go_x hd (by first | exact Or.inl rfl | exact Or.inr rfl) ?_ K
  show bq_id (fun x y => x - x / y * y) pc ls (.int y :: .int x :: r) h = _
  unfold bq_id; (try simp only); rw [if_neg hn]
theorem go_ladd {x y : Int64} (hd : decode cc pc = .ok (.ladd, 1)) (K : bw_go X d o nL ini rt cc (pc + 1) ls (.long (x + y) :: r) h Q) : bw_go X d o nL ini rt cc pc ls (.long y :: .long x :: r) h Q := by
  refine go_x hd (by first | exact Or.inl rfl | exact Or.inr rfl) ?_ K
  rfl
theorem go_lsub {x y : Int64} (hd : decode cc pc = .ok (.lsub, 1)) (K : bw_go X d o nL ini rt cc (pc + 1) ls (.long (x - y) :: r) h Q) : bw_go X d o nL ini rt cc pc ls (.long y :: .long x :: r) h Q := by
  refine go_x hd (by first | exact Or.inl rfl | exact Or.inr rfl) ?_ K
  rfl
theorem go_lmul {x y : Int64} (hd : decode cc pc = .ok (.lmul, 1)) (K : bw_go X d o nL ini rt cc (pc + 1) ls (.long (x * y) :: r) h Q) : bw_go X d o nL ini rt cc pc ls (.long y :: .long x :: r) h Q := by
  refine go_x hd (by first | exact Or.inl rfl | exact Or.inr rfl) ?_ K
  rfl
theorem go_land {x y : Int64} (hd : decode cc pc = .ok (.land, 1)) (K : bw_go X d o nL ini rt cc (pc + 1) ls (.long (x &&& y) :: r) h Q) : bw_go X d o nL ini rt cc pc ls (.long y :: .long x :: r) h Q := by
  refine go_x hd (by first | exact Or.inl rfl | exact Or.inr rfl) ?_ K
  rfl
theorem go_lor {x y : Int64} (hd : decode cc pc = .ok (.lor, 1)) (K : bw_go X d o nL ini rt cc (pc + 1) ls (.long (x ||| y) :: r) h Q) : bw_go X d o nL ini rt cc pc ls (.long y :: .long x :: r) h Q := by
  refine go_x hd (by first | exact Or.inl rfl | exact Or.inr rfl) ?_ K
  rfl
theorem go_lxor {x y : Int64} (hd : decode cc pc = .ok (.lxor, 1)) (K : bw_go X d o nL ini rt cc (pc + 1) ls (.long (x ^^^ y) :: r) h Q) : bw_go X d o nL ini rt cc pc ls (.long y :: .long x :: r) h Q := by
  refine go_x hd (by first | exact Or.inl rfl | exact Or.inr rfl) ?_ K
  rfl
theorem go_ldiv {x y : Int64} (hd : decode cc pc = .ok (.ldiv, 1)) (hn : ¬ y = 0) (K : bw_go X d o nL ini rt cc (pc + 1) ls (.long (x / y) :: r) h Q) : bw_go X d o nL ini rt cc pc ls (.long y :: .long x :: r) h Q := by
  refine go_x hd (by first | exact Or.inl rfl | exact Or.inr rfl) ?_ K
  show bq_jd _ pc ls (.long y :: .long x :: r) h = _
  unfold bq_jd; (try simp only); rw [if_neg hn]
theorem go_lrem {x y : Int64} (hd : decode cc pc = .ok (.lrem, 1)) (hn : ¬ y = 0) (K : bw_go X d o nL ini rt cc (pc + 1) ls (.long (x - x / y * y) :: r) h Q) : bw_go X d o nL ini rt cc pc ls (.long y :: .long x :: r) h Q := by
  refine go_x hd (by first | exact Or.inl rfl | exact Or.inr rfl) ?_ K
  show bq_jd (fun x y => x - x / y * y) pc ls (.long y :: .long x :: r) h = _
  unfold bq_jd; (try simp only); rw [if_neg hn]
theorem go_lushr {x : Int64} {y : Int32} (hd : decode cc pc = .ok (.lushr, 1)) (K : bw_go X d o nL ini rt cc (pc + 1) ls (.long ((x.toUInt64 >>> (y.toInt64.toUInt64 &&& Int64.toUInt64 63)).toInt64) :: r) h Q) : bw_go X d o nL ini rt cc pc ls (.int y :: .long x :: r) h Q := by
  refine go_x hd (by first | exact Or.inl rfl | exact Or.inr rfl) ?_ K
  rfl
theorem go_ineg {x : Int32} (hd : decode cc pc = .ok (.ineg, 1)) (K : bw_go X d o nL ini rt cc (pc + 1) ls (.int (-x) :: r) h Q) : bw_go X d o nL ini rt cc pc ls (.int x :: r) h Q := by
  refine go_x hd (by first | exact Or.inl rfl | exact Or.inr rfl) ?_ K
  rfl
theorem go_i2l {x : Int32} (hd : decode cc pc = .ok (.i2l, 1)) (K : bw_go X d o nL ini rt cc (pc + 1) ls (.long x.toInt64 :: r) h Q) : bw_go X d o nL ini rt cc pc ls (.int x :: r) h Q := by
  refine go_x hd (by first | exact Or.inl rfl | exact Or.inr rfl) ?_ K
  rfl
theorem go_i2b {x : Int32} (hd : decode cc pc = .ok (.i2b, 1)) (K : bw_go X d o nL ini rt cc (pc + 1) ls (.int x.toInt8.toInt32 :: r) h Q) : bw_go X d o nL ini rt cc pc ls (.int x :: r) h Q := by
  refine go_x hd (by first | exact Or.inl rfl | exact Or.inr rfl) ?_ K
  rfl
theorem go_lneg {x : Int64} (hd : decode cc pc = .ok (.lneg, 1)) (K : bw_go X d o nL ini rt cc (pc + 1) ls (.long (-x) :: r) h Q) : bw_go X d o nL ini rt cc pc ls (.long x :: r) h Q := by
  refine go_x hd (by first | exact Or.inl rfl | exact Or.inr rfl) ?_ K
  rfl
theorem go_l2i {x : Int64} (hd : decode cc pc = .ok (.l2i, 1)) (K : bw_go X d o nL ini rt cc (pc + 1) ls (.int x.toInt32 :: r) h Q) : bw_go X d o nL ini rt cc pc ls (.long x :: r) h Q := by
  refine go_x hd (by first | exact Or.inl rfl | exact Or.inr rfl) ?_ K
  rfl
theorem go_lcmp {x y : Int64} (hd : decode cc pc = .ok (.lcmp, 1)) (K : bw_go X d o nL ini rt cc (pc + 1) ls (.int (lg_cmp x y) :: r) h Q) : bw_go X d o nL ini rt cc pc ls (.long y :: .long x :: r) h Q := by
  refine go_x hd (by first | exact Or.inl rfl | exact Or.inr rfl) ?_ K
  rfl
theorem go_dupI {x : Int32} (hd : decode cc pc = .ok (.dup, 1)) (K : bw_go X d o nL ini rt cc (pc + 1) ls (.int x :: .int x :: r) h Q) : bw_go X d o nL ini rt cc pc ls (.int x :: r) h Q := by
  refine go_x hd (by first | exact Or.inl rfl | exact Or.inr rfl) ?_ K
  rfl
theorem go_dupA {x : Nat} (hd : decode cc pc = .ok (.dup, 1)) (K : bw_go X d o nL ini rt cc (pc + 1) ls (.ref x :: .ref x :: r) h Q) : bw_go X d o nL ini rt cc pc ls (.ref x :: r) h Q := by
  refine go_x hd (by first | exact Or.inl rfl | exact Or.inr rfl) ?_ K
  rfl
theorem go_dup2 {x : Nat} {y : Int32} (hd : decode cc pc = .ok (.dup2, 1)) (K : bw_go X d o nL ini rt cc (pc + 1) ls (.int y :: .ref x :: .int y :: .ref x :: r) h Q) : bw_go X d o nL ini rt cc pc ls (.int y :: .ref x :: r) h Q := by
  refine go_x hd (by first | exact Or.inl rfl | exact Or.inr rfl) ?_ K
  rfl
theorem go_goto {off : Int} (hd : decode cc pc = .ok (.goto off, 3)) (hj : bw_jp pc off = some pc') (K : bw_go X d o nL ini rt cc pc' ls st h Q) : bw_go X d o nL ini rt cc pc ls st h Q := by
  refine go_x hd (Or.inl rfl) ?_ K
  show bq_go off pc ls st h = _
  unfold bq_go; rw [hj]
theorem go_if_eq {x : Int32} {off : Int} (hd : decode cc pc = .ok (.ifCond .eq off, 3)) (hj : bw_jp pc off = some pc') (K1 : x = 0 → bw_go X d o nL ini rt cc pc' ls r h Q) (K2 : ¬ (x = 0) → bw_go X d o nL ini rt cc (pc + 3) ls r h Q) : bw_go X d o nL ini rt cc pc ls (.int x :: r) h Q := by
  by_cases hc : x = 0
  · refine go_x hd (Or.inl rfl) ?_ (K1 hc)
    show bq_if (fun x => decide (x = 0)) off pc ls (.int x :: r) h = _
    unfold bq_if; (try simp only); rw [hj]; (try simp only); rw [if_pos (decide_eq_true hc)]
  · refine go_x hd (Or.inl rfl) ?_ (K2 hc)
    show bq_if (fun x => decide (x = 0)) off pc ls (.int x :: r) h = _
    unfold bq_if; (try simp only); rw [hj]; (try simp only); rw [if_neg (fun z => hc (of_decide_eq_true z))]
theorem go_if_ne {x : Int32} {off : Int} (hd : decode cc pc = .ok (.ifCond .ne off, 3)) (hj : bw_jp pc off = some pc') (K1 : ¬ x = 0 → bw_go X d o nL ini rt cc pc' ls r h Q) (K2 : ¬ (¬ x = 0) → bw_go X d o nL ini rt cc (pc + 3) ls r h Q) : bw_go X d o nL ini rt cc pc ls (.int x :: r) h Q := by
  by_cases hc : ¬ x = 0
  · refine go_x hd (Or.inl rfl) ?_ (K1 hc)
    show bq_if (fun x => decide (¬ x = 0)) off pc ls (.int x :: r) h = _
    unfold bq_if; (try simp only); rw [hj]; (try simp only); rw [if_pos (decide_eq_true hc)]
  · refine go_x hd (Or.inl rfl) ?_ (K2 hc)
    show bq_if (fun x => decide (¬ x = 0)) off pc ls (.int x :: r) h = _
    unfold bq_if; (try simp only); rw [hj]; (try simp only); rw [if_neg (fun z => hc (of_decide_eq_true z))]
theorem go_if_lt {x : Int32} {off : Int} (hd : decode cc pc = .ok (.ifCond .lt off, 3)) (hj : bw_jp pc off = some pc') (K1 : x < 0 → bw_go X d o nL ini rt cc pc' ls r h Q) (K2 : ¬ (x < 0) → bw_go X d o nL ini rt cc (pc + 3) ls r h Q) : bw_go X d o nL ini rt cc pc ls (.int x :: r) h Q := by
  by_cases hc : x < 0
  · refine go_x hd (Or.inl rfl) ?_ (K1 hc)
    show bq_if (fun x => decide (x < 0)) off pc ls (.int x :: r) h = _
    unfold bq_if; (try simp only); rw [hj]; (try simp only); rw [if_pos (decide_eq_true hc)]
  · refine go_x hd (Or.inl rfl) ?_ (K2 hc)
    show bq_if (fun x => decide (x < 0)) off pc ls (.int x :: r) h = _
    unfold bq_if; (try simp only); rw [hj]; (try simp only); rw [if_neg (fun z => hc (of_decide_eq_true z))]
theorem go_if_ge {x : Int32} {off : Int} (hd : decode cc pc = .ok (.ifCond .ge off, 3)) (hj : bw_jp pc off = some pc') (K1 : 0 ≤ x → bw_go X d o nL ini rt cc pc' ls r h Q) (K2 : ¬ (0 ≤ x) → bw_go X d o nL ini rt cc (pc + 3) ls r h Q) : bw_go X d o nL ini rt cc pc ls (.int x :: r) h Q := by
  by_cases hc : 0 ≤ x
  · refine go_x hd (Or.inl rfl) ?_ (K1 hc)
    show bq_if (fun x => decide (0 ≤ x)) off pc ls (.int x :: r) h = _
    unfold bq_if; (try simp only); rw [hj]; (try simp only); rw [if_pos (decide_eq_true hc)]
  · refine go_x hd (Or.inl rfl) ?_ (K2 hc)
    show bq_if (fun x => decide (0 ≤ x)) off pc ls (.int x :: r) h = _
    unfold bq_if; (try simp only); rw [hj]; (try simp only); rw [if_neg (fun z => hc (of_decide_eq_true z))]
theorem go_if_gt {x : Int32} {off : Int} (hd : decode cc pc = .ok (.ifCond .gt off, 3)) (hj : bw_jp pc off = some pc') (K1 : 0 < x → bw_go X d o nL ini rt cc pc' ls r h Q) (K2 : ¬ (0 < x) → bw_go X d o nL ini rt cc (pc + 3) ls r h Q) : bw_go X d o nL ini rt cc pc ls (.int x :: r) h Q := by
  by_cases hc : 0 < x
  · refine go_x hd (Or.inl rfl) ?_ (K1 hc)
    show bq_if (fun x => decide (0 < x)) off pc ls (.int x :: r) h = _
    unfold bq_if; (try simp only); rw [hj]; (try simp only); rw [if_pos (decide_eq_true hc)]
  · refine go_x hd (Or.inl rfl) ?_ (K2 hc)
    show bq_if (fun x => decide (0 < x)) off pc ls (.int x :: r) h = _
    unfold bq_if; (try simp only); rw [hj]; (try simp only); rw [if_neg (fun z => hc (of_decide_eq_true z))]
theorem go_if_le {x : Int32} {off : Int} (hd : decode cc pc = .ok (.ifCond .le off, 3)) (hj : bw_jp pc off = some pc') (K1 : x ≤ 0 → bw_go X d o nL ini rt cc pc' ls r h Q) (K2 : ¬ (x ≤ 0) → bw_go X d o nL ini rt cc (pc + 3) ls r h Q) : bw_go X d o nL ini rt cc pc ls (.int x :: r) h Q := by
  by_cases hc : x ≤ 0
  · refine go_x hd (Or.inl rfl) ?_ (K1 hc)
    show bq_if (fun x => decide (x ≤ 0)) off pc ls (.int x :: r) h = _
    unfold bq_if; (try simp only); rw [hj]; (try simp only); rw [if_pos (decide_eq_true hc)]
  · refine go_x hd (Or.inl rfl) ?_ (K2 hc)
    show bq_if (fun x => decide (x ≤ 0)) off pc ls (.int x :: r) h = _
    unfold bq_if; (try simp only); rw [hj]; (try simp only); rw [if_neg (fun z => hc (of_decide_eq_true z))]
theorem go_icmp_eq {x y : Int32} {off : Int} (hd : decode cc pc = .ok (.if_icmp .eq off, 3)) (hj : bw_jp pc off = some pc') (K1 : x = y → bw_go X d o nL ini rt cc pc' ls r h Q) (K2 : ¬ (x = y) → bw_go X d o nL ini rt cc (pc + 3) ls r h Q) : bw_go X d o nL ini rt cc pc ls (.int y :: .int x :: r) h Q := by
  by_cases hc : x = y
  · refine go_x hd (Or.inl rfl) ?_ (K1 hc)
    show bq_cp (fun x y => decide (x = y)) off pc ls (.int y :: .int x :: r) h = _
    unfold bq_cp; (try simp only); rw [hj]; (try simp only); rw [if_pos (decide_eq_true hc)]
  · refine go_x hd (Or.inl rfl) ?_ (K2 hc)
    show bq_cp (fun x y => decide (x = y)) off pc ls (.int y :: .int x :: r) h = _
    unfold bq_cp; (try simp only); rw [hj]; (try simp only); rw [if_neg (fun z => hc (of_decide_eq_true z))]
theorem go_icmp_ne {x y : Int32} {off : Int} (hd : decode cc pc = .ok (.if_icmp .ne off, 3)) (hj : bw_jp pc off = some pc') (K1 : ¬ x = y → bw_go X d o nL ini rt cc pc' ls r h Q) (K2 : ¬ (¬ x = y) → bw_go X d o nL ini rt cc (pc + 3) ls r h Q) : bw_go X d o nL ini rt cc pc ls (.int y :: .int x :: r) h Q := by
  by_cases hc : ¬ x = y
  · refine go_x hd (Or.inl rfl) ?_ (K1 hc)
    show bq_cp (fun x y => decide (¬ x = y)) off pc ls (.int y :: .int x :: r) h = _
    unfold bq_cp; (try simp only); rw [hj]; (try simp only); rw [if_pos (decide_eq_true hc)]
  · refine go_x hd (Or.inl rfl) ?_ (K2 hc)
    show bq_cp (fun x y => decide (¬ x = y)) off pc ls (.int y :: .int x :: r) h = _
    unfold bq_cp; (try simp only); rw [hj]; (try simp only); rw [if_neg (fun z => hc (of_decide_eq_true z))]
theorem go_icmp_lt {x y : Int32} {off : Int} (hd : decode cc pc = .ok (.if_icmp .lt off, 3)) (hj : bw_jp pc off = some pc') (K1 : x < y → bw_go X d o nL ini rt cc pc' ls r h Q) (K2 : ¬ (x < y) → bw_go X d o nL ini rt cc (pc + 3) ls r h Q) : bw_go X d o nL ini rt cc pc ls (.int y :: .int x :: r) h Q := by
  by_cases hc : x < y
  · refine go_x hd (Or.inl rfl) ?_ (K1 hc)
    show bq_cp (fun x y => decide (x < y)) off pc ls (.int y :: .int x :: r) h = _
    unfold bq_cp; (try simp only); rw [hj]; (try simp only); rw [if_pos (decide_eq_true hc)]
  · refine go_x hd (Or.inl rfl) ?_ (K2 hc)
    show bq_cp (fun x y => decide (x < y)) off pc ls (.int y :: .int x :: r) h = _
    unfold bq_cp; (try simp only); rw [hj]; (try simp only); rw [if_neg (fun z => hc (of_decide_eq_true z))]
theorem go_icmp_ge {x y : Int32} {off : Int} (hd : decode cc pc = .ok (.if_icmp .ge off, 3)) (hj : bw_jp pc off = some pc') (K1 : y ≤ x → bw_go X d o nL ini rt cc pc' ls r h Q) (K2 : ¬ (y ≤ x) → bw_go X d o nL ini rt cc (pc + 3) ls r h Q) : bw_go X d o nL ini rt cc pc ls (.int y :: .int x :: r) h Q := by
  by_cases hc : y ≤ x
  · refine go_x hd (Or.inl rfl) ?_ (K1 hc)
    show bq_cp (fun x y => decide (y ≤ x)) off pc ls (.int y :: .int x :: r) h = _
    unfold bq_cp; (try simp only); rw [hj]; (try simp only); rw [if_pos (decide_eq_true hc)]
  · refine go_x hd (Or.inl rfl) ?_ (K2 hc)
    show bq_cp (fun x y => decide (y ≤ x)) off pc ls (.int y :: .int x :: r) h = _
    unfold bq_cp; (try simp only); rw [hj]; (try simp only); rw [if_neg (fun z => hc (of_decide_eq_true z))]
theorem go_icmp_gt {x y : Int32} {off : Int} (hd : decode cc pc = .ok (.if_icmp .gt off, 3)) (hj : bw_jp pc off = some pc') (K1 : y < x → bw_go X d o nL ini rt cc pc' ls r h Q) (K2 : ¬ (y < x) → bw_go X d o nL ini rt cc (pc + 3) ls r h Q) : bw_go X d o nL ini rt cc pc ls (.int y :: .int x :: r) h Q := by
  by_cases hc : y < x
  · refine go_x hd (Or.inl rfl) ?_ (K1 hc)
    show bq_cp (fun x y => decide (y < x)) off pc ls (.int y :: .int x :: r) h = _
    unfold bq_cp; (try simp only); rw [hj]; (try simp only); rw [if_pos (decide_eq_true hc)]
  · refine go_x hd (Or.inl rfl) ?_ (K2 hc)
    show bq_cp (fun x y => decide (y < x)) off pc ls (.int y :: .int x :: r) h = _
    unfold bq_cp; (try simp only); rw [hj]; (try simp only); rw [if_neg (fun z => hc (of_decide_eq_true z))]
theorem go_icmp_le {x y : Int32} {off : Int} (hd : decode cc pc = .ok (.if_icmp .le off, 3)) (hj : bw_jp pc off = some pc') (K1 : x ≤ y → bw_go X d o nL ini rt cc pc' ls r h Q) (K2 : ¬ (x ≤ y) → bw_go X d o nL ini rt cc (pc + 3) ls r h Q) : bw_go X d o nL ini rt cc pc ls (.int y :: .int x :: r) h Q := by
  by_cases hc : x ≤ y
  · refine go_x hd (Or.inl rfl) ?_ (K1 hc)
    show bq_cp (fun x y => decide (x ≤ y)) off pc ls (.int y :: .int x :: r) h = _
    unfold bq_cp; (try simp only); rw [hj]; (try simp only); rw [if_pos (decide_eq_true hc)]
  · refine go_x hd (Or.inl rfl) ?_ (K2 hc)
    show bq_cp (fun x y => decide (x ≤ y)) off pc ls (.int y :: .int x :: r) h = _
    unfold bq_cp; (try simp only); rw [hj]; (try simp only); rw [if_neg (fun z => hc (of_decide_eq_true z))]
theorem go_ifb_eq {b : Bool} {off : Int} (hd : decode cc pc = .ok (.ifCond .eq off, 3)) (hj : bw_jp pc off = some pc') (K1 : b = false → bw_go X d o nL ini rt cc pc' ls r h Q) (K2 : b = true → bw_go X d o nL ini rt cc (pc + 3) ls r h Q) : bw_go X d o nL ini rt cc pc ls (.int (bi b) :: r) h Q := by
  refine go_if_eq hd hj (fun z => K1 ?_) (fun z => K2 ?_) <;> (cases b <;> first | rfl | (exact absurd z (by decide)) | (exact absurd (by decide) z))
theorem go_ifb_ne {b : Bool} {off : Int} (hd : decode cc pc = .ok (.ifCond .ne off, 3)) (hj : bw_jp pc off = some pc') (K1 : b = true → bw_go X d o nL ini rt cc pc' ls r h Q) (K2 : b = false → bw_go X d o nL ini rt cc (pc + 3) ls r h Q) : bw_go X d o nL ini rt cc pc ls (.int (bi b) :: r) h Q := by
  refine go_if_ne hd hj (fun z => K1 ?_) (fun z => K2 ?_) <;> (cases b <;> first | rfl | (exact absurd z (by decide)) | (exact absurd (by decide) z))
theorem go_nuN {off : Int} (hd : decode cc pc = .ok (.ifnull off, 3)) (hj : bw_jp pc off = some pc') (K : bw_go X d o nL ini rt cc pc' ls r h Q) : bw_go X d o nL ini rt cc pc ls (.null :: r) h Q := by
  refine go_x hd (Or.inl rfl) ?_ K
  show bq_nu off pc ls (.null :: r) h = _
  unfold bq_nu; (try simp only); rw [hj]
theorem go_nuR {off : Int} {x : Nat} (hd : decode cc pc = .ok (.ifnull off, 3)) (K : bw_go X d o nL ini rt cc (pc + 3) ls r h Q) : bw_go X d o nL ini rt cc pc ls (.ref x :: r) h Q := go_x hd (Or.inl rfl) rfl K
theorem go_nnR {off : Int} {x : Nat} (hd : decode cc pc = .ok (.ifnonnull off, 3)) (hj : bw_jp pc off = some pc') (K : bw_go X d o nL ini rt cc pc' ls r h Q) : bw_go X d o nL ini rt cc pc ls (.ref x :: r) h Q := by
  refine go_x hd (Or.inl rfl) ?_ K
  show bq_nn off pc ls (.ref x :: r) h = _
  unfold bq_nn; (try simp only); rw [hj]
theorem go_nnN {off : Int} (hd : decode cc pc = .ok (.ifnonnull off, 3)) (K : bw_go X d o nL ini rt cc (pc + 3) ls r h Q) : bw_go X d o nL ini rt cc pc ls (.null :: r) h Q := go_x hd (Or.inl rfl) rfl K
theorem go_tsOut {df lo hi : Int} {offs : Array Int} {len : Nat} {x : Int32} (hd : decode cc pc = .ok (.tableswitch df lo hi offs, len)) (hx : x.toInt < lo ∨ hi < x.toInt) (hj : bw_jp pc df = some pc') (K : bw_go X d o nL ini rt cc pc' ls r h Q) : bw_go X d o nL ini rt cc pc ls (.int x :: r) h Q := by
  refine go_x hd (Or.inr rfl) ?_ K
  show bq_ts df lo hi offs pc ls (.int x :: r) h = _
  unfold bq_ts; (try simp only); rw [if_pos hx, hj]
theorem go_tsIn {df lo hi : Int} {offs : Array Int} {len : Nat} {x : Int32} {off : Int} (hd : decode cc pc = .ok (.tableswitch df lo hi offs, len)) (h1 : lo ≤ x.toInt) (h2 : x.toInt ≤ hi) (ho : offs[(x.toInt - lo).toNat]? = some off) (hj : bw_jp pc off = some pc') (K : bw_go X d o nL ini rt cc pc' ls r h Q) : bw_go X d o nL ini rt cc pc ls (.int x :: r) h Q := by
  refine go_x hd (Or.inr rfl) ?_ K
  show bq_ts df lo hi offs pc ls (.int x :: r) h = _
  unfold bq_ts; (try simp only); rw [if_neg (by omega), ho]; (try simp only); rw [hj]
theorem go_gfi {ix c k a : Nat} (hd : decode cc pc = .ok (.getfield ix, 3)) (hf : bw_fl o ix = some (c, k)) (hty : bw_ty c k = .int) (ha : a < bw_n h) (hk : bw_k h a = .inl c) (K : bw_go X d o nL ini rt cc (pc + 3) ls (.int (bw_i h a k) :: r) h Q) : bw_go X d o nL ini rt cc pc ls (.ref a :: r) h Q := by
  refine go_x hd (Or.inl rfl) ?_ K
  show bq_gf (bw_fl o ix) pc ls (.ref a :: r) h = _
  rw [hf]; unfold bq_gf; (try simp only); rw [if_pos ⟨ha, hk⟩]; unfold bw_fv; rw [hty]
theorem go_gfl {ix c k a : Nat} (hd : decode cc pc = .ok (.getfield ix, 3)) (hf : bw_fl o ix = some (c, k)) (hty : bw_ty c k = .long) (ha : a < bw_n h) (hk : bw_k h a = .inl c) (K : bw_go X d o nL ini rt cc (pc + 3) ls (.long (bw_l h a k) :: r) h Q) : bw_go X d o nL ini rt cc pc ls (.ref a :: r) h Q := by
  refine go_x hd (Or.inl rfl) ?_ K
  show bq_gf (bw_fl o ix) pc ls (.ref a :: r) h = _
  rw [hf]; unfold bq_gf; (try simp only); rw [if_pos ⟨ha, hk⟩]; unfold bw_fv; rw [hty]
def bw_isR (t : FieldType) : Bool := match t with
  | .int => false
  | .long => false
  | _ => true
theorem go_gfr {ix c k a b : Nat} (hd : decode cc pc = .ok (.getfield ix, 3)) (hf : bw_fl o ix = some (c, k)) (hty : bw_isR (bw_ty c k) = true) (ha : a < bw_n h) (hk : bw_k h a = .inl c) (hb : bw_r h a k = some b) (K : bw_go X d o nL ini rt cc (pc + 3) ls (.ref b :: r) h Q) : bw_go X d o nL ini rt cc pc ls (.ref a :: r) h Q := by
  refine go_x hd (Or.inl rfl) ?_ K
  show bq_gf (bw_fl o ix) pc ls (.ref a :: r) h = _
  rw [hf]; unfold bq_gf; (try simp only); rw [if_pos ⟨ha, hk⟩]; unfold bw_fv bw_isR at *
  revert hty
  cases bw_ty c k <;> simp [hb, bw_rf]
theorem go_pfi {ix c k a : Nat} {x : Int32} (hd : decode cc pc = .ok (.putfield ix, 3)) (hf : bw_fl o ix = some (c, k)) (hty : bw_ty c k = .int) (ha : a < bw_n h) (hk : bw_k h a = .inl c) (hN : k < bw_N c) (hfin : (bw_T c k).2.2.2 = false ∨ ((bw_T c k).2.2.2 = true ∧ ini = true ∧ c = o)) (K : bw_go X d o nL ini rt cc (pc + 3) ls r (bw_si h a k x) Q) : bw_go X d o nL ini rt cc pc ls (.int x :: .ref a :: r) h Q := by
  refine go_x hd (Or.inl rfl) ?_ K
  show bq_pf o ini (bw_fl o ix) pc ls (.int x :: .ref a :: r) h = _
  rw [hf]; unfold bq_pf; simp only
  rcases hfin with hf1 | hf1
  · rw [if_pos ⟨ha, hk, hN, hf1⟩, hty]
  · rw [if_neg (fun z => by rw [hf1.1] at z; exact Bool.noConfusion z.2.2.2), if_pos ⟨ha, hk, hN, hf1⟩, hty]
theorem go_pfl {ix c k a : Nat} {x : Int64} (hd : decode cc pc = .ok (.putfield ix, 3)) (hf : bw_fl o ix = some (c, k)) (hty : bw_ty c k = .long) (ha : a < bw_n h) (hk : bw_k h a = .inl c) (hN : k < bw_N c) (hfin : (bw_T c k).2.2.2 = false) (K : bw_go X d o nL ini rt cc (pc + 3) ls r (bw_sl h a k x) Q) : bw_go X d o nL ini rt cc pc ls (.long x :: .ref a :: r) h Q := by
  refine go_x hd (Or.inl rfl) ?_ K
  show bq_pf o ini (bw_fl o ix) pc ls (.long x :: .ref a :: r) h = _
  rw [hf]; unfold bq_pf; simp only
  rw [if_pos ⟨ha, hk, hN, hfin⟩, hty]
theorem go_pfr {ix c k a x : Nat} (hd : decode cc pc = .ok (.putfield ix, 3)) (hf : bw_fl o ix = some (c, k)) (hty : (∃ n, bw_ty c k = .object n) ∨ ∃ n, bw_ty c k = .array n) (ha : a < bw_n h) (hk : bw_k h a = .inl c) (hN : k < bw_N c) (hfin : (bw_T c k).2.2.2 = true ∧ ini = true ∧ c = o) (K : bw_go X d o nL ini rt cc (pc + 3) ls r (bw_sr h a k (some x)) Q) : bw_go X d o nL ini rt cc pc ls (.ref x :: .ref a :: r) h Q := by
  refine go_x hd (Or.inl rfl) ?_ K
  show bq_pf o ini (bw_fl o ix) pc ls (.ref x :: .ref a :: r) h = _
  rw [hf]; unfold bq_pf; simp only
  rw [if_neg (fun z => by rw [hfin.1] at z; exact Bool.noConfusion z.2.2.2), if_pos ⟨ha, hk, hN, hfin⟩]
  rcases hty with ⟨n, hn⟩ | ⟨n, hn⟩ <;> rw [hn]
theorem go_gs {ix : Nat} (hd : decode cc pc = .ok (.getstatic ix, 3)) (hs : bw_st o ix = true) (K : bw_go X d o nL ini rt cc (pc + 3) ls (.retAddr 0 :: st) h Q) : bw_go X d o nL ini rt cc pc ls st h Q := by
  refine go_x hd (Or.inl rfl) ?_ K
  show bq_gs (bw_st o ix) pc ls st h = _
  unfold bq_gs; rw [if_pos hs]
theorem go_la {i : Int32} (hd : decode cc pc = .ok (.laload, 1)) (h1 : 0 ≤ i.toInt ∧ i.toInt < 6) (K : bw_go X d o nL ini rt cc (pc + 1) ls (.long (bw_set6 i.toNatClampNeg) :: r) h Q) : bw_go X d o nL ini rt cc pc ls (.int i :: .retAddr 0 :: r) h Q := by
  refine go_x hd (Or.inl rfl) ?_ K
  show bq_la pc ls (.int i :: .retAddr 0 :: r) h = _
  unfold bq_la; (try simp only); rw [if_pos h1]
theorem go_len0 (hd : decode cc pc = .ok (.arraylength, 1)) (K : bw_go X d o nL ini rt cc (pc + 1) ls (.int 6 :: r) h Q) : bw_go X d o nL ini rt cc pc ls (.retAddr 0 :: r) h Q := go_x hd (Or.inl rfl) rfl K
theorem go_len1 (hd : decode cc pc = .ok (.arraylength, 1)) (K : bw_go X d o nL ini rt cc (pc + 1) ls (.int (nI X.1) :: r) h Q) : bw_go X d o nL ini rt cc pc ls (.retAddr 1 :: r) h Q := go_x hd (Or.inl rfl) rfl K
theorem go_len {a N : Nat} {ty : FieldType} (hd : decode cc pc = .ok (.arraylength, 1)) (hk : bw_k h a = .inr (ty, N)) (ha : a < bw_n h) (hty : ty = .int ∨ ty = .long ∨ ty = .object RX1) (K : bw_go X d o nL ini rt cc (pc + 1) ls (.int (nI N) :: r) h Q) : bw_go X d o nL ini rt cc pc ls (.ref a :: r) h Q := by
  refine go_x hd (Or.inl rfl) ?_ K
  show bq_len X pc ls (.ref a :: r) h = _
  unfold bq_len; (try simp only); rw [hk]; (try simp only); rw [if_pos ⟨ha, hty⟩]; rfl
theorem go_ia1 {i : Int32} (hd : decode cc pc = .ok (.iaload, 1)) (h1 : 0 ≤ i.toInt ∧ i.toInt < X.1) (K : bw_go X d o nL ini rt cc (pc + 1) ls (.int (X.2 i.toNatClampNeg) :: r) h Q) : bw_go X d o nL ini rt cc pc ls (.int i :: .retAddr 1 :: r) h Q := by
  refine go_x hd (Or.inl rfl) ?_ K
  show bq_ia X pc ls (.int i :: .retAddr 1 :: r) h = _
  unfold bq_ia; (try simp only); rw [if_pos h1]
theorem go_ia {a N : Nat} {i : Int32} (hd : decode cc pc = .ok (.iaload, 1)) (hk : bw_k h a = .inr (.int, N)) (ha : a < bw_n h) (h1 : 0 ≤ i.toInt ∧ i.toInt < N) (K : bw_go X d o nL ini rt cc (pc + 1) ls (.int (bw_i h a i.toNatClampNeg) :: r) h Q) : bw_go X d o nL ini rt cc pc ls (.int i :: .ref a :: r) h Q := by
  refine go_x hd (Or.inl rfl) ?_ K
  show bq_ia X pc ls (.int i :: .ref a :: r) h = _
  unfold bq_ia; (try simp only); rw [hk]; (try simp only); rw [if_pos ⟨ha, trivial, h1.1, h1.2⟩]
theorem go_aaR {a N b : Nat} {i : Int32} (hd : decode cc pc = .ok (.aaload, 1)) (hk : bw_k h a = .inr (.object RX1, N)) (ha : a < bw_n h) (h1 : 0 ≤ i.toInt ∧ i.toInt < N) (hb : bw_r h a i.toNatClampNeg = some b) (K : bw_go X d o nL ini rt cc (pc + 1) ls (.ref b :: r) h Q) : bw_go X d o nL ini rt cc pc ls (.int i :: .ref a :: r) h Q := by
  refine go_x hd (Or.inl rfl) ?_ K
  show bq_aa pc ls (.int i :: .ref a :: r) h = _
  unfold bq_aa; (try simp only); rw [hk]; (try simp only); rw [if_pos ⟨ha, trivial, h1.1, h1.2⟩, hb]; rfl
theorem go_aaN {a N : Nat} {i : Int32} (hd : decode cc pc = .ok (.aaload, 1)) (hk : bw_k h a = .inr (.object RX1, N)) (ha : a < bw_n h) (h1 : 0 ≤ i.toInt ∧ i.toInt < N) (hb : bw_r h a i.toNatClampNeg = none) (K : bw_go X d o nL ini rt cc (pc + 1) ls (.null :: r) h Q) : bw_go X d o nL ini rt cc pc ls (.int i :: .ref a :: r) h Q := by
  refine go_x hd (Or.inl rfl) ?_ K
  show bq_aa pc ls (.int i :: .ref a :: r) h = _
  unfold bq_aa; (try simp only); rw [hk]; (try simp only); rw [if_pos ⟨ha, trivial, h1.1, h1.2⟩, hb]; rfl
theorem go_ist {a N : Nat} {i x : Int32} (hd : decode cc pc = .ok (.iastore, 1)) (hk : bw_k h a = .inr (.int, N)) (ha : a < bw_n h) (h1 : 0 ≤ i.toInt ∧ i.toInt < N) (K : bw_go X d o nL ini rt cc (pc + 1) ls r (bw_si h a i.toNatClampNeg x) Q) : bw_go X d o nL ini rt cc pc ls (.int x :: .int i :: .ref a :: r) h Q := by
  refine go_x hd (Or.inl rfl) ?_ K
  show bq_ist pc ls (.int x :: .int i :: .ref a :: r) h = _
  unfold bq_ist; (try simp only); rw [hk]; (try simp only); rw [if_pos ⟨ha, trivial, h1.1, h1.2⟩]
theorem go_ast {a N x : Nat} {i : Int32} (hd : decode cc pc = .ok (.aastore, 1)) (hk : bw_k h a = .inr (.object RX1, N)) (ha : a < bw_n h) (hx : x < bw_n h) (hkx : bw_k h x = .inl 1) (h1 : 0 ≤ i.toInt ∧ i.toInt < N) (K : bw_go X d o nL ini rt cc (pc + 1) ls r (bw_sr h a i.toNatClampNeg (some x)) Q) : bw_go X d o nL ini rt cc pc ls (.ref x :: .int i :: .ref a :: r) h Q := by
  refine go_x hd (Or.inl rfl) ?_ K
  show bq_ast pc ls (.ref x :: .int i :: .ref a :: r) h = _
  unfold bq_ast; (try simp only); rw [hk]; (try simp only); rw [if_pos ⟨ha, trivial, hx, hkx, h1.1, h1.2⟩]
theorem go_new {ix c : Nat} (hd : decode cc pc = .ok (.new ix, 3)) (hc : bw_cl o ix = some c) (h9 : c < 9) (K : bw_go X d o nL ini rt cc (pc + 3) ls (.ref (bw_n h) :: st) (bw_nw h (.inl c) (bw_N c)) Q) : bw_go X d o nL ini rt cc pc ls st h Q := by
  refine go_x hd (Or.inl rfl) ?_ K
  show bq_new (bw_cl o ix) pc ls st h = _
  rw [hc]; unfold bq_new; (try simp only); rw [if_pos h9]
theorem go_naI {n : Int32} (hd : decode cc pc = .ok (.newarray .int, 2)) (h1 : 0 ≤ n.toInt ∧ n.toInt < 60000) (K : bw_go X d o nL ini rt cc (pc + 2) ls (.ref (bw_n h) :: r) (bw_nw h (.inr (.int, n.toNatClampNeg)) n.toNatClampNeg) Q) : bw_go X d o nL ini rt cc pc ls (.int n :: r) h Q := by
  refine go_x hd (Or.inl rfl) ?_ K
  show bq_na .int pc ls (.int n :: r) h = _
  unfold bq_na; (try simp only); rw [if_pos h1]
theorem go_an {n : Int32} {ix : Nat} (hd : decode cc pc = .ok (.anewarray ix, 3)) (hb : bw_an o ix = true) (h1 : 0 ≤ n.toInt ∧ n.toInt < 60000) (K : bw_go X d o nL ini rt cc (pc + 3) ls (.ref (bw_n h) :: r) (bw_nw h (.inr (.object RX1, n.toNatClampNeg)) n.toNatClampNeg) Q) : bw_go X d o nL ini rt cc pc ls (.int n :: r) h Q := by
  refine go_x hd (Or.inl rfl) ?_ K
  show bq_an (bw_an o ix) pc ls (.int n :: r) h = _
  unfold bq_an; (try simp only); rw [if_pos ⟨hb, h1⟩]
theorem go_oi {a ix : Nat} (hd : decode cc pc = .ok (.invokespecial ix, 3)) (hb : bw_oi o ix = true) (hs : (r.map fun v => v.category).sum ≤ 8) (K : bw_go X d o nL ini rt cc (pc + 3) ls r h Q) : bw_go X d o nL ini rt cc pc ls (.ref a :: r) h Q := by
  refine go_x hd (Or.inl rfl) ?_ K
  show bq_oi (bw_oi o ix) pc ls (.ref a :: r) h = _
  unfold bq_oi; (try simp only); rw [if_pos ⟨hb, hs⟩]
theorem go_max {x y : Int32} {ix : Nat} (hd : decode cc pc = .ok (.invokestatic ix, 3)) (hb : bw_mx o ix = some true) (hs : (r.map fun v => v.category).sum ≤ 8) (K : bw_go X d o nL ini rt cc (pc + 3) ls (.int (if x < y then y else x) :: r) h Q) : bw_go X d o nL ini rt cc pc ls (.int y :: .int x :: r) h Q := by
  refine go_x hd (Or.inl rfl) ?_ K
  show (match bw_mx o ix with | some b => bq_mx b | none => bq_ac (bw_ac o ix)) pc ls (.int y :: .int x :: r) h = _
  rw [hb]; (try simp only); unfold bq_mx; (try simp only); rw [if_pos hs]; rfl
theorem go_min {x y : Int32} {ix : Nat} (hd : decode cc pc = .ok (.invokestatic ix, 3)) (hb : bw_mx o ix = some false) (hs : (r.map fun v => v.category).sum ≤ 8) (K : bw_go X d o nL ini rt cc (pc + 3) ls (.int (if y < x then y else x) :: r) h Q) : bw_go X d o nL ini rt cc pc ls (.int y :: .int x :: r) h Q := by
  refine go_x hd (Or.inl rfl) ?_ K
  show (match bw_mx o ix with | some b => bq_mx b | none => bq_ac (bw_ac o ix)) pc ls (.int y :: .int x :: r) h = _
  rw [hb]; (try simp only); unfold bq_mx; (try simp only); rw [if_pos hs]; rfl
theorem go_ac {a a0 ix n0 n1 : Nat} {n dp sp : Int32} (hd : decode cc pc = .ok (.invokestatic ix, 3)) (hmx : bw_mx o ix = none) (hb : bw_ac o ix = true) (hs : (r.map fun v => v.category).sum ≤ 8) (hk0 : bw_k h a0 = .inr (.int, n0)) (hk : bw_k h a = .inr (.int, n1)) (ha0 : a0 < bw_n h) (ha : a < bw_n h) (hh : 0 ≤ sp.toInt ∧ 0 ≤ dp.toInt ∧ 0 ≤ n.toInt ∧ sp.toInt + n.toInt ≤ n0 ∧ dp.toInt + n.toInt ≤ n1) (K : bw_go X d o nL ini rt cc (pc + 3) ls r (bw_sa h a (va_cpy (bw_i h a0) (bw_i h a) sp.toNatClampNeg dp.toNatClampNeg n.toNatClampNeg)) Q) : bw_go X d o nL ini rt cc pc ls (.int n :: .int dp :: .ref a :: .int sp :: .ref a0 :: r) h Q := by
  refine go_x hd (Or.inl rfl) ?_ K
  show (match bw_mx o ix with | some b => bq_mx b | none => bq_ac (bw_ac o ix)) pc ls (.int n :: .int dp :: .ref a :: .int sp :: .ref a0 :: r) h = _
  rw [hmx]; (try simp only); unfold bq_ac; (try simp only); rw [hk0, hk]; (try simp only); rw [if_pos ⟨hb, hs, ha0, ha, trivial, trivial, hh⟩]
theorem go_iret {v : Int32} {ty : FieldType} (hd : decode cc pc = .ok (.ireturn, 1)) (hrt : rt = some ty) (hn : narrow ty (.int v) = .int v) (hQ : Q (some (.int v)) h) : bw_go X d o nL ini rt cc pc ls [.int v] h Q := by
  refine go_e hd (Or.inl rfl) rfl ?_ hQ
  subst hrt
  unfold bw_e; (try simp only); rw [if_pos hn]
theorem go_lret {v : Int64} (hd : decode cc pc = .ok (.lreturn, 1)) (hrt : rt = some .long) (hQ : Q (some (.long v)) h) : bw_go X d o nL ini rt cc pc ls [.long v] h Q := by
  refine go_e hd (Or.inl rfl) rfl ?_ hQ
  subst hrt
  rfl
theorem go_aret {a : Nat} {C : String} (hd : decode cc pc = .ok (.areturn, 1)) (hrt : rt = some (.object C)) (hQ : Q (some (.ref a)) h) : bw_go X d o nL ini rt cc pc ls [.ref a] h Q := by
  refine go_e hd (Or.inl rfl) rfl ?_ hQ
  subst hrt
  rfl
theorem go_aretN {C : String} (hd : decode cc pc = .ok (.areturn, 1)) (hrt : rt = some (.object C)) (hQ : Q (some .null) h) : bw_go X d o nL ini rt cc pc ls [.null] h Q := by
  refine go_e hd (Or.inl rfl) rfl ?_ hQ
  subst hrt
  rfl
theorem go_vret (hd : decode cc pc = .ok (.return_, 1)) (hrt : rt = none) (hQ : Q none h) : bw_go X d o nL ini rt cc pc ls [] h Q := by
  refine go_e hd (Or.inl rfl) rfl ?_ hQ
  subst hrt
  rfl
theorem go_cs {ix kd : Nat} {M : bw_M} {as : List Value} (d' : Nat) (hd : decode cc pc = .ok (.invokestatic ix, 3)) (hmx : bw_mx o ix = none) (hac : bw_ac o ix = false) (hm : bw_mt o ix = some (kd, M)) (hkd : kd ≤ 1) (hst : st = as.reverse ++ r) (hn : M.2.2.2.2.2 = as.length) (hs : (r.map fun v => v.category).sum ≤ 8) (hl : (lg_sl as).length ≤ M.2.2.2.1) (h30 : M.2.2.2.1 ≤ 30) (hdd : d' ≤ d) (K : bw_me X d' M false as h (fun v h1 => bw_go X (d + 1) o nL ini rt cc (pc + 3) ls (v.toList ++ r) h1 Q)) : bw_go X (d + 1) o nL ini rt cc pc ls st h Q := by
  refine go_c (M := M) (im := false) (as := as) (r := r) hd (Or.inl rfl) ?_ ?_ ?_ (bw_me_mono hdd K)
  · show (match bw_mx o ix with | some b => bq_mx b | none => bq_ac (bw_ac o ix)) pc ls st h = _
    rw [hmx, hac]; (try simp only); unfold bq_ac
    repeat' split
    all_goals first | rfl | (rename_i z; exact absurd z.1 (by decide))
  · rfl
  · subst hst
    have e1 : ((as.reverse ++ r).take as.length).reverse = as := by rw [← List.length_reverse, List.take_left, List.reverse_reverse]
    have e2 : (as.reverse ++ r).drop as.length = r := by rw [← List.length_reverse, List.drop_left]
    unfold bw_c; (try simp only); rw [hm]; (try simp only); rw [hn, e1, e2, if_pos ⟨hkd, by rw [List.length_append, List.length_reverse]; omega, hs, hl, h30⟩]
theorem go_cv {ix kd a : Nat} {M : bw_M} {as : List Value} (d' : Nat) (hd : decode cc pc = .ok (.invokevirtual ix, 3)) (hm : bw_mt o ix = some (kd, M)) (hkd : kd = 2 ∨ kd = 3) (hst : st = as.reverse ++ .ref a :: r) (hn : M.2.2.2.2.2 = as.length) (ha : a < bw_n h) (hk : bw_k h a = .inl M.1) (h9 : M.1 < 9) (hs : (r.map fun v => v.category).sum ≤ 8) (hl : (lg_sl (.ref a :: as)).length ≤ M.2.2.2.1) (h30 : M.2.2.2.1 ≤ 30) (hdd : d' ≤ d) (K : bw_me X d' M false (.ref a :: as) h (fun v h1 => bw_go X (d + 1) o nL ini rt cc (pc + 3) ls (v.toList ++ r) h1 Q)) : bw_go X (d + 1) o nL ini rt cc pc ls st h Q := by
  refine go_c (M := M) (im := false) (as := .ref a :: as) (r := r) hd (Or.inl rfl) rfl rfl ?_ (bw_me_mono hdd K)
  subst hst
  have e1 : ((as.reverse ++ .ref a :: r).take as.length).reverse = as := by rw [← List.length_reverse, List.take_left, List.reverse_reverse]
  have e2 : (as.reverse ++ .ref a :: r).drop as.length = .ref a :: r := by rw [← List.length_reverse, List.drop_left]
  unfold bw_c; (try simp only); rw [hm]; (try simp only); rw [hn, e1, e2]; (try simp only); rw [if_pos ⟨hkd, by rw [List.length_append, List.length_reverse]; omega, ha, hk, h9, hs, hl, h30⟩]
theorem go_ci {ix kd a : Nat} {M : bw_M} {as : List Value} (d' : Nat) (hd : decode cc pc = .ok (.invokespecial ix, 3)) (hoi : bw_oi o ix = false) (hm : bw_mt o ix = some (kd, M)) (hkd : kd = 4 ∨ kd = 5) (hst : st = as.reverse ++ .ref a :: r) (hn : M.2.2.2.2.2 = as.length) (hnm : M.2.1.name = "<init>") (hrt : M.2.2.2.2.1 = none) (hs : (r.map fun v => v.category).sum ≤ 8) (hl : (lg_sl (.ref a :: as)).length ≤ M.2.2.2.1) (h30 : M.2.2.2.1 ≤ 30) (hdd : d' ≤ d) (K : bw_me X d' M true (.ref a :: as) h (fun v h1 => bw_go X (d + 1) o nL ini rt cc (pc + 3) ls (v.toList ++ r) h1 Q)) : bw_go X (d + 1) o nL ini rt cc pc ls st h Q := by
  refine go_c (M := M) (im := true) (as := .ref a :: as) (r := r) hd (Or.inl rfl) ?_ rfl ?_ (bw_me_mono hdd K)
  · show bq_oi (bw_oi o ix) pc ls st h = _
    rw [hoi]; unfold bq_oi
    repeat' split
    all_goals first | rfl | (rename_i z; exact absurd z.1 (by decide))
  subst hst
  have e1 : ((as.reverse ++ .ref a :: r).take as.length).reverse = as := by rw [← List.length_reverse, List.take_left, List.reverse_reverse]
  have e2 : (as.reverse ++ .ref a :: r).drop as.length = .ref a :: r := by rw [← List.length_reverse, List.drop_left]
  unfold bw_c; (try simp only); rw [hm]; (try simp only); rw [hn, e1, e2]; (try simp only); rw [if_pos ⟨hkd, by rw [List.length_append, List.length_reverse]; omega, hnm, hrt, hs, hl, h30⟩]
end GO
