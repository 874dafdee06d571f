/-! references stay among what is made -/
def vl (n : Nat) (v : Value) : Prop := match v with
  | .ref a => a < n
  | _ => True
def vst (n : Nat) : List Value → Prop
  | [] => True
  | v :: r => vl n v ∧ vst n r
def vls (n : Nat) : bw_L → Prop
  | [] => True
  | q :: r => vl n q.2 ∧ vls n r
def cl (h : bw_H) : Prop := ∀ p j y, bw_r h p j = some y → y < bw_n h
theorem vl_m {n m : Nat} (h : n ≤ m) {v : Value} (a : vl n v) : vl m v := by
  cases v with
  | ref a => exact Nat.lt_of_lt_of_le (show _ < n from by assumption) h
  | _ => trivial
theorem vst_m {n m : Nat} (h : n ≤ m) : ∀ {st : List Value}, vst n st → vst m st
  | [], _ => trivial
  | _ :: _, a => ⟨vl_m h a.1, vst_m h a.2⟩
theorem vls_m {n m : Nat} (h : n ≤ m) : ∀ {ls : bw_L}, vls n ls → vls m ls
  | [], _ => trivial
  | _ :: _, a => ⟨vl_m h a.1, vls_m h a.2⟩
theorem vst_f {n : Nat} {st : List Value} : vst n st ↔ ∀ v ∈ st, vl n v := by
  induction st with
  | nil => exact ⟨fun _ v h => absurd h List.not_mem_nil, fun _ => trivial⟩
  | cons a r ih =>
    constructor
    · intro h v hv
      rcases List.mem_cons.mp hv with rfl | hv
      · exact h.1
      · exact ih.mp h.2 v hv
    · intro h
      exact ⟨h a List.mem_cons_self, ih.mpr (fun v hv => h v (List.mem_cons_of_mem _ hv))⟩
theorem vls_f {n : Nat} {ls : bw_L} : vls n ls ↔ ∀ q ∈ ls, vl n q.2 := by
  induction ls with
  | nil => exact ⟨fun _ v h => absurd h List.not_mem_nil, fun _ => trivial⟩
  | cons a r ih =>
    constructor
    · intro h v hv
      rcases List.mem_cons.mp hv with rfl | hv
      · exact h.1
      · exact ih.mp h.2 v hv
    · intro h
      exact ⟨h a List.mem_cons_self, ih.mpr (fun v hv => h v (List.mem_cons_of_mem _ hv))⟩
theorem vls_lg {n i : Nat} {ls : bw_L} {v : Value} (h : vls n ls) (e : bw_lg ls i = some v) : vl n v := vls_f.mp h (i, v) (bw_lg_mem e)
theorem vls_s1 {n i : Nat} {ls : bw_L} {v : Value} (h : vls n ls) (hv : vl n v) : vls n (bw_s1 ls i v) := ⟨hv, vls_f.mpr (fun q hq => vls_f.mp h q (List.mem_filter.mp hq).1)⟩
theorem vls_s2 {n i : Nat} {ls : bw_L} {v : Value} (h : vls n ls) (hv : vl n v) : vls n (bw_s2 ls i v) := ⟨hv, vls_f.mpr (fun q hq => vls_f.mp h q (List.mem_filter.mp hq).1)⟩
theorem cl_nw {h : bw_H} (hc : cl h) (kd : bw_K) (N : Nat) : cl (bw_nw h kd N) := fun p j y e => by
  have e : bw_up (bw_r h) (bw_n h) (fun _ => none) p j = some y := e
  show y < bw_n h + 1
  by_cases hp : p = bw_n h
  · subst hp
    rw [bw_up_s] at e
    cases e
  · rw [bw_up_o hp] at e
    exact Nat.lt_succ_of_lt (hc p j y e)
theorem cl_sr {h : bw_H} (hc : cl h) {a k x : Nat} (hx : x < bw_n h) : cl (bw_sr h a k (some x)) := fun p j y e => by
  have e : bw_up2 (bw_r h) a k (some x) p j = some y := e
  show y < bw_n h
  unfold bw_up2 at e
  by_cases hp : p = a
  · subst hp
    rw [bw_up_s] at e
    by_cases hj : j = k
    · subst hj; rw [bw_up_s] at e; cases e; exact hx
    · rw [bw_up_o hj] at e; exact hc p j y e
  · rw [bw_up_o hp] at e
    exact hc p j y e
theorem cl_rf {h : bw_H} (hc : cl h) (p j : Nat) : vl (bw_n h) (bw_rf (bw_r h p j)) := by
  cases e : bw_r h p j with
  | none => trivial
  | some y => exact hc p j y e
theorem cl_fv {h : bw_H} (hc : cl h) (p c j : Nat) : vl (bw_n h) (bw_fv h p c j) := by
  unfold bw_fv
  split
  · trivial
  · trivial
  · exact cl_rf hc p j
def cq (f : Nat → bw_L → List Value → bw_H → Option bw_C) : Prop := ∀ (pc : Nat) (ls : bw_L) (st : List Value) (h : bw_H) (k : bw_C), cl h → vls (bw_n h) ls → vst (bw_n h) st → f pc ls st h = some k → cl k.2.2.2 ∧ vls (bw_n k.2.2.2) k.2.1 ∧ vst (bw_n k.2.2.2) k.2.2.1
theorem cq_il {w k : Nat} : cq (bq_il w k) := by
  intro pc ls st h k hc hl hs hq
  unfold bq_il at hq
  repeat' split at hq
  all_goals first | cases hq | skip
  all_goals first | exact ⟨hc, hl, trivial, hs⟩ | exact ⟨hc, hl, vls_lg hl (by assumption), hs⟩
theorem cq_ll {w k : Nat} : cq (bq_ll w k) := by
  intro pc ls st h k hc hl hs hq
  unfold bq_ll at hq
  repeat' split at hq
  all_goals first | cases hq | skip
  all_goals first | exact ⟨hc, hl, trivial, hs⟩ | exact ⟨hc, hl, vls_lg hl (by assumption), hs⟩
theorem cq_al {w k : Nat} : cq (bq_al w k) := by
  intro pc ls st h k hc hl hs hq
  unfold bq_al at hq
  repeat' split at hq
  all_goals first | cases hq | skip
  all_goals first | exact ⟨hc, hl, trivial, hs⟩ | exact ⟨hc, hl, vls_lg hl (by assumption), hs⟩
theorem cq_is {nL w k : Nat} : cq (bq_is nL w k) := by
  intro pc ls st h k hc hl hs hq
  unfold bq_is at hq
  repeat' split at hq
  all_goals first | cases hq | skip
  all_goals first | exact ⟨hc, vls_s1 hl hs.1, hs.2⟩ | exact ⟨hc, vls_s1 hl trivial, hs.2⟩ | exact ⟨hc, vls_s1 hl trivial, hs⟩
theorem cq_as {nL w k : Nat} : cq (bq_as nL w k) := by
  intro pc ls st h k hc hl hs hq
  unfold bq_as at hq
  repeat' split at hq
  all_goals first | cases hq | skip
  all_goals first | exact ⟨hc, vls_s1 hl hs.1, hs.2⟩ | exact ⟨hc, vls_s1 hl trivial, hs.2⟩ | exact ⟨hc, vls_s1 hl trivial, hs⟩
theorem cq_ic {nL k : Nat} {n : Int} : cq (bq_ic nL k n) := by
  intro pc ls st h k hc hl hs hq
  unfold bq_ic at hq
  repeat' split at hq
  all_goals first | cases hq | skip
  all_goals first | exact ⟨hc, vls_s1 hl hs.1, hs.2⟩ | exact ⟨hc, vls_s1 hl trivial, hs.2⟩ | exact ⟨hc, vls_s1 hl trivial, hs⟩
theorem cq_ls {nL w k : Nat} : cq (bq_ls nL w k) := by
  intro pc ls st h k hc hl hs hq
  unfold bq_ls at hq
  repeat' split at hq
  all_goals first | cases hq | skip
  all_goals first | exact ⟨hc, vls_s2 hl hs.1, hs.2⟩ | exact ⟨hc, vls_s2 hl trivial, hs.2⟩ | exact ⟨hc, vls_s2 hl trivial, hs⟩
theorem cq_ii {f : Int32 → Int32 → Int32} : cq (bq_ii f) := by
  intro pc ls st h k hc hl hs hq
  unfold bq_ii at hq
  repeat' split at hq
  all_goals first | cases hq | skip
  all_goals first | exact ⟨hc, hl, trivial, hs⟩ | exact ⟨hc, hl, trivial, hs.2⟩ | exact ⟨hc, hl, trivial, hs.2.2⟩ | exact ⟨hc, hl, hs⟩ | exact ⟨hc, hl, hs.2⟩ | exact ⟨hc, hl, hs.2.2⟩ | exact ⟨hc, hl, hs.2.2.2⟩ | exact ⟨hc, hl, hs.2.2.2.2.2⟩ | exact ⟨hc, hl, hs.1, hs⟩ | exact ⟨hc, hl, hs.1, hs.2.1, hs⟩
theorem cq_id {f : Int32 → Int32 → Int32} : cq (bq_id f) := by
  intro pc ls st h k hc hl hs hq
  unfold bq_id at hq
  repeat' split at hq
  all_goals first | cases hq | skip
  all_goals first | exact ⟨hc, hl, trivial, hs⟩ | exact ⟨hc, hl, trivial, hs.2⟩ | exact ⟨hc, hl, trivial, hs.2.2⟩ | exact ⟨hc, hl, hs⟩ | exact ⟨hc, hl, hs.2⟩ | exact ⟨hc, hl, hs.2.2⟩ | exact ⟨hc, hl, hs.2.2.2⟩ | exact ⟨hc, hl, hs.2.2.2.2.2⟩ | exact ⟨hc, hl, hs.1, hs⟩ | exact ⟨hc, hl, hs.1, hs.2.1, hs⟩
theorem cq_jj {f : Int64 → Int64 → Int64} : cq (bq_jj f) := by
  intro pc ls st h k hc hl hs hq
  unfold bq_jj at hq
  repeat' split at hq
  all_goals first | cases hq | skip
  all_goals first | exact ⟨hc, hl, trivial, hs⟩ | exact ⟨hc, hl, trivial, hs.2⟩ | exact ⟨hc, hl, trivial, hs.2.2⟩ | exact ⟨hc, hl, hs⟩ | exact ⟨hc, hl, hs.2⟩ | exact ⟨hc, hl, hs.2.2⟩ | exact ⟨hc, hl, hs.2.2.2⟩ | exact ⟨hc, hl, hs.2.2.2.2.2⟩ | exact ⟨hc, hl, hs.1, hs⟩ | exact ⟨hc, hl, hs.1, hs.2.1, hs⟩
theorem cq_jd {f : Int64 → Int64 → Int64} : cq (bq_jd f) := by
  intro pc ls st h k hc hl hs hq
  unfold bq_jd at hq
  repeat' split at hq
  all_goals first | cases hq | skip
  all_goals first | exact ⟨hc, hl, trivial, hs⟩ | exact ⟨hc, hl, trivial, hs.2⟩ | exact ⟨hc, hl, trivial, hs.2.2⟩ | exact ⟨hc, hl, hs⟩ | exact ⟨hc, hl, hs.2⟩ | exact ⟨hc, hl, hs.2.2⟩ | exact ⟨hc, hl, hs.2.2.2⟩ | exact ⟨hc, hl, hs.2.2.2.2.2⟩ | exact ⟨hc, hl, hs.1, hs⟩ | exact ⟨hc, hl, hs.1, hs.2.1, hs⟩
theorem cq_ju : cq (bq_ju) := by
  intro pc ls st h k hc hl hs hq
  unfold bq_ju at hq
  repeat' split at hq
  all_goals first | cases hq | skip
  all_goals first | exact ⟨hc, hl, trivial, hs⟩ | exact ⟨hc, hl, trivial, hs.2⟩ | exact ⟨hc, hl, trivial, hs.2.2⟩ | exact ⟨hc, hl, hs⟩ | exact ⟨hc, hl, hs.2⟩ | exact ⟨hc, hl, hs.2.2⟩ | exact ⟨hc, hl, hs.2.2.2⟩ | exact ⟨hc, hl, hs.2.2.2.2.2⟩ | exact ⟨hc, hl, hs.1, hs⟩ | exact ⟨hc, hl, hs.1, hs.2.1, hs⟩
theorem cq_cm : cq (bq_cm) := by
  intro pc ls st h k hc hl hs hq
  unfold bq_cm at hq
  repeat' split at hq
  all_goals first | cases hq | skip
  all_goals first | exact ⟨hc, hl, trivial, hs⟩ | exact ⟨hc, hl, trivial, hs.2⟩ | exact ⟨hc, hl, trivial, hs.2.2⟩ | exact ⟨hc, hl, hs⟩ | exact ⟨hc, hl, hs.2⟩ | exact ⟨hc, hl, hs.2.2⟩ | exact ⟨hc, hl, hs.2.2.2⟩ | exact ⟨hc, hl, hs.2.2.2.2.2⟩ | exact ⟨hc, hl, hs.1, hs⟩ | exact ⟨hc, hl, hs.1, hs.2.1, hs⟩
theorem cq_du : cq (bq_du) := by
  intro pc ls st h k hc hl hs hq
  unfold bq_du at hq
  repeat' split at hq
  all_goals first | cases hq | skip
  all_goals first | exact ⟨hc, hl, trivial, hs⟩ | exact ⟨hc, hl, trivial, hs.2⟩ | exact ⟨hc, hl, trivial, hs.2.2⟩ | exact ⟨hc, hl, hs⟩ | exact ⟨hc, hl, hs.2⟩ | exact ⟨hc, hl, hs.2.2⟩ | exact ⟨hc, hl, hs.2.2.2⟩ | exact ⟨hc, hl, hs.2.2.2.2.2⟩ | exact ⟨hc, hl, hs.1, hs⟩ | exact ⟨hc, hl, hs.1, hs.2.1, hs⟩
theorem cq_d2 : cq (bq_d2) := by
  intro pc ls st h k hc hl hs hq
  unfold bq_d2 at hq
  repeat' split at hq
  all_goals first | cases hq | skip
  all_goals first | exact ⟨hc, hl, trivial, hs⟩ | exact ⟨hc, hl, trivial, hs.2⟩ | exact ⟨hc, hl, trivial, hs.2.2⟩ | exact ⟨hc, hl, hs⟩ | exact ⟨hc, hl, hs.2⟩ | exact ⟨hc, hl, hs.2.2⟩ | exact ⟨hc, hl, hs.2.2.2⟩ | exact ⟨hc, hl, hs.2.2.2.2.2⟩ | exact ⟨hc, hl, hs.1, hs⟩ | exact ⟨hc, hl, hs.1, hs.2.1, hs⟩
theorem cq_go {o : Int} : cq (bq_go o) := by
  intro pc ls st h k hc hl hs hq
  unfold bq_go at hq
  repeat' split at hq
  all_goals first | cases hq | skip
  all_goals first | exact ⟨hc, hl, trivial, hs⟩ | exact ⟨hc, hl, trivial, hs.2⟩ | exact ⟨hc, hl, trivial, hs.2.2⟩ | exact ⟨hc, hl, hs⟩ | exact ⟨hc, hl, hs.2⟩ | exact ⟨hc, hl, hs.2.2⟩ | exact ⟨hc, hl, hs.2.2.2⟩ | exact ⟨hc, hl, hs.2.2.2.2.2⟩ | exact ⟨hc, hl, hs.1, hs⟩ | exact ⟨hc, hl, hs.1, hs.2.1, hs⟩
theorem cq_if {d : Int32 → Bool} {o : Int} : cq (bq_if d o) := by
  intro pc ls st h k hc hl hs hq
  unfold bq_if at hq
  repeat' split at hq
  all_goals first | cases hq | skip
  all_goals first | exact ⟨hc, hl, trivial, hs⟩ | exact ⟨hc, hl, trivial, hs.2⟩ | exact ⟨hc, hl, trivial, hs.2.2⟩ | exact ⟨hc, hl, hs⟩ | exact ⟨hc, hl, hs.2⟩ | exact ⟨hc, hl, hs.2.2⟩ | exact ⟨hc, hl, hs.2.2.2⟩ | exact ⟨hc, hl, hs.2.2.2.2.2⟩ | exact ⟨hc, hl, hs.1, hs⟩ | exact ⟨hc, hl, hs.1, hs.2.1, hs⟩
theorem cq_cp {d : Int32 → Int32 → Bool} {o : Int} : cq (bq_cp d o) := by
  intro pc ls st h k hc hl hs hq
  unfold bq_cp at hq
  repeat' split at hq
  all_goals first | cases hq | skip
  all_goals first | exact ⟨hc, hl, trivial, hs⟩ | exact ⟨hc, hl, trivial, hs.2⟩ | exact ⟨hc, hl, trivial, hs.2.2⟩ | exact ⟨hc, hl, hs⟩ | exact ⟨hc, hl, hs.2⟩ | exact ⟨hc, hl, hs.2.2⟩ | exact ⟨hc, hl, hs.2.2.2⟩ | exact ⟨hc, hl, hs.2.2.2.2.2⟩ | exact ⟨hc, hl, hs.1, hs⟩ | exact ⟨hc, hl, hs.1, hs.2.1, hs⟩
theorem cq_nu {o : Int} : cq (bq_nu o) := by
  intro pc ls st h k hc hl hs hq
  unfold bq_nu at hq
  repeat' split at hq
  all_goals first | cases hq | skip
  all_goals first | exact ⟨hc, hl, trivial, hs⟩ | exact ⟨hc, hl, trivial, hs.2⟩ | exact ⟨hc, hl, trivial, hs.2.2⟩ | exact ⟨hc, hl, hs⟩ | exact ⟨hc, hl, hs.2⟩ | exact ⟨hc, hl, hs.2.2⟩ | exact ⟨hc, hl, hs.2.2.2⟩ | exact ⟨hc, hl, hs.2.2.2.2.2⟩ | exact ⟨hc, hl, hs.1, hs⟩ | exact ⟨hc, hl, hs.1, hs.2.1, hs⟩
theorem cq_nn {o : Int} : cq (bq_nn o) := by
  intro pc ls st h k hc hl hs hq
  unfold bq_nn at hq
  repeat' split at hq
  all_goals first | cases hq | skip
  all_goals first | exact ⟨hc, hl, trivial, hs⟩ | exact ⟨hc, hl, trivial, hs.2⟩ | exact ⟨hc, hl, trivial, hs.2.2⟩ | exact ⟨hc, hl, hs⟩ | exact ⟨hc, hl, hs.2⟩ | exact ⟨hc, hl, hs.2.2⟩ | exact ⟨hc, hl, hs.2.2.2⟩ | exact ⟨hc, hl, hs.2.2.2.2.2⟩ | exact ⟨hc, hl, hs.1, hs⟩ | exact ⟨hc, hl, hs.1, hs.2.1, hs⟩
theorem cq_ts {df lo hi : Int} {offs : Array Int} : cq (bq_ts df lo hi offs) := by
  intro pc ls st h k hc hl hs hq
  unfold bq_ts at hq
  repeat' split at hq
  all_goals first | cases hq | skip
  all_goals first | exact ⟨hc, hl, trivial, hs⟩ | exact ⟨hc, hl, trivial, hs.2⟩ | exact ⟨hc, hl, trivial, hs.2.2⟩ | exact ⟨hc, hl, hs⟩ | exact ⟨hc, hl, hs.2⟩ | exact ⟨hc, hl, hs.2.2⟩ | exact ⟨hc, hl, hs.2.2.2⟩ | exact ⟨hc, hl, hs.2.2.2.2.2⟩ | exact ⟨hc, hl, hs.1, hs⟩ | exact ⟨hc, hl, hs.1, hs.2.1, hs⟩
theorem cq_gs {b : Bool} : cq (bq_gs b) := by
  intro pc ls st h k hc hl hs hq
  unfold bq_gs at hq
  repeat' split at hq
  all_goals first | cases hq | skip
  all_goals first | exact ⟨hc, hl, trivial, hs⟩ | exact ⟨hc, hl, trivial, hs.2⟩ | exact ⟨hc, hl, trivial, hs.2.2⟩ | exact ⟨hc, hl, hs⟩ | exact ⟨hc, hl, hs.2⟩ | exact ⟨hc, hl, hs.2.2⟩ | exact ⟨hc, hl, hs.2.2.2⟩ | exact ⟨hc, hl, hs.2.2.2.2.2⟩ | exact ⟨hc, hl, hs.1, hs⟩ | exact ⟨hc, hl, hs.1, hs.2.1, hs⟩
theorem cq_la : cq (bq_la) := by
  intro pc ls st h k hc hl hs hq
  unfold bq_la at hq
  repeat' split at hq
  all_goals first | cases hq | skip
  all_goals first | exact ⟨hc, hl, trivial, hs⟩ | exact ⟨hc, hl, trivial, hs.2⟩ | exact ⟨hc, hl, trivial, hs.2.2⟩ | exact ⟨hc, hl, hs⟩ | exact ⟨hc, hl, hs.2⟩ | exact ⟨hc, hl, hs.2.2⟩ | exact ⟨hc, hl, hs.2.2.2⟩ | exact ⟨hc, hl, hs.2.2.2.2.2⟩ | exact ⟨hc, hl, hs.1, hs⟩ | exact ⟨hc, hl, hs.1, hs.2.1, hs⟩
theorem cq_ia {X : Nat × (Nat → Int32)} : cq (bq_ia X) := by
  intro pc ls st h k hc hl hs hq
  unfold bq_ia at hq
  repeat' split at hq
  all_goals first | cases hq | skip
  all_goals first | exact ⟨hc, hl, trivial, hs⟩ | exact ⟨hc, hl, trivial, hs.2⟩ | exact ⟨hc, hl, trivial, hs.2.2⟩ | exact ⟨hc, hl, hs⟩ | exact ⟨hc, hl, hs.2⟩ | exact ⟨hc, hl, hs.2.2⟩ | exact ⟨hc, hl, hs.2.2.2⟩ | exact ⟨hc, hl, hs.2.2.2.2.2⟩ | exact ⟨hc, hl, hs.1, hs⟩ | exact ⟨hc, hl, hs.1, hs.2.1, hs⟩
theorem cq_ist : cq (bq_ist) := by
  intro pc ls st h k hc hl hs hq
  unfold bq_ist at hq
  repeat' split at hq
  all_goals first | cases hq | skip
  all_goals first | exact ⟨hc, hl, trivial, hs⟩ | exact ⟨hc, hl, trivial, hs.2⟩ | exact ⟨hc, hl, trivial, hs.2.2⟩ | exact ⟨hc, hl, hs⟩ | exact ⟨hc, hl, hs.2⟩ | exact ⟨hc, hl, hs.2.2⟩ | exact ⟨hc, hl, hs.2.2.2⟩ | exact ⟨hc, hl, hs.2.2.2.2.2⟩ | exact ⟨hc, hl, hs.1, hs⟩ | exact ⟨hc, hl, hs.1, hs.2.1, hs⟩
theorem cq_len {X : Nat × (Nat → Int32)} : cq (bq_len X) := by
  intro pc ls st h k hc hl hs hq
  unfold bq_len at hq
  repeat' split at hq
  all_goals first | cases hq | skip
  all_goals first | exact ⟨hc, hl, trivial, hs⟩ | exact ⟨hc, hl, trivial, hs.2⟩ | exact ⟨hc, hl, trivial, hs.2.2⟩ | exact ⟨hc, hl, hs⟩ | exact ⟨hc, hl, hs.2⟩ | exact ⟨hc, hl, hs.2.2⟩ | exact ⟨hc, hl, hs.2.2.2⟩ | exact ⟨hc, hl, hs.2.2.2.2.2⟩ | exact ⟨hc, hl, hs.1, hs⟩ | exact ⟨hc, hl, hs.1, hs.2.1, hs⟩
theorem cq_oi {b : Bool} : cq (bq_oi b) := by
  intro pc ls st h k hc hl hs hq
  unfold bq_oi at hq
  repeat' split at hq
  all_goals first | cases hq | skip
  all_goals first | exact ⟨hc, hl, trivial, hs⟩ | exact ⟨hc, hl, trivial, hs.2⟩ | exact ⟨hc, hl, trivial, hs.2.2⟩ | exact ⟨hc, hl, hs⟩ | exact ⟨hc, hl, hs.2⟩ | exact ⟨hc, hl, hs.2.2⟩ | exact ⟨hc, hl, hs.2.2.2⟩ | exact ⟨hc, hl, hs.2.2.2.2.2⟩ | exact ⟨hc, hl, hs.1, hs⟩ | exact ⟨hc, hl, hs.1, hs.2.1, hs⟩
theorem cq_ac {b : Bool} : cq (bq_ac b) := by
  intro pc ls st h k hc hl hs hq
  unfold bq_ac at hq
  repeat' split at hq
  all_goals first | cases hq | skip
  all_goals first | exact ⟨hc, hl, trivial, hs⟩ | exact ⟨hc, hl, trivial, hs.2⟩ | exact ⟨hc, hl, trivial, hs.2.2⟩ | exact ⟨hc, hl, hs⟩ | exact ⟨hc, hl, hs.2⟩ | exact ⟨hc, hl, hs.2.2⟩ | exact ⟨hc, hl, hs.2.2.2⟩ | exact ⟨hc, hl, hs.2.2.2.2.2⟩ | exact ⟨hc, hl, hs.1, hs⟩ | exact ⟨hc, hl, hs.1, hs.2.1, hs⟩
theorem cq_mx {b : Bool} : cq (bq_mx b) := by
  intro pc ls st h k hc hl hs hq
  unfold bq_mx at hq
  repeat' split at hq
  all_goals first | cases hq | skip
  all_goals first | exact ⟨hc, hl, trivial, hs⟩ | exact ⟨hc, hl, trivial, hs.2⟩ | exact ⟨hc, hl, trivial, hs.2.2⟩ | exact ⟨hc, hl, hs⟩ | exact ⟨hc, hl, hs.2⟩ | exact ⟨hc, hl, hs.2.2⟩ | exact ⟨hc, hl, hs.2.2.2⟩ | exact ⟨hc, hl, hs.2.2.2.2.2⟩ | exact ⟨hc, hl, hs.1, hs⟩ | exact ⟨hc, hl, hs.1, hs.2.1, hs⟩
theorem cq_i1 {f : Int32 → Value} (hf : ∀ n x, vl n (f x)) : cq (bq_i1 f) := by
  intro pc ls st h k hc hl hs hq
  unfold bq_i1 at hq
  repeat' split at hq
  all_goals first | cases hq | skip
  all_goals exact ⟨hc, hl, hf _ _, hs.2⟩
theorem cq_j1 {f : Int64 → Value} (hf : ∀ n x, vl n (f x)) : cq (bq_j1 f) := by
  intro pc ls st h k hc hl hs hq
  unfold bq_j1 at hq
  repeat' split at hq
  all_goals first | cases hq | skip
  all_goals exact ⟨hc, hl, hf _ _, hs.2⟩
theorem cq_cn {w : Nat} {v : Value} (hv : ∀ n, vl n v) : cq (bq_cn w v) := by
  intro pc ls st h k hc hl hs hq
  unfold bq_cn at hq
  repeat' split at hq
  all_goals first | cases hq | skip
  all_goals exact ⟨hc, hl, hv _, hs⟩
theorem cq_gf {f : Option (Nat × Nat)} : cq (bq_gf f) := by
  intro pc ls st h k hc hl hs hq
  unfold bq_gf at hq
  repeat' split at hq
  all_goals first | cases hq | skip
  all_goals exact ⟨hc, hl, cl_fv hc _ _ _, hs.2⟩
theorem cq_aa : cq (bq_aa) := by
  intro pc ls st h k hc hl hs hq
  unfold bq_aa at hq
  repeat' split at hq
  all_goals first | cases hq | skip
  all_goals exact ⟨hc, hl, cl_rf hc _ _, hs.2.2⟩
theorem cq_pf {o : Nat} {ini : Bool} {f : Option (Nat × Nat)} : cq (bq_pf o ini f) := by
  intro pc ls st h k hc hl hs hq
  unfold bq_pf at hq
  repeat' split at hq
  all_goals first | cases hq | skip
  all_goals first | exact ⟨cl_sr hc hs.1, hl, hs.2.2⟩ | exact ⟨hc, hl, hs.2.2⟩
theorem cq_ast : cq (bq_ast) := by
  intro pc ls st h k hc hl hs hq
  unfold bq_ast at hq
  repeat' split at hq
  all_goals first | cases hq | skip
  all_goals exact ⟨cl_sr hc hs.1, hl, hs.2.2.2⟩
theorem cq_new {c : Option Nat} : cq (bq_new c) := by
  intro pc ls st h k hc hl hs hq
  unfold bq_new at hq
  repeat' split at hq
  all_goals first | cases hq | skip
  all_goals exact ⟨cl_nw hc _ _, vls_m (Nat.le_succ _) hl, Nat.lt_succ_self _, vst_m (Nat.le_succ _) hs⟩
theorem cq_na {t : ArrayType} : cq (bq_na t) := by
  intro pc ls st h k hc hl hs hq
  unfold bq_na at hq
  repeat' split at hq
  all_goals first | cases hq | skip
  all_goals exact ⟨cl_nw hc _ _, vls_m (Nat.le_succ _) hl, Nat.lt_succ_self _, vst_m (Nat.le_succ _) hs.2⟩
theorem cq_an {b : Bool} : cq (bq_an b) := by
  intro pc ls st h k hc hl hs hq
  unfold bq_an at hq
  repeat' split at hq
  all_goals first | cases hq | skip
  all_goals exact ⟨cl_nw hc _ _, vls_m (Nat.le_succ _) hl, Nat.lt_succ_self _, vst_m (Nat.le_succ _) hs.2⟩
theorem cl_x {X : Nat × (Nat → Int32)} {o nL : Nat} {ini : Bool} {i : Instr} {pc : Nat} {ls : bw_L} {st : List Value} {h : bw_H} {k : bw_C} (hc : cl h) (hl : vls (bw_n h) ls) (hs : vst (bw_n h) st) (hq : bw_x X o nL ini i pc ls st h = some k) : cl k.2.2.2 ∧ vls (bw_n k.2.2.2) k.2.1 ∧ vst (bw_n k.2.2.2) k.2.2.1 := by
  cases i with
  | iload a => exact cq_il _ _ _ _ _ hc hl hs hq
  | iload_n a => exact cq_il _ _ _ _ _ hc hl hs hq
  | lload a => exact cq_ll _ _ _ _ _ hc hl hs hq
  | lload_n a => exact cq_ll _ _ _ _ _ hc hl hs hq
  | aload a => exact cq_al _ _ _ _ _ hc hl hs hq
  | aload_n a => exact cq_al _ _ _ _ _ hc hl hs hq
  | istore a => exact cq_is _ _ _ _ _ hc hl hs hq
  | istore_n a => exact cq_is _ _ _ _ _ hc hl hs hq
  | lstore a => exact cq_ls _ _ _ _ _ hc hl hs hq
  | lstore_n a => exact cq_ls _ _ _ _ _ hc hl hs hq
  | astore a => exact cq_as _ _ _ _ _ hc hl hs hq
  | astore_n a => exact cq_as _ _ _ _ _ hc hl hs hq
  | iinc a n => exact cq_ic _ _ _ _ _ hc hl hs hq
  | iconst a => exact cq_cn (by intro _; trivial) _ _ _ _ _ hc hl hs hq
  | bipush a => exact cq_cn (by intro _; trivial) _ _ _ _ _ hc hl hs hq
  | sipush a => exact cq_cn (by intro _; trivial) _ _ _ _ _ hc hl hs hq
  | lconst a => exact cq_cn (by intro _; trivial) _ _ _ _ _ hc hl hs hq
  | aconst_null => exact cq_cn (by intro _; trivial) _ _ _ _ _ hc hl hs hq
  | iadd => exact cq_ii _ _ _ _ _ hc hl hs hq
  | isub => exact cq_ii _ _ _ _ _ hc hl hs hq
  | imul => exact cq_ii _ _ _ _ _ hc hl hs hq
  | iand => exact cq_ii _ _ _ _ _ hc hl hs hq
  | ior => exact cq_ii _ _ _ _ _ hc hl hs hq
  | ixor => exact cq_ii _ _ _ _ _ hc hl hs hq
  | ishl => exact cq_ii _ _ _ _ _ hc hl hs hq
  | ishr => exact cq_ii _ _ _ _ _ hc hl hs hq
  | iushr => exact cq_ii _ _ _ _ _ hc hl hs hq
  | idiv => exact cq_id _ _ _ _ _ hc hl hs hq
  | irem => exact cq_id _ _ _ _ _ hc hl hs hq
  | ladd => exact cq_jj _ _ _ _ _ hc hl hs hq
  | lsub => exact cq_jj _ _ _ _ _ hc hl hs hq
  | lmul => exact cq_jj _ _ _ _ _ hc hl hs hq
  | land => exact cq_jj _ _ _ _ _ hc hl hs hq
  | lor => exact cq_jj _ _ _ _ _ hc hl hs hq
  | lxor => exact cq_jj _ _ _ _ _ hc hl hs hq
  | ldiv => exact cq_jd _ _ _ _ _ hc hl hs hq
  | lrem => exact cq_jd _ _ _ _ _ hc hl hs hq
  | lushr => exact cq_ju _ _ _ _ _ hc hl hs hq
  | ineg => exact cq_i1 (by intro _ _; trivial) _ _ _ _ _ hc hl hs hq
  | lneg => exact cq_j1 (by intro _ _; trivial) _ _ _ _ _ hc hl hs hq
  | i2l => exact cq_i1 (by intro _ _; trivial) _ _ _ _ _ hc hl hs hq
  | i2b => exact cq_i1 (by intro _ _; trivial) _ _ _ _ _ hc hl hs hq
  | l2i => exact cq_j1 (by intro _ _; trivial) _ _ _ _ _ hc hl hs hq
  | lcmp => exact cq_cm _ _ _ _ _ hc hl hs hq
  | dup => exact cq_du _ _ _ _ _ hc hl hs hq
  | dup2 => exact cq_d2 _ _ _ _ _ hc hl hs hq
  | goto a => exact cq_go _ _ _ _ _ hc hl hs hq
  | ifnull a => exact cq_nu _ _ _ _ _ hc hl hs hq
  | ifnonnull a => exact cq_nn _ _ _ _ _ hc hl hs hq
  | tableswitch a b d f => exact cq_ts _ _ _ _ _ hc hl hs hq
  | getfield a => exact cq_gf _ _ _ _ _ hc hl hs hq
  | putfield a => exact cq_pf _ _ _ _ _ hc hl hs hq
  | getstatic a => exact cq_gs _ _ _ _ _ hc hl hs hq
  | laload => exact cq_la _ _ _ _ _ hc hl hs hq
  | iaload => exact cq_ia _ _ _ _ _ hc hl hs hq
  | baload => exact absurd (show (none : Option bw_C) = some k from hq) (fun z => by cases z)
  | aaload => exact cq_aa _ _ _ _ _ hc hl hs hq
  | iastore => exact cq_ist _ _ _ _ _ hc hl hs hq
  | bastore => exact absurd (show (none : Option bw_C) = some k from hq) (fun z => by cases z)
  | aastore => exact cq_ast _ _ _ _ _ hc hl hs hq
  | arraylength => exact cq_len _ _ _ _ _ hc hl hs hq
  | new a => exact cq_new _ _ _ _ _ hc hl hs hq
  | newarray a => exact cq_na _ _ _ _ _ hc hl hs hq
  | anewarray a => exact cq_an _ _ _ _ _ hc hl hs hq
  | invokespecial a => exact cq_oi _ _ _ _ _ hc hl hs hq
  | ldc a =>
    have hq' : (match bw_kc o a with | some (.int v) => bq_cn 2 (.int v) | _ => fun _ _ _ _ => none) pc ls st h = some k := hq
    cases hkc : bw_kc o a with
    | none => rw [hkc] at hq'; cases hq'
    | some v =>
      rw [hkc] at hq'
      cases v with
      | int v => exact cq_cn (by intro _; trivial) _ _ _ _ _ hc hl hs hq'
      | _ => cases hq'
  | ldc_w a =>
    have hq' : (match bw_kc o a with | some (.int v) => bq_cn 3 (.int v) | _ => fun _ _ _ _ => none) pc ls st h = some k := hq
    cases hkc : bw_kc o a with
    | none => rw [hkc] at hq'; cases hq'
    | some v =>
      rw [hkc] at hq'
      cases v with
      | int v => exact cq_cn (by intro _; trivial) _ _ _ _ _ hc hl hs hq'
      | _ => cases hq'
  | ldc2_w a =>
    have hq' : (match bw_kc o a with | some (.long v) => bq_cn 3 (.long v) | _ => fun _ _ _ _ => none) pc ls st h = some k := hq
    cases hkc : bw_kc o a with
    | none => rw [hkc] at hq'; cases hq'
    | some v =>
      rw [hkc] at hq'
      cases v with
      | long v => exact cq_cn (by intro _; trivial) _ _ _ _ _ hc hl hs hq'
      | _ => cases hq'
  | ifCond cd off => cases cd <;> exact cq_if _ _ _ _ _ hc hl hs hq
  | if_icmp cd off => cases cd <;> exact cq_cp _ _ _ _ _ hc hl hs hq
  | invokestatic a =>
    have hq' : (match bw_mx o a with | some b => bq_mx b | none => bq_ac (bw_ac o a)) pc ls st h = some k := hq
    cases hmx : bw_mx o a with
    | some b => rw [hmx] at hq'; exact cq_mx _ _ _ _ _ hc hl hs hq'
    | none => rw [hmx] at hq'; exact cq_ac _ _ _ _ _ hc hl hs hq'
  | _ => exact absurd (show (none : Option bw_C) = some k from hq) (fun z => by cases z)
theorem cl_e {rt : Option FieldType} {i : Instr} {st : List Value} {v : Option Value} {n : Nat} (hs : vst n st) (he : bw_e rt i st = some v) : ∀ w, v = some w → vl n w := by
  intro w hw
  subst hw
  unfold bw_e at he
  repeat' split at he
  all_goals first | (cases he; first | exact hs.1 | trivial) | cases he
theorem vls_args {n : Nat} : ∀ (as : List Value) (i : Nat), vst n as → vls n (lv_args i as)
  | [], _, _ => trivial
  | _ :: as, _, h => ⟨h.1, vls_args as _ h.2⟩
theorem cl_c {o : Nat} {i : Instr} {st : List Value} {h : bw_H} {M : bw_M} {im : Bool} {as r : List Value} {n : Nat} (hs : vst n st) (hq : bw_c o i st h = some (M, im, as, r)) : vst n as ∧ vst n r := by
  have hs2 := vst_f.mp hs
  have tk : ∀ k, vst n (List.take k st).reverse := fun k => vst_f.mpr (fun v hv => hs2 v (List.mem_of_mem_take (List.mem_reverse.mp hv)))
  have dk : ∀ k, vst n (List.drop k st) := fun k => vst_f.mpr (fun v hv => hs2 v (List.mem_of_mem_drop hv))
  unfold bw_c at hq
  split at hq
  · split at hq
    · split at hq
      · cases hq
        exact ⟨tk _, dk _⟩
      · cases hq
    · cases hq
  · split at hq
    · split at hq
      · rename_i a r0 hdr
        split at hq
        · cases hq
          have h1 := dk M.2.2.2.2.2
          rw [hdr] at h1
          exact ⟨⟨h1.1, tk _⟩, h1.2⟩
        · cases hq
      · cases hq
    · cases hq
  · split at hq
    · split at hq
      · rename_i a r0 hdr
        split at hq
        · cases hq
          have h1 := dk M.2.2.2.2.2
          rw [hdr] at h1
          exact ⟨⟨h1.1, tk _⟩, h1.2⟩
        · cases hq
      · cases hq
    · cases hq
  · cases hq
theorem cl_run (X : Nat × (Nat → Int32)) : ∀ (n d o nL : Nat) (ini : Bool) (rt : Option FieldType) (cc : ByteArray) (pc : Nat) (ls : bw_L) (st : List Value) (h : bw_H) (v : Option Value) (h' : bw_H), cl h → vls (bw_n h) ls → vst (bw_n h) st → bw_run X n d o nL ini rt cc pc ls st h = some (v, h') → cl h' ∧ ∀ w, v = some w → vl (bw_n h') w := by
  intro n
  induction n with
  | zero =>
    intro d o nL ini rt cc pc ls st h v h' hc hl hs hr
    unfold bw_run at hr
    cases hr
  | succ n ih =>
    intro d o nL ini rt cc pc ls st h v h' hc hl hs hr
    unfold bw_run at hr
    split at hr
    · cases hr
    · split at hr
      · cases hr
      · split at hr
        · rename_i pc' ls' st' h1 hx1
          obtain ⟨e1, e2, e3⟩ := cl_x hc hl hs hx1
          exact ih _ _ _ _ _ _ _ _ _ _ _ _ e1 e2 e3 hr
        · split at hr
          · rename_i v1 he
            cases hr
            exact ⟨hc, cl_e hs he⟩
          · split at hr
            · cases hr
            · split at hr
              · rename_i M im as r hcc
                split at hr
                · rename_i v1 h1 hrun
                  obtain ⟨c1, c2⟩ := cl_c hs hcc
                  obtain ⟨e1, e2⟩ := ih _ _ _ _ _ _ _ _ _ _ _ _ hc (vls_args as 0 c1) (show vst _ [] from trivial) hrun
                  have m1 := (bw_snd _ _ _ _ _ _ _ _ _ _ _ _ _ _ hrun).1.1
                  have e3 : vst (bw_n h1) (v1.toList ++ r) := by
                    cases v1 with
                    | none => exact vst_m m1 c2
                    | some w => exact ⟨e2 w rfl, vst_m m1 c2⟩
                  exact ih _ _ _ _ _ _ _ _ _ _ _ _ e1 (vls_m m1 hl) e3 hr
                · cases hr
              · cases hr
/-- a method leaves the heap closed -/
theorem me_cl {X : Nat × (Nat → Int32)} {d : Nat} {M : bw_M} {im : Bool} {as : List Value} {h : bw_H} {Q : Option Value → bw_H → Prop} (hc : cl h) (ha : vst (bw_n h) as) (K : bw_me X d M im as h (fun v g => cl g → Q v g)) : bw_me X d M im as h Q := by
  obtain ⟨n, v, g, hr, hQ⟩ := K
  exact ⟨n, v, g, hr, hQ (cl_run X _ _ _ _ _ _ _ _ _ _ _ _ _ hc (vls_args as 0 ha) (show vst _ [] from trivial) hr).1⟩
