/-! locals: what is not looked at, and the order in which they are listed, doesn't matter -/
def bw_nd (ls : bw_L) : Prop := (ls.map (fun q => q.1)).Nodup
def bw_le (ls ls' : bw_L) : Prop := ∀ (i : Nat) (v : Value), bw_lg ls i = some v → bw_lg ls' i = some v
theorem lg_nil (i : Nat) : bw_lg [] i = none := rfl
theorem lg_cons (q : Nat × Value) (ls : bw_L) (i : Nat) : bw_lg (q :: ls) i = if q.1 = i then some q.2 else bw_lg ls i := by
  unfold bw_lg
  rw [List.find?_cons]
  by_cases h : q.1 = i
  · have e : (q.1 == i) = true := by simpa using h
    rw [if_pos h, e]; rfl
  · have e : (q.1 == i) = false := by simpa using h
    rw [if_neg h, e]
theorem lg_none {ls : bw_L} {i : Nat} (h : i ∉ ls.map (fun q => q.1)) : bw_lg ls i = none := by
  induction ls with
  | nil => rfl
  | cons q ls ih =>
    rw [List.map_cons, List.mem_cons, not_or] at h
    rw [lg_cons, if_neg (fun z => h.1 z.symm)]
    exact ih h.2
theorem lg_filter {ls : bw_L} (hn : bw_nd ls) (f : Nat × Value → Bool) (i : Nat) : bw_lg (ls.filter f) i = match bw_lg ls i with
    | some w => if f (i, w) = true then some w else none
    | none => none := by
  induction ls with
  | nil => rfl
  | cons q ls ih =>
    have hq := List.nodup_cons.mp hn
    have ih := ih hq.2
    rw [List.filter_cons, lg_cons]
    by_cases h : q.1 = i
    · rw [if_pos h]
      subst h
      have h0 : bw_lg ls q.1 = none := lg_none hq.1
      rw [h0] at ih
      by_cases hf : f q = true
      · rw [if_pos hf, lg_cons, if_pos rfl]
        simp only
        rw [if_pos hf]
      · rw [if_neg hf, ih]
        simp only
        rw [if_neg hf]
    · rw [if_neg h]
      by_cases hf : f q = true
      · rw [if_pos hf, lg_cons, if_neg h, ih]
      · rw [if_neg hf, ih]
theorem nd_filter {ls : bw_L} (hn : bw_nd ls) (f : Nat × Value → Bool) : bw_nd (ls.filter f) := by
  unfold bw_nd at hn ⊢
  exact List.Nodup.sublist (List.Sublist.map _ List.filter_sublist) hn
theorem nd_s1 {ls : bw_L} (hn : bw_nd ls) (i : Nat) (v : Value) : bw_nd (bw_s1 ls i v) := by
  unfold bw_s1
  refine List.nodup_cons.mpr ⟨fun h => ?_, nd_filter hn _⟩
  obtain ⟨q, hq, he⟩ := List.mem_map.mp h
  have := (List.mem_filter.mp hq).2
  simp only [Bool.and_eq_true, Bool.not_eq_true', beq_eq_false_iff_ne] at this
  exact this.1 he
theorem nd_s2 {ls : bw_L} (hn : bw_nd ls) (i : Nat) (v : Value) : bw_nd (bw_s2 ls i v) := by
  unfold bw_s2
  refine List.nodup_cons.mpr ⟨fun h => ?_, nd_filter hn _⟩
  obtain ⟨q, hq, he⟩ := List.mem_map.mp h
  have := (List.mem_filter.mp hq).2
  simp only [Bool.and_eq_true, Bool.not_eq_true', beq_eq_false_iff_ne] at this
  exact this.1 he
theorem le_s {ls ls' : bw_L} (hn : bw_nd ls) (hn' : bw_nd ls') (h : bw_le ls ls') (f : Nat × Value → Bool) (i : Nat) (v : Value) : bw_le ((i, v) :: ls.filter f) ((i, v) :: ls'.filter f) := by
  intro j w hw
  rw [lg_cons] at hw ⊢
  by_cases hj : i = j
  · rw [if_pos hj] at hw ⊢; exact hw
  · rw [if_neg hj] at hw ⊢
    rw [lg_filter hn] at hw
    rw [lg_filter hn']
    cases hl : bw_lg ls j with
    | none => rw [hl] at hw; cases hw
    | some x => rw [hl] at hw; rw [h j x hl]; exact hw
theorem bl_ii {f : Int32 → Int32 → Int32} {pc : Nat} {ls ls' : bw_L} {st : List Value} {h : bw_H} {k : bw_C} (hq : bq_ii f pc ls st h = some k) : k.2.1 = ls ∧ bq_ii f pc ls' st h = some (k.1, ls', k.2.2.1, k.2.2.2) := by
  unfold bq_ii at hq ⊢
  repeat' split at hq
  all_goals first | (cases hq; done) | (cases hq; exact ⟨rfl, rfl⟩) | (cases hq; refine ⟨rfl, ?_⟩; simp_all)
theorem bl_id {f : Int32 → Int32 → Int32} {pc : Nat} {ls ls' : bw_L} {st : List Value} {h : bw_H} {k : bw_C} (hq : bq_id f pc ls st h = some k) : k.2.1 = ls ∧ bq_id f pc ls' st h = some (k.1, ls', k.2.2.1, k.2.2.2) := by
  unfold bq_id at hq ⊢
  repeat' split at hq
  all_goals first | (cases hq; done) | (cases hq; exact ⟨rfl, rfl⟩) | (cases hq; refine ⟨rfl, ?_⟩; simp_all)
theorem bl_jj {f : Int64 → Int64 → Int64} {pc : Nat} {ls ls' : bw_L} {st : List Value} {h : bw_H} {k : bw_C} (hq : bq_jj f pc ls st h = some k) : k.2.1 = ls ∧ bq_jj f pc ls' st h = some (k.1, ls', k.2.2.1, k.2.2.2) := by
  unfold bq_jj at hq ⊢
  repeat' split at hq
  all_goals first | (cases hq; done) | (cases hq; exact ⟨rfl, rfl⟩) | (cases hq; refine ⟨rfl, ?_⟩; simp_all)
theorem bl_jd {f : Int64 → Int64 → Int64} {pc : Nat} {ls ls' : bw_L} {st : List Value} {h : bw_H} {k : bw_C} (hq : bq_jd f pc ls st h = some k) : k.2.1 = ls ∧ bq_jd f pc ls' st h = some (k.1, ls', k.2.2.1, k.2.2.2) := by
  unfold bq_jd at hq ⊢
  repeat' split at hq
  all_goals first | (cases hq; done) | (cases hq; exact ⟨rfl, rfl⟩) | (cases hq; refine ⟨rfl, ?_⟩; simp_all)
theorem bl_i1 {f : Int32 → Value} {pc : Nat} {ls ls' : bw_L} {st : List Value} {h : bw_H} {k : bw_C} (hq : bq_i1 f pc ls st h = some k) : k.2.1 = ls ∧ bq_i1 f pc ls' st h = some (k.1, ls', k.2.2.1, k.2.2.2) := by
  unfold bq_i1 at hq ⊢
  repeat' split at hq
  all_goals first | (cases hq; done) | (cases hq; exact ⟨rfl, rfl⟩) | (cases hq; refine ⟨rfl, ?_⟩; simp_all)
theorem bl_j1 {f : Int64 → Value} {pc : Nat} {ls ls' : bw_L} {st : List Value} {h : bw_H} {k : bw_C} (hq : bq_j1 f pc ls st h = some k) : k.2.1 = ls ∧ bq_j1 f pc ls' st h = some (k.1, ls', k.2.2.1, k.2.2.2) := by
  unfold bq_j1 at hq ⊢
  repeat' split at hq
  all_goals first | (cases hq; done) | (cases hq; exact ⟨rfl, rfl⟩) | (cases hq; refine ⟨rfl, ?_⟩; simp_all)
theorem bl_ju  {pc : Nat} {ls ls' : bw_L} {st : List Value} {h : bw_H} {k : bw_C} (hq : bq_ju  pc ls st h = some k) : k.2.1 = ls ∧ bq_ju  pc ls' st h = some (k.1, ls', k.2.2.1, k.2.2.2) := by
  unfold bq_ju at hq ⊢
  repeat' split at hq
  all_goals first | (cases hq; done) | (cases hq; exact ⟨rfl, rfl⟩) | (cases hq; refine ⟨rfl, ?_⟩; simp_all)
theorem bl_cm  {pc : Nat} {ls ls' : bw_L} {st : List Value} {h : bw_H} {k : bw_C} (hq : bq_cm  pc ls st h = some k) : k.2.1 = ls ∧ bq_cm  pc ls' st h = some (k.1, ls', k.2.2.1, k.2.2.2) := by
  unfold bq_cm at hq ⊢
  repeat' split at hq
  all_goals first | (cases hq; done) | (cases hq; exact ⟨rfl, rfl⟩) | (cases hq; refine ⟨rfl, ?_⟩; simp_all)
theorem bl_du  {pc : Nat} {ls ls' : bw_L} {st : List Value} {h : bw_H} {k : bw_C} (hq : bq_du  pc ls st h = some k) : k.2.1 = ls ∧ bq_du  pc ls' st h = some (k.1, ls', k.2.2.1, k.2.2.2) := by
  unfold bq_du at hq ⊢
  repeat' split at hq
  all_goals first | (cases hq; done) | (cases hq; exact ⟨rfl, rfl⟩) | (cases hq; refine ⟨rfl, ?_⟩; simp_all)
theorem bl_d2  {pc : Nat} {ls ls' : bw_L} {st : List Value} {h : bw_H} {k : bw_C} (hq : bq_d2  pc ls st h = some k) : k.2.1 = ls ∧ bq_d2  pc ls' st h = some (k.1, ls', k.2.2.1, k.2.2.2) := by
  unfold bq_d2 at hq ⊢
  repeat' split at hq
  all_goals first | (cases hq; done) | (cases hq; exact ⟨rfl, rfl⟩) | (cases hq; refine ⟨rfl, ?_⟩; simp_all)
theorem bl_cn {w : Nat} {v : Value} {pc : Nat} {ls ls' : bw_L} {st : List Value} {h : bw_H} {k : bw_C} (hq : bq_cn w v pc ls st h = some k) : k.2.1 = ls ∧ bq_cn w v pc ls' st h = some (k.1, ls', k.2.2.1, k.2.2.2) := by
  unfold bq_cn at hq ⊢
  repeat' split at hq
  all_goals first | (cases hq; done) | (cases hq; exact ⟨rfl, rfl⟩) | (cases hq; refine ⟨rfl, ?_⟩; simp_all)
theorem bl_go {off : Int} {pc : Nat} {ls ls' : bw_L} {st : List Value} {h : bw_H} {k : bw_C} (hq : bq_go off pc ls st h = some k) : k.2.1 = ls ∧ bq_go off pc ls' st h = some (k.1, ls', k.2.2.1, k.2.2.2) := by
  unfold bq_go at hq ⊢
  repeat' split at hq
  all_goals first | (cases hq; done) | (cases hq; exact ⟨rfl, rfl⟩) | (cases hq; refine ⟨rfl, ?_⟩; simp_all)
theorem bl_if {d : Int32 → Bool} {off : Int} {pc : Nat} {ls ls' : bw_L} {st : List Value} {h : bw_H} {k : bw_C} (hq : bq_if d off pc ls st h = some k) : k.2.1 = ls ∧ bq_if d off pc ls' st h = some (k.1, ls', k.2.2.1, k.2.2.2) := by
  unfold bq_if at hq ⊢
  repeat' split at hq
  all_goals first | (cases hq; done) | (cases hq; exact ⟨rfl, rfl⟩) | (cases hq; refine ⟨rfl, ?_⟩; simp_all)
theorem bl_cp {d : Int32 → Int32 → Bool} {off : Int} {pc : Nat} {ls ls' : bw_L} {st : List Value} {h : bw_H} {k : bw_C} (hq : bq_cp d off pc ls st h = some k) : k.2.1 = ls ∧ bq_cp d off pc ls' st h = some (k.1, ls', k.2.2.1, k.2.2.2) := by
  unfold bq_cp at hq ⊢
  repeat' split at hq
  all_goals first | (cases hq; done) | (cases hq; exact ⟨rfl, rfl⟩) | (cases hq; refine ⟨rfl, ?_⟩; simp_all)
theorem bl_nu {off : Int} {pc : Nat} {ls ls' : bw_L} {st : List Value} {h : bw_H} {k : bw_C} (hq : bq_nu off pc ls st h = some k) : k.2.1 = ls ∧ bq_nu off pc ls' st h = some (k.1, ls', k.2.2.1, k.2.2.2) := by
  unfold bq_nu at hq ⊢
  repeat' split at hq
  all_goals first | (cases hq; done) | (cases hq; exact ⟨rfl, rfl⟩) | (cases hq; refine ⟨rfl, ?_⟩; simp_all)
theorem bl_nn {off : Int} {pc : Nat} {ls ls' : bw_L} {st : List Value} {h : bw_H} {k : bw_C} (hq : bq_nn off pc ls st h = some k) : k.2.1 = ls ∧ bq_nn off pc ls' st h = some (k.1, ls', k.2.2.1, k.2.2.2) := by
  unfold bq_nn at hq ⊢
  repeat' split at hq
  all_goals first | (cases hq; done) | (cases hq; exact ⟨rfl, rfl⟩) | (cases hq; refine ⟨rfl, ?_⟩; simp_all)
theorem bl_ts {df lo hi : Int} {offs : Array Int} {pc : Nat} {ls ls' : bw_L} {st : List Value} {h : bw_H} {k : bw_C} (hq : bq_ts df lo hi offs pc ls st h = some k) : k.2.1 = ls ∧ bq_ts df lo hi offs pc ls' st h = some (k.1, ls', k.2.2.1, k.2.2.2) := by
  unfold bq_ts at hq ⊢
  split at hq
  · split at hq
    · rename_i hh
      try simp only
      rw [if_pos hh]
      split at hq
      · rename_i q hj
        cases hq
        (try rw [hj]); exact ⟨rfl, rfl⟩
      · cases hq
    · rename_i hh
      try simp only
      rw [if_neg hh]
      split at hq
      · rename_i off ho
        try rw [ho]
        try simp only
        split at hq
        · rename_i q hj
          cases hq
          (try rw [hj]); exact ⟨rfl, rfl⟩
        · cases hq
      · cases hq
  · cases hq
theorem bl_gf {f : Option (Nat × Nat)} {pc : Nat} {ls ls' : bw_L} {st : List Value} {h : bw_H} {k : bw_C} (hq : bq_gf f pc ls st h = some k) : k.2.1 = ls ∧ bq_gf f pc ls' st h = some (k.1, ls', k.2.2.1, k.2.2.2) := by
  unfold bq_gf at hq ⊢
  repeat' split at hq
  all_goals first | (cases hq; done) | (cases hq; exact ⟨rfl, rfl⟩) | (cases hq; refine ⟨rfl, ?_⟩; simp_all)
theorem bl_pf {o : Nat} {ini : Bool} {f : Option (Nat × Nat)} {pc : Nat} {ls ls' : bw_L} {st : List Value} {h : bw_H} {k : bw_C} (hq : bq_pf o ini f pc ls st h = some k) : k.2.1 = ls ∧ bq_pf o ini f pc ls' st h = some (k.1, ls', k.2.2.1, k.2.2.2) := by
  unfold bq_pf at hq ⊢
  split at hq
  · split at hq
    · rename_i hh
      try simp only
      rw [if_pos hh]
      split at hq
      · rename_i hty; cases hq; (try rw [hty]); exact ⟨rfl, rfl⟩
      · rename_i hty; cases hq; (try rw [hty]); exact ⟨rfl, rfl⟩
      · cases hq
    · rename_i hh
      try simp only
      rw [if_neg hh]
      split at hq
      · rename_i hh2
        rw [if_pos hh2]
        split at hq
        · rename_i hty; cases hq; (try rw [hty]); exact ⟨rfl, rfl⟩
        · rename_i hty; cases hq; (try rw [hty]); exact ⟨rfl, rfl⟩
        · rename_i hty; cases hq; (try rw [hty]); exact ⟨rfl, rfl⟩
        · cases hq
      · cases hq
  · cases hq
theorem bl_gs {b : Bool} {pc : Nat} {ls ls' : bw_L} {st : List Value} {h : bw_H} {k : bw_C} (hq : bq_gs b pc ls st h = some k) : k.2.1 = ls ∧ bq_gs b pc ls' st h = some (k.1, ls', k.2.2.1, k.2.2.2) := by
  unfold bq_gs at hq ⊢
  repeat' split at hq
  all_goals first | (cases hq; done) | (cases hq; exact ⟨rfl, rfl⟩) | (cases hq; refine ⟨rfl, ?_⟩; simp_all)
theorem bl_la  {pc : Nat} {ls ls' : bw_L} {st : List Value} {h : bw_H} {k : bw_C} (hq : bq_la  pc ls st h = some k) : k.2.1 = ls ∧ bq_la  pc ls' st h = some (k.1, ls', k.2.2.1, k.2.2.2) := by
  unfold bq_la at hq ⊢
  repeat' split at hq
  all_goals first | (cases hq; done) | (cases hq; exact ⟨rfl, rfl⟩) | (cases hq; refine ⟨rfl, ?_⟩; simp_all)
theorem bl_ia {X : Nat × (Nat → Int32)} {pc : Nat} {ls ls' : bw_L} {st : List Value} {h : bw_H} {k : bw_C} (hq : bq_ia X pc ls st h = some k) : k.2.1 = ls ∧ bq_ia X pc ls' st h = some (k.1, ls', k.2.2.1, k.2.2.2) := by
  unfold bq_ia at hq ⊢
  repeat' split at hq
  all_goals first | (cases hq; done) | (cases hq; exact ⟨rfl, rfl⟩) | (cases hq; refine ⟨rfl, ?_⟩; simp_all)
theorem bl_ba  {pc : Nat} {ls ls' : bw_L} {st : List Value} {h : bw_H} {k : bw_C} (hq : bq_ba  pc ls st h = some k) : k.2.1 = ls ∧ bq_ba  pc ls' st h = some (k.1, ls', k.2.2.1, k.2.2.2) := by
  unfold bq_ba at hq ⊢
  repeat' split at hq
  all_goals first | (cases hq; done) | (cases hq; exact ⟨rfl, rfl⟩) | (cases hq; refine ⟨rfl, ?_⟩; simp_all)
theorem bl_aa  {pc : Nat} {ls ls' : bw_L} {st : List Value} {h : bw_H} {k : bw_C} (hq : bq_aa  pc ls st h = some k) : k.2.1 = ls ∧ bq_aa  pc ls' st h = some (k.1, ls', k.2.2.1, k.2.2.2) := by
  unfold bq_aa at hq ⊢
  repeat' split at hq
  all_goals first | (cases hq; done) | (cases hq; exact ⟨rfl, rfl⟩) | (cases hq; refine ⟨rfl, ?_⟩; simp_all)
theorem bl_ist  {pc : Nat} {ls ls' : bw_L} {st : List Value} {h : bw_H} {k : bw_C} (hq : bq_ist  pc ls st h = some k) : k.2.1 = ls ∧ bq_ist  pc ls' st h = some (k.1, ls', k.2.2.1, k.2.2.2) := by
  unfold bq_ist at hq ⊢
  repeat' split at hq
  all_goals first | (cases hq; done) | (cases hq; exact ⟨rfl, rfl⟩) | (cases hq; refine ⟨rfl, ?_⟩; simp_all)
theorem bl_bst  {pc : Nat} {ls ls' : bw_L} {st : List Value} {h : bw_H} {k : bw_C} (hq : bq_bst  pc ls st h = some k) : k.2.1 = ls ∧ bq_bst  pc ls' st h = some (k.1, ls', k.2.2.1, k.2.2.2) := by
  unfold bq_bst at hq ⊢
  repeat' split at hq
  all_goals first | (cases hq; done) | (cases hq; exact ⟨rfl, rfl⟩) | (cases hq; refine ⟨rfl, ?_⟩; simp_all)
theorem bl_ast  {pc : Nat} {ls ls' : bw_L} {st : List Value} {h : bw_H} {k : bw_C} (hq : bq_ast  pc ls st h = some k) : k.2.1 = ls ∧ bq_ast  pc ls' st h = some (k.1, ls', k.2.2.1, k.2.2.2) := by
  unfold bq_ast at hq ⊢
  repeat' split at hq
  all_goals first | (cases hq; done) | (cases hq; exact ⟨rfl, rfl⟩) | (cases hq; refine ⟨rfl, ?_⟩; simp_all)
theorem bl_len {X : Nat × (Nat → Int32)} {pc : Nat} {ls ls' : bw_L} {st : List Value} {h : bw_H} {k : bw_C} (hq : bq_len X pc ls st h = some k) : k.2.1 = ls ∧ bq_len X pc ls' st h = some (k.1, ls', k.2.2.1, k.2.2.2) := by
  unfold bq_len at hq ⊢
  repeat' split at hq
  all_goals first | (cases hq; done) | (cases hq; exact ⟨rfl, rfl⟩) | (cases hq; refine ⟨rfl, ?_⟩; simp_all)
theorem bl_oi {b : Bool} {pc : Nat} {ls ls' : bw_L} {st : List Value} {h : bw_H} {k : bw_C} (hq : bq_oi b pc ls st h = some k) : k.2.1 = ls ∧ bq_oi b pc ls' st h = some (k.1, ls', k.2.2.1, k.2.2.2) := by
  unfold bq_oi at hq ⊢
  repeat' split at hq
  all_goals first | (cases hq; done) | (cases hq; exact ⟨rfl, rfl⟩) | (cases hq; refine ⟨rfl, ?_⟩; simp_all)
theorem bl_ac {b : Bool} {pc : Nat} {ls ls' : bw_L} {st : List Value} {h : bw_H} {k : bw_C} (hq : bq_ac b pc ls st h = some k) : k.2.1 = ls ∧ bq_ac b pc ls' st h = some (k.1, ls', k.2.2.1, k.2.2.2) := by
  unfold bq_ac at hq ⊢
  repeat' split at hq
  all_goals first | (cases hq; done) | (cases hq; exact ⟨rfl, rfl⟩) | (cases hq; refine ⟨rfl, ?_⟩; simp_all)
theorem bl_mx {b : Bool} {pc : Nat} {ls ls' : bw_L} {st : List Value} {h : bw_H} {k : bw_C} (hq : bq_mx b pc ls st h = some k) : k.2.1 = ls ∧ bq_mx b pc ls' st h = some (k.1, ls', k.2.2.1, k.2.2.2) := by
  unfold bq_mx at hq ⊢
  split at hq
  · rename_i y x r
    by_cases hh : (List.map (fun v => v.category) r).sum ≤ 8
    · rw [if_pos hh] at hq
      try simp only
      rw [if_pos hh]
      cases hq
      exact ⟨rfl, rfl⟩
    · rw [if_neg hh] at hq; cases hq
  · cases hq
theorem bl_new {c : Option Nat} {pc : Nat} {ls ls' : bw_L} {st : List Value} {h : bw_H} {k : bw_C} (hq : bq_new c pc ls st h = some k) : k.2.1 = ls ∧ bq_new c pc ls' st h = some (k.1, ls', k.2.2.1, k.2.2.2) := by
  unfold bq_new at hq ⊢
  repeat' split at hq
  all_goals first | (cases hq; done) | (cases hq; exact ⟨rfl, rfl⟩) | (cases hq; refine ⟨rfl, ?_⟩; simp_all)
theorem bl_na {t : ArrayType} {pc : Nat} {ls ls' : bw_L} {st : List Value} {h : bw_H} {k : bw_C} (hq : bq_na t pc ls st h = some k) : k.2.1 = ls ∧ bq_na t pc ls' st h = some (k.1, ls', k.2.2.1, k.2.2.2) := by
  unfold bq_na at hq ⊢
  repeat' split at hq
  all_goals first | (cases hq; done) | (cases hq; exact ⟨rfl, rfl⟩) | (cases hq; refine ⟨rfl, ?_⟩; simp_all)
theorem bl_an {b : Bool} {pc : Nat} {ls ls' : bw_L} {st : List Value} {h : bw_H} {k : bw_C} (hq : bq_an b pc ls st h = some k) : k.2.1 = ls ∧ bq_an b pc ls' st h = some (k.1, ls', k.2.2.1, k.2.2.2) := by
  unfold bq_an at hq ⊢
  repeat' split at hq
  all_goals first | (cases hq; done) | (cases hq; exact ⟨rfl, rfl⟩) | (cases hq; refine ⟨rfl, ?_⟩; simp_all)
theorem bl_eq {ls ls' : bw_L} {k : bw_C} {Y : Option bw_C} (hn : bw_nd ls) (hn' : bw_nd ls') (hl : bw_le ls ls') (hz : k.2.1 = ls ∧ Y = some (k.1, ls', k.2.2.1, k.2.2.2)) : ∃ l1, Y = some (k.1, l1, k.2.2.1, k.2.2.2) ∧ bw_nd k.2.1 ∧ bw_nd l1 ∧ bw_le k.2.1 l1 := by
  obtain ⟨h1, h2⟩ := hz
  exact ⟨ls', h2, by rw [h1]; exact hn, hn', by rw [h1]; exact hl⟩
theorem bw_x_le {X : Nat × (Nat → Int32)} {o nL : Nat} {ini : Bool} {i : Instr} {pc : Nat} {ls ls' : bw_L} {st : List Value} {h : bw_H} {k : bw_C} (hn : bw_nd ls) (hn' : bw_nd ls') (hl : bw_le ls ls') (hq : bw_x X o nL ini i pc ls st h = some k) : ∃ l1, bw_x X o nL ini i pc ls' st h = some (k.1, l1, k.2.2.1, k.2.2.2) ∧ bw_nd k.2.1 ∧ bw_nd l1 ∧ bw_le k.2.1 l1 := by
  have eL : ∀ (w j : Nat), bq_il w j pc ls st h = some k → k.2.1 = ls ∧ bq_il w j pc ls' st h = some (k.1, ls', k.2.2.1, k.2.2.2) := by
    intro w j hq
    unfold bq_il at hq ⊢
    split at hq
    · rename_i x hx
      cases hq
      rw [hl _ _ hx]; exact ⟨rfl, rfl⟩
    · cases hq
  have eJ : ∀ (w j : Nat), bq_ll w j pc ls st h = some k → k.2.1 = ls ∧ bq_ll w j pc ls' st h = some (k.1, ls', k.2.2.1, k.2.2.2) := by
    intro w j hq
    unfold bq_ll at hq ⊢
    split at hq
    · rename_i x hx
      cases hq
      rw [hl _ _ hx]; exact ⟨rfl, rfl⟩
    · cases hq
  have eA : ∀ (w j : Nat), bq_al w j pc ls st h = some k → k.2.1 = ls ∧ bq_al w j pc ls' st h = some (k.1, ls', k.2.2.1, k.2.2.2) := by
    intro w j hq
    unfold bq_al at hq ⊢
    split at hq
    · rename_i x hx
      cases hq
      rw [hl _ _ hx]; exact ⟨rfl, rfl⟩
    · rename_i x hx
      cases hq
      rw [hl _ _ hx]; exact ⟨rfl, rfl⟩
    · rename_i hx
      cases hq
      rw [hl _ _ hx]; exact ⟨rfl, rfl⟩
    · cases hq
  have s1 : ∀ (j : Nat) (v : Value), bw_nd (bw_s1 ls j v) ∧ bw_nd (bw_s1 ls' j v) ∧ bw_le (bw_s1 ls j v) (bw_s1 ls' j v) := fun j v => ⟨nd_s1 hn j v, nd_s1 hn' j v, le_s hn hn' hl _ j v⟩
  have s2 : ∀ (j : Nat) (v : Value), bw_nd (bw_s2 ls j v) ∧ bw_nd (bw_s2 ls' j v) ∧ bw_le (bw_s2 ls j v) (bw_s2 ls' j v) := fun j v => ⟨nd_s2 hn j v, nd_s2 hn' j v, le_s hn hn' hl _ j v⟩
  have eI : ∀ (w j : Nat), bq_is nL w j pc ls st h = some k → ∃ l1, bq_is nL w j pc ls' st h = some (k.1, l1, k.2.2.1, k.2.2.2) ∧ bw_nd k.2.1 ∧ bw_nd l1 ∧ bw_le k.2.1 l1 := by
    intro w j hq
    unfold bq_is at hq ⊢
    split at hq
    · split at hq
      · cases hq; exact ⟨_, by simp only; rw [if_pos (by assumption)], s1 _ _⟩
      · cases hq
    · cases hq
  have eS : ∀ (w j : Nat), bq_ls nL w j pc ls st h = some k → ∃ l1, bq_ls nL w j pc ls' st h = some (k.1, l1, k.2.2.1, k.2.2.2) ∧ bw_nd k.2.1 ∧ bw_nd l1 ∧ bw_le k.2.1 l1 := by
    intro w j hq
    unfold bq_ls at hq ⊢
    split at hq
    · split at hq
      · cases hq; exact ⟨_, by simp only; rw [if_pos (by assumption)], s2 _ _⟩
      · cases hq
    · cases hq
  have eT : ∀ (w j : Nat), bq_as nL w j pc ls st h = some k → ∃ l1, bq_as nL w j pc ls' st h = some (k.1, l1, k.2.2.1, k.2.2.2) ∧ bw_nd k.2.1 ∧ bw_nd l1 ∧ bw_le k.2.1 l1 := by
    intro w j hq
    unfold bq_as at hq ⊢
    split at hq
    · split at hq
      · cases hq; exact ⟨_, by simp only; rw [if_pos (by assumption)], s1 _ _⟩
      · cases hq
    · split at hq
      · cases hq; exact ⟨_, by simp only; rw [if_pos (by assumption)], s1 _ _⟩
      · cases hq
    · cases hq
  have eC : ∀ (j : Nat) (n : Int), bq_ic nL j n pc ls st h = some k → ∃ l1, bq_ic nL j n pc ls' st h = some (k.1, l1, k.2.2.1, k.2.2.2) ∧ bw_nd k.2.1 ∧ bw_nd l1 ∧ bw_le k.2.1 l1 := by
    intro j n hq
    unfold bq_ic at hq ⊢
    split at hq
    · rename_i x hx
      rw [hl _ _ hx]
      split at hq
      · cases hq; exact ⟨_, by simp only; rw [if_pos (by assumption)], s1 _ _⟩
      · cases hq
    · cases hq
  cases i with
  | iload a => exact bl_eq (k := k) hn hn' hl (eL _ _ hq)
  | iload_n a => exact bl_eq (k := k) hn hn' hl (eL _ _ hq)
  | lload a => exact bl_eq (k := k) hn hn' hl (eJ _ _ hq)
  | lload_n a => exact bl_eq (k := k) hn hn' hl (eJ _ _ hq)
  | aload a => exact bl_eq (k := k) hn hn' hl (eA _ _ hq)
  | aload_n a => exact bl_eq (k := k) hn hn' hl (eA _ _ hq)
  | istore a => exact eI _ _ hq
  | istore_n a => exact eI _ _ hq
  | lstore a => exact eS _ _ hq
  | lstore_n a => exact eS _ _ hq
  | astore a => exact eT _ _ hq
  | astore_n a => exact eT _ _ hq
  | iinc a n => exact eC _ _ hq
  | iconst a => exact bl_eq (k := k) hn hn' hl (bl_cn hq)
  | bipush a => exact bl_eq (k := k) hn hn' hl (bl_cn hq)
  | sipush a => exact bl_eq (k := k) hn hn' hl (bl_cn hq)
  | lconst a => exact bl_eq (k := k) hn hn' hl (bl_cn hq)
  | aconst_null => exact bl_eq (k := k) hn hn' hl (bl_cn hq)
  | iadd => exact bl_eq (k := k) hn hn' hl (bl_ii hq)
  | isub => exact bl_eq (k := k) hn hn' hl (bl_ii hq)
  | imul => exact bl_eq (k := k) hn hn' hl (bl_ii hq)
  | iand => exact bl_eq (k := k) hn hn' hl (bl_ii hq)
  | ior => exact bl_eq (k := k) hn hn' hl (bl_ii hq)
  | ixor => exact bl_eq (k := k) hn hn' hl (bl_ii hq)
  | ishl => exact bl_eq (k := k) hn hn' hl (bl_ii hq)
  | ishr => exact bl_eq (k := k) hn hn' hl (bl_ii hq)
  | iushr => exact bl_eq (k := k) hn hn' hl (bl_ii hq)
  | idiv => exact bl_eq (k := k) hn hn' hl (bl_id hq)
  | irem => exact bl_eq (k := k) hn hn' hl (bl_id hq)
  | ladd => exact bl_eq (k := k) hn hn' hl (bl_jj hq)
  | lsub => exact bl_eq (k := k) hn hn' hl (bl_jj hq)
  | lmul => exact bl_eq (k := k) hn hn' hl (bl_jj hq)
  | land => exact bl_eq (k := k) hn hn' hl (bl_jj hq)
  | lor => exact bl_eq (k := k) hn hn' hl (bl_jj hq)
  | lxor => exact bl_eq (k := k) hn hn' hl (bl_jj hq)
  | ldiv => exact bl_eq (k := k) hn hn' hl (bl_jd hq)
  | lrem => exact bl_eq (k := k) hn hn' hl (bl_jd hq)
  | lushr => exact bl_eq (k := k) hn hn' hl (bl_ju hq)
  | ineg => exact bl_eq (k := k) hn hn' hl (bl_i1 hq)
  | lneg => exact bl_eq (k := k) hn hn' hl (bl_j1 hq)
  | i2l => exact bl_eq (k := k) hn hn' hl (bl_i1 hq)
  | i2b => exact bl_eq (k := k) hn hn' hl (bl_i1 hq)
  | l2i => exact bl_eq (k := k) hn hn' hl (bl_j1 hq)
  | lcmp => exact bl_eq (k := k) hn hn' hl (bl_cm hq)
  | dup => exact bl_eq (k := k) hn hn' hl (bl_du hq)
  | dup2 => exact bl_eq (k := k) hn hn' hl (bl_d2 hq)
  | goto a => exact bl_eq (k := k) hn hn' hl (bl_go hq)
  | ifnull a => exact bl_eq (k := k) hn hn' hl (bl_nu hq)
  | ifnonnull a => exact bl_eq (k := k) hn hn' hl (bl_nn hq)
  | tableswitch a b d f => exact bl_eq (k := k) hn hn' hl (bl_ts hq)
  | getfield a => exact bl_eq (k := k) hn hn' hl (bl_gf hq)
  | putfield a => exact bl_eq (k := k) hn hn' hl (bl_pf hq)
  | getstatic a => exact bl_eq (k := k) hn hn' hl (bl_gs hq)
  | laload => exact bl_eq (k := k) hn hn' hl (bl_la hq)
  | iaload => exact bl_eq (k := k) hn hn' hl (bl_ia hq)
  | baload => exact absurd (show (none : Option bw_C) = some k from hq) (fun z => by cases z)
  | aaload => exact bl_eq (k := k) hn hn' hl (bl_aa hq)
  | iastore => exact bl_eq (k := k) hn hn' hl (bl_ist hq)
  | bastore => exact absurd (show (none : Option bw_C) = some k from hq) (fun z => by cases z)
  | aastore => exact bl_eq (k := k) hn hn' hl (bl_ast hq)
  | arraylength => exact bl_eq (k := k) hn hn' hl (bl_len hq)
  | new a => exact bl_eq (k := k) hn hn' hl (bl_new hq)
  | newarray a => exact bl_eq (k := k) hn hn' hl (bl_na hq)
  | anewarray a => exact bl_eq (k := k) hn hn' hl (bl_an hq)
  | invokespecial a => exact bl_eq (k := k) hn hn' hl (bl_oi hq)
  | ldc a =>
    have hq' : (match bw_kc o a with | some (.int v) => bq_cn 2 (.int v) | _ => fun _ _ _ _ => none) pc ls st h = some k := hq
    show ∃ l1, (match bw_kc o a with | some (.int v) => bq_cn 2 (.int v) | _ => fun _ _ _ _ => none) pc ls' st h = _ ∧ _
    cases hkc : bw_kc o a with
    | none => rw [hkc] at hq'; cases hq'
    | some v =>
      rw [hkc] at hq'
      cases v with
      | int v => exact bl_eq (k := k) hn hn' hl (bl_cn hq')
      | _ => cases hq'
  | ldc_w a =>
    have hq' : (match bw_kc o a with | some (.int v) => bq_cn 3 (.int v) | _ => fun _ _ _ _ => none) pc ls st h = some k := hq
    show ∃ l1, (match bw_kc o a with | some (.int v) => bq_cn 3 (.int v) | _ => fun _ _ _ _ => none) pc ls' st h = _ ∧ _
    cases hkc : bw_kc o a with
    | none => rw [hkc] at hq'; cases hq'
    | some v =>
      rw [hkc] at hq'
      cases v with
      | int v => exact bl_eq (k := k) hn hn' hl (bl_cn hq')
      | _ => cases hq'
  | ldc2_w a =>
    have hq' : (match bw_kc o a with | some (.long v) => bq_cn 3 (.long v) | _ => fun _ _ _ _ => none) pc ls st h = some k := hq
    show ∃ l1, (match bw_kc o a with | some (.long v) => bq_cn 3 (.long v) | _ => fun _ _ _ _ => none) pc ls' st h = _ ∧ _
    cases hkc : bw_kc o a with
    | none => rw [hkc] at hq'; cases hq'
    | some v =>
      rw [hkc] at hq'
      cases v with
      | long v => exact bl_eq (k := k) hn hn' hl (bl_cn hq')
      | _ => cases hq'
  | ifCond cd off => cases cd <;> exact bl_eq (k := k) hn hn' hl (bl_if hq)
  | if_icmp cd off => cases cd <;> exact bl_eq (k := k) hn hn' hl (bl_cp hq)
  | invokestatic a =>
    have hq' : (match bw_mx o a with | some b => bq_mx b | none => bq_ac (bw_ac o a)) pc ls st h = some k := hq
    show ∃ l1, (match bw_mx o a with | some b => bq_mx b | none => bq_ac (bw_ac o a)) pc ls' st h = _ ∧ _
    cases hmx : bw_mx o a with
    | some b => rw [hmx] at hq'; exact bl_eq (k := k) hn hn' hl (bl_mx hq')
    | none => rw [hmx] at hq'; exact bl_eq (k := k) hn hn' hl (bl_ac hq')
  | _ => exact absurd (show (none : Option bw_C) = some k from hq) (fun z => by cases z)
/-- an instruction that does nothing here with few locals may do something with more: not an end, not a call -/
theorem bw_x_end {X : Nat × (Nat → Int32)} {o nL : Nat} {ini : Bool} {i : Instr} {pc : Nat} {ls : bw_L} {st : List Value} {h : bw_H} {rt : Option FieldType} {v : Option Value} (he : bw_e rt i st = some v) : bw_x X o nL ini i pc ls st h = none := by
  unfold bw_e at he
  split at he <;> first | rfl | cases he
theorem bw_x_call {X : Nat × (Nat → Int32)} {o nL : Nat} {ini : Bool} {i : Instr} {pc : Nat} {ls ls' : bw_L} {st : List Value} {h : bw_H} {z : bw_M × Bool × List Value × List Value} (hc : bw_c o i st h = some z) (hx : bw_x X o nL ini i pc ls st h = none) : bw_x X o nL ini i pc ls' st h = none := by
  cases hx' : bw_x X o nL ini i pc ls' st h with
  | none => rfl
  | some k =>
    exfalso
    unfold bw_c at hc
    split at hc
    · rename_i a
      have h1 : (match bw_mx o a with | some b => bq_mx b | none => bq_ac (bw_ac o a)) pc ls' st h = some k := hx'
      have h2 : (match bw_mx o a with | some b => bq_mx b | none => bq_ac (bw_ac o a)) pc ls st h = none := hx
      cases hmx : bw_mx o a with
      | some b => rw [hmx] at h1 h2; have := (bl_mx (ls' := ls) h1).2; have h3 : bq_mx b pc ls st h = none := h2; rw [h3] at this; cases this
      | none => rw [hmx] at h1 h2; have := (bl_ac (ls' := ls) h1).2; have h3 : bq_ac (bw_ac o a) pc ls st h = none := h2; rw [h3] at this; cases this
    · cases (show (none : Option bw_C) = some k from hx')
    · rename_i a
      have h1 : bq_oi (bw_oi o a) pc ls' st h = some k := hx'
      have h2 : bq_oi (bw_oi o a) pc ls st h = none := hx
      have := (bl_oi (ls' := ls) h1).2
      rw [h2] at this; cases this
    · cases hc
theorem bw_run_le (X : Nat × (Nat → Int32)) : ∀ (n d o nL : Nat) (ini : Bool) (rt : Option FieldType) (cc : ByteArray) (pc : Nat) (ls ls' : bw_L) (st : List Value) (h : bw_H) (r : Option Value × bw_H), bw_nd ls → bw_nd ls' → bw_le ls ls' → bw_run X n d o nL ini rt cc pc ls st h = some r → bw_run X n d o nL ini rt cc pc ls' st h = some r := by
  intro n
  induction n with
  | zero => intro d o nL ini rt cc pc ls ls' st h r _ _ _ hr; unfold bw_run at hr; cases hr
  | succ n ih =>
    intro d o nL ini rt cc pc ls ls' st h r hn hn' hl hr
    unfold bw_run at hr ⊢
    split at hr
    · cases hr
    · rename_i i len hdg
      try simp only
      split at hr
      · cases hr
      · rename_i hw
        rw [if_neg hw]
        split at hr
        · rename_i hx
          obtain ⟨l1, e1, e2, e3, e4⟩ := bw_x_le hn hn' hl hx
          rw [e1]
          exact ih _ _ _ _ _ _ _ _ _ _ _ _ e2 e3 e4 hr
        · rename_i hx
          split at hr
          · rename_i he
            rw [bw_x_end he]
            try simp only
            try rw [he]
            exact hr
          · rename_i he
            split at hr
            · cases hr
            · split at hr
              · rename_i hc
                rw [bw_x_call hc hx]
                try simp only
                try rw [he]
                try simp only
                try rw [hc]
                try simp only
                split at hr
                · rename_i hrun
                  try rw [hrun]
                  try simp only
                  exact ih _ _ _ _ _ _ _ _ _ _ _ _ hn hn' hl hr
                · cases hr
              · cases hr
theorem go_ls {X : Nat × (Nat → Int32)} {d o nL : Nat} {ini : Bool} {rt : Option FieldType} {cc : ByteArray} {pc : Nat} (ls : bw_L) {ls' : bw_L} {st : List Value} {h : bw_H} {Q : Option Value → bw_H → Prop} (hn : bw_nd ls) (hn' : bw_nd ls') (hl : bw_le ls ls') (K : bw_go X d o nL ini rt cc pc ls st h Q) : bw_go X d o nL ini rt cc pc ls' st h Q := by
  obtain ⟨n, v, h', h1, h2⟩ := K
  exact ⟨n, v, h', bw_run_le X _ _ _ _ _ _ _ _ _ _ _ _ _ hn hn' hl h1, h2⟩
theorem le_nil (ls' : bw_L) : bw_le [] ls' := fun i v h => by rw [lg_nil] at h; cases h
theorem le_cons {i : Nat} {v : Value} {ls ls' : bw_L} (h1 : bw_lg ls' i = some v) (h2 : bw_le ls ls') : bw_le ((i, v) :: ls) ls' := by
  intro j w hw
  rw [lg_cons] at hw
  by_cases hj : i = j
  · subst hj; rw [if_pos rfl] at hw; rw [h1]; exact hw
  · rw [if_neg hj] at hw; exact h2 j w hw
