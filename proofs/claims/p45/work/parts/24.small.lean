/-! what bears tell, in numbers; the class's own small functions -/
theorem qi {Q : Option Value → bw_H → Prop} {h : bw_H} {a b : Int32} (hQ : Q (some (.int b)) h) (e : a = b) : Q (some (.int a)) h := by rw [e]; exact hQ
theorem qb {Q : Option Value → bw_H → Prop} {h : bw_H} {a : Int32} {b : Bool} (hQ : Q (some (.int (bi b))) h) (e : a = bi b) : Q (some (.int a)) h := by rw [e]; exact hQ
def ofk (k w : Nat) : Bool := decide (k = w ∨ w = 0 ∨ (w = 1 ∧ k = 4) ∨ (w = 3 ∧ k = 5))
/-- things that a bear sees: of kind k, with wear w, view v, eyes e -/
def see (k w v e : Nat) : Nat := if 9 ≤ w then 0 else if k = 5 ∧ 3 ≤ w then 0 else
  if k = 1 ∨ k = 4 ∨ 2 ≤ e then (if k = 2 then v ||| ((v <<< 1) &&& 63) else v) else if e = 1 then (if k = 2 then v ||| ((v <<< 1) &&& 63) else v) &&& 21 else 0
def tol (wl i k w v e : Nat) : Nat := if wl.testBit i = true then 0 else see k w v e
def one (t k w dn : Nat) : Nat := if k = 4 then t else if (k = 3 ∨ k = 5) ∧ 5 ≤ w then t &&& (63 ^^^ dn) else t &&& dn
def ans (wl i k w v e t dn : Nat) : Int32 := if (tol wl i k w v e).testBit t = true then (if (one (tol wl i k w v e) k w dn).testBit t = true then 1 else 0) else -9
theorem in_t : ∀ s, s < 64 → ∀ i, i < 8 → (if ((nI s >>> (nI i &&& 31)) &&& 1) = 1 then true else false) = s.testBit i := by decide +kernel
theorem pan_t : ∀ v, v < 64 → (nI v ||| ((nI v <<< ((1 : Int32) &&& 31)) &&& (63 : Int32))) = nI (v ||| ((v <<< 1) &&& 63)) := by decide +kernel
theorem pan_lt : ∀ v, v < 64 → (v ||| ((v <<< 1) &&& 63)) < 64 := by decide +kernel
theorem and21 : ∀ v, v < 64 → (nI v &&& 21) = nI (v &&& 21) := by decide +kernel
theorem and_n (a b : Nat) : nI a &&& nI b = nI (a &&& b) := by
  apply Int32.toBitVec_inj.mp
  show BitVec.ofNat 32 a &&& BitVec.ofNat 32 b = BitVec.ofNat 32 (a &&& b)
  rw [BitVec.ofNat_and]
theorem or_n (a b : Nat) : nI a ||| nI b = nI (a ||| b) := by
  apply Int32.toBitVec_inj.mp
  show BitVec.ofNat 32 a ||| BitVec.ofNat 32 b = BitVec.ofNat 32 (a ||| b)
  rw [BitVec.ofNat_or]
theorem not_n : ∀ d, d < 64 → ∀ a, a < 64 → (nI a &&& (nI d ^^^ -1)) = nI (a &&& (63 ^^^ d)) := by decide +kernel
theorem and_lt {a b : Nat} (h : a < 64) : a &&& b < 64 := Nat.lt_of_le_of_lt Nat.and_le_left h
theorem or_lt {a b : Nat} (h : a < 64) (h2 : b < 64) : a ||| b < 64 := Nat.or_lt_two_pow (n := 6) h h2
theorem see_lt {k w v e : Nat} (hv : v < 64) : see k w v e < 64 := by
  have := pan_lt v hv
  unfold see
  repeat' split
  all_goals first | omega | exact and_lt this | exact and_lt hv
theorem tol_lt {wl i k w v e : Nat} (hv : v < 64) : tol wl i k w v e < 64 := by
  unfold tol
  split
  · omega
  · exact see_lt hv
theorem one_lt {t k w dn : Nat} (ht : t < 64) : one t k w dn < 64 := by
  unfold one
  repeat' split
  all_goals first | omega | exact and_lt ht
set_option maxRecDepth 100000 in
set_option maxHeartbeats 4000000 in
theorem me_X7_isThing {X : Nat × (Nat → Int32)} {Q : Option Value → bw_H → Prop} {h : bw_H} {i : Int32} (hQ : Q (some (.int (bi (decide (0 ≤ i.toInt ∧ i.toInt < 6))))) h) : bw_me X 0 bm_X7_isThing false [.int i] h Q := by
  show bw_go _ 0 7 1 false (some .boolean) cX7_isThing 0 [(0, .int _)] [] _ _
  refine go_iload_n dX7_isThing_0 rfl ?_
  refine go_if_lt (pc' := 14) dX7_isThing_1 rfl (fun c_1 => ?_) (fun c_1 => ?_)
  · -- lt at 1: yes
    show bw_go _ _ _ _ _ _ _ 14 [(0, .int _)] ([]) _ _
    refine go_iconst (0) dX7_isThing_14 rfl ?_
    refine go_iret dX7_isThing_15 rfl rfl ?_
    exact bi_0 (by have l_0 := i_0; have l_1 : (6 : Int32).toInt = 6 := rfl; simp only [i_le, i_lt] at *; first | exact decide_eq_true (by omega) | exact decide_eq_false (by omega)) hQ
  · -- lt at 1: no
    show bw_go _ _ _ _ _ _ _ 4 [(0, .int _)] ([]) _ _
    refine go_iload_n dX7_isThing_4 rfl ?_
    refine go_bipush (6) dX7_isThing_5 rfl ?_
    refine go_icmp_ge (pc' := 14) dX7_isThing_7 rfl (fun c_7 => ?_) (fun c_7 => ?_)
    · -- ge at 7: yes
      show bw_go _ _ _ _ _ _ _ 14 [(0, .int _)] ([]) _ _
      refine go_iconst (0) dX7_isThing_14 rfl ?_
      refine go_iret dX7_isThing_15 rfl rfl ?_
      exact bi_0 (by have l_0 := i_0; have l_1 : (6 : Int32).toInt = 6 := rfl; simp only [i_le, i_lt] at *; first | exact decide_eq_true (by omega) | exact decide_eq_false (by omega)) hQ
    · -- ge at 7: no
      show bw_go _ _ _ _ _ _ _ 10 [(0, .int _)] ([]) _ _
      refine go_iconst (1) dX7_isThing_10 rfl ?_
      refine go_goto (pc' := 15) dX7_isThing_11 rfl ?_
      show bw_go _ _ _ _ _ _ _ 15 [(0, .int _)] ((.int _) :: []) _ _
      refine go_iret dX7_isThing_15 rfl rfl ?_
      exact bi_1 (by have l_0 := i_0; have l_1 : (6 : Int32).toInt = 6 := rfl; simp only [i_le, i_lt] at *; first | exact decide_eq_true (by omega) | exact decide_eq_false (by omega)) hQ
set_option maxRecDepth 100000 in
set_option maxHeartbeats 4000000 in
theorem me_X7_isChance {X : Nat × (Nat → Int32)} {Q : Option Value → bw_H → Prop} {h : bw_H} {i : Int32} (hQ : Q (some (.int (bi (decide (0 ≤ i.toInt ∧ i.toInt ≤ 12))))) h) : bw_me X 0 bm_X7_isChance false [.int i] h Q := by
  show bw_go _ 0 7 1 false (some .boolean) cX7_isChance 0 [(0, .int _)] [] _ _
  refine go_iload_n dX7_isChance_0 rfl ?_
  refine go_if_lt (pc' := 14) dX7_isChance_1 rfl (fun c_1 => ?_) (fun c_1 => ?_)
  · -- lt at 1: yes
    show bw_go _ _ _ _ _ _ _ 14 [(0, .int _)] ([]) _ _
    refine go_iconst (0) dX7_isChance_14 rfl ?_
    refine go_iret dX7_isChance_15 rfl rfl ?_
    exact bi_0 (by have l_0 := i_0; have l_1 : (12 : Int32).toInt = 12 := rfl; simp only [i_le, i_lt] at *; first | exact decide_eq_true (by omega) | exact decide_eq_false (by omega)) hQ
  · -- lt at 1: no
    show bw_go _ _ _ _ _ _ _ 4 [(0, .int _)] ([]) _ _
    refine go_iload_n dX7_isChance_4 rfl ?_
    refine go_bipush (12) dX7_isChance_5 rfl ?_
    refine go_icmp_gt (pc' := 14) dX7_isChance_7 rfl (fun c_7 => ?_) (fun c_7 => ?_)
    · -- gt at 7: yes
      show bw_go _ _ _ _ _ _ _ 14 [(0, .int _)] ([]) _ _
      refine go_iconst (0) dX7_isChance_14 rfl ?_
      refine go_iret dX7_isChance_15 rfl rfl ?_
      exact bi_0 (by have l_0 := i_0; have l_1 : (12 : Int32).toInt = 12 := rfl; simp only [i_le, i_lt] at *; first | exact decide_eq_true (by omega) | exact decide_eq_false (by omega)) hQ
    · -- gt at 7: no
      show bw_go _ _ _ _ _ _ _ 10 [(0, .int _)] ([]) _ _
      refine go_iconst (1) dX7_isChance_10 rfl ?_
      refine go_goto (pc' := 15) dX7_isChance_11 rfl ?_
      show bw_go _ _ _ _ _ _ _ 15 [(0, .int _)] ((.int _) :: []) _ _
      refine go_iret dX7_isChance_15 rfl rfl ?_
      exact bi_1 (by have l_0 := i_0; have l_1 : (12 : Int32).toInt = 12 := rfl; simp only [i_le, i_lt] at *; first | exact decide_eq_true (by omega) | exact decide_eq_false (by omega)) hQ
set_option maxRecDepth 100000 in
set_option maxHeartbeats 4000000 in
theorem me_X7_isIn {X : Nat × (Nat → Int32)} {Q : Option Value → bw_H → Prop} {h : bw_H} {s i : Nat} (hs : s < 64) (hi : i < 8) (hQ : Q (some (.int (bi (s.testBit i)))) h) : bw_me X 0 bm_X7_isIn false [.int (nI s), .int (nI i)] h Q := by
  show bw_go _ 0 7 2 false (some .boolean) cX7_isIn 0 [(0, .int _), (1, .int _)] [] _ _
  refine go_iload_n dX7_isIn_0 rfl ?_
  refine go_iload_n dX7_isIn_1 rfl ?_
  refine go_ishr dX7_isIn_2 ?_
  refine go_iconst (1) dX7_isIn_3 rfl ?_
  refine go_iand dX7_isIn_4 ?_
  refine go_iconst (1) dX7_isIn_5 rfl ?_
  refine go_icmp_ne (pc' := 13) dX7_isIn_6 rfl (fun c_6 => ?_) (fun c_6 => ?_)
  · -- ne at 6: yes
    show bw_go _ _ _ _ _ _ _ 13 [(0, .int _), (1, .int _)] ([]) _ _
    refine go_iconst (0) dX7_isIn_13 rfl ?_
    refine go_iret dX7_isIn_14 rfl rfl ?_
    have z := in_t s hs i hi
    rw [if_neg c_6] at z
    exact bi_0 z.symm hQ
  · -- ne at 6: no
    show bw_go _ _ _ _ _ _ _ 9 [(0, .int _), (1, .int _)] ([]) _ _
    refine go_iconst (1) dX7_isIn_9 rfl ?_
    refine go_goto (pc' := 14) dX7_isIn_10 rfl ?_
    show bw_go _ _ _ _ _ _ _ 14 [(0, .int _), (1, .int _)] ((.int _) :: []) _ _
    refine go_iret dX7_isIn_14 rfl rfl ?_
    have z := in_t s hs i hi
    rw [if_pos (Decidable.of_not_not c_6)] at z
    exact bi_1 z.symm hQ
set_option maxRecDepth 100000 in
set_option maxHeartbeats 4000000 in
theorem me_X7_isOfKind {X : Nat × (Nat → Int32)} {Q : Option Value → bw_H → Prop} {h : bw_H} {k w : Nat} (hk : k < 6) (hw : w < 6) (hQ : Q (some (.int (bi (ofk k w)))) h) : bw_me X 0 bm_X7_isOfKind false [.int (nI k), .int (nI w)] h Q := by
  show bw_go _ 0 7 2 false (some .boolean) cX7_isOfKind 0 [(0, .int _), (1, .int _)] [] _ _
  refine go_iload_n dX7_isOfKind_0 rfl ?_
  refine go_iload_n dX7_isOfKind_1 rfl ?_
  refine go_icmp_eq (pc' := 9) dX7_isOfKind_2 rfl (fun c_2 => ?_) (fun c_2 => ?_)
  · -- eq at 2: yes
    show bw_go _ _ _ _ _ _ _ 9 [(0, .int _), (1, .int _)] ([]) _ _
    refine go_iconst (1) dX7_isOfKind_9 rfl ?_
    refine go_iret dX7_isOfKind_10 rfl rfl ?_
    have t_0 := nI_toInt (n := k) (by omega); have t_1 := nI_toInt (n := w) (by omega)
    have l_0 : (0 : Int32).toInt = 0 := rfl
    have l_1 : (1 : Int32).toInt = 1 := rfl
    have l_3 : (3 : Int32).toInt = 3 := rfl
    have l_4 : (4 : Int32).toInt = 4 := rfl
    have l_5 : (5 : Int32).toInt = 5 := rfl
    simp only [i_eq] at c_2
    first | exact bi_1 (decide_eq_true (by omega)) hQ | exact bi_0 (decide_eq_false (by omega)) hQ
  · -- eq at 2: no
    show bw_go _ _ _ _ _ _ _ 5 [(0, .int _), (1, .int _)] ([]) _ _
    refine go_iload_n dX7_isOfKind_5 rfl ?_
    refine go_if_ne (pc' := 11) dX7_isOfKind_6 rfl (fun c_6 => ?_) (fun c_6 => ?_)
    · -- ne at 6: yes
      show bw_go _ _ _ _ _ _ _ 11 [(0, .int _), (1, .int _)] ([]) _ _
      refine go_iload_n dX7_isOfKind_11 rfl ?_
      refine go_iconst (1) dX7_isOfKind_12 rfl ?_
      refine go_icmp_ne (pc' := 21) dX7_isOfKind_13 rfl (fun c_13 => ?_) (fun c_13 => ?_)
      · -- ne at 13: yes
        show bw_go _ _ _ _ _ _ _ 21 [(0, .int _), (1, .int _)] ([]) _ _
        refine go_iload_n dX7_isOfKind_21 rfl ?_
        refine go_iconst (3) dX7_isOfKind_22 rfl ?_
        refine go_icmp_ne (pc' := 35) dX7_isOfKind_23 rfl (fun c_23 => ?_) (fun c_23 => ?_)
        · -- ne at 23: yes
          show bw_go _ _ _ _ _ _ _ 35 [(0, .int _), (1, .int _)] ([]) _ _
          refine go_iconst (0) dX7_isOfKind_35 rfl ?_
          refine go_iret dX7_isOfKind_36 rfl rfl ?_
          have t_0 := nI_toInt (n := k) (by omega); have t_1 := nI_toInt (n := w) (by omega)
          have l_0 : (0 : Int32).toInt = 0 := rfl
          have l_1 : (1 : Int32).toInt = 1 := rfl
          have l_3 : (3 : Int32).toInt = 3 := rfl
          have l_4 : (4 : Int32).toInt = 4 := rfl
          have l_5 : (5 : Int32).toInt = 5 := rfl
          simp only [i_eq] at c_2
          simp only [i_eq] at c_6
          simp only [i_eq] at c_13
          simp only [i_eq] at c_23
          first | exact bi_1 (decide_eq_true (by omega)) hQ | exact bi_0 (decide_eq_false (by omega)) hQ
        · -- ne at 23: no
          show bw_go _ _ _ _ _ _ _ 26 [(0, .int _), (1, .int _)] ([]) _ _
          refine go_iload_n dX7_isOfKind_26 rfl ?_
          refine go_iconst (5) dX7_isOfKind_27 rfl ?_
          refine go_icmp_ne (pc' := 35) dX7_isOfKind_28 rfl (fun c_28 => ?_) (fun c_28 => ?_)
          · -- ne at 28: yes
            show bw_go _ _ _ _ _ _ _ 35 [(0, .int _), (1, .int _)] ([]) _ _
            refine go_iconst (0) dX7_isOfKind_35 rfl ?_
            refine go_iret dX7_isOfKind_36 rfl rfl ?_
            have t_0 := nI_toInt (n := k) (by omega); have t_1 := nI_toInt (n := w) (by omega)
            have l_0 : (0 : Int32).toInt = 0 := rfl
            have l_1 : (1 : Int32).toInt = 1 := rfl
            have l_3 : (3 : Int32).toInt = 3 := rfl
            have l_4 : (4 : Int32).toInt = 4 := rfl
            have l_5 : (5 : Int32).toInt = 5 := rfl
            simp only [i_eq] at c_2
            simp only [i_eq] at c_6
            simp only [i_eq] at c_13
            simp only [i_eq] at c_23
            simp only [i_eq] at c_28
            first | exact bi_1 (decide_eq_true (by omega)) hQ | exact bi_0 (decide_eq_false (by omega)) hQ
          · -- ne at 28: no
            show bw_go _ _ _ _ _ _ _ 31 [(0, .int _), (1, .int _)] ([]) _ _
            refine go_iconst (1) dX7_isOfKind_31 rfl ?_
            refine go_goto (pc' := 36) dX7_isOfKind_32 rfl ?_
            show bw_go _ _ _ _ _ _ _ 36 [(0, .int _), (1, .int _)] ((.int _) :: []) _ _
            refine go_iret dX7_isOfKind_36 rfl rfl ?_
            have t_0 := nI_toInt (n := k) (by omega); have t_1 := nI_toInt (n := w) (by omega)
            have l_0 : (0 : Int32).toInt = 0 := rfl
            have l_1 : (1 : Int32).toInt = 1 := rfl
            have l_3 : (3 : Int32).toInt = 3 := rfl
            have l_4 : (4 : Int32).toInt = 4 := rfl
            have l_5 : (5 : Int32).toInt = 5 := rfl
            simp only [i_eq] at c_2
            simp only [i_eq] at c_6
            simp only [i_eq] at c_13
            simp only [i_eq] at c_23
            simp only [i_eq] at c_28
            first | exact bi_1 (decide_eq_true (by omega)) hQ | exact bi_0 (decide_eq_false (by omega)) hQ
      · -- ne at 13: no
        show bw_go _ _ _ _ _ _ _ 16 [(0, .int _), (1, .int _)] ([]) _ _
        refine go_iload_n dX7_isOfKind_16 rfl ?_
        refine go_iconst (4) dX7_isOfKind_17 rfl ?_
        refine go_icmp_eq (pc' := 31) dX7_isOfKind_18 rfl (fun c_18 => ?_) (fun c_18 => ?_)
        · -- eq at 18: yes
          show bw_go _ _ _ _ _ _ _ 31 [(0, .int _), (1, .int _)] ([]) _ _
          refine go_iconst (1) dX7_isOfKind_31 rfl ?_
          refine go_goto (pc' := 36) dX7_isOfKind_32 rfl ?_
          show bw_go _ _ _ _ _ _ _ 36 [(0, .int _), (1, .int _)] ((.int _) :: []) _ _
          refine go_iret dX7_isOfKind_36 rfl rfl ?_
          have t_0 := nI_toInt (n := k) (by omega); have t_1 := nI_toInt (n := w) (by omega)
          have l_0 : (0 : Int32).toInt = 0 := rfl
          have l_1 : (1 : Int32).toInt = 1 := rfl
          have l_3 : (3 : Int32).toInt = 3 := rfl
          have l_4 : (4 : Int32).toInt = 4 := rfl
          have l_5 : (5 : Int32).toInt = 5 := rfl
          simp only [i_eq] at c_2
          simp only [i_eq] at c_6
          simp only [i_eq] at c_13
          simp only [i_eq] at c_18
          first | exact bi_1 (decide_eq_true (by omega)) hQ | exact bi_0 (decide_eq_false (by omega)) hQ
        · -- eq at 18: no
          show bw_go _ _ _ _ _ _ _ 21 [(0, .int _), (1, .int _)] ([]) _ _
          refine go_iload_n dX7_isOfKind_21 rfl ?_
          refine go_iconst (3) dX7_isOfKind_22 rfl ?_
          refine go_icmp_ne (pc' := 35) dX7_isOfKind_23 rfl (fun c_23 => ?_) (fun c_23 => ?_)
          · -- ne at 23: yes
            show bw_go _ _ _ _ _ _ _ 35 [(0, .int _), (1, .int _)] ([]) _ _
            refine go_iconst (0) dX7_isOfKind_35 rfl ?_
            refine go_iret dX7_isOfKind_36 rfl rfl ?_
            have t_0 := nI_toInt (n := k) (by omega); have t_1 := nI_toInt (n := w) (by omega)
            have l_0 : (0 : Int32).toInt = 0 := rfl
            have l_1 : (1 : Int32).toInt = 1 := rfl
            have l_3 : (3 : Int32).toInt = 3 := rfl
            have l_4 : (4 : Int32).toInt = 4 := rfl
            have l_5 : (5 : Int32).toInt = 5 := rfl
            simp only [i_eq] at c_2
            simp only [i_eq] at c_6
            simp only [i_eq] at c_13
            simp only [i_eq] at c_18
            simp only [i_eq] at c_23
            first | exact bi_1 (decide_eq_true (by omega)) hQ | exact bi_0 (decide_eq_false (by omega)) hQ
          · -- ne at 23: no
            show bw_go _ _ _ _ _ _ _ 26 [(0, .int _), (1, .int _)] ([]) _ _
            refine go_iload_n dX7_isOfKind_26 rfl ?_
            refine go_iconst (5) dX7_isOfKind_27 rfl ?_
            refine go_icmp_ne (pc' := 35) dX7_isOfKind_28 rfl (fun c_28 => ?_) (fun c_28 => ?_)
            · -- ne at 28: yes
              show bw_go _ _ _ _ _ _ _ 35 [(0, .int _), (1, .int _)] ([]) _ _
              refine go_iconst (0) dX7_isOfKind_35 rfl ?_
              refine go_iret dX7_isOfKind_36 rfl rfl ?_
              have t_0 := nI_toInt (n := k) (by omega); have t_1 := nI_toInt (n := w) (by omega)
              have l_0 : (0 : Int32).toInt = 0 := rfl
              have l_1 : (1 : Int32).toInt = 1 := rfl
              have l_3 : (3 : Int32).toInt = 3 := rfl
              have l_4 : (4 : Int32).toInt = 4 := rfl
              have l_5 : (5 : Int32).toInt = 5 := rfl
              simp only [i_eq] at c_2
              simp only [i_eq] at c_6
              simp only [i_eq] at c_13
              simp only [i_eq] at c_18
              simp only [i_eq] at c_23
              simp only [i_eq] at c_28
              first | exact bi_1 (decide_eq_true (by omega)) hQ | exact bi_0 (decide_eq_false (by omega)) hQ
            · -- ne at 28: no
              show bw_go _ _ _ _ _ _ _ 31 [(0, .int _), (1, .int _)] ([]) _ _
              refine go_iconst (1) dX7_isOfKind_31 rfl ?_
              refine go_goto (pc' := 36) dX7_isOfKind_32 rfl ?_
              show bw_go _ _ _ _ _ _ _ 36 [(0, .int _), (1, .int _)] ((.int _) :: []) _ _
              refine go_iret dX7_isOfKind_36 rfl rfl ?_
              have t_0 := nI_toInt (n := k) (by omega); have t_1 := nI_toInt (n := w) (by omega)
              have l_0 : (0 : Int32).toInt = 0 := rfl
              have l_1 : (1 : Int32).toInt = 1 := rfl
              have l_3 : (3 : Int32).toInt = 3 := rfl
              have l_4 : (4 : Int32).toInt = 4 := rfl
              have l_5 : (5 : Int32).toInt = 5 := rfl
              simp only [i_eq] at c_2
              simp only [i_eq] at c_6
              simp only [i_eq] at c_13
              simp only [i_eq] at c_18
              simp only [i_eq] at c_23
              simp only [i_eq] at c_28
              first | exact bi_1 (decide_eq_true (by omega)) hQ | exact bi_0 (decide_eq_false (by omega)) hQ
    · -- ne at 6: no
      show bw_go _ _ _ _ _ _ _ 9 [(0, .int _), (1, .int _)] ([]) _ _
      refine go_iconst (1) dX7_isOfKind_9 rfl ?_
      refine go_iret dX7_isOfKind_10 rfl rfl ?_
      have t_0 := nI_toInt (n := k) (by omega); have t_1 := nI_toInt (n := w) (by omega)
      have l_0 : (0 : Int32).toInt = 0 := rfl
      have l_1 : (1 : Int32).toInt = 1 := rfl
      have l_3 : (3 : Int32).toInt = 3 := rfl
      have l_4 : (4 : Int32).toInt = 4 := rfl
      have l_5 : (5 : Int32).toInt = 5 := rfl
      simp only [i_eq] at c_2
      simp only [i_eq] at c_6
      first | exact bi_1 (decide_eq_true (by omega)) hQ | exact bi_0 (decide_eq_false (by omega)) hQ
def aol (l : Nat) : Nat := if l ≤ 3 then 0 else if l ≤ 5 then 1 else if l = 6 then 2 else 3
set_option maxRecDepth 100000 in
set_option maxHeartbeats 4000000 in
theorem me_X7_actOfLot {X : Nat × (Nat → Int32)} {Q : Option Value → bw_H → Prop} {h : bw_H} {l : Nat} (hl : l < 8) (hQ : Q (some (.int (nI (aol l)))) h) : bw_me X 0 bm_X7_actOfLot false [.int (nI l)] h Q := by
  show bw_go _ 0 7 1 false (some .int) cX7_actOfLot 0 [(0, .int _)] [] _ _
  refine go_iload_n dX7_actOfLot_0 rfl ?_
  refine go_iconst (3) dX7_actOfLot_1 rfl ?_
  refine go_icmp_gt (pc' := 7) dX7_actOfLot_2 rfl (fun c_2 => ?_) (fun c_2 => ?_)
  · -- gt at 2: yes
    show bw_go _ _ _ _ _ _ _ 7 [(0, .int _)] ([]) _ _
    refine go_iload_n dX7_actOfLot_7 rfl ?_
    refine go_iconst (5) dX7_actOfLot_8 rfl ?_
    refine go_icmp_gt (pc' := 14) dX7_actOfLot_9 rfl (fun c_9 => ?_) (fun c_9 => ?_)
    · -- gt at 9: yes
      show bw_go _ _ _ _ _ _ _ 14 [(0, .int _)] ([]) _ _
      refine go_iload_n dX7_actOfLot_14 rfl ?_
      refine go_bipush (6) dX7_actOfLot_15 rfl ?_
      refine go_icmp_ne (pc' := 24) dX7_actOfLot_17 rfl (fun c_17 => ?_) (fun c_17 => ?_)
      · -- ne at 17: yes
        show bw_go _ _ _ _ _ _ _ 24 [(0, .int _)] ([]) _ _
        refine go_iconst (3) dX7_actOfLot_24 rfl ?_
        refine go_iret dX7_actOfLot_25 rfl rfl ?_
        refine qi hQ ?_
        have t_0 := nI_toInt (n := l) (by omega); have l_0 : (3 : Int32).toInt = 3 := rfl; have l_1 : (5 : Int32).toInt = 5 := rfl; have l_2 : (6 : Int32).toInt = 6 := rfl
        try simp only [i_le, i_lt, i_eq, ofk, decide_eq_true_eq, decide_eq_false_iff_not, true_and, and_true] at c_2
        try simp only [i_le, i_lt, i_eq, ofk, decide_eq_true_eq, decide_eq_false_iff_not, true_and, and_true] at c_9
        try simp only [i_le, i_lt, i_eq, ofk, decide_eq_true_eq, decide_eq_false_iff_not, true_and, and_true] at c_17
        unfold aol
        repeat' split
        all_goals first | rfl | (exfalso; omega) | (exfalso; simp_all; done)
      · -- ne at 17: no
        show bw_go _ _ _ _ _ _ _ 20 [(0, .int _)] ([]) _ _
        refine go_iconst (2) dX7_actOfLot_20 rfl ?_
        refine go_goto (pc' := 25) dX7_actOfLot_21 rfl ?_
        show bw_go _ _ _ _ _ _ _ 25 [(0, .int _)] ((.int _) :: []) _ _
        refine go_iret dX7_actOfLot_25 rfl rfl ?_
        refine qi hQ ?_
        have t_0 := nI_toInt (n := l) (by omega); have l_0 : (3 : Int32).toInt = 3 := rfl; have l_1 : (5 : Int32).toInt = 5 := rfl; have l_2 : (6 : Int32).toInt = 6 := rfl
        try simp only [i_le, i_lt, i_eq, ofk, decide_eq_true_eq, decide_eq_false_iff_not, true_and, and_true] at c_2
        try simp only [i_le, i_lt, i_eq, ofk, decide_eq_true_eq, decide_eq_false_iff_not, true_and, and_true] at c_9
        try simp only [i_le, i_lt, i_eq, ofk, decide_eq_true_eq, decide_eq_false_iff_not, true_and, and_true] at c_17
        unfold aol
        repeat' split
        all_goals first | rfl | (exfalso; omega) | (exfalso; simp_all; done)
    · -- gt at 9: no
      show bw_go _ _ _ _ _ _ _ 12 [(0, .int _)] ([]) _ _
      refine go_iconst (1) dX7_actOfLot_12 rfl ?_
      refine go_iret dX7_actOfLot_13 rfl rfl ?_
      refine qi hQ ?_
      have t_0 := nI_toInt (n := l) (by omega); have l_0 : (3 : Int32).toInt = 3 := rfl; have l_1 : (5 : Int32).toInt = 5 := rfl; have l_2 : (6 : Int32).toInt = 6 := rfl
      try simp only [i_le, i_lt, i_eq, ofk, decide_eq_true_eq, decide_eq_false_iff_not, true_and, and_true] at c_2
      try simp only [i_le, i_lt, i_eq, ofk, decide_eq_true_eq, decide_eq_false_iff_not, true_and, and_true] at c_9
      unfold aol
      repeat' split
      all_goals first | rfl | (exfalso; omega) | (exfalso; simp_all; done)
  · -- gt at 2: no
    show bw_go _ _ _ _ _ _ _ 5 [(0, .int _)] ([]) _ _
    refine go_iconst (0) dX7_actOfLot_5 rfl ?_
    refine go_iret dX7_actOfLot_6 rfl rfl ?_
    refine qi hQ ?_
    have t_0 := nI_toInt (n := l) (by omega); have l_0 : (3 : Int32).toInt = 3 := rfl; have l_1 : (5 : Int32).toInt = 5 := rfl; have l_2 : (6 : Int32).toInt = 6 := rfl
    try simp only [i_le, i_lt, i_eq, ofk, decide_eq_true_eq, decide_eq_false_iff_not, true_and, and_true] at c_2
    unfold aol
    repeat' split
    all_goals first | rfl | (exfalso; omega) | (exfalso; simp_all; done)
