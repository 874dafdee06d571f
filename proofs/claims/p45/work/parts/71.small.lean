/-! the law's small methods -/
def clx (X : Nat × (Nat → Int32)) (k : Nat) : Int32 := if k < X.1 then X.2 k else (-1894007587) * nI (k + 577)
def upn (v : Int32) (n : Nat) : Nat := (v &&& 2147483647).toNatClampNeg % n
theorem and31 (x : Int32) : ∃ w, w < 2147483648 ∧ x &&& 2147483647 = nI w := by
  refine ⟨(x.toBitVec &&& 2147483647#32).toNat, ?_, ?_⟩
  · rw [BitVec.toNat_and]
    exact Nat.lt_of_le_of_lt Nat.and_le_right (by decide)
  · apply Int32.toBitVec_inj.mp
    show x.toBitVec &&& 2147483647#32 = BitVec.ofNat 32 (x.toBitVec &&& 2147483647#32).toNat
    rw [BitVec.ofNat_toNat, BitVec.setWidth_eq]
theorem upn_lt {v : Int32} {n : Nat} (h : 0 < n) : upn v n < n := Nat.mod_lt _ h
theorem upn_e {v : Int32} {n : Nat} (h : 0 < n) (h2 : n < 2147483648) : (v &&& 2147483647) - (v &&& 2147483647) / nI n * nI n = nI (upn v n) := by
  obtain ⟨w, hw, e⟩ := and31 v
  unfold upn
  rw [e, nI_rem hw h2 h, nI_clamp (by omega)]
theorem bit_t : ∀ s, s < 64 → ∀ i, i < 8 → ((nI s >>> (nI i &&& 31)) &&& 1) = nI (if s.testBit i = true then 1 else 0) := by decide +kernel
theorem bits_1 : ∀ s, s < 64 → ∀ k, k < 7 → nI (s / 2 ^ k) &&& 1 = nI (if s.testBit k = true then 1 else 0) := by decide +kernel
theorem bits_2 : ∀ s, s < 64 → ∀ k, k < 7 → nI (s / 2 ^ k) >>> ((1 : Int32) &&& 31) = nI (s / 2 ^ (k + 1)) := by decide +kernel
theorem bits_3 : ∀ s, s < 64 → ∀ k, k < 7 → s / 2 ^ k = 0 → cnt (fun i => s.testBit i) k = bc s := by decide +kernel
def ltr (k : Nat) : Int32 := if k = 0 then 98 else if k = 1 then 108 else if k = 2 then 112 else if k = 3 then 109 else if k = 4 then 103 else 114
set_option maxRecDepth 100000 in
set_option maxHeartbeats 4000000 in
theorem me_L_cell {X : Nat × (Nat → Int32)} {Q : Option Value → bw_H → Prop} {h : bw_H} {k : Nat} (hL : X.1 ≤ 260) (hk : k < 1000) (hQ : Q (some (.int (clx X k))) h) : bw_me X 0 bm_L_cell false [.retAddr 1, .int (nI k)] h Q := by
  show bw_go _ 0 9 2 false (some .int) cL_cell 0 [(0, .retAddr _), (1, .int _)] [] _ _
  refine go_iload_n dL_cell_0 rfl ?_
  refine go_aloadA_n dL_cell_1 rfl ?_
  refine go_len1 dL_cell_2 ?_
  refine go_icmp_ge (pc' := 12) dL_cell_3 rfl (fun c_3 => ?_) (fun c_3 => ?_)
  · -- ge at 3: yes
    show bw_go _ _ _ _ _ _ _ 12 [(0, .retAddr _), (1, .int _)] ([]) _ _
    refine go_ldc dL_cell_12 kc_9_7 ?_
    refine go_iload_n dL_cell_14 rfl ?_
    refine go_sipush (577) dL_cell_15 rfl ?_
    refine go_iadd dL_cell_18 ?_
    rw [show (577 : Int32) = nI 577 from rfl, nI_add]
    refine go_imul dL_cell_19 ?_
    refine go_iret dL_cell_20 rfl rfl ?_
    first | (unfold clx at hQ; rw [if_pos hlt] at hQ; exact hQ) | (have t_0 := nI_toInt (n := k) (by omega); have t_1 := nI_toInt (n := X.1) (by omega); simp only [i_le] at c_3; unfold clx at hQ; rw [if_neg (by omega)] at hQ; exact hQ)
  · -- ge at 3: no
    show bw_go _ _ _ _ _ _ _ 6 [(0, .retAddr _), (1, .int _)] ([]) _ _
    have t_0 := nI_toInt (n := k) (by omega); have t_1 := nI_toInt (n := X.1) (by omega); simp only [i_le] at c_3
    have hlt : k < X.1 := by omega
    refine go_aloadA_n dL_cell_6 rfl ?_
    refine go_iload_n dL_cell_7 rfl ?_
    refine go_ia1 dL_cell_8 (n_in hlt (by omega)) ?_
    rw [nI_clamp (by omega)]
    refine go_goto (pc' := 20) dL_cell_9 rfl ?_
    show bw_go _ _ _ _ _ _ _ 20 [(0, .retAddr _), (1, .int _)] ((.int _) :: []) _ _
    refine go_iret dL_cell_20 rfl rfl ?_
    first | (unfold clx at hQ; rw [if_pos hlt] at hQ; exact hQ) | (have t_0 := nI_toInt (n := k) (by omega); have t_1 := nI_toInt (n := X.1) (by omega); simp only [i_le] at c_3; unfold clx at hQ; rw [if_neg (by omega)] at hQ; exact hQ)
set_option maxRecDepth 100000 in
set_option maxHeartbeats 4000000 in
theorem me_L_up {X : Nat × (Nat → Int32)} {Q : Option Value → bw_H → Prop} {h : bw_H} {v : Int32} {n : Nat} (hn : 0 < n) (hn2 : n < 2147483648) (hQ : Q (some (.int (nI (upn v n)))) h) : bw_me X 0 bm_L_up false [.int v, .int (nI n)] h Q := by
  show bw_go _ 0 9 2 false (some .int) cL_up 0 [(0, .int _), (1, .int _)] [] _ _
  refine go_iload_n dL_up_0 rfl ?_
  refine go_ldc dL_up_1 kc_9_8 ?_
  refine go_iand dL_up_3 ?_
  refine go_iload_n dL_up_4 rfl ?_
  refine go_irem dL_up_5 (fun z => by have z2 : nI n = nI 0 := z; rw [nI_eq (by omega) (by omega)] at z2; omega) ?_
  rw [upn_e hn hn2]
  refine go_iret dL_up_6 rfl rfl ?_
  exact hQ
set_option maxRecDepth 100000 in
set_option maxHeartbeats 4000000 in
theorem me_L_letter {X : Nat × (Nat → Int32)} {Q : Option Value → bw_H → Prop} {h : bw_H} {k : Nat} (hk : k < 6) (hQ : Q (some (.int (ltr k))) h) : bw_me X 0 bm_L_letter false [.int (nI k)] h Q := by
  show bw_go _ 0 9 1 false (some .int) cL_letter 0 [(0, .int _)] [] _ _
  refine go_iload_n dL_letter_0 rfl ?_
  refine go_if_ne (pc' := 9) dL_letter_1 rfl (fun c_1 => ?_) (fun c_1 => ?_)
  · -- ne at 1: yes
    show bw_go _ _ _ _ _ _ _ 9 [(0, .int _)] ([]) _ _
    refine go_iload_n dL_letter_9 rfl ?_
    refine go_iconst (1) dL_letter_10 rfl ?_
    refine go_icmp_ne (pc' := 19) dL_letter_11 rfl (fun c_11 => ?_) (fun c_11 => ?_)
    · -- ne at 11: yes
      show bw_go _ _ _ _ _ _ _ 19 [(0, .int _)] ([]) _ _
      refine go_iload_n dL_letter_19 rfl ?_
      refine go_iconst (2) dL_letter_20 rfl ?_
      refine go_icmp_ne (pc' := 29) dL_letter_21 rfl (fun c_21 => ?_) (fun c_21 => ?_)
      · -- ne at 21: yes
        show bw_go _ _ _ _ _ _ _ 29 [(0, .int _)] ([]) _ _
        refine go_iload_n dL_letter_29 rfl ?_
        refine go_iconst (3) dL_letter_30 rfl ?_
        refine go_icmp_ne (pc' := 39) dL_letter_31 rfl (fun c_31 => ?_) (fun c_31 => ?_)
        · -- ne at 31: yes
          show bw_go _ _ _ _ _ _ _ 39 [(0, .int _)] ([]) _ _
          refine go_iload_n dL_letter_39 rfl ?_
          refine go_iconst (4) dL_letter_40 rfl ?_
          refine go_icmp_ne (pc' := 49) dL_letter_41 rfl (fun c_41 => ?_) (fun c_41 => ?_)
          · -- ne at 41: yes
            show bw_go _ _ _ _ _ _ _ 49 [(0, .int _)] ([]) _ _
            refine go_bipush (114) dL_letter_49 rfl ?_
            refine go_iret dL_letter_51 rfl rfl ?_
            rcases (show k = 0 ∨ k = 1 ∨ k = 2 ∨ k = 3 ∨ k = 4 ∨ k = 5 by omega) with rfl | rfl | rfl | rfl | rfl | rfl
            all_goals first | exact hQ | exact absurd c_1 (by decide) | exact absurd c_11 (by decide) | exact absurd c_21 (by decide) | exact absurd c_31 (by decide) | exact absurd c_41 (by decide)
          · -- ne at 41: no
            show bw_go _ _ _ _ _ _ _ 44 [(0, .int _)] ([]) _ _
            refine go_bipush (103) dL_letter_44 rfl ?_
            refine go_goto (pc' := 51) dL_letter_46 rfl ?_
            show bw_go _ _ _ _ _ _ _ 51 [(0, .int _)] ((.int _) :: []) _ _
            refine go_iret dL_letter_51 rfl rfl ?_
            rcases (show k = 0 ∨ k = 1 ∨ k = 2 ∨ k = 3 ∨ k = 4 ∨ k = 5 by omega) with rfl | rfl | rfl | rfl | rfl | rfl
            all_goals first | exact hQ | exact absurd c_1 (by decide) | exact absurd c_11 (by decide) | exact absurd c_21 (by decide) | exact absurd c_31 (by decide) | exact absurd c_41 (by decide)
        · -- ne at 31: no
          show bw_go _ _ _ _ _ _ _ 34 [(0, .int _)] ([]) _ _
          refine go_bipush (109) dL_letter_34 rfl ?_
          refine go_goto (pc' := 51) dL_letter_36 rfl ?_
          show bw_go _ _ _ _ _ _ _ 51 [(0, .int _)] ((.int _) :: []) _ _
          refine go_iret dL_letter_51 rfl rfl ?_
          rcases (show k = 0 ∨ k = 1 ∨ k = 2 ∨ k = 3 ∨ k = 4 ∨ k = 5 by omega) with rfl | rfl | rfl | rfl | rfl | rfl
          all_goals first | exact hQ | exact absurd c_1 (by decide) | exact absurd c_11 (by decide) | exact absurd c_21 (by decide) | exact absurd c_31 (by decide)
      · -- ne at 21: no
        show bw_go _ _ _ _ _ _ _ 24 [(0, .int _)] ([]) _ _
        refine go_bipush (112) dL_letter_24 rfl ?_
        refine go_goto (pc' := 51) dL_letter_26 rfl ?_
        show bw_go _ _ _ _ _ _ _ 51 [(0, .int _)] ((.int _) :: []) _ _
        refine go_iret dL_letter_51 rfl rfl ?_
        rcases (show k = 0 ∨ k = 1 ∨ k = 2 ∨ k = 3 ∨ k = 4 ∨ k = 5 by omega) with rfl | rfl | rfl | rfl | rfl | rfl
        all_goals first | exact hQ | exact absurd c_1 (by decide) | exact absurd c_11 (by decide) | exact absurd c_21 (by decide)
    · -- ne at 11: no
      show bw_go _ _ _ _ _ _ _ 14 [(0, .int _)] ([]) _ _
      refine go_bipush (108) dL_letter_14 rfl ?_
      refine go_goto (pc' := 51) dL_letter_16 rfl ?_
      show bw_go _ _ _ _ _ _ _ 51 [(0, .int _)] ((.int _) :: []) _ _
      refine go_iret dL_letter_51 rfl rfl ?_
      rcases (show k = 0 ∨ k = 1 ∨ k = 2 ∨ k = 3 ∨ k = 4 ∨ k = 5 by omega) with rfl | rfl | rfl | rfl | rfl | rfl
      all_goals first | exact hQ | exact absurd c_1 (by decide) | exact absurd c_11 (by decide)
  · -- ne at 1: no
    show bw_go _ _ _ _ _ _ _ 4 [(0, .int _)] ([]) _ _
    refine go_bipush (98) dL_letter_4 rfl ?_
    refine go_goto (pc' := 51) dL_letter_6 rfl ?_
    show bw_go _ _ _ _ _ _ _ 51 [(0, .int _)] ((.int _) :: []) _ _
    refine go_iret dL_letter_51 rfl rfl ?_
    rcases (show k = 0 ∨ k = 1 ∨ k = 2 ∨ k = 3 ∨ k = 4 ∨ k = 5 by omega) with rfl | rfl | rfl | rfl | rfl | rfl
    all_goals first | exact hQ | exact absurd c_1 (by decide)
set_option maxRecDepth 100000 in
set_option maxHeartbeats 4000000 in
theorem me_L_bits {X : Nat × (Nat → Int32)} {Q : Option Value → bw_H → Prop} {h : bw_H} {s : Nat} (hs : s < 64) (hQ : Q (some (.int (nI (bc s)))) h) : bw_me X 0 bm_L_bits false [.int (nI s)] h Q := by
  show bw_go _ 0 9 3 false (some .int) cL_bits 0 [(0, .int _)] [] _ _
  refine go_iconst (0) dL_bits_0 rfl ?_
  refine go_istore_n dL_bits_1 (Nat.lt_of_lt_of_le (Nat.lt_succ_self _) (Nat.le_of_ble_eq_true rfl)) ?_
  show bw_go _ _ _ _ _ _ _ 2 [(1, .int _), (0, .int _)] ([]) _ _
  refine go_iload_n dL_bits_2 rfl ?_
  refine go_istore_n dL_bits_3 (Nat.lt_of_lt_of_le (Nat.lt_succ_self _) (Nat.le_of_ble_eq_true rfl)) ?_
  show bw_go _ _ _ _ _ _ _ 4 [(2, .int _), (1, .int _), (0, .int _)] ([]) _ _
  have z0 : s = s / 2 ^ 0 := by rw [Nat.pow_zero, Nat.div_one]
  suffices hz : bw_go X 0 9 3 false (some .int) cL_bits 4 [(2, .int (nI (s / 2 ^ 0))), (1, .int (nI (cnt (fun i => s.testBit i) 0))), (0, .int (nI s))] [] h Q by
    rw [Nat.pow_zero, Nat.div_one] at hz
    exact hz
  refine go_for (P := fun k => bw_go X 0 9 3 false (some .int) cL_bits 4 [(2, .int (nI (s / 2 ^ k))), (1, .int (nI (cnt (fun i => s.testBit i) k))), (0, .int (nI s))] [] h Q) (N := 6) (fun k hk K => ?_) ?_ (0) (Nat.zero_le _)
  · -- a turn
    show bw_go _ _ _ _ _ _ _ 4 [(2, .int _), (1, .int _), (0, .int _)] ([]) _ _
    refine go_iload_n dL_bits_4 rfl ?_
    refine go_if_le (pc' := 21) dL_bits_5 rfl (fun c_5 => ?_) (fun c_5 => ?_)
    · -- le at 5: yes
      show bw_go _ _ _ _ _ _ _ 21 [(2, .int _), (1, .int _), (0, .int _)] ([]) _ _
      refine go_iload_n dL_bits_21 rfl ?_
      refine go_iret dL_bits_22 rfl rfl ?_
      have h0 : s / 2 ^ k = 0 := by
        have hz : s / 2 ^ k < 64 := Nat.lt_of_le_of_lt (Nat.div_le_self _ _) hs
        generalize s / 2 ^ k = y at c_5 hz ⊢
        have t_0 := nI_toInt (n := y) (by omega)
        simp only [i_le, i_0] at c_5
        omega
      rw [bits_3 s hs k (by omega) h0]
      exact hQ
    · -- le at 5: no
      show bw_go _ _ _ _ _ _ _ 8 [(2, .int _), (1, .int _), (0, .int _)] ([]) _ _
      refine go_iload_n dL_bits_8 rfl ?_
      refine go_iload_n dL_bits_9 rfl ?_
      refine go_iconst (1) dL_bits_10 rfl ?_
      refine go_iand dL_bits_11 ?_
      refine go_iadd dL_bits_12 ?_
      rw [bits_1 s hs k (by omega)]
      refine go_istore_n dL_bits_13 (Nat.lt_of_lt_of_le (Nat.lt_succ_self _) (Nat.le_of_ble_eq_true rfl)) ?_
      show bw_go _ _ _ _ _ _ _ 14 [(1, .int _), (2, .int _), (0, .int _)] ([]) _ _
      refine go_iload_n dL_bits_14 rfl ?_
      refine go_iconst (1) dL_bits_15 rfl ?_
      refine go_ishr dL_bits_16 ?_
      rw [bits_2 s hs k (by omega), nI_add]
      refine go_istore_n dL_bits_17 (Nat.lt_of_lt_of_le (Nat.lt_succ_self _) (Nat.le_of_ble_eq_true rfl)) ?_
      show bw_go _ _ _ _ _ _ _ 18 [(2, .int _), (1, .int _), (0, .int _)] ([]) _ _
      refine go_goto (pc' := 4) dL_bits_18 rfl ?_
      have e9 : cnt (fun i => s.testBit i) (k + 1) = cnt (fun i => s.testBit i) k + (if s.testBit k = true then 1 else 0) := by first | rfl | (unfold cnt; rfl)
      rw [← e9]
      exact K
  · -- behind the last
    show bw_go _ _ _ _ _ _ _ 4 [(2, .int _), (1, .int _), (0, .int _)] ([]) _ _
    refine go_iload_n dL_bits_4 rfl ?_
    refine go_if_le (pc' := 21) dL_bits_5 rfl (fun c_5 => ?_) (fun c_5 => ?_)
    · -- le at 5: yes
      show bw_go _ _ _ _ _ _ _ 21 [(2, .int _), (1, .int _), (0, .int _)] ([]) _ _
      refine go_iload_n dL_bits_21 rfl ?_
      refine go_iret dL_bits_22 rfl rfl ?_
      rw [bits_3 s hs 6 (by omega) (by omega)]
      exact hQ
    · -- le at 5: no
      exfalso
      have z : s / 2 ^ 6 = 0 := by omega
      rw [z] at c_5
      exact c_5 (by decide)
set_option maxRecDepth 100000 in
set_option maxHeartbeats 4000000 in
theorem me_L_sign {X : Nat × (Nat → Int32)} {Q : Option Value → bw_H → Prop} {h : bw_H} {z c : Nat} {S : ST} {A : LY} (hl : LB z c h S A) {a v : Int32} (hQ : ∀ G, LB z c G (yPut 0 a v S).2 A → Q (some (.int (bi (decide ((yPut 0 a v S).1 = 1032))))) G) : bw_me X 5 bm_L_sign false [.ref 0, .int a, .int v] h Q := by
  show bw_go _ 5 9 3 false (some .boolean) cL_sign 0 [(0, .ref _), (1, .int _), (2, .int _)] [] _ _
  refine go_aload_n dL_sign_0 rfl ?_
  refine go_iconst (0) dL_sign_1 rfl ?_
  refine go_iload_n dL_sign_2 rfl ?_
  refine go_iload_n dL_sign_3 rfl ?_
  refine go_cv (as := [.int _, .int _, .int _]) 4 dL_sign_4 mt_9_19 (Or.inl rfl) rfl rfl (lb_lt hl) (lb_k hl) (Nat.le_of_ble_eq_true rfl) (Nat.le_of_ble_eq_true rfl) (Nat.le_of_ble_eq_true rfl) (Nat.le_of_ble_eq_true rfl) (Nat.le_of_ble_eq_true rfl) ?_
  refine lb_me hl (fun h Q hx hq => me_X7_put hx hq) (fun _ => rfl) (fun _ => rfl) (fun G hl => ?_)
  show bw_go _ _ _ _ _ _ _ 7 [(0, .ref _), (1, .int _), (2, .int _)] ((.int _) :: []) _ _
  refine go_sipush (1032) dL_sign_7 rfl ?_
  refine go_icmp_ne (pc' := 17) dL_sign_10 rfl (fun c_10 => ?_) (fun c_10 => ?_)
  · -- ne at 10: yes
    show bw_go _ _ _ _ _ _ _ 17 [(0, .ref _), (1, .int _), (2, .int _)] ([]) _ _
    refine go_iconst (0) dL_sign_17 rfl ?_
    refine go_iret dL_sign_18 rfl rfl ?_
    refine qi (hQ _ hl) ?_
    rw [decide_eq_false c_10]; rfl
  · -- ne at 10: no
    show bw_go _ _ _ _ _ _ _ 13 [(0, .ref _), (1, .int _), (2, .int _)] ([]) _ _
    refine go_iconst (1) dL_sign_13 rfl ?_
    refine go_goto (pc' := 18) dL_sign_14 rfl ?_
    show bw_go _ _ _ _ _ _ _ 18 [(0, .ref _), (1, .int _), (2, .int _)] ((.int _) :: []) _ _
    refine go_iret dL_sign_18 rfl rfl ?_
    refine qi (hQ _ hl) ?_
    rw [decide_eq_true (Decidable.of_not_not c_10)]; rfl
set_option maxRecDepth 100000 in
set_option maxHeartbeats 4000000 in
theorem me_L_asked {X : Nat × (Nat → Int32)} {Q : Option Value → bw_H → Prop} {h : bw_H} {z c : Nat} {S : ST} {A : LY} (hl : LB z c h S A) {v : Int32} (hQ : ∀ G, LB z c G S A → Q (some (.int (if v < 0 then -100 else sQ S))) G) : bw_me X 1 bm_L_asked false [.ref 0, .int v] h Q := by
  show bw_go _ 1 9 2 false (some .int) cL_asked 0 [(0, .ref _), (1, .int _)] [] _ _
  refine go_iload_n dL_asked_0 rfl ?_
  refine go_if_ge (pc' := 9) dL_asked_1 rfl (fun c_1 => ?_) (fun c_1 => ?_)
  · -- ge at 1: yes
    show bw_go _ _ _ _ _ _ _ 9 [(0, .ref _), (1, .int _)] ([]) _ _
    refine go_aload_n dL_asked_9 rfl ?_
    refine go_cv (as := []) 0 dL_asked_10 mt_9_42 (Or.inl rfl) rfl rfl (lb_lt hl) (lb_k hl) (Nat.le_of_ble_eq_true rfl) (Nat.le_of_ble_eq_true rfl) (Nat.le_of_ble_eq_true rfl) (Nat.le_of_ble_eq_true rfl) (Nat.le_of_ble_eq_true rfl) ?_
    refine lb_me hl (fun h Q hx hq => me_X7_asked hx hq) (fun _ => rfl) (fun _ => rfl) (fun G hl => ?_)
    show bw_go _ _ _ _ _ _ _ 13 [(0, .ref _), (1, .int _)] ((.int _) :: []) _ _
    refine go_iret dL_asked_13 rfl rfl ?_
    refine qi (hQ _ hl) ?_
    rw [if_neg (by rw [i_lt]; rw [i_le] at c_1; omega)]
  · -- ge at 1: no
    show bw_go _ _ _ _ _ _ _ 4 [(0, .ref _), (1, .int _)] ([]) _ _
    refine go_bipush (-100) dL_asked_4 rfl ?_
    refine go_goto (pc' := 13) dL_asked_6 rfl ?_
    show bw_go _ _ _ _ _ _ _ 13 [(0, .ref _), (1, .int _)] ((.int _) :: []) _ _
    refine go_iret dL_asked_13 rfl rfl ?_
    refine qi (hQ _ hl) ?_
    rw [if_pos (by rw [i_lt]; rw [i_le] at c_1; omega)]
theorem isn_t {i n : Nat} (h : i < n) (hn : n < 1000) : isn (nI i) n = true := decide_eq_true (n_in h (by omega))
theorem eBear {S : ST} {i w : Nat} (hN : cN (nowC S) ≤ 6) (hi : i < cN (nowC S)) (hw : w < 6) : yBear (nI i) (nI w) S = (1, wQ S (nI (obf (nowC S) i w))) := by
  unfold yBear
  rw [if_pos ⟨isn_t hi (by omega), isn_t hw (by omega)⟩, rn_n (by omega), rn_n (by omega)]
theorem lb_6 {z c : Nat} {H : bw_H} {S : ST} {A : LY} (hl : LB z c H S A) : co_k (nowC S) := hsT_k (lb_ac hl) (Nat.le_refl _)
set_option maxRecDepth 100000 in
set_option maxHeartbeats 4000000 in
theorem me_L_told {X : Nat × (Nat → Int32)} {Q : Option Value → bw_H → Prop} {h : bw_H} {z c : Nat} {S : ST} {A : LY} (hl : LB z c h S A) {i w : Nat} (hi : i < cN (nowC S)) (hw : w < 6) (hQ : ∀ G, LB z c G (wQ S (nI (obf (nowC S) i w))) A → Q (some (.int (nI (obf (nowC S) i w)))) G) : bw_me X 5 bm_L_told false [.ref 0, .int (nI i), .int (nI w)] h Q := by
  show bw_go _ 5 9 3 false (some .int) cL_told 0 [(0, .ref _), (1, .int _), (2, .int _)] [] _ _
  refine go_aload_n dL_told_0 rfl ?_
  refine go_iload_n dL_told_1 rfl ?_
  refine go_iload_n dL_told_2 rfl ?_
  refine go_cv (as := [.int _, .int _]) 4 dL_told_3 mt_9_39 (Or.inl rfl) rfl rfl (lb_lt hl) (lb_k hl) (Nat.le_of_ble_eq_true rfl) (Nat.le_of_ble_eq_true rfl) (Nat.le_of_ble_eq_true rfl) (Nat.le_of_ble_eq_true rfl) (Nat.le_of_ble_eq_true rfl) ?_
  have hN := (lb_6 hl).1
  refine lb_me hl (fun h Q hx hq => me_X7_bear hx hq) (fun _ => rfl) (fun _ => rfl) (fun G hl => ?_)
  rw [eBear hN hi hw] at hl ⊢
  show bw_go _ _ _ _ _ _ _ 6 [(0, .ref _), (1, .int _), (2, .int _)] ((.int _) :: []) _ _
  refine go_iconst (1) dL_told_6 rfl ?_
  refine go_icmp_ne (pc' := 17) dL_told_7 rfl (fun c_7 => ?_) (fun c_7 => ?_)
  · -- ne at 7: yes
    show bw_go _ _ _ _ _ _ _ 17 [(0, .ref _), (1, .int _), (2, .int _)] ([]) _ _
    refine go_bipush (-100) dL_told_17 rfl ?_
    refine go_iret dL_told_19 rfl rfl ?_
    exact absurd rfl c_7
  · -- ne at 7: no
    show bw_go _ _ _ _ _ _ _ 10 [(0, .ref _), (1, .int _), (2, .int _)] ([]) _ _
    refine go_aload_n dL_told_10 rfl ?_
    refine go_cv (as := []) 0 dL_told_11 mt_9_42 (Or.inl rfl) rfl rfl (lb_lt hl) (lb_k hl) (Nat.le_of_ble_eq_true rfl) (Nat.le_of_ble_eq_true rfl) (Nat.le_of_ble_eq_true rfl) (Nat.le_of_ble_eq_true rfl) (Nat.le_of_ble_eq_true rfl) ?_
    refine lb_me hl (fun h Q hx hq => me_X7_asked hx hq) (fun _ => rfl) (fun _ => rfl) (fun G hl => ?_)
    show bw_go _ _ _ _ _ _ _ 14 [(0, .ref _), (1, .int _), (2, .int _)] ((.int _) :: []) _ _
    refine go_goto (pc' := 19) dL_told_14 rfl ?_
    show bw_go _ _ _ _ _ _ _ 19 [(0, .ref _), (1, .int _), (2, .int _)] ((.int _) :: []) _ _
    refine go_iret dL_told_19 rfl rfl ?_
    exact hQ _ hl
