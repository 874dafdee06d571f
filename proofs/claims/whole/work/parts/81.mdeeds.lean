/-! the reference: deeds -/
def gdF (F : Nat → Int32) (a b : Nat) : Nat → Int32 := if a = 0 then bw_up F (73 + b) (F (73 + b) + 1) else if a = 1 then bw_up F (73 + b) (F (73 + b) - 1) else if a = 2 then bw_up F (67 + b) (F (67 + b) - 1) else if a = 3 then bw_up F 79 (F 79 ^^^ (1 <<< (nI b &&& 31))) else F
theorem gd_lo {F : Nat → Int32} {a b x : Nat} (h : x < 67) : gdF F a b x = F x := by
  unfold gdF
  repeat' split
  · rw [bw_up_o (by omega)]
  · rw [bw_up_o (by omega)]
  · rw [bw_up_o (by omega)]
  · rw [bw_up_o (by omega)]
  · rfl
theorem dcd_lt {a b : Nat} (ha : a < 5) (hb : b < 6) : dcd a b < 50 := by
  unfold dcd
  split <;> omega
theorem mcv_gd {F : Nat → Int32} {C : CT} {a b : Nat} (hv : mcv F C) (hk : co_k C) (ha : a < 5) (hb : b < cN C) (hc : cbe C a b = true) : mcv (gdF F a b) (stC a b C) := by
  obtain ⟨h1, h2, h3, h4⟩ := hv
  have h6 := hk.1
  obtain ⟨v1, v2, v3, v4⟩ := h4 b hb
  refine ⟨by rw [gd_lo (by decide)]; exact h1, by rw [gd_lo (by decide)]; exact h2, ?_, fun i hi => ?_⟩
  · show gdF F a b 79 = nI (stp a b (cE C, cR C, cW C)).2.2
    rcases (show a = 0 ∨ a = 1 ∨ a = 2 ∨ a = 3 ∨ a = 4 by omega) with rfl | rfl | rfl | rfl | rfl
    · show bw_up F (73 + b) (F (73 + b) + 1) 79 = nI (cW C)
      rw [bw_up_o (by omega)]; exact h3
    · show bw_up F (73 + b) (F (73 + b) - 1) 79 = nI (cW C)
      rw [bw_up_o (by omega)]; exact h3
    · show bw_up F (67 + b) (F (67 + b) - 1) 79 = nI (cW C)
      rw [bw_up_o (by omega)]; exact h3
    · show bw_up F 79 (F 79 ^^^ (1 <<< (nI b &&& 31))) 79 = nI (cW C ^^^ 2 ^ b)
      rw [bw_up_s, h3]
      exact xor_n (cW C) hk.2.2.1 b (by omega)
    · exact h3
  · have hi : i < cN C := hi
    obtain ⟨w1, w2, w3, w4⟩ := h4 i hi
    rw [gd_lo (by omega), gd_lo (x := 20 + i) (by omega)]
    refine ⟨w1, ?_, ?_, w4⟩
    · show gdF F a b (67 + i) = nI ((stp a b (cE C, cR C, cW C)).1 i)
      rcases (show a = 0 ∨ a = 1 ∨ a = 2 ∨ a = 3 ∨ a = 4 by omega) with rfl | rfl | rfl | rfl | rfl
      · show bw_up F (73 + b) (F (73 + b) + 1) (67 + i) = nI (cE C i)
        rw [bw_up_o (by omega)]; exact w2
      · show bw_up F (73 + b) (F (73 + b) - 1) (67 + i) = nI (cE C i)
        rw [bw_up_o (by omega)]; exact w2
      · show bw_up F (67 + b) (F (67 + b) - 1) (67 + i) = nI (bw_up (cE C) b (cE C b - 1) i)
        by_cases e : i = b
        · subst e
          rw [bw_up_s, bw_up_s, v2]
          exact nsub1 (of_decide_eq_true (show decide (0 < cE C i) = true from hc))
        · rw [bw_up_o (by omega), bw_up_o e]; exact w2
      · show bw_up F 79 (F 79 ^^^ (1 <<< (nI b &&& 31))) (67 + i) = nI (cE C i)
        rw [bw_up_o (by omega)]; exact w2
      · exact w2
    · show gdF F a b (73 + i) = nI ((stp a b (cE C, cR C, cW C)).2.1 i)
      rcases (show a = 0 ∨ a = 1 ∨ a = 2 ∨ a = 3 ∨ a = 4 by omega) with rfl | rfl | rfl | rfl | rfl
      · show bw_up F (73 + b) (F (73 + b) + 1) (73 + i) = nI (bw_up (cR C) b (cR C b + 1) i)
        by_cases e : i = b
        · subst e
          rw [bw_up_s, bw_up_s, v3]
          exact nI_1 _
        · rw [bw_up_o (by omega), bw_up_o e]; exact w3
      · show bw_up F (73 + b) (F (73 + b) - 1) (73 + i) = nI (bw_up (cR C) b (cR C b - 1) i)
        by_cases e : i = b
        · subst e
          rw [bw_up_s, bw_up_s, v3]
          exact nsub1 (of_decide_eq_true (show decide (0 < cR C i) = true from hc))
        · rw [bw_up_o (by omega), bw_up_o e]; exact w3
      · show bw_up F (67 + b) (F (67 + b) - 1) (73 + i) = nI (cR C i)
        rw [bw_up_o (by omega)]; exact w3
      · show bw_up F 79 (F 79 ^^^ (1 <<< (nI b &&& 31))) (73 + i) = nI (cR C i)
        rw [bw_up_o (by omega)]; exact w3
      · exact w3
theorem mcv_sam {F : Nat → Int32} {C C' : CT} (h : mcv F C) (hs : sam C C') (e1 : cN C = cN C') (e2 : cD C = cD C') (e3 : cK C = cK C') (e4 : cV C = cV C') : mcv F C' := by
  obtain ⟨s1, s2, s3⟩ := hs
  unfold mcv at h ⊢
  rw [← e1, ← e2, ← e3, ← e4, ← s1, ← s2, ← s3]
  exact h
theorem mcv_x {F G : Nat → Int32} {C : CT} (h : mcv F C) (hN : cN C ≤ 6) (e : ∀ x, (x < 26 ∨ 67 ≤ x) → G x = F x) : mcv G C := by
  obtain ⟨h1, h2, h3, h4⟩ := h
  refine ⟨by rw [e _ (by omega)]; exact h1, by rw [e _ (by omega)]; exact h2, by rw [e _ (by omega)]; exact h3, fun i hi => ?_⟩
  rw [e _ (by omega), e _ (by omega), e _ (by omega), e _ (by omega)]
  exact h4 i hi
theorem mcr_acP {F : Nat → Int32} {A : AC} {a b : Nat} (hr : mcr F A) (hA : ac_k A) (h40 : cT A.1 < 40) (ha : a < 5) (hb : b < cN A.1) (hc : cbe (hsT A (cT A.1)) a b = true) : mcr (gdF (bw_up (bw_up F (27 + cT A.1) (nI (dcd a b))) 26 (nI (cT A.1 + 1))) a b) (acP A a b) := by
  have hk := hsT_k hA (Nat.le_refl _)
  have hN : cN A.1 ≤ 6 := hk.1
  have h1 : mcv (bw_up (bw_up F (27 + cT A.1) (nI (dcd a b))) 26 (nI (cT A.1 + 1))) (hsT A (cT A.1)) := mcv_x hr.1 hN (fun x hx => by rw [bw_up_o (by omega), bw_up_o (by omega)])
  have h2 := mcv_gd h1 hk ha hb hc
  obtain ⟨d1, d2, d3⟩ := hr.2
  refine ⟨mcv_sam h2 (sam_t (acP_sam A a b) (sam_s (sam_hsT (acP A a b) (cT A.1 + 1)))) rfl rfl rfl rfl, ?_, fun i hi => ?_, fun k hk2 => ?_⟩
  · rw [gd_lo (by decide), bw_up_s]; rfl
  · have hi : i < cN A.1 := hi
    rw [gd_lo (by omega), gd_lo (by omega), bw_up_o (by omega), bw_up_o (by omega), bw_up_o (by omega), bw_up_o (by omega)]
    exact d2 i hi
  · have hk3 : k < cT A.1 + 1 := hk2
    rw [gd_lo (by omega), bw_up_o (by omega)]
    show _ = nI (dcd (bw_up A.2.1 (cT A.1) a k) (bw_up A.2.2 (cT A.1) b k))
    by_cases e : k = cT A.1
    · subst e; rw [bw_up_s, bw_up_s, bw_up_s]
    · rw [bw_up_o (by omega), bw_up_o e, bw_up_o e]; exact d3 k (by omega)
set_option maxRecDepth 100000 in
set_option maxHeartbeats 4000000 in
theorem me_X8_goDeed {X : Nat × (Nat → Int32)} {Q : Option Value → bw_H → Prop} {h : bw_H} {q a b : Nat} (hms : MS h) (hq : q < bw_n h) (hkq : bw_k h q = .inr (.int, 80)) (ha : a < 5) (hb : b < 6) (hQ : Q none (bw_sa h q (gdF (bw_i h q) a b))) : bw_me X 0 bm_X8_goDeed false [.ref q, .int (nI (dcd a b))] h Q := by
  have hD : (a = 4 ∧ dcd a b = 0) ∨ (a < 4 ∧ dcd a b = 10 * (a + 1) + b) := by unfold dcd; split <;> omega
  show bw_go _ 0 8 3 false none cX8_goDeed 0 [(0, .ref _), (1, .int _)] [] _ _
  refine go_iload_n dX8_goDeed_0 rfl ?_
  refine go_bipush (10) dX8_goDeed_1 rfl ?_
  refine go_irem dX8_goDeed_3 (by decide) ?_
  rw [show (10 : Int32) = nI 10 from rfl, pk_rem (by omega) (by decide) (by decide)]
  refine go_istore_n dX8_goDeed_4 (Nat.lt_of_lt_of_le (Nat.lt_succ_self _) (Nat.le_of_ble_eq_true rfl)) ?_
  show bw_go _ _ _ _ _ _ _ 5 [(2, .int _), (0, .ref _), (1, .int _)] ([]) _ _
  refine go_iload_n dX8_goDeed_5 rfl ?_
  refine go_bipush (40) dX8_goDeed_6 rfl ?_
  refine go_icmp_lt (pc' := 24) dX8_goDeed_8 rfl (fun c_8 => ?_) (fun c_8 => ?_)
  · -- lt at 8: yes
    show bw_go _ _ _ _ _ _ _ 24 [(2, .int _), (0, .ref _), (1, .int _)] ([]) _ _
    refine go_iload_n dX8_goDeed_24 rfl ?_
    refine go_bipush (30) dX8_goDeed_25 rfl ?_
    refine go_icmp_lt (pc' := 43) dX8_goDeed_27 rfl (fun c_27 => ?_) (fun c_27 => ?_)
    · -- lt at 27: yes
      show bw_go _ _ _ _ _ _ _ 43 [(2, .int _), (0, .ref _), (1, .int _)] ([]) _ _
      refine go_iload_n dX8_goDeed_43 rfl ?_
      refine go_bipush (20) dX8_goDeed_44 rfl ?_
      refine go_icmp_lt (pc' := 62) dX8_goDeed_46 rfl (fun c_46 => ?_) (fun c_46 => ?_)
      · -- lt at 46: yes
        show bw_go _ _ _ _ _ _ _ 62 [(2, .int _), (0, .ref _), (1, .int _)] ([]) _ _
        refine go_iload_n dX8_goDeed_62 rfl ?_
        refine go_bipush (10) dX8_goDeed_63 rfl ?_
        refine go_icmp_lt (pc' := 78) dX8_goDeed_65 rfl (fun c_65 => ?_) (fun c_65 => ?_)
        · -- lt at 65: yes
          show bw_go _ _ _ _ _ _ _ 78 [(2, .int _), (0, .ref _), (1, .int _)] ([]) _ _
          refine go_vret dX8_goDeed_78 rfl ?_
          first
          | (rw [show (79 : Int32).toNatClampNeg = 79 from rfl, si_sa]; exact hQ)
          | (rw [nI_clamp (by omega), si_sa]; exact hQ)
          | (have t_0 := nI_toInt (n := dcd a b) (by omega)
             have l_10 : (10 : Int32).toInt = 10 := rfl
             have l_20 : (20 : Int32).toInt = 20 := rfl
             have l_30 : (30 : Int32).toInt = 30 := rfl
             have l_40 : (40 : Int32).toInt = 40 := rfl
             try simp only [i_lt, i_le] at c_8
             try simp only [i_lt, i_le] at c_27
             try simp only [i_lt, i_le] at c_46
             try simp only [i_lt, i_le] at c_65
             try simp only [i_lt, i_le] at c_14
             try simp only [i_lt, i_le] at c_32
             have ea : a = 4 := by omega
             subst ea
             rw [show gdF (bw_i h q) 4 b = bw_i h q from rfl, sa_id] at hQ
             exact hQ)
        · -- lt at 65: no
          show bw_go _ _ _ _ _ _ _ 68 [(2, .int _), (0, .ref _), (1, .int _)] ([]) _ _
          have t_0 := nI_toInt (n := dcd a b) (by omega)
          have l_10 : (10 : Int32).toInt = 10 := rfl
          have l_20 : (20 : Int32).toInt = 20 := rfl
          have l_30 : (30 : Int32).toInt = 30 := rfl
          have l_40 : (40 : Int32).toInt = 40 := rfl
          try simp only [i_lt, i_le] at c_8
          try simp only [i_lt, i_le] at c_27
          try simp only [i_lt, i_le] at c_46
          try simp only [i_lt, i_le] at c_65
          try simp only [i_lt, i_le] at c_14
          try simp only [i_lt, i_le] at c_32
          have ea : a = 0 := by omega
          subst ea
          have em : dcd 0 b % 10 = b := by omega
          rw [em]
          refine go_aload_n dX8_goDeed_68 rfl ?_
          refine go_bipush (73) dX8_goDeed_69 rfl ?_
          refine go_iload_n dX8_goDeed_71 rfl ?_
          refine go_iadd dX8_goDeed_72 ?_
          rw [show (73 : Int32) = nI 73 from rfl, nI_add]
          refine go_dup2 dX8_goDeed_73 ?_
          refine go_ia dX8_goDeed_74 hkq hq (n_in (N := 80) (by omega) (by decide)) ?_
          refine go_iconst (1) dX8_goDeed_75 rfl ?_
          refine go_iadd dX8_goDeed_76 ?_
          refine go_ist dX8_goDeed_77 hkq hq (n_in (N := 80) (by omega) (by decide)) ?_
          show bw_go _ _ _ _ _ _ _ 78 [(2, .int _), (0, .ref _), (1, .int _)] ([]) _ _
          refine go_vret dX8_goDeed_78 rfl ?_
          first
          | (rw [show (79 : Int32).toNatClampNeg = 79 from rfl, si_sa]; exact hQ)
          | (rw [nI_clamp (by omega), si_sa]; exact hQ)
          | (have t_0 := nI_toInt (n := dcd a b) (by omega)
             have l_10 : (10 : Int32).toInt = 10 := rfl
             have l_20 : (20 : Int32).toInt = 20 := rfl
             have l_30 : (30 : Int32).toInt = 30 := rfl
             have l_40 : (40 : Int32).toInt = 40 := rfl
             try simp only [i_lt, i_le] at c_8
             try simp only [i_lt, i_le] at c_27
             try simp only [i_lt, i_le] at c_46
             try simp only [i_lt, i_le] at c_65
             try simp only [i_lt, i_le] at c_14
             try simp only [i_lt, i_le] at c_32
             have ea : a = 4 := by omega
             subst ea
             rw [show gdF (bw_i h q) 4 b = bw_i h q from rfl, sa_id] at hQ
             exact hQ)
      · -- lt at 46: no
        show bw_go _ _ _ _ _ _ _ 49 [(2, .int _), (0, .ref _), (1, .int _)] ([]) _ _
        have t_0 := nI_toInt (n := dcd a b) (by omega)
        have l_10 : (10 : Int32).toInt = 10 := rfl
        have l_20 : (20 : Int32).toInt = 20 := rfl
        have l_30 : (30 : Int32).toInt = 30 := rfl
        have l_40 : (40 : Int32).toInt = 40 := rfl
        try simp only [i_lt, i_le] at c_8
        try simp only [i_lt, i_le] at c_27
        try simp only [i_lt, i_le] at c_46
        try simp only [i_lt, i_le] at c_65
        try simp only [i_lt, i_le] at c_14
        try simp only [i_lt, i_le] at c_32
        have ea : a = 1 := by omega
        subst ea
        have em : dcd 1 b % 10 = b := by omega
        rw [em]
        refine go_aload_n dX8_goDeed_49 rfl ?_
        refine go_bipush (73) dX8_goDeed_50 rfl ?_
        refine go_iload_n dX8_goDeed_52 rfl ?_
        refine go_iadd dX8_goDeed_53 ?_
        rw [show (73 : Int32) = nI 73 from rfl, nI_add]
        refine go_dup2 dX8_goDeed_54 ?_
        refine go_ia dX8_goDeed_55 hkq hq (n_in (N := 80) (by omega) (by decide)) ?_
        refine go_iconst (1) dX8_goDeed_56 rfl ?_
        refine go_isub dX8_goDeed_57 ?_
        refine go_ist dX8_goDeed_58 hkq hq (n_in (N := 80) (by omega) (by decide)) ?_
        show bw_go _ _ _ _ _ _ _ 59 [(2, .int _), (0, .ref _), (1, .int _)] ([]) _ _
        refine go_goto (pc' := 78) dX8_goDeed_59 rfl ?_
        show bw_go _ _ _ _ _ _ _ 78 [(2, .int _), (0, .ref _), (1, .int _)] ([]) _ _
        refine go_vret dX8_goDeed_78 rfl ?_
        first
        | (rw [show (79 : Int32).toNatClampNeg = 79 from rfl, si_sa]; exact hQ)
        | (rw [nI_clamp (by omega), si_sa]; exact hQ)
        | (have t_0 := nI_toInt (n := dcd a b) (by omega)
           have l_10 : (10 : Int32).toInt = 10 := rfl
           have l_20 : (20 : Int32).toInt = 20 := rfl
           have l_30 : (30 : Int32).toInt = 30 := rfl
           have l_40 : (40 : Int32).toInt = 40 := rfl
           try simp only [i_lt, i_le] at c_8
           try simp only [i_lt, i_le] at c_27
           try simp only [i_lt, i_le] at c_46
           try simp only [i_lt, i_le] at c_65
           try simp only [i_lt, i_le] at c_14
           try simp only [i_lt, i_le] at c_32
           have ea : a = 4 := by omega
           subst ea
           rw [show gdF (bw_i h q) 4 b = bw_i h q from rfl, sa_id] at hQ
           exact hQ)
    · -- lt at 27: no
      show bw_go _ _ _ _ _ _ _ 30 [(2, .int _), (0, .ref _), (1, .int _)] ([]) _ _
      have t_0 := nI_toInt (n := dcd a b) (by omega)
      have l_10 : (10 : Int32).toInt = 10 := rfl
      have l_20 : (20 : Int32).toInt = 20 := rfl
      have l_30 : (30 : Int32).toInt = 30 := rfl
      have l_40 : (40 : Int32).toInt = 40 := rfl
      try simp only [i_lt, i_le] at c_8
      try simp only [i_lt, i_le] at c_27
      try simp only [i_lt, i_le] at c_46
      try simp only [i_lt, i_le] at c_65
      try simp only [i_lt, i_le] at c_14
      try simp only [i_lt, i_le] at c_32
      have ea : a = 2 := by omega
      subst ea
      have em : dcd 2 b % 10 = b := by omega
      rw [em]
      refine go_aload_n dX8_goDeed_30 rfl ?_
      refine go_bipush (67) dX8_goDeed_31 rfl ?_
      refine go_iload_n dX8_goDeed_33 rfl ?_
      refine go_iadd dX8_goDeed_34 ?_
      rw [show (67 : Int32) = nI 67 from rfl, nI_add]
      refine go_dup2 dX8_goDeed_35 ?_
      refine go_ia dX8_goDeed_36 hkq hq (n_in (N := 80) (by omega) (by decide)) ?_
      refine go_iconst (1) dX8_goDeed_37 rfl ?_
      refine go_isub dX8_goDeed_38 ?_
      refine go_ist dX8_goDeed_39 hkq hq (n_in (N := 80) (by omega) (by decide)) ?_
      show bw_go _ _ _ _ _ _ _ 40 [(2, .int _), (0, .ref _), (1, .int _)] ([]) _ _
      refine go_goto (pc' := 78) dX8_goDeed_40 rfl ?_
      show bw_go _ _ _ _ _ _ _ 78 [(2, .int _), (0, .ref _), (1, .int _)] ([]) _ _
      refine go_vret dX8_goDeed_78 rfl ?_
      first
      | (rw [show (79 : Int32).toNatClampNeg = 79 from rfl, si_sa]; exact hQ)
      | (rw [nI_clamp (by omega), si_sa]; exact hQ)
      | (have t_0 := nI_toInt (n := dcd a b) (by omega)
         have l_10 : (10 : Int32).toInt = 10 := rfl
         have l_20 : (20 : Int32).toInt = 20 := rfl
         have l_30 : (30 : Int32).toInt = 30 := rfl
         have l_40 : (40 : Int32).toInt = 40 := rfl
         try simp only [i_lt, i_le] at c_8
         try simp only [i_lt, i_le] at c_27
         try simp only [i_lt, i_le] at c_46
         try simp only [i_lt, i_le] at c_65
         try simp only [i_lt, i_le] at c_14
         try simp only [i_lt, i_le] at c_32
         have ea : a = 4 := by omega
         subst ea
         rw [show gdF (bw_i h q) 4 b = bw_i h q from rfl, sa_id] at hQ
         exact hQ)
  · -- lt at 8: no
    show bw_go _ _ _ _ _ _ _ 11 [(2, .int _), (0, .ref _), (1, .int _)] ([]) _ _
    have t_0 := nI_toInt (n := dcd a b) (by omega)
    have l_10 : (10 : Int32).toInt = 10 := rfl
    have l_20 : (20 : Int32).toInt = 20 := rfl
    have l_30 : (30 : Int32).toInt = 30 := rfl
    have l_40 : (40 : Int32).toInt = 40 := rfl
    try simp only [i_lt, i_le] at c_8
    try simp only [i_lt, i_le] at c_27
    try simp only [i_lt, i_le] at c_46
    try simp only [i_lt, i_le] at c_65
    try simp only [i_lt, i_le] at c_14
    try simp only [i_lt, i_le] at c_32
    have ea : a = 3 := by omega
    subst ea
    have em : dcd 3 b % 10 = b := by omega
    rw [em]
    refine go_aload_n dX8_goDeed_11 rfl ?_
    refine go_bipush (79) dX8_goDeed_12 rfl ?_
    refine go_dup2 dX8_goDeed_14 ?_
    refine go_ia dX8_goDeed_15 hkq hq (by decide) ?_
    refine go_iconst (1) dX8_goDeed_16 rfl ?_
    refine go_iload_n dX8_goDeed_17 rfl ?_
    refine go_ishl dX8_goDeed_18 ?_
    refine go_ixor dX8_goDeed_19 ?_
    refine go_ist dX8_goDeed_20 hkq hq (by decide) ?_
    show bw_go _ _ _ _ _ _ _ 21 [(2, .int _), (0, .ref _), (1, .int _)] ([]) _ _
    refine go_goto (pc' := 78) dX8_goDeed_21 rfl ?_
    show bw_go _ _ _ _ _ _ _ 78 [(2, .int _), (0, .ref _), (1, .int _)] ([]) _ _
    refine go_vret dX8_goDeed_78 rfl ?_
    first
    | (rw [show (79 : Int32).toNatClampNeg = 79 from rfl, si_sa]; exact hQ)
    | (rw [nI_clamp (by omega), si_sa]; exact hQ)
    | (have t_0 := nI_toInt (n := dcd a b) (by omega)
       have l_10 : (10 : Int32).toInt = 10 := rfl
       have l_20 : (20 : Int32).toInt = 20 := rfl
       have l_30 : (30 : Int32).toInt = 30 := rfl
       have l_40 : (40 : Int32).toInt = 40 := rfl
       try simp only [i_lt, i_le] at c_8
       try simp only [i_lt, i_le] at c_27
       try simp only [i_lt, i_le] at c_46
       try simp only [i_lt, i_le] at c_65
       try simp only [i_lt, i_le] at c_14
       try simp only [i_lt, i_le] at c_32
       have ea : a = 4 := by omega
       subst ea
       rw [show gdF (bw_i h q) 4 b = bw_i h q from rfl, sa_id] at hQ
       exact hQ)
set_option maxRecDepth 100000 in
set_option maxHeartbeats 4000000 in
theorem me_X8_may {X : Nat × (Nat → Int32)} {Q : Option Value → bw_H → Prop} {h : bw_H} {q a b : Nat} {C : CT} (hms : MS h) (hq : q < bw_n h) (hkq : bw_k h q = .inr (.int, 80)) (hv : mcv (bw_i h q) C) (hkC : co_k C) (ha : a < 4) (hb : b < cN C) (hQ : Q (some (.int (bi (cbe C a b)))) h) : bw_me X 0 bm_X8_may false [.ref q, .int (nI (dcd a b))] h Q := by
  have hD : dcd a b = 10 * (a + 1) + b := by unfold dcd; rw [if_neg (by omega)]
  have k1 := hkC.1
  have k2 := hkC.2.2.2.2 b hb
  show bw_go _ 0 8 3 false (some .boolean) cX8_may 0 [(0, .ref _), (1, .int _)] [] _ _
  refine go_iload_n dX8_may_0 rfl ?_
  refine go_bipush (10) dX8_may_1 rfl ?_
  refine go_irem dX8_may_3 (by decide) ?_
  rw [show (10 : Int32) = nI 10 from rfl, pk_rem (by omega) (by decide) (by decide)]
  refine go_istore_n dX8_may_4 (Nat.lt_of_lt_of_le (Nat.lt_succ_self _) (Nat.le_of_ble_eq_true rfl)) ?_
  show bw_go _ _ _ _ _ _ _ 5 [(2, .int _), (0, .ref _), (1, .int _)] ([]) _ _
  refine go_iload_n dX8_may_5 rfl ?_
  refine go_bipush (40) dX8_may_6 rfl ?_
  refine go_icmp_ge (pc' := 58) dX8_may_8 rfl (fun c_8 => ?_) (fun c_8 => ?_)
  · -- ge at 8: yes
    show bw_go _ _ _ _ _ _ _ 58 [(2, .int _), (0, .ref _), (1, .int _)] ([]) _ _
    refine go_iconst (1) dX8_may_58 rfl ?_
    refine go_goto (pc' := 63) dX8_may_59 rfl ?_
    show bw_go _ _ _ _ _ _ _ 63 [(2, .int _), (0, .ref _), (1, .int _)] ((.int _) :: []) _ _
    refine go_iret dX8_may_63 rfl rfl ?_
    have t_0 := nI_toInt (n := dcd a b) (by omega)
    have l_10 : (10 : Int32).toInt = 10 := rfl
    have l_20 : (20 : Int32).toInt = 20 := rfl
    have l_30 : (30 : Int32).toInt = 30 := rfl
    have l_40 : (40 : Int32).toInt = 40 := rfl
    try simp only [i_lt, i_le] at c_8
    try simp only [i_lt, i_le] at c_27
    try simp only [i_lt, i_le] at c_46
    try simp only [i_lt, i_le] at c_65
    try simp only [i_lt, i_le] at c_14
    try simp only [i_lt, i_le] at c_32
    have l_0 := i_0
    have l_9 : (9 : Int32).toInt = 9 := rfl
    have em : dcd a b % 10 = b := by omega
    have s_e := nI_toInt (n := cE C b) (by omega)
    have s_r := nI_toInt (n := cR C b) (by omega)
    try rw [em, nI_clamp (by omega), (hv.2.2.2 b hb).2.1] at c_23
    try rw [em, nI_clamp (by omega), (hv.2.2.2 b hb).2.2.1] at c_41
    try rw [em, nI_clamp (by omega), (hv.2.2.2 b hb).2.2.1] at c_55
    try simp only [i_lt, i_le] at c_23
    try simp only [i_lt, i_le] at c_41
    try simp only [i_lt, i_le] at c_55
    have hcb : cbe C a b = true := by
      rcases (show a = 0 ∨ a = 1 ∨ a = 2 ∨ a = 3 by omega) with rfl | rfl | rfl | rfl
      · show decide (cR C b < 9) = true
        first | exact decide_eq_true (by omega) | (exfalso; omega)
      · show decide (0 < cR C b) = true
        first | exact decide_eq_true (by omega) | (exfalso; omega)
      · show decide (0 < cE C b) = true
        first | exact decide_eq_true (by omega) | (exfalso; omega)
      · show true = true
        first | rfl | (exfalso; omega)
    exact bi_1 hcb hQ
  · -- ge at 8: no
    show bw_go _ _ _ _ _ _ _ 11 [(2, .int _), (0, .ref _), (1, .int _)] ([]) _ _
    skip
    refine go_iload_n dX8_may_11 rfl ?_
    refine go_bipush (30) dX8_may_12 rfl ?_
    refine go_icmp_lt (pc' := 29) dX8_may_14 rfl (fun c_14 => ?_) (fun c_14 => ?_)
    · -- lt at 14: yes
      show bw_go _ _ _ _ _ _ _ 29 [(2, .int _), (0, .ref _), (1, .int _)] ([]) _ _
      refine go_iload_n dX8_may_29 rfl ?_
      refine go_bipush (20) dX8_may_30 rfl ?_
      refine go_icmp_lt (pc' := 47) dX8_may_32 rfl (fun c_32 => ?_) (fun c_32 => ?_)
      · -- lt at 32: yes
        show bw_go _ _ _ _ _ _ _ 47 [(2, .int _), (0, .ref _), (1, .int _)] ([]) _ _
        refine go_aload_n dX8_may_47 rfl ?_
        refine go_bipush (73) dX8_may_48 rfl ?_
        refine go_iload_n dX8_may_50 rfl ?_
        refine go_iadd dX8_may_51 ?_
        rw [show (73 : Int32) = nI 73 from rfl, nI_add]
        refine go_ia dX8_may_52 hkq hq (n_in (N := 80) (by omega) (by decide)) ?_
        refine go_bipush (9) dX8_may_53 rfl ?_
        refine go_icmp_ge (pc' := 62) dX8_may_55 rfl (fun c_55 => ?_) (fun c_55 => ?_)
        · -- ge at 55: yes
          show bw_go _ _ _ _ _ _ _ 62 [(2, .int _), (0, .ref _), (1, .int _)] ([]) _ _
          refine go_iconst (0) dX8_may_62 rfl ?_
          refine go_iret dX8_may_63 rfl rfl ?_
          have t_0 := nI_toInt (n := dcd a b) (by omega)
          have l_10 : (10 : Int32).toInt = 10 := rfl
          have l_20 : (20 : Int32).toInt = 20 := rfl
          have l_30 : (30 : Int32).toInt = 30 := rfl
          have l_40 : (40 : Int32).toInt = 40 := rfl
          try simp only [i_lt, i_le] at c_8
          try simp only [i_lt, i_le] at c_27
          try simp only [i_lt, i_le] at c_46
          try simp only [i_lt, i_le] at c_65
          try simp only [i_lt, i_le] at c_14
          try simp only [i_lt, i_le] at c_32
          have l_0 := i_0
          have l_9 : (9 : Int32).toInt = 9 := rfl
          have em : dcd a b % 10 = b := by omega
          have s_e := nI_toInt (n := cE C b) (by omega)
          have s_r := nI_toInt (n := cR C b) (by omega)
          try rw [em, nI_clamp (by omega), (hv.2.2.2 b hb).2.1] at c_23
          try rw [em, nI_clamp (by omega), (hv.2.2.2 b hb).2.2.1] at c_41
          try rw [em, nI_clamp (by omega), (hv.2.2.2 b hb).2.2.1] at c_55
          try simp only [i_lt, i_le] at c_23
          try simp only [i_lt, i_le] at c_41
          try simp only [i_lt, i_le] at c_55
          have hcb : cbe C a b = false := by
            rcases (show a = 0 ∨ a = 1 ∨ a = 2 ∨ a = 3 by omega) with rfl | rfl | rfl | rfl
            · show decide (cR C b < 9) = false
              first | exact decide_eq_false (by omega) | (exfalso; omega)
            · show decide (0 < cR C b) = false
              first | exact decide_eq_false (by omega) | (exfalso; omega)
            · show decide (0 < cE C b) = false
              first | exact decide_eq_false (by omega) | (exfalso; omega)
            · show true = false
              first | rfl | (exfalso; omega)
          exact bi_0 hcb hQ
        · -- ge at 55: no
          show bw_go _ _ _ _ _ _ _ 58 [(2, .int _), (0, .ref _), (1, .int _)] ([]) _ _
          refine go_iconst (1) dX8_may_58 rfl ?_
          refine go_goto (pc' := 63) dX8_may_59 rfl ?_
          show bw_go _ _ _ _ _ _ _ 63 [(2, .int _), (0, .ref _), (1, .int _)] ((.int _) :: []) _ _
          refine go_iret dX8_may_63 rfl rfl ?_
          have t_0 := nI_toInt (n := dcd a b) (by omega)
          have l_10 : (10 : Int32).toInt = 10 := rfl
          have l_20 : (20 : Int32).toInt = 20 := rfl
          have l_30 : (30 : Int32).toInt = 30 := rfl
          have l_40 : (40 : Int32).toInt = 40 := rfl
          try simp only [i_lt, i_le] at c_8
          try simp only [i_lt, i_le] at c_27
          try simp only [i_lt, i_le] at c_46
          try simp only [i_lt, i_le] at c_65
          try simp only [i_lt, i_le] at c_14
          try simp only [i_lt, i_le] at c_32
          have l_0 := i_0
          have l_9 : (9 : Int32).toInt = 9 := rfl
          have em : dcd a b % 10 = b := by omega
          have s_e := nI_toInt (n := cE C b) (by omega)
          have s_r := nI_toInt (n := cR C b) (by omega)
          try rw [em, nI_clamp (by omega), (hv.2.2.2 b hb).2.1] at c_23
          try rw [em, nI_clamp (by omega), (hv.2.2.2 b hb).2.2.1] at c_41
          try rw [em, nI_clamp (by omega), (hv.2.2.2 b hb).2.2.1] at c_55
          try simp only [i_lt, i_le] at c_23
          try simp only [i_lt, i_le] at c_41
          try simp only [i_lt, i_le] at c_55
          have hcb : cbe C a b = true := by
            rcases (show a = 0 ∨ a = 1 ∨ a = 2 ∨ a = 3 by omega) with rfl | rfl | rfl | rfl
            · show decide (cR C b < 9) = true
              first | exact decide_eq_true (by omega) | (exfalso; omega)
            · show decide (0 < cR C b) = true
              first | exact decide_eq_true (by omega) | (exfalso; omega)
            · show decide (0 < cE C b) = true
              first | exact decide_eq_true (by omega) | (exfalso; omega)
            · show true = true
              first | rfl | (exfalso; omega)
          exact bi_1 hcb hQ
      · -- lt at 32: no
        show bw_go _ _ _ _ _ _ _ 35 [(2, .int _), (0, .ref _), (1, .int _)] ([]) _ _
        refine go_aload_n dX8_may_35 rfl ?_
        refine go_bipush (73) dX8_may_36 rfl ?_
        refine go_iload_n dX8_may_38 rfl ?_
        refine go_iadd dX8_may_39 ?_
        rw [show (73 : Int32) = nI 73 from rfl, nI_add]
        refine go_ia dX8_may_40 hkq hq (n_in (N := 80) (by omega) (by decide)) ?_
        refine go_if_le (pc' := 62) dX8_may_41 rfl (fun c_41 => ?_) (fun c_41 => ?_)
        · -- le at 41: yes
          show bw_go _ _ _ _ _ _ _ 62 [(2, .int _), (0, .ref _), (1, .int _)] ([]) _ _
          refine go_iconst (0) dX8_may_62 rfl ?_
          refine go_iret dX8_may_63 rfl rfl ?_
          have t_0 := nI_toInt (n := dcd a b) (by omega)
          have l_10 : (10 : Int32).toInt = 10 := rfl
          have l_20 : (20 : Int32).toInt = 20 := rfl
          have l_30 : (30 : Int32).toInt = 30 := rfl
          have l_40 : (40 : Int32).toInt = 40 := rfl
          try simp only [i_lt, i_le] at c_8
          try simp only [i_lt, i_le] at c_27
          try simp only [i_lt, i_le] at c_46
          try simp only [i_lt, i_le] at c_65
          try simp only [i_lt, i_le] at c_14
          try simp only [i_lt, i_le] at c_32
          have l_0 := i_0
          have l_9 : (9 : Int32).toInt = 9 := rfl
          have em : dcd a b % 10 = b := by omega
          have s_e := nI_toInt (n := cE C b) (by omega)
          have s_r := nI_toInt (n := cR C b) (by omega)
          try rw [em, nI_clamp (by omega), (hv.2.2.2 b hb).2.1] at c_23
          try rw [em, nI_clamp (by omega), (hv.2.2.2 b hb).2.2.1] at c_41
          try rw [em, nI_clamp (by omega), (hv.2.2.2 b hb).2.2.1] at c_55
          try simp only [i_lt, i_le] at c_23
          try simp only [i_lt, i_le] at c_41
          try simp only [i_lt, i_le] at c_55
          have hcb : cbe C a b = false := by
            rcases (show a = 0 ∨ a = 1 ∨ a = 2 ∨ a = 3 by omega) with rfl | rfl | rfl | rfl
            · show decide (cR C b < 9) = false
              first | exact decide_eq_false (by omega) | (exfalso; omega)
            · show decide (0 < cR C b) = false
              first | exact decide_eq_false (by omega) | (exfalso; omega)
            · show decide (0 < cE C b) = false
              first | exact decide_eq_false (by omega) | (exfalso; omega)
            · show true = false
              first | rfl | (exfalso; omega)
          exact bi_0 hcb hQ
        · -- le at 41: no
          show bw_go _ _ _ _ _ _ _ 44 [(2, .int _), (0, .ref _), (1, .int _)] ([]) _ _
          refine go_goto (pc' := 58) dX8_may_44 rfl ?_
          show bw_go _ _ _ _ _ _ _ 58 [(2, .int _), (0, .ref _), (1, .int _)] ([]) _ _
          refine go_iconst (1) dX8_may_58 rfl ?_
          refine go_goto (pc' := 63) dX8_may_59 rfl ?_
          show bw_go _ _ _ _ _ _ _ 63 [(2, .int _), (0, .ref _), (1, .int _)] ((.int _) :: []) _ _
          refine go_iret dX8_may_63 rfl rfl ?_
          have t_0 := nI_toInt (n := dcd a b) (by omega)
          have l_10 : (10 : Int32).toInt = 10 := rfl
          have l_20 : (20 : Int32).toInt = 20 := rfl
          have l_30 : (30 : Int32).toInt = 30 := rfl
          have l_40 : (40 : Int32).toInt = 40 := rfl
          try simp only [i_lt, i_le] at c_8
          try simp only [i_lt, i_le] at c_27
          try simp only [i_lt, i_le] at c_46
          try simp only [i_lt, i_le] at c_65
          try simp only [i_lt, i_le] at c_14
          try simp only [i_lt, i_le] at c_32
          have l_0 := i_0
          have l_9 : (9 : Int32).toInt = 9 := rfl
          have em : dcd a b % 10 = b := by omega
          have s_e := nI_toInt (n := cE C b) (by omega)
          have s_r := nI_toInt (n := cR C b) (by omega)
          try rw [em, nI_clamp (by omega), (hv.2.2.2 b hb).2.1] at c_23
          try rw [em, nI_clamp (by omega), (hv.2.2.2 b hb).2.2.1] at c_41
          try rw [em, nI_clamp (by omega), (hv.2.2.2 b hb).2.2.1] at c_55
          try simp only [i_lt, i_le] at c_23
          try simp only [i_lt, i_le] at c_41
          try simp only [i_lt, i_le] at c_55
          have hcb : cbe C a b = true := by
            rcases (show a = 0 ∨ a = 1 ∨ a = 2 ∨ a = 3 by omega) with rfl | rfl | rfl | rfl
            · show decide (cR C b < 9) = true
              first | exact decide_eq_true (by omega) | (exfalso; omega)
            · show decide (0 < cR C b) = true
              first | exact decide_eq_true (by omega) | (exfalso; omega)
            · show decide (0 < cE C b) = true
              first | exact decide_eq_true (by omega) | (exfalso; omega)
            · show true = true
              first | rfl | (exfalso; omega)
          exact bi_1 hcb hQ
    · -- lt at 14: no
      show bw_go _ _ _ _ _ _ _ 17 [(2, .int _), (0, .ref _), (1, .int _)] ([]) _ _
      refine go_aload_n dX8_may_17 rfl ?_
      refine go_bipush (67) dX8_may_18 rfl ?_
      refine go_iload_n dX8_may_20 rfl ?_
      refine go_iadd dX8_may_21 ?_
      rw [show (67 : Int32) = nI 67 from rfl, nI_add]
      refine go_ia dX8_may_22 hkq hq (n_in (N := 80) (by omega) (by decide)) ?_
      refine go_if_le (pc' := 62) dX8_may_23 rfl (fun c_23 => ?_) (fun c_23 => ?_)
      · -- le at 23: yes
        show bw_go _ _ _ _ _ _ _ 62 [(2, .int _), (0, .ref _), (1, .int _)] ([]) _ _
        refine go_iconst (0) dX8_may_62 rfl ?_
        refine go_iret dX8_may_63 rfl rfl ?_
        have t_0 := nI_toInt (n := dcd a b) (by omega)
        have l_10 : (10 : Int32).toInt = 10 := rfl
        have l_20 : (20 : Int32).toInt = 20 := rfl
        have l_30 : (30 : Int32).toInt = 30 := rfl
        have l_40 : (40 : Int32).toInt = 40 := rfl
        try simp only [i_lt, i_le] at c_8
        try simp only [i_lt, i_le] at c_27
        try simp only [i_lt, i_le] at c_46
        try simp only [i_lt, i_le] at c_65
        try simp only [i_lt, i_le] at c_14
        try simp only [i_lt, i_le] at c_32
        have l_0 := i_0
        have l_9 : (9 : Int32).toInt = 9 := rfl
        have em : dcd a b % 10 = b := by omega
        have s_e := nI_toInt (n := cE C b) (by omega)
        have s_r := nI_toInt (n := cR C b) (by omega)
        try rw [em, nI_clamp (by omega), (hv.2.2.2 b hb).2.1] at c_23
        try rw [em, nI_clamp (by omega), (hv.2.2.2 b hb).2.2.1] at c_41
        try rw [em, nI_clamp (by omega), (hv.2.2.2 b hb).2.2.1] at c_55
        try simp only [i_lt, i_le] at c_23
        try simp only [i_lt, i_le] at c_41
        try simp only [i_lt, i_le] at c_55
        have hcb : cbe C a b = false := by
          rcases (show a = 0 ∨ a = 1 ∨ a = 2 ∨ a = 3 by omega) with rfl | rfl | rfl | rfl
          · show decide (cR C b < 9) = false
            first | exact decide_eq_false (by omega) | (exfalso; omega)
          · show decide (0 < cR C b) = false
            first | exact decide_eq_false (by omega) | (exfalso; omega)
          · show decide (0 < cE C b) = false
            first | exact decide_eq_false (by omega) | (exfalso; omega)
          · show true = false
            first | rfl | (exfalso; omega)
        exact bi_0 hcb hQ
      · -- le at 23: no
        show bw_go _ _ _ _ _ _ _ 26 [(2, .int _), (0, .ref _), (1, .int _)] ([]) _ _
        refine go_goto (pc' := 58) dX8_may_26 rfl ?_
        show bw_go _ _ _ _ _ _ _ 58 [(2, .int _), (0, .ref _), (1, .int _)] ([]) _ _
        refine go_iconst (1) dX8_may_58 rfl ?_
        refine go_goto (pc' := 63) dX8_may_59 rfl ?_
        show bw_go _ _ _ _ _ _ _ 63 [(2, .int _), (0, .ref _), (1, .int _)] ((.int _) :: []) _ _
        refine go_iret dX8_may_63 rfl rfl ?_
        have t_0 := nI_toInt (n := dcd a b) (by omega)
        have l_10 : (10 : Int32).toInt = 10 := rfl
        have l_20 : (20 : Int32).toInt = 20 := rfl
        have l_30 : (30 : Int32).toInt = 30 := rfl
        have l_40 : (40 : Int32).toInt = 40 := rfl
        try simp only [i_lt, i_le] at c_8
        try simp only [i_lt, i_le] at c_27
        try simp only [i_lt, i_le] at c_46
        try simp only [i_lt, i_le] at c_65
        try simp only [i_lt, i_le] at c_14
        try simp only [i_lt, i_le] at c_32
        have l_0 := i_0
        have l_9 : (9 : Int32).toInt = 9 := rfl
        have em : dcd a b % 10 = b := by omega
        have s_e := nI_toInt (n := cE C b) (by omega)
        have s_r := nI_toInt (n := cR C b) (by omega)
        try rw [em, nI_clamp (by omega), (hv.2.2.2 b hb).2.1] at c_23
        try rw [em, nI_clamp (by omega), (hv.2.2.2 b hb).2.2.1] at c_41
        try rw [em, nI_clamp (by omega), (hv.2.2.2 b hb).2.2.1] at c_55
        try simp only [i_lt, i_le] at c_23
        try simp only [i_lt, i_le] at c_41
        try simp only [i_lt, i_le] at c_55
        have hcb : cbe C a b = true := by
          rcases (show a = 0 ∨ a = 1 ∨ a = 2 ∨ a = 3 by omega) with rfl | rfl | rfl | rfl
          · show decide (cR C b < 9) = true
            first | exact decide_eq_true (by omega) | (exfalso; omega)
          · show decide (0 < cR C b) = true
            first | exact decide_eq_true (by omega) | (exfalso; omega)
          · show decide (0 < cE C b) = true
            first | exact decide_eq_true (by omega) | (exfalso; omega)
          · show true = true
            first | rfl | (exfalso; omega)
        exact bi_1 hcb hQ
set_option maxRecDepth 100000 in
set_option maxHeartbeats 4000000 in
theorem me_X8_does {X : Nat × (Nat → Int32)} {Q : Option Value → bw_H → Prop} {h : bw_H} {S : ST} {a b : Nat} (hm : MR h S) (h40 : cT (sA S).1 < 40) (ha : a < 5) (hb : b < cN (nowC S)) (hcb : cbe (nowC S) a b = true) (hQ : ∀ g, MR g (wA S (acP (sA S) a b)) → frX h g → Q none g) : bw_me X 1 bm_X8_does false [.ref 60, .int (nI (dcd a b))] h Q := by
  have hv := mr_v hm
  have hk := mr_k hm
  have k1 := hk.1
  show bw_go _ 1 8 2 false none cX8_does 0 [(0, .ref _), (1, .int _)] [] _ _
  refine go_aload_n dX8_does_0 rfl ?_
  refine go_gfr dX8_does_1 fl_8_7 rfl (ms_lt hm.1 (by decide)) hm.1.1.2 hm.1.2.1.1 ?_
  refine go_bipush (27) dX8_does_4 rfl ?_
  refine go_aload_n dX8_does_6 rfl ?_
  refine go_gfr dX8_does_7 fl_8_7 rfl (ms_lt hm.1 (by decide)) hm.1.1.2 hm.1.2.1.1 ?_
  refine go_bipush (26) dX8_does_10 rfl ?_
  refine go_ia dX8_does_12 hm.1.2.2.1 (ms_lt hm.1 (by decide)) (by decide) ?_
  rw [show (26 : Int32).toNatClampNeg = 26 from rfl, hm.2.1.2.1]
  refine go_iadd dX8_does_13 ?_
  rw [show (27 : Int32) = nI 27 from rfl, nI_add]
  refine go_iload_n dX8_does_14 rfl ?_
  refine go_ist dX8_does_15 hm.1.2.2.1 (ms_lt hm.1 (by decide)) (n_in (N := 80) (by omega) (by decide)) ?_
  show bw_go _ _ _ _ _ _ _ 16 [(0, .ref _), (1, .int _)] ([]) _ _
  rw [nI_clamp (by omega), si_sa]
  refine go_aload_n dX8_does_16 rfl ?_
  refine go_gfr dX8_does_17 fl_8_7 rfl (ms_lt hm.1 (by decide)) hm.1.1.2 hm.1.2.1.1 ?_
  refine go_bipush (26) dX8_does_20 rfl ?_
  refine go_dup2 dX8_does_22 ?_
  refine go_ia dX8_does_23 hm.1.2.2.1 (ms_lt hm.1 (by decide)) (by decide) ?_
  rw [show (26 : Int32).toNatClampNeg = 26 from rfl, i_sa_s, bw_up_o (by omega), hm.2.1.2.1]
  refine go_iconst (1) dX8_does_24 rfl ?_
  refine go_iadd dX8_does_25 ?_
  rw [nI_1]
  refine go_ist dX8_does_26 hm.1.2.2.1 (ms_lt hm.1 (by decide)) (by decide) ?_
  show bw_go _ _ _ _ _ _ _ 27 [(0, .ref _), (1, .int _)] ([]) _ _
  rw [show (26 : Int32).toNatClampNeg = 26 from rfl, si_sa, i_sa_s, sa_sa]
  refine go_aload_n dX8_does_27 rfl ?_
  refine go_gfr dX8_does_28 fl_8_7 rfl (ms_lt hm.1 (by decide)) hm.1.1.2 hm.1.2.1.1 ?_
  refine go_iload_n dX8_does_31 rfl ?_
  refine go_cs (as := [.ref _, .int _]) 0 dX8_does_32 rfl rfl mt_8_172 (Nat.le_of_ble_eq_true rfl) rfl rfl (Nat.le_of_ble_eq_true rfl) (Nat.le_of_ble_eq_true rfl) (Nat.le_of_ble_eq_true rfl) (Nat.le_of_ble_eq_true rfl) ?_
  refine me_X8_goDeed (ms_f hm.1 (frX_sa (by decide))) (ms_lt hm.1 (by decide)) hm.1.2.2.1 ha (by omega) ?_
  rw [i_sa_s, sa_sa]
  show bw_go _ _ _ _ _ _ _ 35 [(0, .ref _), (1, .int _)] ([]) _ _
  refine go_vret dX8_does_35 rfl ?_
  exact hQ _ (mr_now hm (frX_sa (by decide)) (fun q h1 h2 => i_sa_o (by omega)) (mr_flg hm (i_sa_o (by decide)) rfl) (by rw [i_sa_s]; exact mcr_acP hm.2.1 hm.2.2.2.2.2.2.2.1 h40 ha hb hcb) ⟨ac_acP hm.2.2.2.2.2.2.2.1 h40 ha hb hcb, hm.2.2.2.2.2.2.2.2⟩) (frX_sa (by decide))
def yDT (a : Nat) (i : Int32) (S : ST) : Int32 × ST := if isn i (cN (nowC S)) = true then (if cbe (nowC S) a (rn i) = true then (if cT (sA S).1 < 40 then (0, wA S (acP (sA S) a (rn i))) else (-2, S)) else (-4, S)) else (-1, S)
theorem yDT_n {a : Nat} {i : Int32} {S : ST} (h : ¬ (yDT a i S).1 = 0) : yDeed a i S = yDT a i S := by
  unfold yDT at h ⊢
  unfold yDeed
  by_cases h1 : isn i (cN (nowC S)) = true
  · by_cases h2 : cbe (nowC S) a (rn i) = true
    · by_cases h3 : cT (sA S).1 < 40
      · rw [if_pos h1, if_pos h2, if_pos h3] at h; exact absurd rfl h
      · rw [if_pos h1, if_pos h1, if_pos h2, if_pos h2, if_neg h3, if_neg h3]
    · rw [if_pos h1, if_pos h1, if_neg h2, if_neg h2]
  · rw [if_neg h1, if_neg h1]
theorem yDT_0 {a : Nat} {i : Int32} {S : ST} (h : (yDT a i S).1 = 0) : isn i (cN (nowC S)) = true ∧ cbe (nowC S) a (rn i) = true ∧ cT (sA S).1 < 40 := by
  unfold yDT at h
  split at h
  · split at h
    · split at h
      · rename_i h1 h2 h3; exact ⟨h1, h2, h3⟩
      · exact absurd (show (-2 : Int32) = 0 from h) (by decide)
    · exact absurd (show (-4 : Int32) = 0 from h) (by decide)
  · exact absurd (show (-1 : Int32) = 0 from h) (by decide)
set_option maxRecDepth 100000 in
set_option maxHeartbeats 4000000 in
theorem me_X8_doesTo {X : Nat × (Nat → Int32)} {Q : Option Value → bw_H → Prop} {h : bw_H} {S : ST} {a : Nat} {i : Int32} (hm : MR h S) (ha : a < 4) (hQ : PM h Q (yDT a i S)) : bw_me X 2 bm_X8_doesTo false [.ref 60, .int i, .int (nI (10 * (a + 1)))] h Q := by
  have hv := mr_v hm
  have hk := mr_k hm
  have k1 := hk.1
  show bw_go _ 2 8 3 false (some .int) cX8_doesTo 0 [(0, .ref _), (1, .int _), (2, .int _)] [] _ _
  refine go_aload_n dX8_doesTo_0 rfl ?_
  refine go_iload_n dX8_doesTo_1 rfl ?_
  refine go_cv (as := [.int _]) 1 dX8_doesTo_2 mt_8_157 (Or.inl rfl) rfl rfl (ms_lt hm.1 (by decide)) hm.1.1.2 (Nat.le_of_ble_eq_true rfl) (Nat.le_of_ble_eq_true rfl) (Nat.le_of_ble_eq_true rfl) (Nat.le_of_ble_eq_true rfl) (Nat.le_of_ble_eq_true rfl) ?_
  refine me_X8_isBear hm ?_
  show bw_go _ _ _ _ _ _ _ 5 [(0, .ref _), (1, .int _), (2, .int _)] ((.int _) :: []) _ _
  refine go_ifb_ne (pc' := 10) dX8_doesTo_5 rfl (fun c_5 => ?_) (fun c_5 => ?_)
  · -- ne at 5: yes
    show bw_go _ _ _ _ _ _ _ 10 [(0, .ref _), (1, .int _), (2, .int _)] ([]) _ _
    obtain ⟨b, hb, rfl⟩ := isn_ex (r := i) (num := cN (nowC S)) c_5 (by omega)
    have ed : nI (10 * (a + 1)) + nI b = nI (dcd a b) := by rw [nI_add]; unfold dcd; rw [if_neg (by omega)]
    refine go_aload_n dX8_doesTo_10 rfl ?_
    refine go_gfr dX8_doesTo_11 fl_8_7 rfl (ms_lt hm.1 (by decide)) hm.1.1.2 hm.1.2.1.1 ?_
    refine go_iload_n dX8_doesTo_14 rfl ?_
    refine go_iload_n dX8_doesTo_15 rfl ?_
    refine go_iadd dX8_doesTo_16 ?_
    rw [ed]
    refine go_cs (as := [.ref _, .int _]) 0 dX8_doesTo_17 rfl rfl mt_8_176 (Nat.le_of_ble_eq_true rfl) rfl rfl (Nat.le_of_ble_eq_true rfl) (Nat.le_of_ble_eq_true rfl) (Nat.le_of_ble_eq_true rfl) (Nat.le_of_ble_eq_true rfl) ?_
    refine me_X8_may hm.1 (ms_lt hm.1 (by decide)) hm.1.2.2.1 hv hk ha hb ?_
    show bw_go _ _ _ _ _ _ _ 20 [(0, .ref _), (1, .int _), (2, .int _)] ((.int _) :: []) _ _
    refine go_ifb_ne (pc' := 26) dX8_doesTo_20 rfl (fun c_20 => ?_) (fun c_20 => ?_)
    · -- ne at 20: yes
      show bw_go _ _ _ _ _ _ _ 26 [(0, .ref _), (1, .int _), (2, .int _)] ([]) _ _
      refine go_aload_n dX8_doesTo_26 rfl ?_
      refine go_gfr dX8_doesTo_27 fl_8_7 rfl (ms_lt hm.1 (by decide)) hm.1.1.2 hm.1.2.1.1 ?_
      refine go_bipush (26) dX8_doesTo_30 rfl ?_
      refine go_ia dX8_doesTo_32 hm.1.2.2.1 (ms_lt hm.1 (by decide)) (by decide) ?_
      rw [show (26 : Int32).toNatClampNeg = 26 from rfl, hm.2.1.2.1]
      refine go_bipush (40) dX8_doesTo_33 rfl ?_
      refine go_icmp_ne (pc' := 41) dX8_doesTo_35 rfl (fun c_35 => ?_) (fun c_35 => ?_)
      · -- ne at 35: yes
        show bw_go _ _ _ _ _ _ _ 41 [(0, .ref _), (1, .int _), (2, .int _)] ([]) _ _
        refine go_aload_n dX8_doesTo_41 rfl ?_
        refine go_iload_n dX8_doesTo_42 rfl ?_
        refine go_iload_n dX8_doesTo_43 rfl ?_
        refine go_iadd dX8_doesTo_44 ?_
        rw [ed]
        refine go_cv (as := [.int _]) 1 dX8_doesTo_45 mt_8_180 (Or.inl rfl) rfl rfl (ms_lt hm.1 (by decide)) hm.1.1.2 (Nat.le_of_ble_eq_true rfl) (Nat.le_of_ble_eq_true rfl) (Nat.le_of_ble_eq_true rfl) (Nat.le_of_ble_eq_true rfl) (Nat.le_of_ble_eq_true rfl) ?_
        have h40 : cT (sA S).1 < 40 := by
          have z : cT (sA S).1 ≤ 40 := hm.2.2.2.2.2.2.2.1.2.1
          rcases Nat.lt_or_eq_of_le z with z2 | z2
          · exact z2
          · exact absurd (by rw [z2]; rfl) c_35
        refine me_X8_does hm h40 (by omega) hb c_20 (fun g hg hf => ?_)
        show bw_go _ _ _ _ _ _ _ 48 [(0, .ref _), (1, .int _), (2, .int _)] ([]) _ _
        refine go_iconst (0) dX8_doesTo_48 rfl ?_
        refine go_iret dX8_doesTo_49 rfl rfl ?_
        refine q_m hQ ?_ hg hf
        unfold yDT
        rw [if_pos (show isn (nI b) (cN (nowC S)) = true from c_5), rn_n (by omega), if_pos c_20, if_pos h40]
      · -- ne at 35: no
        show bw_go _ _ _ _ _ _ _ 38 [(0, .ref _), (1, .int _), (2, .int _)] ([]) _ _
        refine go_bipush (-2) dX8_doesTo_38 rfl ?_
        refine go_iret dX8_doesTo_40 rfl rfl ?_
        refine q_m hQ ?_ hm (frX_r h)
        have h40 : ¬ cT (sA S).1 < 40 := fun z => by
          have z2 := (nI_eq (a := cT (sA S).1) (b := 40) (by omega) (by decide)).mp (Decidable.of_not_not c_35)
          omega
        unfold yDT
        rw [if_pos (show isn (nI b) (cN (nowC S)) = true from c_5), rn_n (by omega), if_pos c_20, if_neg h40]
    · -- ne at 20: no
      show bw_go _ _ _ _ _ _ _ 23 [(0, .ref _), (1, .int _), (2, .int _)] ([]) _ _
      refine go_bipush (-4) dX8_doesTo_23 rfl ?_
      refine go_iret dX8_doesTo_25 rfl rfl ?_
      refine q_m hQ ?_ hm (frX_r h)
      unfold yDT
      rw [if_pos (show isn (nI b) (cN (nowC S)) = true from c_5), rn_n (by omega), if_neg (fun z => Bool.noConfusion (c_20.symm.trans z))]
  · -- ne at 5: no
    show bw_go _ _ _ _ _ _ _ 8 [(0, .ref _), (1, .int _), (2, .int _)] ([]) _ _
    refine go_iconst (-1) dX8_doesTo_8 rfl ?_
    refine go_iret dX8_doesTo_9 rfl rfl ?_
    refine q_m hQ ?_ hm (frX_r h)
    unfold yDT
    rw [if_neg (fun z => Bool.noConfusion ((show isn i (cN (nowC S)) = false from c_5).symm.trans z))]
set_option maxRecDepth 100000 in
set_option maxHeartbeats 4000000 in
theorem me_X8_press {X : Nat × (Nat → Int32)} {Q : Option Value → bw_H → Prop} {h : bw_H} {S : ST} {i : Int32} (hm : MR h S) (hQ : PM h Q (yDeed 0 i S)) : bw_me X 3 bm_X8_press false [.ref 60, .int i] h Q := by
  have hv := mr_v hm
  have hk := mr_k hm
  have k1 := hk.1
  show bw_go _ 3 8 3 false (some .int) cX8_press 0 [(0, .ref _), (1, .int _)] [] _ _
  refine go_aload_n dX8_press_0 rfl ?_
  refine go_iload_n dX8_press_1 rfl ?_
  refine go_bipush (10) dX8_press_2 rfl ?_
  refine go_cv (as := [.int _, .int _]) 2 dX8_press_4 mt_8_183 (Or.inl rfl) rfl rfl (ms_lt hm.1 (by decide)) hm.1.1.2 (Nat.le_of_ble_eq_true rfl) (Nat.le_of_ble_eq_true rfl) (Nat.le_of_ble_eq_true rfl) (Nat.le_of_ble_eq_true rfl) (Nat.le_of_ble_eq_true rfl) ?_
  rw [show (10 : Int32) = nI (10 * (0 + 1)) from rfl]
  refine me_X8_doesTo (a := 0) hm (by decide) (fun g hg hf => ?_)
  have hm0 := hm
  have hm := hg
  show bw_go _ _ _ _ _ _ _ 7 [(0, .ref _), (1, .int _)] ((.int _) :: []) _ _
  refine go_istore_n dX8_press_7 (Nat.lt_of_lt_of_le (Nat.lt_succ_self _) (Nat.le_of_ble_eq_true rfl)) ?_
  show bw_go _ _ _ _ _ _ _ 8 [(2, .int _), (0, .ref _), (1, .int _)] ([]) _ _
  refine go_iload_n dX8_press_8 rfl ?_
  refine go_if_eq (pc' := 16) dX8_press_9 rfl (fun c_9 => ?_) (fun c_9 => ?_)
  · -- eq at 9: yes
    show bw_go _ _ _ _ _ _ _ 16 [(2, .int _), (0, .ref _), (1, .int _)] ([]) _ _
    obtain ⟨z1, z2, z3⟩ := yDT_0 (a := 0) c_9
    obtain ⟨b, hb, rfl⟩ := isn_ex (r := i) (num := cN (nowC S)) z1 (by omega)
    rw [rn_n (by omega)] at z2
    have e1 : yDT 0 (nI b) S = (0, wA S (acP (sA S) 0 b)) := by unfold yDT; rw [if_pos z1, rn_n (by omega), if_pos z2, if_pos z3]
    have hg0 := hg
    rw [e1] at hg0
    have hv2 := mr_v hg0
    have hk2 := mr_k hg0
    have hb2 : b < cN (nowC (wA S (acP (sA S) 0 b))) := hb
    have e2 : yDeed 0 (nI b) S = (nI (cR (nowC (wA S (acP (sA S) 0 b))) b), wA S (acP (sA S) 0 b)) := by unfold yDeed; rw [if_pos z1, rn_n (by omega), if_pos z2, if_pos z3]; rfl
    refine go_aload_n dX8_press_16 rfl ?_
    refine go_gfr dX8_press_17 fl_8_7 rfl (ms_lt hm.1 (by decide)) hm.1.1.2 hm.1.2.1.1 ?_
    refine go_bipush (73) dX8_press_20 rfl ?_
    refine go_iload_n dX8_press_22 rfl ?_
    refine go_iadd dX8_press_23 ?_
    rw [show (73 : Int32) = nI 73 from rfl, nI_add]
    refine go_ia dX8_press_24 hm.1.2.2.1 (ms_lt hm.1 (by decide)) (n_in (N := 80) (by omega) (by decide)) ?_
    first | rw [nI_clamp (by omega), (hv2.2.2.2 b hb2).2.2.1] | skip
    refine go_iret dX8_press_25 rfl rfl ?_
    first
    | exact q_m hQ e2 hg0 hf
    | exact q_m hQ (yDT_n c_9) hg hf
  · -- eq at 9: no
    show bw_go _ _ _ _ _ _ _ 12 [(2, .int _), (0, .ref _), (1, .int _)] ([]) _ _
    refine go_iload_n dX8_press_12 rfl ?_
    refine go_goto (pc' := 25) dX8_press_13 rfl ?_
    show bw_go _ _ _ _ _ _ _ 25 [(2, .int _), (0, .ref _), (1, .int _)] ((.int _) :: []) _ _
    first | rw [nI_clamp (by omega), (hv2.2.2.2 b hb2).2.2.1] | skip
    refine go_iret dX8_press_25 rfl rfl ?_
    first
    | exact q_m hQ e2 hg0 hf
    | exact q_m hQ (yDT_n c_9) hg hf
set_option maxRecDepth 100000 in
set_option maxHeartbeats 4000000 in
theorem me_X8_mend {X : Nat × (Nat → Int32)} {Q : Option Value → bw_H → Prop} {h : bw_H} {S : ST} {i : Int32} (hm : MR h S) (hQ : PM h Q (yDeed 1 i S)) : bw_me X 3 bm_X8_mend false [.ref 60, .int i] h Q := by
  have hv := mr_v hm
  have hk := mr_k hm
  have k1 := hk.1
  show bw_go _ 3 8 3 false (some .int) cX8_mend 0 [(0, .ref _), (1, .int _)] [] _ _
  refine go_aload_n dX8_mend_0 rfl ?_
  refine go_iload_n dX8_mend_1 rfl ?_
  refine go_bipush (20) dX8_mend_2 rfl ?_
  refine go_cv (as := [.int _, .int _]) 2 dX8_mend_4 mt_8_183 (Or.inl rfl) rfl rfl (ms_lt hm.1 (by decide)) hm.1.1.2 (Nat.le_of_ble_eq_true rfl) (Nat.le_of_ble_eq_true rfl) (Nat.le_of_ble_eq_true rfl) (Nat.le_of_ble_eq_true rfl) (Nat.le_of_ble_eq_true rfl) ?_
  rw [show (20 : Int32) = nI (10 * (1 + 1)) from rfl]
  refine me_X8_doesTo (a := 1) hm (by decide) (fun g hg hf => ?_)
  have hm0 := hm
  have hm := hg
  show bw_go _ _ _ _ _ _ _ 7 [(0, .ref _), (1, .int _)] ((.int _) :: []) _ _
  refine go_istore_n dX8_mend_7 (Nat.lt_of_lt_of_le (Nat.lt_succ_self _) (Nat.le_of_ble_eq_true rfl)) ?_
  show bw_go _ _ _ _ _ _ _ 8 [(2, .int _), (0, .ref _), (1, .int _)] ([]) _ _
  refine go_iload_n dX8_mend_8 rfl ?_
  refine go_if_eq (pc' := 16) dX8_mend_9 rfl (fun c_9 => ?_) (fun c_9 => ?_)
  · -- eq at 9: yes
    show bw_go _ _ _ _ _ _ _ 16 [(2, .int _), (0, .ref _), (1, .int _)] ([]) _ _
    obtain ⟨z1, z2, z3⟩ := yDT_0 (a := 1) c_9
    obtain ⟨b, hb, rfl⟩ := isn_ex (r := i) (num := cN (nowC S)) z1 (by omega)
    rw [rn_n (by omega)] at z2
    have e1 : yDT 1 (nI b) S = (0, wA S (acP (sA S) 1 b)) := by unfold yDT; rw [if_pos z1, rn_n (by omega), if_pos z2, if_pos z3]
    have hg0 := hg
    rw [e1] at hg0
    have hv2 := mr_v hg0
    have hk2 := mr_k hg0
    have hb2 : b < cN (nowC (wA S (acP (sA S) 1 b))) := hb
    have e2 : yDeed 1 (nI b) S = (nI (cR (nowC (wA S (acP (sA S) 1 b))) b), wA S (acP (sA S) 1 b)) := by unfold yDeed; rw [if_pos z1, rn_n (by omega), if_pos z2, if_pos z3]; rfl
    refine go_aload_n dX8_mend_16 rfl ?_
    refine go_gfr dX8_mend_17 fl_8_7 rfl (ms_lt hm.1 (by decide)) hm.1.1.2 hm.1.2.1.1 ?_
    refine go_bipush (73) dX8_mend_20 rfl ?_
    refine go_iload_n dX8_mend_22 rfl ?_
    refine go_iadd dX8_mend_23 ?_
    rw [show (73 : Int32) = nI 73 from rfl, nI_add]
    refine go_ia dX8_mend_24 hm.1.2.2.1 (ms_lt hm.1 (by decide)) (n_in (N := 80) (by omega) (by decide)) ?_
    first | rw [nI_clamp (by omega), (hv2.2.2.2 b hb2).2.2.1] | skip
    refine go_iret dX8_mend_25 rfl rfl ?_
    first
    | exact q_m hQ e2 hg0 hf
    | exact q_m hQ (yDT_n c_9) hg hf
  · -- eq at 9: no
    show bw_go _ _ _ _ _ _ _ 12 [(2, .int _), (0, .ref _), (1, .int _)] ([]) _ _
    refine go_iload_n dX8_mend_12 rfl ?_
    refine go_goto (pc' := 25) dX8_mend_13 rfl ?_
    show bw_go _ _ _ _ _ _ _ 25 [(2, .int _), (0, .ref _), (1, .int _)] ((.int _) :: []) _ _
    first | rw [nI_clamp (by omega), (hv2.2.2.2 b hb2).2.2.1] | skip
    refine go_iret dX8_mend_25 rfl rfl ?_
    first
    | exact q_m hQ e2 hg0 hf
    | exact q_m hQ (yDT_n c_9) hg hf
set_option maxRecDepth 100000 in
set_option maxHeartbeats 4000000 in
theorem me_X8_eye {X : Nat × (Nat → Int32)} {Q : Option Value → bw_H → Prop} {h : bw_H} {S : ST} {i : Int32} (hm : MR h S) (hQ : PM h Q (yDeed 2 i S)) : bw_me X 3 bm_X8_eye false [.ref 60, .int i] h Q := by
  have hv := mr_v hm
  have hk := mr_k hm
  have k1 := hk.1
  show bw_go _ 3 8 3 false (some .int) cX8_eye 0 [(0, .ref _), (1, .int _)] [] _ _
  refine go_aload_n dX8_eye_0 rfl ?_
  refine go_iload_n dX8_eye_1 rfl ?_
  refine go_bipush (30) dX8_eye_2 rfl ?_
  refine go_cv (as := [.int _, .int _]) 2 dX8_eye_4 mt_8_183 (Or.inl rfl) rfl rfl (ms_lt hm.1 (by decide)) hm.1.1.2 (Nat.le_of_ble_eq_true rfl) (Nat.le_of_ble_eq_true rfl) (Nat.le_of_ble_eq_true rfl) (Nat.le_of_ble_eq_true rfl) (Nat.le_of_ble_eq_true rfl) ?_
  rw [show (30 : Int32) = nI (10 * (2 + 1)) from rfl]
  refine me_X8_doesTo (a := 2) hm (by decide) (fun g hg hf => ?_)
  have hm0 := hm
  have hm := hg
  show bw_go _ _ _ _ _ _ _ 7 [(0, .ref _), (1, .int _)] ((.int _) :: []) _ _
  refine go_istore_n dX8_eye_7 (Nat.lt_of_lt_of_le (Nat.lt_succ_self _) (Nat.le_of_ble_eq_true rfl)) ?_
  show bw_go _ _ _ _ _ _ _ 8 [(2, .int _), (0, .ref _), (1, .int _)] ([]) _ _
  refine go_iload_n dX8_eye_8 rfl ?_
  refine go_if_eq (pc' := 16) dX8_eye_9 rfl (fun c_9 => ?_) (fun c_9 => ?_)
  · -- eq at 9: yes
    show bw_go _ _ _ _ _ _ _ 16 [(2, .int _), (0, .ref _), (1, .int _)] ([]) _ _
    obtain ⟨z1, z2, z3⟩ := yDT_0 (a := 2) c_9
    obtain ⟨b, hb, rfl⟩ := isn_ex (r := i) (num := cN (nowC S)) z1 (by omega)
    rw [rn_n (by omega)] at z2
    have e1 : yDT 2 (nI b) S = (0, wA S (acP (sA S) 2 b)) := by unfold yDT; rw [if_pos z1, rn_n (by omega), if_pos z2, if_pos z3]
    have hg0 := hg
    rw [e1] at hg0
    have hv2 := mr_v hg0
    have hk2 := mr_k hg0
    have hb2 : b < cN (nowC (wA S (acP (sA S) 2 b))) := hb
    have e2 : yDeed 2 (nI b) S = (nI (cE (nowC (wA S (acP (sA S) 2 b))) b), wA S (acP (sA S) 2 b)) := by unfold yDeed; rw [if_pos z1, rn_n (by omega), if_pos z2, if_pos z3]; rfl
    refine go_aload_n dX8_eye_16 rfl ?_
    refine go_gfr dX8_eye_17 fl_8_7 rfl (ms_lt hm.1 (by decide)) hm.1.1.2 hm.1.2.1.1 ?_
    refine go_bipush (67) dX8_eye_20 rfl ?_
    refine go_iload_n dX8_eye_22 rfl ?_
    refine go_iadd dX8_eye_23 ?_
    rw [show (67 : Int32) = nI 67 from rfl, nI_add]
    refine go_ia dX8_eye_24 hm.1.2.2.1 (ms_lt hm.1 (by decide)) (n_in (N := 80) (by omega) (by decide)) ?_
    first | rw [nI_clamp (by omega), (hv2.2.2.2 b hb2).2.1] | skip
    refine go_iret dX8_eye_25 rfl rfl ?_
    first
    | exact q_m hQ e2 hg0 hf
    | exact q_m hQ (yDT_n c_9) hg hf
  · -- eq at 9: no
    show bw_go _ _ _ _ _ _ _ 12 [(2, .int _), (0, .ref _), (1, .int _)] ([]) _ _
    refine go_iload_n dX8_eye_12 rfl ?_
    refine go_goto (pc' := 25) dX8_eye_13 rfl ?_
    show bw_go _ _ _ _ _ _ _ 25 [(2, .int _), (0, .ref _), (1, .int _)] ((.int _) :: []) _ _
    first | rw [nI_clamp (by omega), (hv2.2.2.2 b hb2).2.1] | skip
    refine go_iret dX8_eye_25 rfl rfl ?_
    first
    | exact q_m hQ e2 hg0 hf
    | exact q_m hQ (yDT_n c_9) hg hf
set_option maxRecDepth 100000 in
set_option maxHeartbeats 4000000 in
theorem me_X8_turn {X : Nat × (Nat → Int32)} {Q : Option Value → bw_H → Prop} {h : bw_H} {S : ST} {i : Int32} (hm : MR h S) (hQ : PM h Q (yDeed 3 i S)) : bw_me X 3 bm_X8_turn false [.ref 60, .int i] h Q := by
  have hv := mr_v hm
  have hk := mr_k hm
  have k1 := hk.1
  show bw_go _ 3 8 3 false (some .int) cX8_turn 0 [(0, .ref _), (1, .int _)] [] _ _
  refine go_aload_n dX8_turn_0 rfl ?_
  refine go_iload_n dX8_turn_1 rfl ?_
  refine go_bipush (40) dX8_turn_2 rfl ?_
  refine go_cv (as := [.int _, .int _]) 2 dX8_turn_4 mt_8_183 (Or.inl rfl) rfl rfl (ms_lt hm.1 (by decide)) hm.1.1.2 (Nat.le_of_ble_eq_true rfl) (Nat.le_of_ble_eq_true rfl) (Nat.le_of_ble_eq_true rfl) (Nat.le_of_ble_eq_true rfl) (Nat.le_of_ble_eq_true rfl) ?_
  rw [show (40 : Int32) = nI (10 * (3 + 1)) from rfl]
  refine me_X8_doesTo (a := 3) hm (by decide) (fun g hg hf => ?_)
  have hm0 := hm
  have hm := hg
  show bw_go _ _ _ _ _ _ _ 7 [(0, .ref _), (1, .int _)] ((.int _) :: []) _ _
  refine go_istore_n dX8_turn_7 (Nat.lt_of_lt_of_le (Nat.lt_succ_self _) (Nat.le_of_ble_eq_true rfl)) ?_
  show bw_go _ _ _ _ _ _ _ 8 [(2, .int _), (0, .ref _), (1, .int _)] ([]) _ _
  refine go_iload_n dX8_turn_8 rfl ?_
  refine go_if_eq (pc' := 16) dX8_turn_9 rfl (fun c_9 => ?_) (fun c_9 => ?_)
  · -- eq at 9: yes
    show bw_go _ _ _ _ _ _ _ 16 [(2, .int _), (0, .ref _), (1, .int _)] ([]) _ _
    obtain ⟨z1, z2, z3⟩ := yDT_0 (a := 3) c_9
    obtain ⟨b, hb, rfl⟩ := isn_ex (r := i) (num := cN (nowC S)) z1 (by omega)
    rw [rn_n (by omega)] at z2
    have e1 : yDT 3 (nI b) S = (0, wA S (acP (sA S) 3 b)) := by unfold yDT; rw [if_pos z1, rn_n (by omega), if_pos z2, if_pos z3]
    have hg0 := hg
    rw [e1] at hg0
    have hv2 := mr_v hg0
    have hk2 := mr_k hg0
    have hb2 : b < cN (nowC (wA S (acP (sA S) 3 b))) := hb
    have e2 : yDeed 3 (nI b) S = (nI (if (cW (nowC (wA S (acP (sA S) 3 b)))).testBit b = true then 1 else 0), wA S (acP (sA S) 3 b)) := by unfold yDeed; rw [if_pos z1, rn_n (by omega), if_pos z2, if_pos z3]; rfl
    refine go_aload_n dX8_turn_16 rfl ?_
    refine go_gfr dX8_turn_17 fl_8_7 rfl (ms_lt hm.1 (by decide)) hm.1.1.2 hm.1.2.1.1 ?_
    refine go_bipush (79) dX8_turn_20 rfl ?_
    refine go_ia dX8_turn_22 hm.1.2.2.1 (ms_lt hm.1 (by decide)) (by decide) ?_
    rw [show (79 : Int32).toNatClampNeg = 79 from rfl, hv2.2.2.1]
    refine go_iload_n dX8_turn_23 rfl ?_
    refine go_ishr dX8_turn_24 ?_
    refine go_iconst (1) dX8_turn_25 rfl ?_
    refine go_iand dX8_turn_26 ?_
    first | rw [isb_t _ hk2.2.2.1 b (by omega)] | skip
    refine go_iret dX8_turn_27 rfl rfl ?_
    first
    | exact q_m hQ e2 hg0 hf
    | exact q_m hQ (yDT_n c_9) hg hf
  · -- eq at 9: no
    show bw_go _ _ _ _ _ _ _ 12 [(2, .int _), (0, .ref _), (1, .int _)] ([]) _ _
    refine go_iload_n dX8_turn_12 rfl ?_
    refine go_goto (pc' := 27) dX8_turn_13 rfl ?_
    show bw_go _ _ _ _ _ _ _ 27 [(2, .int _), (0, .ref _), (1, .int _)] ((.int _) :: []) _ _
    first | rw [isb_t _ hk2.2.2.1 b (by omega)] | skip
    refine go_iret dX8_turn_27 rfl rfl ?_
    first
    | exact q_m hQ e2 hg0 hf
    | exact q_m hQ (yDT_n c_9) hg hf
