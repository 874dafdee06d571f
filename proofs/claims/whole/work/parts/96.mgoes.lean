/-! the reference: one row of presses -/
def dnx (n j : Nat) : Int32 := if j < n then nI (n - 1 - j) else -1
theorem dnx_0 : ∀ n, n < 5 → nI n - 1 = dnx n 0 := by decide
theorem dnx_s : ∀ n, n < 5 → ∀ j, j < n → nI (n - 1 - j) + Int32.ofInt (-1) = dnx n (j + 1) := by decide
theorem dnx_n : ∀ n, n < 5 → dnx n n < 0 := by decide
theorem dnx_v {n j : Nat} (h : j < n) : dnx n j = nI (n - 1 - j) := if_pos h
def cd6 (c : Nat) : Nat → Nat
  | 0 => c
  | j + 1 => cd6 c j / 6
theorem cd6_e (c : Nat) : ∀ j, cd6 c j = c / 6 ^ j
  | 0 => (Nat.div_one c).symm
  | j + 1 => by
    show cd6 c j / 6 = _
    rw [cd6_e c j, Nat.div_div_eq_div_mul, ← Nat.pow_succ]
theorem cd6_le (c j : Nat) : cd6 c j ≤ c := by rw [cd6_e]; exact Nat.div_le_self _ _
theorem cd6_d {n c j : Nat} (h : j < n) : cd6 c j % 6 = dg6 n c (n - 1 - j) := by
  rw [cd6_e]
  show _ = c / 6 ^ (n - 1 - (n - 1 - j)) % 6
  rw [show n - 1 - (n - 1 - j) = j by omega]
theorem gc_step {n c k f : Nat} {A : TT} (h : k < n) : GC (n - k) A f (c % 6 ^ (n - k)) = ((decide (f ≤ dg6 n c k) && (A.2.1.testBit (dg6 n c k) && decide (A.2.2.1 (dg6 n c k) < 9))) && GC (n - (k + 1)) (ttU A (dg6 n c k) (A.2.2.1 (dg6 n c k) + 1)) (dg6 n c k) (c % 6 ^ (n - (k + 1)))) := by
  obtain ⟨m, e1⟩ : ∃ m, n - k = m + 1 := ⟨n - k - 1, by omega⟩
  have e2 : n - (k + 1) = m := by omega
  have e3 : n - 1 - k = m := by omega
  have d1 : c % 6 ^ (m + 1) / 6 ^ m = dg6 n c k := by
    show _ = c / 6 ^ (n - 1 - k) % 6
    rw [e3, Nat.pow_succ]; exact Nat.mod_mul_right_div_self _ _ _
  have d2 : c % 6 ^ (m + 1) % 6 ^ m = c % 6 ^ m := Nat.mod_mod_of_dvd _ ⟨6, by rw [Nat.pow_succ]⟩
  rw [e1, e2]
  show ((decide (f ≤ c % 6 ^ (m + 1) / 6 ^ m) && (A.2.1.testBit (c % 6 ^ (m + 1) / 6 ^ m) && decide (A.2.2.1 (c % 6 ^ (m + 1) / 6 ^ m) < 9))) && GC m (ttU A (c % 6 ^ (m + 1) / 6 ^ m) (A.2.2.1 (c % 6 ^ (m + 1) / 6 ^ m) + 1)) (c % 6 ^ (m + 1) / 6 ^ m) (c % 6 ^ (m + 1) % 6 ^ m)) = _
  rw [d1, d2]
theorem mcv_mix {F G : Nat → Int32} {C : CT} (h : mcv F C) (hN : cN C ≤ 6) : mcv (mix F G 80) C := by
  obtain ⟨a, b, c, e⟩ := h
  refine ⟨by rw [mix_i (by decide)]; exact a, by rw [mix_i (by decide)]; exact b, by rw [mix_i (by decide)]; exact c, fun i hi => ?_⟩
  rw [mix_i (by omega), mix_i (by omega), mix_i (by omega), mix_i (by omega)]
  exact e i hi
theorem mcv_wr {F : Nat → Int32} {C : CT} {wr : Nat → Nat} {d w : Nat} {v : Int32} (h : mcv F (wrC C wr)) (hd : d < 6) (hN : cN C ≤ 6) (hv : v = nI w) : mcv (bw_up F (73 + d) v) (wrC C (bw_up wr d w)) := by
  obtain ⟨a, b, c, e⟩ := h
  subst hv
  refine ⟨by rw [bw_up_o (by omega)]; exact a, by rw [bw_up_o (by omega)]; exact b, by rw [bw_up_o (by omega)]; exact c, fun i hi => ?_⟩
  have hi2 : i < cN C := hi
  obtain ⟨e1, e2, e3, e4⟩ := e i hi
  refine ⟨by rw [bw_up_o (by omega)]; exact e1, by rw [bw_up_o (by omega)]; exact e2, ?_, by rw [bw_up_o (by omega)]; exact e4⟩
  show bw_up F (73 + d) (nI w) (73 + i) = nI (bw_up wr d w i)
  by_cases z : i = d
  · subst z; rw [bw_up_s, bw_up_s]
  · rw [bw_up_o (by omega), bw_up_o z]; exact e3
def gt6 (C : CT) (s x : Nat) (wr : Nat → Nat) : TT := (cN C, s, wr, opW C s x)
set_option maxRecDepth 100000 in
set_option maxHeartbeats 4000000 in
theorem me_X8_goes {X : Nat × (Nat → Int32)} {Q : Option Value → bw_H → Prop} {h : bw_H} {S : ST} {x s n c : Nat} (hm : MR h S) (hx : x < 6) (hs : s < 2 ^ cN (nowC S)) (hn : n ≤ 4) (hc : c < 6 ^ n) (hQ : ∀ g, MR g S → frX h g → (∀ i, i < n → bw_i g 72 i = nI (dg6 n c i)) → Q (some (.int (bi (GC n (gt6 (nowC S) s x (cR (nowC S))) 0 c)))) g) : bw_me X 6 bm_X8_goes false [.ref 60, .int (nI c), .int (nI n), .int (nI x), .int (nI s)] h Q := by
  have hv := mr_v hm
  have hkC := mr_k hm
  have k1 := hkC.1
  have h2N := p2N k1
  have hs64 : s < 64 := Nat.lt_of_lt_of_le hs h2N
  have hc4 : c < 1296 := Nat.lt_of_lt_of_le hc (Nat.pow_le_pow_right (n := 6) (by decide) hn)
  show bw_go _ 6 8 8 false (some .boolean) cX8_goes 0 [(0, .ref _), (1, .int _), (2, .int _), (3, .int _), (4, .int _)] [] _ _
  refine go_iload_n dX8_goes_0 rfl ?_
  refine go_istore dX8_goes_1 (Nat.lt_of_lt_of_le (Nat.lt_succ_self _) (Nat.le_of_ble_eq_true rfl)) ?_
  show bw_go _ _ _ _ _ _ _ 3 [(5, .int _), (0, .ref _), (1, .int _), (2, .int _), (3, .int _), (4, .int _)] ([]) _ _
  refine go_iconst (1) dX8_goes_3 rfl ?_
  refine go_istore dX8_goes_4 (Nat.lt_of_lt_of_le (Nat.lt_succ_self _) (Nat.le_of_ble_eq_true rfl)) ?_
  show bw_go _ _ _ _ _ _ _ 6 [(6, .int _), (5, .int _), (0, .ref _), (1, .int _), (2, .int _), (3, .int _), (4, .int _)] ([]) _ _
  refine go_iload_n dX8_goes_6 rfl ?_
  refine go_iconst (1) dX8_goes_7 rfl ?_
  refine go_isub dX8_goes_8 ?_
  rw [show nI n - 1 = dnx n 0 from dnx_0 n (by omega)]
  refine go_istore dX8_goes_9 (Nat.lt_of_lt_of_le (Nat.lt_succ_self _) (Nat.le_of_ble_eq_true rfl)) ?_
  show bw_go _ _ _ _ _ _ _ 11 [(7, .int _), (6, .int _), (5, .int _), (0, .ref _), (1, .int _), (2, .int _), (3, .int _), (4, .int _)] ([]) _ _
  refine go_for (P := fun j => ∀ (g : bw_H), (MR g S ∧ frX h g ∧ ∀ i, n - j ≤ i → i < n → bw_i g 72 i = nI (dg6 n c i)) → bw_go X 6 8 8 false (some .boolean) cX8_goes 11 [(7, .int (dnx n j)), (6, .int (1)), (5, .int (nI (cd6 c j))), (0, .ref (60)), (1, .int (nI c)), (2, .int (nI n)), (3, .int (nI x)), (4, .int (nI s))] [] g Q) (N := n) (fun j hj K => ?_) ?_ (0) (Nat.zero_le _) _ ⟨hm, frX_r h, fun i h1 h2 => by omega⟩
  · skip
    intro g hv
    obtain ⟨hg, hf, hd⟩ := hv
    show bw_go _ _ _ _ _ _ _ 11 [(7, .int _), (6, .int _), (5, .int _), (0, .ref _), (1, .int _), (2, .int _), (3, .int _), (4, .int _)] ([]) _ _
    rw [dnx_v hj]
    refine go_iload dX8_goes_11 rfl ?_
    refine go_if_lt (pc' := 41) dX8_goes_13 rfl (fun c_13 => ?_) (fun c_13 => ?_)
    · -- lt at 13: yes
      exfalso; have t_0 := nI_toInt (n := n - 1 - j) (by omega); rw [i_lt, t_0, show (0 : Int32).toInt = 0 from rfl] at c_13; omega
    · -- lt at 13: no
      show bw_go _ _ _ _ _ _ _ 16 [(7, .int _), (6, .int _), (5, .int _), (0, .ref _), (1, .int _), (2, .int _), (3, .int _), (4, .int _)] ([]) _ _
      refine go_aload_n dX8_goes_16 rfl ?_
      refine go_gfr dX8_goes_17 fl_8_48 rfl (ms_lt hg.1 (by decide)) hg.1.1.2 hg.1.2.1.2.2.2.2.2.2.2.2.2.2.2.1 ?_
      refine go_iload dX8_goes_20 rfl ?_
      refine go_iload dX8_goes_22 rfl ?_
      refine go_bipush (6) dX8_goes_24 rfl ?_
      refine go_irem dX8_goes_26 (by decide) ?_
      rw [show (6 : Int32) = nI 6 from rfl, nI_rem (by have := cd6_le c j; omega) (by decide) (by decide), cd6_d hj]
      refine go_ist dX8_goes_27 hg.1.2.2.2.2.2.2.2.2.2.2.2.2.2.1 (ms_lt hg.1 (by decide)) (n_in (N := 4) (by omega) (by decide)) ?_
      show bw_go _ _ _ _ _ _ _ 28 [(7, .int _), (6, .int _), (5, .int _), (0, .ref _), (1, .int _), (2, .int _), (3, .int _), (4, .int _)] ([]) _ _
      rw [nI_clamp (by omega), si_sa]
      refine go_iload dX8_goes_28 rfl ?_
      refine go_bipush (6) dX8_goes_30 rfl ?_
      refine go_idiv dX8_goes_32 (by decide) ?_
      rw [show (6 : Int32) = nI 6 from rfl, nI_div (by have := cd6_le c j; omega) (by decide) (by decide)]
      refine go_istore dX8_goes_33 (Nat.lt_of_lt_of_le (Nat.lt_succ_self _) (Nat.le_of_ble_eq_true rfl)) ?_
      show bw_go _ _ _ _ _ _ _ 35 [(5, .int _), (7, .int _), (6, .int _), (0, .ref _), (1, .int _), (2, .int _), (3, .int _), (4, .int _)] ([]) _ _
      refine go_iinc dX8_goes_35 rfl (dnx_s n (by omega) j hj) (Nat.lt_of_lt_of_le (Nat.lt_succ_self _) (Nat.le_of_ble_eq_true rfl)) ?_
      show bw_go _ _ _ _ _ _ _ 38 [(7, .int _), (5, .int _), (6, .int _), (0, .ref _), (1, .int _), (2, .int _), (3, .int _), (4, .int _)] ([]) _ _
      refine go_goto (pc' := 11) dX8_goes_38 rfl ?_
      refine go_ls [(7, .int _), (6, .int _), (5, .int _), (0, .ref _), (1, .int _), (2, .int _), (3, .int _), (4, .int _)] (by show List.Nodup ([7, 6, 5, 0, 1, 2, 3, 4] : List Nat); decide) (by show List.Nodup ([7, 5, 6, 0, 1, 2, 3, 4] : List Nat); decide) (le_cons rfl (le_cons rfl (le_cons rfl (le_cons rfl (le_cons rfl (le_cons rfl (le_cons rfl (le_cons rfl (le_nil _))))))))) ?_
      have hp := mr_p (p := 72) (F := bw_up (bw_i g 72) (n - 1 - j) (nI (dg6 n c (n - 1 - j)))) hg (by decide)
      refine K _ ⟨hp.1, frX_t hf hp.2, fun i h1 h2 => ?_⟩
      rw [i_sa_s]
      by_cases z : i = n - 1 - j
      · rw [z, bw_up_s]
      · rw [bw_up_o z]; exact hd i (by omega) h2
  · skip
    intro g hv
    obtain ⟨hg, hf, hd⟩ := hv
    show bw_go _ _ _ _ _ _ _ 11 [(7, .int _), (6, .int _), (5, .int _), (0, .ref _), (1, .int _), (2, .int _), (3, .int _), (4, .int _)] ([]) _ _
    refine go_iload dX8_goes_11 rfl ?_
    refine go_if_lt (pc' := 41) dX8_goes_13 rfl (fun c_13 => ?_) (fun c_13 => ?_)
    · -- lt at 13: yes
      show bw_go _ _ _ _ _ _ _ 41 [(7, .int _), (6, .int _), (5, .int _), (0, .ref _), (1, .int _), (2, .int _), (3, .int _), (4, .int _)] ([]) _ _
      refine go_aload_n dX8_goes_41 rfl ?_
      refine go_cv (as := []) 0 dX8_goes_42 mt_8_202 (Or.inl rfl) rfl rfl (ms_lt hg.1 (by decide)) hg.1.1.2 (Nat.le_of_ble_eq_true rfl) (Nat.le_of_ble_eq_true rfl) (Nat.le_of_ble_eq_true rfl) (Nat.le_of_ble_eq_true rfl) (Nat.le_of_ble_eq_true rfl) ?_
      refine me_X8_layHand hg ?_
      show bw_go _ _ _ _ _ _ _ 45 [(7, .int _), (6, .int _), (5, .int _), (0, .ref _), (1, .int _), (2, .int _), (3, .int _), (4, .int _)] ([]) _ _
      refine go_iconst (0) dX8_goes_45 rfl ?_
      refine go_istore dX8_goes_46 (Nat.lt_of_lt_of_le (Nat.lt_succ_self _) (Nat.le_of_ble_eq_true rfl)) ?_
      show bw_go _ _ _ _ _ _ _ 48 [(7, .int _), (6, .int _), (5, .int _), (0, .ref _), (1, .int _), (2, .int _), (3, .int _), (4, .int _)] ([]) _ _
      have hp := mr_p (p := 71) (F := mix (bw_i g 61) (bw_i g 71) 80) hg (by decide)
      have hv0 : (MR (bw_sa g 71 (mix (bw_i g 61) (bw_i g 71) 80)) S ∧ frX h (bw_sa g 71 (mix (bw_i g 61) (bw_i g 71) 80)) ∧ (∀ i, i < n → bw_i (bw_sa g 71 (mix (bw_i g 61) (bw_i g 71) 80)) 72 i = nI (dg6 n c i))) ∧ mcv (bw_i (bw_sa g 71 (mix (bw_i g 61) (bw_i g 71) 80)) 71) (wrC (nowC S) (cR (nowC S))) ∧ (∀ i, i < cN (nowC S) → (cR (nowC S)) i ≤ 9) ∧ (0 < 0 → 0 = dg6 n c (0 - 1)) ∧ (0 = 0 → 0 = 0) ∧ (true = true → GC n (gt6 (nowC S) s x (cR (nowC S))) 0 c = GC (n - 0) (gt6 (nowC S) s x (cR (nowC S))) 0 (c % 6 ^ (n - 0))) ∧ (true = false → GC n (gt6 (nowC S) s x (cR (nowC S))) 0 c = false) := by
        refine ⟨⟨hp.1, frX_t hf hp.2, fun i hi => by rw [i_sa_o (by decide)]; exact hd i (by omega) hi⟩, ?_, fun i hi => (hkC.2.2.2.2 i hi).2.2.1, fun z => absurd z (Nat.lt_irrefl 0), fun _ => rfl, fun _ => ?_, fun z => Bool.noConfusion z⟩
        · rw [i_sa_s]; exact mcv_mix (mr_v hg) k1
        · rw [Nat.sub_zero, Nat.mod_eq_of_lt hc]
      refine go_for (P := fun k => ∀ (g : bw_H) (ok : Bool) (wr : Nat → Nat) (f : Nat), ((MR g S ∧ frX h g ∧ (∀ i, i < n → bw_i g 72 i = nI (dg6 n c i))) ∧ mcv (bw_i g 71) (wrC (nowC S) wr) ∧ (∀ i, i < cN (nowC S) → wr i ≤ 9) ∧ (0 < k → f = dg6 n c (k - 1)) ∧ (k = 0 → f = 0) ∧ (ok = true → GC n (gt6 (nowC S) s x (cR (nowC S))) 0 c = GC (n - k) (gt6 (nowC S) s x wr) f (c % 6 ^ (n - k))) ∧ (ok = false → GC n (gt6 (nowC S) s x (cR (nowC S))) 0 c = false)) → bw_go X 6 8 8 false (some .boolean) cX8_goes 48 [(7, .int (nI k)), (6, .int (bi ok)), (5, .int (nI (cd6 c n))), (0, .ref (60)), (1, .int (nI c)), (2, .int (nI n)), (3, .int (nI x)), (4, .int (nI s))] [] g Q) (N := n) (fun k hk K => ?_) ?_ (0) (Nat.zero_le _) _ true (cR (nowC S)) 0 hv0
      · skip
        intro g ok wr f hv
        obtain ⟨⟨hg, hf, hd⟩, hmv, hw9, hfk, hf0, ht, hff⟩ := hv
        show bw_go _ _ _ _ _ _ _ 48 [(7, .int _), (6, .int _), (5, .int _), (0, .ref _), (1, .int _), (2, .int _), (3, .int _), (4, .int _)] ([]) _ _
        refine go_iload dX8_goes_48 rfl ?_
        refine go_iload_n dX8_goes_50 rfl ?_
        refine go_icmp_ge (pc' := 155) dX8_goes_51 rfl (fun c_51 => ?_) (fun c_51 => ?_)
        · -- ge at 51: yes
          exfalso; have t_0 := nI_toInt (n := k) (by omega); have t_1 := nI_toInt (n := n) (by omega); simp only [i_le, i_lt, i_eq, bi_eq] at c_51; omega
        · -- ge at 51: no
          show bw_go _ _ _ _ _ _ _ 54 [(7, .int _), (6, .int _), (5, .int _), (0, .ref _), (1, .int _), (2, .int _), (3, .int _), (4, .int _)] ([]) _ _
          refine go_iload dX8_goes_54 rfl ?_
          refine go_ifb_eq (pc' := 155) dX8_goes_56 rfl (fun c_56 => ?_) (fun c_56 => ?_)
          · -- eq at 56: yes
            refine go_iload dX8_goes_155 rfl ?_
            refine go_ifb_eq (pc' := 178) dX8_goes_157 rfl (fun c_157 => ?_) (fun c_157 => ?_)
            · -- eq at 157: yes
              show bw_go _ _ _ _ _ _ _ 178 [(7, .int _), (6, .int _), (5, .int _), (0, .ref _), (1, .int _), (2, .int _), (3, .int _), (4, .int _)] ([]) _ _
              refine go_iconst (0) dX8_goes_178 rfl ?_
              refine go_iret dX8_goes_179 rfl rfl ?_
              have hR := hQ g hg hf hd
              rw [hff c_56] at hR
              exact hR
            · -- eq at 157: no
              exact absurd ((show ok = false from c_56).symm.trans (show ok = true from c_157)) Bool.false_ne_true
          · -- eq at 56: no
            show bw_go _ _ _ _ _ _ _ 59 [(7, .int _), (6, .int _), (5, .int _), (0, .ref _), (1, .int _), (2, .int _), (3, .int _), (4, .int _)] ([]) _ _
            refine go_iload dX8_goes_59 rfl ?_
            refine go_aload_n dX8_goes_61 rfl ?_
            refine go_gfr dX8_goes_62 fl_8_48 rfl (ms_lt hg.1 (by decide)) hg.1.1.2 hg.1.2.1.2.2.2.2.2.2.2.2.2.2.2.1 ?_
            refine go_iload dX8_goes_65 rfl ?_
            refine go_ia dX8_goes_67 hg.1.2.2.2.2.2.2.2.2.2.2.2.2.2.1 (ms_lt hg.1 (by decide)) (n_in (N := 4) (by omega) (by decide)) ?_
            rw [nI_clamp (by omega), hd k hk]
            refine go_cs (as := [.int _, .int _]) 0 dX8_goes_68 rfl rfl mt_8_129 (Nat.le_of_ble_eq_true rfl) rfl rfl (Nat.le_of_ble_eq_true rfl) (Nat.le_of_ble_eq_true rfl) (Nat.le_of_ble_eq_true rfl) (Nat.le_of_ble_eq_true rfl) ?_
            refine me_X8_has hs64 (by have := dg6_lt n c k; omega) ?_
            show bw_go _ _ _ _ _ _ _ 71 [(7, .int _), (6, .int _), (5, .int _), (0, .ref _), (1, .int _), (2, .int _), (3, .int _), (4, .int _)] ((.int _) :: []) _ _
            refine go_ifb_eq (pc' := 122) dX8_goes_71 rfl (fun c_71 => ?_) (fun c_71 => ?_)
            · -- eq at 71: yes
              show bw_go _ _ _ _ _ _ _ 122 [(7, .int _), (6, .int _), (5, .int _), (0, .ref _), (1, .int _), (2, .int _), (3, .int _), (4, .int _)] ([]) _ _
              refine go_iconst (0) dX8_goes_122 rfl ?_
              refine go_istore dX8_goes_123 (Nat.lt_of_lt_of_le (Nat.lt_succ_self _) (Nat.le_of_ble_eq_true rfl)) ?_
              show bw_go _ _ _ _ _ _ _ 125 [(6, .int _), (7, .int _), (5, .int _), (0, .ref _), (1, .int _), (2, .int _), (3, .int _), (4, .int _)] ([]) _ _
              refine go_iload dX8_goes_125 rfl ?_
              refine go_if_eq (pc' := 149) dX8_goes_127 rfl (fun _ => ?_) (fun c => absurd (by decide) c)
              show bw_go _ _ _ _ _ _ _ 149 [(6, .int _), (7, .int _), (5, .int _), (0, .ref _), (1, .int _), (2, .int _), (3, .int _), (4, .int _)] ([]) _ _
              skip
              refine go_iinc dX8_goes_149 rfl (nI_1 k) (Nat.lt_of_lt_of_le (Nat.lt_succ_self _) (Nat.le_of_ble_eq_true rfl)) ?_
              show bw_go _ _ _ _ _ _ _ 152 [(7, .int _), (6, .int _), (5, .int _), (0, .ref _), (1, .int _), (2, .int _), (3, .int _), (4, .int _)] ([]) _ _
              refine go_goto (pc' := 48) dX8_goes_152 rfl ?_
              refine K _ false wr (dg6 n c k) ⟨⟨hg, hf, hd⟩, hmv, hw9, fun _ => rfl, fun z => absurd z (Nat.succ_ne_zero k), fun z => Bool.noConfusion z, fun _ => ?_⟩
              rw [ht c_56, gc_step hk]
              first
              | (rw [show (gt6 (nowC S) s x wr).2.1.testBit (dg6 n c k) = false from c_71]; simp; done)
              | (have c9 : nI (dg6 n c k) < nI (dg6 n c (k - 1)) := c_95
                 have hk0 : 0 < k := Nat.pos_of_ne_zero (fun z => c_76 (by rw [z]; rfl))
                 have ta := nI_toInt (n := dg6 n c k) (by have := dg6_lt n c k; omega)
                 have tb := nI_toInt (n := dg6 n c (k - 1)) (by have := dg6_lt n c (k - 1); omega)
                 rw [i_lt] at c9
                 rw [hfk hk0, decide_eq_false (by omega)]; simp; done)
              | (have hw8 : ¬ wr (dg6 n c k) < 9 := by
                   have c9 := c_115
                   rw [show (9 : Int32) = nI 9 from rfl, i_le, nI_toInt (by omega), nI_toInt (by omega)] at c9
                   omega
                 rw [decide_eq_false (show ¬ (gt6 (nowC S) s x wr).2.2.1 (dg6 n c k) < 9 from hw8)]; simp; done)
            · -- eq at 71: no
              show bw_go _ _ _ _ _ _ _ 74 [(7, .int _), (6, .int _), (5, .int _), (0, .ref _), (1, .int _), (2, .int _), (3, .int _), (4, .int _)] ([]) _ _
              refine go_iload dX8_goes_74 rfl ?_
              refine go_if_eq (pc' := 98) dX8_goes_76 rfl (fun c_76 => ?_) (fun c_76 => ?_)
              · -- eq at 76: yes
                show bw_go _ _ _ _ _ _ _ 98 [(7, .int _), (6, .int _), (5, .int _), (0, .ref _), (1, .int _), (2, .int _), (3, .int _), (4, .int _)] ([]) _ _
                refine go_aload_n dX8_goes_98 rfl ?_
                refine go_gfr dX8_goes_99 fl_8_45 rfl (ms_lt hg.1 (by decide)) hg.1.1.2 hg.1.2.1.2.2.2.2.2.2.2.2.2.2.1 ?_
                refine go_bipush (73) dX8_goes_102 rfl ?_
                refine go_aload_n dX8_goes_104 rfl ?_
                refine go_gfr dX8_goes_105 fl_8_48 rfl (ms_lt hg.1 (by decide)) hg.1.1.2 hg.1.2.1.2.2.2.2.2.2.2.2.2.2.2.1 ?_
                refine go_iload dX8_goes_108 rfl ?_
                refine go_ia dX8_goes_110 hg.1.2.2.2.2.2.2.2.2.2.2.2.2.2.1 (ms_lt hg.1 (by decide)) (n_in (N := 4) (by omega) (by decide)) ?_
                rw [nI_clamp (by omega), hd k hk]
                refine go_iadd dX8_goes_111 ?_
                rw [show (73 : Int32) = nI 73 from rfl, nI_add]
                refine go_ia dX8_goes_112 hg.1.2.2.2.2.2.2.2.2.2.2.2.2.1 (ms_lt hg.1 (by decide)) (n_in (N := 80) (by have := dg6_lt n c k; omega) (by decide)) ?_
                have hdN : dg6 n c k < cN (nowC S) := by
                  refine Nat.lt_of_not_le (fun z => ?_)
                  have hb := c_71
                  rw [Nat.testBit_lt_two_pow (Nat.lt_of_lt_of_le hs (Nat.pow_le_pow_right (by decide) z))] at hb
                  cases hb
                rw [nI_clamp (by have := dg6_lt n c k; omega), (hmv.2.2.2 _ hdN).2.2.1]
                have hw0 := hw9 _ hdN
                have e9 : cR (wrC (nowC S) wr) (dg6 n c k) = wr (dg6 n c k) := rfl
                rw [e9]
                refine go_bipush (9) dX8_goes_113 rfl ?_
                refine go_icmp_ge (pc' := 122) dX8_goes_115 rfl (fun c_115 => ?_) (fun c_115 => ?_)
                · -- ge at 115: yes
                  show bw_go _ _ _ _ _ _ _ 122 [(7, .int _), (6, .int _), (5, .int _), (0, .ref _), (1, .int _), (2, .int _), (3, .int _), (4, .int _)] ([]) _ _
                  refine go_iconst (0) dX8_goes_122 rfl ?_
                  refine go_istore dX8_goes_123 (Nat.lt_of_lt_of_le (Nat.lt_succ_self _) (Nat.le_of_ble_eq_true rfl)) ?_
                  show bw_go _ _ _ _ _ _ _ 125 [(6, .int _), (7, .int _), (5, .int _), (0, .ref _), (1, .int _), (2, .int _), (3, .int _), (4, .int _)] ([]) _ _
                  refine go_iload dX8_goes_125 rfl ?_
                  refine go_if_eq (pc' := 149) dX8_goes_127 rfl (fun _ => ?_) (fun c => absurd (by decide) c)
                  show bw_go _ _ _ _ _ _ _ 149 [(6, .int _), (7, .int _), (5, .int _), (0, .ref _), (1, .int _), (2, .int _), (3, .int _), (4, .int _)] ([]) _ _
                  skip
                  refine go_iinc dX8_goes_149 rfl (nI_1 k) (Nat.lt_of_lt_of_le (Nat.lt_succ_self _) (Nat.le_of_ble_eq_true rfl)) ?_
                  show bw_go _ _ _ _ _ _ _ 152 [(7, .int _), (6, .int _), (5, .int _), (0, .ref _), (1, .int _), (2, .int _), (3, .int _), (4, .int _)] ([]) _ _
                  refine go_goto (pc' := 48) dX8_goes_152 rfl ?_
                  refine K _ false wr (dg6 n c k) ⟨⟨hg, hf, hd⟩, hmv, hw9, fun _ => rfl, fun z => absurd z (Nat.succ_ne_zero k), fun z => Bool.noConfusion z, fun _ => ?_⟩
                  rw [ht c_56, gc_step hk]
                  first
                  | (rw [show (gt6 (nowC S) s x wr).2.1.testBit (dg6 n c k) = false from c_71]; simp; done)
                  | (have c9 : nI (dg6 n c k) < nI (dg6 n c (k - 1)) := c_95
                     have hk0 : 0 < k := Nat.pos_of_ne_zero (fun z => c_76 (by rw [z]; rfl))
                     have ta := nI_toInt (n := dg6 n c k) (by have := dg6_lt n c k; omega)
                     have tb := nI_toInt (n := dg6 n c (k - 1)) (by have := dg6_lt n c (k - 1); omega)
                     rw [i_lt] at c9
                     rw [hfk hk0, decide_eq_false (by omega)]; simp; done)
                  | (have hw8 : ¬ wr (dg6 n c k) < 9 := by
                       have c9 := c_115
                       rw [show (9 : Int32) = nI 9 from rfl, i_le, nI_toInt (by omega), nI_toInt (by omega)] at c9
                       omega
                     rw [decide_eq_false (show ¬ (gt6 (nowC S) s x wr).2.2.1 (dg6 n c k) < 9 from hw8)]; simp; done)
                · -- ge at 115: no
                  show bw_go _ _ _ _ _ _ _ 118 [(7, .int _), (6, .int _), (5, .int _), (0, .ref _), (1, .int _), (2, .int _), (3, .int _), (4, .int _)] ([]) _ _
                  have hw8 : wr (dg6 n c k) < 9 := by rw [show (9 : Int32) = nI 9 from rfl, i_le, nI_toInt (by omega), nI_toInt (by omega)] at c_115; omega
                  refine go_iconst (1) dX8_goes_118 rfl ?_
                  refine go_goto (pc' := 123) dX8_goes_119 rfl ?_
                  show bw_go _ _ _ _ _ _ _ 123 [(7, .int _), (6, .int _), (5, .int _), (0, .ref _), (1, .int _), (2, .int _), (3, .int _), (4, .int _)] ((.int _) :: []) _ _
                  refine go_istore dX8_goes_123 (Nat.lt_of_lt_of_le (Nat.lt_succ_self _) (Nat.le_of_ble_eq_true rfl)) ?_
                  show bw_go _ _ _ _ _ _ _ 125 [(6, .int _), (7, .int _), (5, .int _), (0, .ref _), (1, .int _), (2, .int _), (3, .int _), (4, .int _)] ([]) _ _
                  refine go_iload dX8_goes_125 rfl ?_
                  refine go_if_eq (pc' := 149) dX8_goes_127 rfl (fun c => absurd c (by decide)) (fun _ => ?_)
                  show bw_go _ _ _ _ _ _ _ 130 [(6, .int _), (7, .int _), (5, .int _), (0, .ref _), (1, .int _), (2, .int _), (3, .int _), (4, .int _)] ([]) _ _
                  refine go_aload_n dX8_goes_130 rfl ?_
                  refine go_gfr dX8_goes_131 fl_8_45 rfl (ms_lt hg.1 (by decide)) hg.1.1.2 hg.1.2.1.2.2.2.2.2.2.2.2.2.2.1 ?_
                  refine go_bipush (73) dX8_goes_134 rfl ?_
                  refine go_aload_n dX8_goes_136 rfl ?_
                  refine go_gfr dX8_goes_137 fl_8_48 rfl (ms_lt hg.1 (by decide)) hg.1.1.2 hg.1.2.1.2.2.2.2.2.2.2.2.2.2.2.1 ?_
                  refine go_iload dX8_goes_140 rfl ?_
                  refine go_ia dX8_goes_142 hg.1.2.2.2.2.2.2.2.2.2.2.2.2.2.1 (ms_lt hg.1 (by decide)) (n_in (N := 4) (by omega) (by decide)) ?_
                  rw [nI_clamp (by omega), hd k hk]
                  refine go_iadd dX8_goes_143 ?_
                  rw [show (73 : Int32) = nI 73 from rfl, nI_add]
                  refine go_dup2 dX8_goes_144 ?_
                  refine go_ia dX8_goes_145 hg.1.2.2.2.2.2.2.2.2.2.2.2.2.1 (ms_lt hg.1 (by decide)) (n_in (N := 80) (by have := dg6_lt n c k; omega) (by decide)) ?_
                  rw [nI_clamp (by have := dg6_lt n c k; omega), (hmv.2.2.2 _ hdN).2.2.1, e9]
                  refine go_iconst (1) dX8_goes_146 rfl ?_
                  refine go_iadd dX8_goes_147 ?_
                  rw [nI_1]
                  refine go_ist dX8_goes_148 hg.1.2.2.2.2.2.2.2.2.2.2.2.2.1 (ms_lt hg.1 (by decide)) (n_in (N := 80) (by have := dg6_lt n c k; omega) (by decide)) ?_
                  show bw_go _ _ _ _ _ _ _ 149 [(6, .int _), (7, .int _), (5, .int _), (0, .ref _), (1, .int _), (2, .int _), (3, .int _), (4, .int _)] ([]) _ _
                  rw [nI_clamp (by have := dg6_lt n c k; omega), si_sa]
                  refine go_iinc dX8_goes_149 rfl (nI_1 k) (Nat.lt_of_lt_of_le (Nat.lt_succ_self _) (Nat.le_of_ble_eq_true rfl)) ?_
                  show bw_go _ _ _ _ _ _ _ 152 [(7, .int _), (6, .int _), (5, .int _), (0, .ref _), (1, .int _), (2, .int _), (3, .int _), (4, .int _)] ([]) _ _
                  refine go_goto (pc' := 48) dX8_goes_152 rfl ?_
                  have hf9 : f ≤ dg6 n c k := by
                    by_cases z : k = 0
                    · rw [hf0 z]; exact Nat.zero_le _
                    · have c9 : ¬ nI (dg6 n c k) < nI (dg6 n c (k - 1)) := by first | exact c_95 | exact absurd ((nI_eq (a := k) (b := 0) (by omega) (by omega)).mp c_76) z
                      have ta := nI_toInt (n := dg6 n c k) (by have := dg6_lt n c k; omega)
                      have tb := nI_toInt (n := dg6 n c (k - 1)) (by have := dg6_lt n c (k - 1); omega)
                      rw [i_lt] at c9
                      rw [hfk (by omega)]; omega
                  have hp := mr_p (p := 71) (F := bw_up (bw_i g 71) (73 + dg6 n c k) (nI (wr (dg6 n c k) + 1))) hg (by decide)
                  refine K _ true (bw_up wr (dg6 n c k) (wr (dg6 n c k) + 1)) (dg6 n c k) ⟨⟨hp.1, frX_t hf hp.2, fun i hi => by rw [i_sa_o (by decide)]; exact hd i hi⟩, ?_, fun i hi => ?_, fun _ => rfl, fun z => absurd z (Nat.succ_ne_zero k), fun _ => ?_, fun z => Bool.noConfusion z⟩
                  · rw [i_sa_s]; exact mcv_wr hmv (dg6_lt n c k) k1 rfl
                  · by_cases z : i = dg6 n c k
                    · rw [z, bw_up_s]; omega
                    · rw [bw_up_o z]; exact hw9 i hi
                  · rw [ht c_56, gc_step hk, decide_eq_true hf9, show (gt6 (nowC S) s x wr).2.1.testBit (dg6 n c k) = true from c_71, decide_eq_true (show (gt6 (nowC S) s x wr).2.2.1 (dg6 n c k) < 9 from hw8)]
                    rfl
              · -- eq at 76: no
                show bw_go _ _ _ _ _ _ _ 79 [(7, .int _), (6, .int _), (5, .int _), (0, .ref _), (1, .int _), (2, .int _), (3, .int _), (4, .int _)] ([]) _ _
                refine go_aload_n dX8_goes_79 rfl ?_
                refine go_gfr dX8_goes_80 fl_8_48 rfl (ms_lt hg.1 (by decide)) hg.1.1.2 hg.1.2.1.2.2.2.2.2.2.2.2.2.2.2.1 ?_
                refine go_iload dX8_goes_83 rfl ?_
                refine go_ia dX8_goes_85 hg.1.2.2.2.2.2.2.2.2.2.2.2.2.2.1 (ms_lt hg.1 (by decide)) (n_in (N := 4) (by omega) (by decide)) ?_
                rw [nI_clamp (by omega), hd k hk]
                refine go_aload_n dX8_goes_86 rfl ?_
                refine go_gfr dX8_goes_87 fl_8_48 rfl (ms_lt hg.1 (by decide)) hg.1.1.2 hg.1.2.1.2.2.2.2.2.2.2.2.2.2.2.1 ?_
                refine go_iload dX8_goes_90 rfl ?_
                refine go_iconst (1) dX8_goes_92 rfl ?_
                refine go_isub dX8_goes_93 ?_
                have hk0 : 0 < k := Nat.pos_of_ne_zero (fun z => c_76 (by rw [z]; rfl))
                rw [show (1 : Int32) = nI 1 from rfl, pk_sub (by omega)]
                refine go_ia dX8_goes_94 hg.1.2.2.2.2.2.2.2.2.2.2.2.2.2.1 (ms_lt hg.1 (by decide)) (n_in (N := 4) (by omega) (by decide)) ?_
                rw [nI_clamp (by omega), hd (k - 1) (by omega)]
                refine go_icmp_lt (pc' := 122) dX8_goes_95 rfl (fun c_95 => ?_) (fun c_95 => ?_)
                · -- lt at 95: yes
                  show bw_go _ _ _ _ _ _ _ 122 [(7, .int _), (6, .int _), (5, .int _), (0, .ref _), (1, .int _), (2, .int _), (3, .int _), (4, .int _)] ([]) _ _
                  refine go_iconst (0) dX8_goes_122 rfl ?_
                  refine go_istore dX8_goes_123 (Nat.lt_of_lt_of_le (Nat.lt_succ_self _) (Nat.le_of_ble_eq_true rfl)) ?_
                  show bw_go _ _ _ _ _ _ _ 125 [(6, .int _), (7, .int _), (5, .int _), (0, .ref _), (1, .int _), (2, .int _), (3, .int _), (4, .int _)] ([]) _ _
                  refine go_iload dX8_goes_125 rfl ?_
                  refine go_if_eq (pc' := 149) dX8_goes_127 rfl (fun _ => ?_) (fun c => absurd (by decide) c)
                  show bw_go _ _ _ _ _ _ _ 149 [(6, .int _), (7, .int _), (5, .int _), (0, .ref _), (1, .int _), (2, .int _), (3, .int _), (4, .int _)] ([]) _ _
                  skip
                  refine go_iinc dX8_goes_149 rfl (nI_1 k) (Nat.lt_of_lt_of_le (Nat.lt_succ_self _) (Nat.le_of_ble_eq_true rfl)) ?_
                  show bw_go _ _ _ _ _ _ _ 152 [(7, .int _), (6, .int _), (5, .int _), (0, .ref _), (1, .int _), (2, .int _), (3, .int _), (4, .int _)] ([]) _ _
                  refine go_goto (pc' := 48) dX8_goes_152 rfl ?_
                  refine K _ false wr (dg6 n c k) ⟨⟨hg, hf, hd⟩, hmv, hw9, fun _ => rfl, fun z => absurd z (Nat.succ_ne_zero k), fun z => Bool.noConfusion z, fun _ => ?_⟩
                  rw [ht c_56, gc_step hk]
                  first
                  | (rw [show (gt6 (nowC S) s x wr).2.1.testBit (dg6 n c k) = false from c_71]; simp; done)
                  | (have c9 : nI (dg6 n c k) < nI (dg6 n c (k - 1)) := c_95
                     have hk0 : 0 < k := Nat.pos_of_ne_zero (fun z => c_76 (by rw [z]; rfl))
                     have ta := nI_toInt (n := dg6 n c k) (by have := dg6_lt n c k; omega)
                     have tb := nI_toInt (n := dg6 n c (k - 1)) (by have := dg6_lt n c (k - 1); omega)
                     rw [i_lt] at c9
                     rw [hfk hk0, decide_eq_false (by omega)]; simp; done)
                  | (have hw8 : ¬ wr (dg6 n c k) < 9 := by
                       have c9 := c_115
                       rw [show (9 : Int32) = nI 9 from rfl, i_le, nI_toInt (by omega), nI_toInt (by omega)] at c9
                       omega
                     rw [decide_eq_false (show ¬ (gt6 (nowC S) s x wr).2.2.1 (dg6 n c k) < 9 from hw8)]; simp; done)
                · -- lt at 95: no
                  show bw_go _ _ _ _ _ _ _ 98 [(7, .int _), (6, .int _), (5, .int _), (0, .ref _), (1, .int _), (2, .int _), (3, .int _), (4, .int _)] ([]) _ _
                  refine go_aload_n dX8_goes_98 rfl ?_
                  refine go_gfr dX8_goes_99 fl_8_45 rfl (ms_lt hg.1 (by decide)) hg.1.1.2 hg.1.2.1.2.2.2.2.2.2.2.2.2.2.1 ?_
                  refine go_bipush (73) dX8_goes_102 rfl ?_
                  refine go_aload_n dX8_goes_104 rfl ?_
                  refine go_gfr dX8_goes_105 fl_8_48 rfl (ms_lt hg.1 (by decide)) hg.1.1.2 hg.1.2.1.2.2.2.2.2.2.2.2.2.2.2.1 ?_
                  refine go_iload dX8_goes_108 rfl ?_
                  refine go_ia dX8_goes_110 hg.1.2.2.2.2.2.2.2.2.2.2.2.2.2.1 (ms_lt hg.1 (by decide)) (n_in (N := 4) (by omega) (by decide)) ?_
                  rw [nI_clamp (by omega), hd k hk]
                  refine go_iadd dX8_goes_111 ?_
                  rw [show (73 : Int32) = nI 73 from rfl, nI_add]
                  refine go_ia dX8_goes_112 hg.1.2.2.2.2.2.2.2.2.2.2.2.2.1 (ms_lt hg.1 (by decide)) (n_in (N := 80) (by have := dg6_lt n c k; omega) (by decide)) ?_
                  have hdN : dg6 n c k < cN (nowC S) := by
                    refine Nat.lt_of_not_le (fun z => ?_)
                    have hb := c_71
                    rw [Nat.testBit_lt_two_pow (Nat.lt_of_lt_of_le hs (Nat.pow_le_pow_right (by decide) z))] at hb
                    cases hb
                  rw [nI_clamp (by have := dg6_lt n c k; omega), (hmv.2.2.2 _ hdN).2.2.1]
                  have hw0 := hw9 _ hdN
                  have e9 : cR (wrC (nowC S) wr) (dg6 n c k) = wr (dg6 n c k) := rfl
                  rw [e9]
                  refine go_bipush (9) dX8_goes_113 rfl ?_
                  refine go_icmp_ge (pc' := 122) dX8_goes_115 rfl (fun c_115 => ?_) (fun c_115 => ?_)
                  · -- ge at 115: yes
                    show bw_go _ _ _ _ _ _ _ 122 [(7, .int _), (6, .int _), (5, .int _), (0, .ref _), (1, .int _), (2, .int _), (3, .int _), (4, .int _)] ([]) _ _
                    refine go_iconst (0) dX8_goes_122 rfl ?_
                    refine go_istore dX8_goes_123 (Nat.lt_of_lt_of_le (Nat.lt_succ_self _) (Nat.le_of_ble_eq_true rfl)) ?_
                    show bw_go _ _ _ _ _ _ _ 125 [(6, .int _), (7, .int _), (5, .int _), (0, .ref _), (1, .int _), (2, .int _), (3, .int _), (4, .int _)] ([]) _ _
                    refine go_iload dX8_goes_125 rfl ?_
                    refine go_if_eq (pc' := 149) dX8_goes_127 rfl (fun _ => ?_) (fun c => absurd (by decide) c)
                    show bw_go _ _ _ _ _ _ _ 149 [(6, .int _), (7, .int _), (5, .int _), (0, .ref _), (1, .int _), (2, .int _), (3, .int _), (4, .int _)] ([]) _ _
                    skip
                    refine go_iinc dX8_goes_149 rfl (nI_1 k) (Nat.lt_of_lt_of_le (Nat.lt_succ_self _) (Nat.le_of_ble_eq_true rfl)) ?_
                    show bw_go _ _ _ _ _ _ _ 152 [(7, .int _), (6, .int _), (5, .int _), (0, .ref _), (1, .int _), (2, .int _), (3, .int _), (4, .int _)] ([]) _ _
                    refine go_goto (pc' := 48) dX8_goes_152 rfl ?_
                    refine K _ false wr (dg6 n c k) ⟨⟨hg, hf, hd⟩, hmv, hw9, fun _ => rfl, fun z => absurd z (Nat.succ_ne_zero k), fun z => Bool.noConfusion z, fun _ => ?_⟩
                    rw [ht c_56, gc_step hk]
                    first
                    | (rw [show (gt6 (nowC S) s x wr).2.1.testBit (dg6 n c k) = false from c_71]; simp; done)
                    | (have c9 : nI (dg6 n c k) < nI (dg6 n c (k - 1)) := c_95
                       have hk0 : 0 < k := Nat.pos_of_ne_zero (fun z => c_76 (by rw [z]; rfl))
                       have ta := nI_toInt (n := dg6 n c k) (by have := dg6_lt n c k; omega)
                       have tb := nI_toInt (n := dg6 n c (k - 1)) (by have := dg6_lt n c (k - 1); omega)
                       rw [i_lt] at c9
                       rw [hfk hk0, decide_eq_false (by omega)]; simp; done)
                    | (have hw8 : ¬ wr (dg6 n c k) < 9 := by
                         have c9 := c_115
                         rw [show (9 : Int32) = nI 9 from rfl, i_le, nI_toInt (by omega), nI_toInt (by omega)] at c9
                         omega
                       rw [decide_eq_false (show ¬ (gt6 (nowC S) s x wr).2.2.1 (dg6 n c k) < 9 from hw8)]; simp; done)
                  · -- ge at 115: no
                    show bw_go _ _ _ _ _ _ _ 118 [(7, .int _), (6, .int _), (5, .int _), (0, .ref _), (1, .int _), (2, .int _), (3, .int _), (4, .int _)] ([]) _ _
                    have hw8 : wr (dg6 n c k) < 9 := by rw [show (9 : Int32) = nI 9 from rfl, i_le, nI_toInt (by omega), nI_toInt (by omega)] at c_115; omega
                    refine go_iconst (1) dX8_goes_118 rfl ?_
                    refine go_goto (pc' := 123) dX8_goes_119 rfl ?_
                    show bw_go _ _ _ _ _ _ _ 123 [(7, .int _), (6, .int _), (5, .int _), (0, .ref _), (1, .int _), (2, .int _), (3, .int _), (4, .int _)] ((.int _) :: []) _ _
                    refine go_istore dX8_goes_123 (Nat.lt_of_lt_of_le (Nat.lt_succ_self _) (Nat.le_of_ble_eq_true rfl)) ?_
                    show bw_go _ _ _ _ _ _ _ 125 [(6, .int _), (7, .int _), (5, .int _), (0, .ref _), (1, .int _), (2, .int _), (3, .int _), (4, .int _)] ([]) _ _
                    refine go_iload dX8_goes_125 rfl ?_
                    refine go_if_eq (pc' := 149) dX8_goes_127 rfl (fun c => absurd c (by decide)) (fun _ => ?_)
                    show bw_go _ _ _ _ _ _ _ 130 [(6, .int _), (7, .int _), (5, .int _), (0, .ref _), (1, .int _), (2, .int _), (3, .int _), (4, .int _)] ([]) _ _
                    refine go_aload_n dX8_goes_130 rfl ?_
                    refine go_gfr dX8_goes_131 fl_8_45 rfl (ms_lt hg.1 (by decide)) hg.1.1.2 hg.1.2.1.2.2.2.2.2.2.2.2.2.2.1 ?_
                    refine go_bipush (73) dX8_goes_134 rfl ?_
                    refine go_aload_n dX8_goes_136 rfl ?_
                    refine go_gfr dX8_goes_137 fl_8_48 rfl (ms_lt hg.1 (by decide)) hg.1.1.2 hg.1.2.1.2.2.2.2.2.2.2.2.2.2.2.1 ?_
                    refine go_iload dX8_goes_140 rfl ?_
                    refine go_ia dX8_goes_142 hg.1.2.2.2.2.2.2.2.2.2.2.2.2.2.1 (ms_lt hg.1 (by decide)) (n_in (N := 4) (by omega) (by decide)) ?_
                    rw [nI_clamp (by omega), hd k hk]
                    refine go_iadd dX8_goes_143 ?_
                    rw [show (73 : Int32) = nI 73 from rfl, nI_add]
                    refine go_dup2 dX8_goes_144 ?_
                    refine go_ia dX8_goes_145 hg.1.2.2.2.2.2.2.2.2.2.2.2.2.1 (ms_lt hg.1 (by decide)) (n_in (N := 80) (by have := dg6_lt n c k; omega) (by decide)) ?_
                    rw [nI_clamp (by have := dg6_lt n c k; omega), (hmv.2.2.2 _ hdN).2.2.1, e9]
                    refine go_iconst (1) dX8_goes_146 rfl ?_
                    refine go_iadd dX8_goes_147 ?_
                    rw [nI_1]
                    refine go_ist dX8_goes_148 hg.1.2.2.2.2.2.2.2.2.2.2.2.2.1 (ms_lt hg.1 (by decide)) (n_in (N := 80) (by have := dg6_lt n c k; omega) (by decide)) ?_
                    show bw_go _ _ _ _ _ _ _ 149 [(6, .int _), (7, .int _), (5, .int _), (0, .ref _), (1, .int _), (2, .int _), (3, .int _), (4, .int _)] ([]) _ _
                    rw [nI_clamp (by have := dg6_lt n c k; omega), si_sa]
                    refine go_iinc dX8_goes_149 rfl (nI_1 k) (Nat.lt_of_lt_of_le (Nat.lt_succ_self _) (Nat.le_of_ble_eq_true rfl)) ?_
                    show bw_go _ _ _ _ _ _ _ 152 [(7, .int _), (6, .int _), (5, .int _), (0, .ref _), (1, .int _), (2, .int _), (3, .int _), (4, .int _)] ([]) _ _
                    refine go_goto (pc' := 48) dX8_goes_152 rfl ?_
                    have hf9 : f ≤ dg6 n c k := by
                      by_cases z : k = 0
                      · rw [hf0 z]; exact Nat.zero_le _
                      · have c9 : ¬ nI (dg6 n c k) < nI (dg6 n c (k - 1)) := by first | exact c_95 | exact absurd ((nI_eq (a := k) (b := 0) (by omega) (by omega)).mp c_76) z
                        have ta := nI_toInt (n := dg6 n c k) (by have := dg6_lt n c k; omega)
                        have tb := nI_toInt (n := dg6 n c (k - 1)) (by have := dg6_lt n c (k - 1); omega)
                        rw [i_lt] at c9
                        rw [hfk (by omega)]; omega
                    have hp := mr_p (p := 71) (F := bw_up (bw_i g 71) (73 + dg6 n c k) (nI (wr (dg6 n c k) + 1))) hg (by decide)
                    refine K _ true (bw_up wr (dg6 n c k) (wr (dg6 n c k) + 1)) (dg6 n c k) ⟨⟨hp.1, frX_t hf hp.2, fun i hi => by rw [i_sa_o (by decide)]; exact hd i hi⟩, ?_, fun i hi => ?_, fun _ => rfl, fun z => absurd z (Nat.succ_ne_zero k), fun _ => ?_, fun z => Bool.noConfusion z⟩
                    · rw [i_sa_s]; exact mcv_wr hmv (dg6_lt n c k) k1 rfl
                    · by_cases z : i = dg6 n c k
                      · rw [z, bw_up_s]; omega
                      · rw [bw_up_o z]; exact hw9 i hi
                    · rw [ht c_56, gc_step hk, decide_eq_true hf9, show (gt6 (nowC S) s x wr).2.1.testBit (dg6 n c k) = true from c_71, decide_eq_true (show (gt6 (nowC S) s x wr).2.2.1 (dg6 n c k) < 9 from hw8)]
                      rfl
      · skip
        intro g ok wr f hv
        obtain ⟨⟨hg, hf, hd⟩, hmv, hw9, hfk, hf0, ht, hff⟩ := hv
        have hkW : co_k (wrC (nowC S) wr) := ⟨hkC.1, hkC.2.1, hkC.2.2.1, hkC.2.2.2.1, fun i hi => ⟨(hkC.2.2.2.2 i hi).1, (hkC.2.2.2.2 i hi).2.1, hw9 i hi, (hkC.2.2.2.2 i hi).2.2.2⟩⟩
        have hmb := mor_b (wr := wr) (wo := opW (nowC S) s x) (cN (nowC S)) (fun i _ => opW_b _ _ _ _ _)
        have hmt := ofI_t (z := mor (cN (nowC S)) wr (opW (nowC S) s x)) (by omega) (by omega)
        show bw_go _ _ _ _ _ _ _ 48 [(7, .int _), (6, .int _), (5, .int _), (0, .ref _), (1, .int _), (2, .int _), (3, .int _), (4, .int _)] ([]) _ _
        refine go_iload dX8_goes_48 rfl ?_
        refine go_iload_n dX8_goes_50 rfl ?_
        refine go_icmp_ge (pc' := 155) dX8_goes_51 rfl (fun c_51 => ?_) (fun c_51 => ?_)
        · -- ge at 51: yes
          show bw_go _ _ _ _ _ _ _ 155 [(7, .int _), (6, .int _), (5, .int _), (0, .ref _), (1, .int _), (2, .int _), (3, .int _), (4, .int _)] ([]) _ _
          refine go_iload dX8_goes_155 rfl ?_
          refine go_ifb_eq (pc' := 178) dX8_goes_157 rfl (fun c_157 => ?_) (fun c_157 => ?_)
          · -- eq at 157: yes
            show bw_go _ _ _ _ _ _ _ 178 [(7, .int _), (6, .int _), (5, .int _), (0, .ref _), (1, .int _), (2, .int _), (3, .int _), (4, .int _)] ([]) _ _
            refine go_iconst (0) dX8_goes_178 rfl ?_
            refine go_iret dX8_goes_179 rfl rfl ?_
            have hR := hQ g hg hf hd
            first
            | (have z : ok = false := c_157
               rw [hff z] at hR; exact hR)
            | (have z : ok = true := c_157
               have c9 := c_171
               rw [ht z, Nat.sub_self] at hR
               rw [i_lt] at c9
               have hmt2 : (Int32.ofInt (mor (cN (wrC (nowC S) wr)) wr (opW (nowC S) s x))).toInt = _ := hmt
               rw [hmt2, show (0 : Int32).toInt = 0 from rfl] at c9
               first
               | (rw [show GC 0 (gt6 (nowC S) s x wr) f (c % 6 ^ 0) = true from decide_eq_true (show mor (cN (nowC S)) wr (opW (nowC S) s x) ≤ 0 by omega)] at hR; exact hR)
               | (rw [show GC 0 (gt6 (nowC S) s x wr) f (c % 6 ^ 0) = false from decide_eq_false (show ¬ mor (cN (nowC S)) wr (opW (nowC S) s x) ≤ 0 by omega)] at hR; exact hR))
          · -- eq at 157: no
            show bw_go _ _ _ _ _ _ _ 160 [(7, .int _), (6, .int _), (5, .int _), (0, .ref _), (1, .int _), (2, .int _), (3, .int _), (4, .int _)] ([]) _ _
            refine go_aload_n dX8_goes_160 rfl ?_
            refine go_aload_n dX8_goes_161 rfl ?_
            refine go_gfr dX8_goes_162 fl_8_45 rfl (ms_lt hg.1 (by decide)) hg.1.1.2 hg.1.2.1.2.2.2.2.2.2.2.2.2.2.1 ?_
            refine go_iload dX8_goes_165 rfl ?_
            refine go_iload_n dX8_goes_167 rfl ?_
            refine go_cv (as := [.ref _, .int _, .int _]) 5 dX8_goes_168 mt_8_150 (Or.inl rfl) rfl rfl (ms_lt hg.1 (by decide)) hg.1.1.2 (Nat.le_of_ble_eq_true rfl) (Nat.le_of_ble_eq_true rfl) (Nat.le_of_ble_eq_true rfl) (Nat.le_of_ble_eq_true rfl) (Nat.le_of_ble_eq_true rfl) ?_
            refine me_X8_balance hg.1 (ms_lt hg.1 (by decide)) hg.1.2.2.2.2.2.2.2.2.2.2.2.2.1 hmv hkW hs64 hx ?_
            rw [wrC_b _ _ _ _ hx]
            show bw_go _ _ _ _ _ _ _ 171 [(7, .int _), (6, .int _), (5, .int _), (0, .ref _), (1, .int _), (2, .int _), (3, .int _), (4, .int _)] ((.int _) :: []) _ _
            refine go_if_gt (pc' := 178) dX8_goes_171 rfl (fun c_171 => ?_) (fun c_171 => ?_)
            · -- gt at 171: yes
              show bw_go _ _ _ _ _ _ _ 178 [(7, .int _), (6, .int _), (5, .int _), (0, .ref _), (1, .int _), (2, .int _), (3, .int _), (4, .int _)] ([]) _ _
              refine go_iconst (0) dX8_goes_178 rfl ?_
              refine go_iret dX8_goes_179 rfl rfl ?_
              have hR := hQ g hg hf hd
              first
              | (have z : ok = false := c_157
                 rw [hff z] at hR; exact hR)
              | (have z : ok = true := c_157
                 have c9 := c_171
                 rw [ht z, Nat.sub_self] at hR
                 rw [i_lt] at c9
                 have hmt2 : (Int32.ofInt (mor (cN (wrC (nowC S) wr)) wr (opW (nowC S) s x))).toInt = _ := hmt
                 rw [hmt2, show (0 : Int32).toInt = 0 from rfl] at c9
                 first
                 | (rw [show GC 0 (gt6 (nowC S) s x wr) f (c % 6 ^ 0) = true from decide_eq_true (show mor (cN (nowC S)) wr (opW (nowC S) s x) ≤ 0 by omega)] at hR; exact hR)
                 | (rw [show GC 0 (gt6 (nowC S) s x wr) f (c % 6 ^ 0) = false from decide_eq_false (show ¬ mor (cN (nowC S)) wr (opW (nowC S) s x) ≤ 0 by omega)] at hR; exact hR))
            · -- gt at 171: no
              show bw_go _ _ _ _ _ _ _ 174 [(7, .int _), (6, .int _), (5, .int _), (0, .ref _), (1, .int _), (2, .int _), (3, .int _), (4, .int _)] ([]) _ _
              refine go_iconst (1) dX8_goes_174 rfl ?_
              refine go_goto (pc' := 179) dX8_goes_175 rfl ?_
              show bw_go _ _ _ _ _ _ _ 179 [(7, .int _), (6, .int _), (5, .int _), (0, .ref _), (1, .int _), (2, .int _), (3, .int _), (4, .int _)] ((.int _) :: []) _ _
              refine go_iret dX8_goes_179 rfl rfl ?_
              have hR := hQ g hg hf hd
              first
              | (have z : ok = false := c_157
                 rw [hff z] at hR; exact hR)
              | (have z : ok = true := c_157
                 have c9 := c_171
                 rw [ht z, Nat.sub_self] at hR
                 rw [i_lt] at c9
                 have hmt2 : (Int32.ofInt (mor (cN (wrC (nowC S) wr)) wr (opW (nowC S) s x))).toInt = _ := hmt
                 rw [hmt2, show (0 : Int32).toInt = 0 from rfl] at c9
                 first
                 | (rw [show GC 0 (gt6 (nowC S) s x wr) f (c % 6 ^ 0) = true from decide_eq_true (show mor (cN (nowC S)) wr (opW (nowC S) s x) ≤ 0 by omega)] at hR; exact hR)
                 | (rw [show GC 0 (gt6 (nowC S) s x wr) f (c % 6 ^ 0) = false from decide_eq_false (show ¬ mor (cN (nowC S)) wr (opW (nowC S) s x) ≤ 0 by omega)] at hR; exact hR))
        · -- ge at 51: no
          exfalso; have t_0 := nI_toInt (n := n) (by omega); simp only [i_le, i_lt, i_eq, bi_eq] at c_51; omega
    · -- lt at 13: no
      exact absurd (dnx_n n (by omega)) c_13
