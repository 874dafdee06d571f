/-! BearWitness: presses that shake, by turns -/
def shk (S : ST) (x s : Nat) : Option (List Nat) := fpr (opT (nowC S) s x)
def yShake (x s r : Int32) (S : ST) : Int32 × ST := if isn x 6 = true ∧ isn s (2 ^ cN (nowC S)) = true ∧ isn r 6 = true then (if cN (nowC S) = 0 then (-4, S) else (match shk S (rn x) (rn s) with
    | none => (-9, S)
    | some l => (nI l.length, wR S (bw_up (sR S) (rn r) (some l.length)) (bw_up (sRc S) (rn r) (fun i => nI (l.getD i 0)))))) else (-1, S)
def yDuel (x n : Int32) (S : ST) : Int32 × ST := if isn x 6 = true ∧ 0 ≤ n.toInt ∧ n.toInt ≤ 2 then (if cN (nowC S) = 0 then (-4, S) else (1, wQ S (Int32.ofInt (plv (2 * rn n) (opT (nowC S) (2 ^ cN (nowC S) - 1) (rn x)))))) else (-1, S)
def ckf (l : List Nat) (k : Nat) : Nat → Int32 := fun i => if i < k then nI (l.getD i 0) else 0
theorem ckf_s (l : List Nat) (k : Nat) : bw_up (ckf l k) k (nI (l.getD k 0)) = ckf l (k + 1) := by
  funext i
  unfold bw_up ckf
  by_cases h : i = k
  · subst h; rw [if_pos rfl, if_pos (by omega)]
  · rw [if_neg h]
    by_cases h2 : i < k
    · rw [if_pos h2, if_pos (by omega)]
    · rw [if_neg h2, if_neg (by omega)]
theorem ckf_e (l : List Nat) : ckf l l.length = fun i => nI (l.getD i 0) := by
  funext i
  unfold ckf
  by_cases h : i < l.length
  · rw [if_pos h]
  · rw [if_neg h, List.getD_eq_getElem?_getD, List.getElem?_eq_none (by omega)]; rfl
theorem ckf_0 (l : List Nat) : ckf l 0 = fun _ => 0 := by
  funext i
  unfold ckf
  rw [if_neg (by omega)]
theorem fpv_9 {A : TT} : fpv (fpr A) = -9 ↔ fpr A = none := by
  cases e : fpr A with
  | none => exact ⟨fun _ => rfl, fun _ => rfl⟩
  | some l =>
    have h1 := fs_len 5 0 l e
    refine ⟨fun z => ?_, fun z => by cases z⟩
    have z2 : nI l.length = -9 := z
    have t_0 := nI_toInt (n := l.length) (by omega)
    rw [z2] at t_0
    have l_9 : (-9 : Int32).toInt = -9 := rfl
    omega
theorem up_up (f : Nat → Nat → Int32) (j : Nat) (a b : Nat → Int32) : bw_up (bw_up f j a) j b = bw_up f j b := by
  funext q
  unfold bw_up
  split <;> rfl
set_option maxRecDepth 100000 in
set_option maxHeartbeats 4000000 in
theorem me_X7_shake {X : Nat × (Nat → Int32)} {Q : Option Value → bw_H → Prop} {h : bw_H} {S : ST} {x s r : Int32} (hx : XR h S) (hQ : PX h Q (yShake x s r S)) : bw_me X 9 bm_X7_shake false [.ref 0, .int x, .int s, .int r] h Q := by
  have hc : bw_ct h 11 (nowC S) := hx.2.2.2.1.1.1
  have hN := hc.2.2.1
  show bw_go _ 9 7 6 false (some .int) cX7_shake 0 [(0, .ref _), (1, .int _), (2, .int _), (3, .int _)] [] _ _
  refine go_iload_n dX7_shake_0 rfl ?_
  refine go_cs (as := [.int _]) 0 dX7_shake_1 rfl rfl mt_7_175 (Nat.le_of_ble_eq_true rfl) rfl rfl (Nat.le_of_ble_eq_true rfl) (Nat.le_of_ble_eq_true rfl) (Nat.le_of_ble_eq_true rfl) (Nat.le_of_ble_eq_true rfl) ?_
  refine me_X7_isThing ?_
  show bw_go _ _ _ _ _ _ _ 4 [(0, .ref _), (1, .int _), (2, .int _), (3, .int _)] ((.int _) :: []) _ _
  refine go_ifb_eq (pc' := 29) dX7_shake_4 rfl (fun c_4 => ?_) (fun c_4 => ?_)
  · -- eq at 4: yes
    show bw_go _ _ _ _ _ _ _ 29 [(0, .ref _), (1, .int _), (2, .int _), (3, .int _)] ([]) _ _
    refine go_iconst (-1) dX7_shake_29 rfl ?_
    refine go_iret dX7_shake_30 rfl rfl ?_
    refine q_x hQ ?_ hx (frM_r h)
    unfold yShake
    rw [if_neg (fun z => Bool.noConfusion ((show isn x 6 = false from c_4).symm.trans z.1))]
  · -- eq at 4: no
    show bw_go _ _ _ _ _ _ _ 7 [(0, .ref _), (1, .int _), (2, .int _), (3, .int _)] ([]) _ _
    refine go_aload_n dX7_shake_7 rfl ?_
    refine go_gfr dX7_shake_8 fl_7_24 rfl hx.1.1.1 hx.1.1.2.1 hx.1.1.2.2.2.2.1 ?_
    refine go_iload_n dX7_shake_11 rfl ?_
    refine go_cv (as := [.int _]) 1 dX7_shake_12 mt_7_181 (Or.inr rfl) rfl rfl hc.1.1.1 hc.1.1.2.1 (Nat.le_of_ble_eq_true rfl) (Nat.le_of_ble_eq_true rfl) (Nat.le_of_ble_eq_true rfl) (Nat.le_of_ble_eq_true rfl) (Nat.le_of_ble_eq_true rfl) ?_
    refine me_X1_isSet hc ?_
    show bw_go _ _ _ _ _ _ _ 15 [(0, .ref _), (1, .int _), (2, .int _), (3, .int _)] ((.int _) :: []) _ _
    refine go_ifb_eq (pc' := 29) dX7_shake_15 rfl (fun c_15 => ?_) (fun c_15 => ?_)
    · -- eq at 15: yes
      show bw_go _ _ _ _ _ _ _ 29 [(0, .ref _), (1, .int _), (2, .int _), (3, .int _)] ([]) _ _
      refine go_iconst (-1) dX7_shake_29 rfl ?_
      refine go_iret dX7_shake_30 rfl rfl ?_
      refine q_x hQ ?_ hx (frM_r h)
      unfold yShake
      rw [if_neg (fun z => Bool.noConfusion ((show isn s (2 ^ cN (nowC S)) = false from c_15).symm.trans z.2.1))]
    · -- eq at 15: no
      show bw_go _ _ _ _ _ _ _ 18 [(0, .ref _), (1, .int _), (2, .int _), (3, .int _)] ([]) _ _
      refine go_aload_n dX7_shake_18 rfl ?_
      refine go_gfr dX7_shake_19 fl_7_14 rfl hx.1.1.1 hx.1.1.2.1 hx.1.1.2.2.1 ?_
      refine go_iload_n dX7_shake_22 rfl ?_
      refine go_cv (as := [.int _]) 0 dX7_shake_23 mt_7_86 (Or.inr rfl) rfl rfl hx.2.1.1.1.1 hx.2.1.1.1.2.1 (Nat.le_of_ble_eq_true rfl) (Nat.le_of_ble_eq_true rfl) (Nat.le_of_ble_eq_true rfl) (Nat.le_of_ble_eq_true rfl) (Nat.le_of_ble_eq_true rfl) ?_
      refine me_X4_isNumber hx.2.1.1 ?_
      show bw_go _ _ _ _ _ _ _ 26 [(0, .ref _), (1, .int _), (2, .int _), (3, .int _)] ((.int _) :: []) _ _
      refine go_ifb_ne (pc' := 31) dX7_shake_26 rfl (fun c_26 => ?_) (fun c_26 => ?_)
      · -- ne at 26: yes
        show bw_go _ _ _ _ _ _ _ 31 [(0, .ref _), (1, .int _), (2, .int _), (3, .int _)] ([]) _ _
        have h2N0 := p2N hN
        obtain ⟨y, hy, rfl⟩ := isn_ex (r := x) (num := 6) c_4 (by decide)
        obtain ⟨w, hw, rfl⟩ := isn_ex (r := s) (num := 2 ^ cN (nowC S)) c_15 (by omega)
        obtain ⟨j, hj, rfl⟩ := isn_ex (r := r) (num := 6) c_26 (by decide)
        refine go_aload_n dX7_shake_31 rfl ?_
        refine go_gfr dX7_shake_32 fl_7_24 rfl hx.1.1.1 hx.1.1.2.1 hx.1.1.2.2.2.2.1 ?_
        refine go_gfi dX7_shake_35 fl_7_141 rfl hc.1.1.1 hc.1.1.2.1 ?_
        rw [hc.2.1.1]
        refine go_if_ne (pc' := 44) dX7_shake_38 rfl (fun c_38 => ?_) (fun c_38 => ?_)
        · -- ne at 38: yes
          show bw_go _ _ _ _ _ _ _ 44 [(0, .ref _), (1, .int _), (2, .int _), (3, .int _)] ([]) _ _
          refine go_aload_n dX7_shake_44 rfl ?_
          refine go_gfr dX7_shake_45 fl_7_59 rfl hx.1.1.1 hx.1.1.2.1 hx.1.1.2.2.2.2.2.2.2.2.2.2.1 ?_
          refine go_aload_n dX7_shake_48 rfl ?_
          refine go_gfr dX7_shake_49 fl_7_24 rfl hx.1.1.1 hx.1.1.2.1 hx.1.1.2.2.2.2.1 ?_
          refine go_iload_n dX7_shake_52 rfl ?_
          refine go_iload_n dX7_shake_53 rfl ?_
          refine go_cv (as := [.ref _, .int _, .int _]) 4 dX7_shake_54 mt_7_205 (Or.inr rfl) rfl rfl hx.1.2.2.2.2.2.2.1.1.1 hx.1.2.2.2.2.2.2.1.1.2.1 (Nat.le_of_ble_eq_true rfl) (Nat.le_of_ble_eq_true rfl) (Nat.le_of_ble_eq_true rfl) (Nat.le_of_ble_eq_true rfl) (Nat.le_of_ble_eq_true rfl) ?_
          refine me_X6_open (p := 51) (c := 11) hx.1.2.2.2.2.2.2.1 hc hy (S := w) (by omega) (Or.inr (by decide)) (fun I hI => ?_)
          have hx2 : XR (bw_wi h I) S := xr_sc hx (fun q hq => hI.2 q (by omega) (by omega) (by omega))
          have hf2 : frM h (bw_wi h I) := frM_wi rfl (fun q h1 h2 => hI.2 q (by omega) (by omega) (by omega))
          have h0 : ¬ cN (nowC S) = 0 := fun z => c_38 ((nI_eq (a := cN (nowC S)) (b := 0) (by omega) (by omega)).mpr z)
          show bw_go _ _ _ _ _ _ _ 57 [(0, .ref _), (1, .int _), (2, .int _), (3, .int _)] ([]) _ _
          refine go_aload_n dX7_shake_57 rfl ?_
          refine go_gfr dX7_shake_58 fl_7_59 rfl hx.1.1.1 hx.1.1.2.1 hx.1.1.2.2.2.2.2.2.2.2.2.2.1 ?_
          refine go_cv (as := []) 8 dX7_shake_61 mt_7_209 (Or.inr rfl) rfl rfl hx.1.2.2.2.2.2.2.1.1.1 hx.1.2.2.2.2.2.2.1.1.2.1 (Nat.le_of_ble_eq_true rfl) (Nat.le_of_ble_eq_true rfl) (Nat.le_of_ble_eq_true rfl) (Nat.le_of_ble_eq_true rfl) (Nat.le_of_ble_eq_true rfl) ?_
          refine me_X6_fewestPresses hI.1 (fun J hJ hl => ?_)
          have hx3 : XR (bw_wi (bw_wi h I) J) S := xr_sc hx2 (fun q hq => hJ.2.1 q (by omega) (by omega) (by omega))
          have hf3 : frM h (bw_wi (bw_wi h I) J) := frM_t hf2 (frM_wi (h := bw_wi h I) (g := bw_wi (bw_wi h I) J) rfl (fun q h1 h2 => hJ.2.1 q (by omega) (by omega) (by omega)))
          have hx0 := hx
          have hx := hx3
          have hsk : shk S y w = fpr (opT (nowC S) w y) := rfl
          show bw_go _ _ _ _ _ _ _ 64 [(0, .ref _), (1, .int _), (2, .int _), (3, .int _)] ((.int _) :: []) _ _
          refine go_istore dX7_shake_64 (Nat.lt_of_lt_of_le (Nat.lt_succ_self _) (Nat.le_of_ble_eq_true rfl)) ?_
          show bw_go _ _ _ _ _ _ _ 66 [(4, .int _), (0, .ref _), (1, .int _), (2, .int _), (3, .int _)] ([]) _ _
          refine go_iload dX7_shake_66 rfl ?_
          refine go_bipush (-9) dX7_shake_68 rfl ?_
          refine go_icmp_ne (pc' := 76) dX7_shake_70 rfl (fun c_70 => ?_) (fun c_70 => ?_)
          · -- ne at 70: yes
            show bw_go _ _ _ _ _ _ _ 76 [(4, .int _), (0, .ref _), (1, .int _), (2, .int _), (3, .int _)] ([]) _ _
            obtain ⟨l, e9⟩ : ∃ l, fpr (opT (nowC S) w y) = some l := by
              cases e : fpr (opT (nowC S) w y) with
              | none => exact absurd (fpv_9.mpr e) c_70
              | some l => exact ⟨l, rfl⟩
            have hl4 := fs_len 5 0 l e9
            rw [e9, show fpv (some l) = nI l.length from rfl]
            refine go_aload_n dX7_shake_76 rfl ?_
            refine go_gfr dX7_shake_77 fl_7_14 rfl hx.1.1.1 hx.1.1.2.1 hx.1.1.2.2.1 ?_
            refine go_iload_n dX7_shake_80 rfl ?_
            refine go_iload dX7_shake_81 rfl ?_
            refine go_iconst (0) dX7_shake_83 rfl ?_
            refine go_cv (as := [.int _, .int _, .int _]) 1 dX7_shake_84 mt_7_94 (Or.inr rfl) rfl rfl hx.2.1.1.1.1 hx.2.1.1.1.2.1 (Nat.le_of_ble_eq_true rfl) (Nat.le_of_ble_eq_true rfl) (Nat.le_of_ble_eq_true rfl) (Nat.le_of_ble_eq_true rfl) (Nat.le_of_ble_eq_true rfl) ?_
            refine me_X4_make hx.2.1.1 hj (m := l.length) (v := 0) (by omega) ?_
            have hxm := xr_rows (h := bw_wi (bw_wi h I) J) (I := bw_i (bw_sa (bw_sa (bw_wi (bw_wi h I) J) (1 + 2) (bw_up (bw_i (bw_wi (bw_wi h I) J) (1 + 2)) j (nI l.length))) (1 + 4) (fl (bw_i (bw_wi (bw_wi h I) J) (1 + 4)) (j * 40) l.length 0))) hx (fun q h1 h2 => by rw [i_sa_o (by omega), i_sa_o (by omega)]) (shR_make hx.2.1 (m := l.length) (v := 0) (by omega))
            have hfm := frM_t hf3 (frM_wi (h := bw_wi (bw_wi h I) J) (g := bw_sa (bw_sa (bw_wi (bw_wi h I) J) (1 + 2) (bw_up (bw_i (bw_wi (bw_wi h I) J) (1 + 2)) j (nI l.length))) (1 + 4) (fl (bw_i (bw_wi (bw_wi h I) J) (1 + 4)) (j * 40) l.length 0)) rfl (fun q h1 h2 => by rw [i_sa_o (by omega), i_sa_o (by omega)]))
            have hpm : ∀ i, i < l.length → bw_i (bw_sa (bw_sa (bw_wi (bw_wi h I) J) (1 + 2) (bw_up (bw_i (bw_wi (bw_wi h I) J) (1 + 2)) j (nI l.length))) (1 + 4) (fl (bw_i (bw_wi (bw_wi h I) J) (1 + 4)) (j * 40) l.length 0)) 57 i = nI (l.getD i 0) := fun i hi => by rw [i_sa_o (by omega), i_sa_o (by omega)]; exact hl l e9 i hi
            rw [← ckf_0 l] at hxm
            show bw_go _ _ _ _ _ _ _ 87 [(4, .int _), (0, .ref _), (1, .int _), (2, .int _), (3, .int _)] ([]) _ _
            refine go_iconst (0) dX7_shake_87 rfl ?_
            refine go_istore dX7_shake_88 (Nat.lt_of_lt_of_le (Nat.lt_succ_self _) (Nat.le_of_ble_eq_true rfl)) ?_
            show bw_go _ _ _ _ _ _ _ 90 [(5, .int _), (4, .int _), (0, .ref _), (1, .int _), (2, .int _), (3, .int _)] ([]) _ _
            refine go_for (P := fun k => ∀ (g : bw_H), (XR g (wR S (bw_up (sR S) j (some l.length)) (bw_up (sRc S) j (ckf l k))) ∧ frM h g ∧ ∀ i, i < l.length → bw_i g 57 i = nI (l.getD i 0)) → bw_go X 9 7 6 false (some .int) cX7_shake 90 [(5, .int (nI k)), (4, .int (nI l.length)), (0, .ref (0)), (1, .int (nI y)), (2, .int (nI w)), (3, .int (nI j))] [] g Q) (N := l.length) (fun k hk K => ?_) ?_ (0) (Nat.zero_le _) _ ⟨hxm, hfm, hpm⟩
            · -- a turn
              intro g hv
              obtain ⟨hg, hf, hpr⟩ := hv
              have hx := hg
              show bw_go _ _ _ _ _ _ _ 90 [(5, .int _), (4, .int _), (0, .ref _), (1, .int _), (2, .int _), (3, .int _)] ([]) _ _
              refine go_iload dX7_shake_90 rfl ?_
              refine go_iload dX7_shake_92 rfl ?_
              refine go_icmp_ge (pc' := 125) dX7_shake_94 rfl (fun c_94 => ?_) (fun c_94 => ?_)
              · -- ge at 94: yes
                exfalso; have t_0 := nI_toInt (n := k) (by omega); have t_1 := nI_toInt (n := l.length) (by omega); simp only [i_le, i_lt, i_eq, bi_eq] at c_94; omega
              · -- ge at 94: no
                show bw_go _ _ _ _ _ _ _ 97 [(5, .int _), (4, .int _), (0, .ref _), (1, .int _), (2, .int _), (3, .int _)] ([]) _ _
                refine go_aload_n dX7_shake_97 rfl ?_
                refine go_gfr dX7_shake_98 fl_7_14 rfl hx.1.1.1 hx.1.1.2.1 hx.1.1.2.2.1 ?_
                refine go_iload_n dX7_shake_101 rfl ?_
                refine go_iload dX7_shake_102 rfl ?_
                refine go_aload_n dX7_shake_104 rfl ?_
                refine go_gfr dX7_shake_105 fl_7_59 rfl hx.1.1.1 hx.1.1.2.1 hx.1.1.2.2.2.2.2.2.2.2.2.2.1 ?_
                refine go_gfr dX7_shake_108 fl_7_212 rfl hx.1.2.2.2.2.2.2.1.1.1 hx.1.2.2.2.2.2.2.1.1.2.1 hx.1.2.2.2.2.2.2.1.1.2.2.2.2 ?_
                refine go_iload dX7_shake_111 rfl ?_
                refine go_cv (as := [.int _]) 0 dX7_shake_113 mt_7_153 (Or.inr rfl) rfl rfl hx.1.2.2.2.2.2.2.1.2.2.2.1 hx.1.2.2.2.2.2.2.1.2.2.2.2.1 (Nat.le_of_ble_eq_true rfl) (Nat.le_of_ble_eq_true rfl) (Nat.le_of_ble_eq_true rfl) (Nat.le_of_ble_eq_true rfl) (Nat.le_of_ble_eq_true rfl) ?_
                refine me_X0_get hx.1.2.2.2.2.2.2.1.2.2.2 ?_
                rw [cg_n (by omega) (by decide), hpr k hk]
                show bw_go _ _ _ _ _ _ _ 116 [(5, .int _), (4, .int _), (0, .ref _), (1, .int _), (2, .int _), (3, .int _)] ((.int _) :: (.int _) :: (.int _) :: (.ref _) :: []) _ _
                refine go_cv (as := [.int _, .int _, .int _]) 3 dX7_shake_116 mt_7_106 (Or.inr rfl) rfl rfl hx.2.1.1.1.1 hx.2.1.1.1.2.1 (Nat.le_of_ble_eq_true rfl) (Nat.le_of_ble_eq_true rfl) (Nat.le_of_ble_eq_true rfl) (Nat.le_of_ble_eq_true rfl) (Nat.le_of_ble_eq_true rfl) ?_
                have hpin : pin (some l.length) (nI k) = true := decide_eq_true (by rw [nI_toInt (by omega)]; omega)
                have hsj : sR (wR S (bw_up (sR S) j (some l.length)) (bw_up (sRc S) j (ckf l k))) j = some l.length := bw_up_s _ _ _
                refine me_X4_set hx.2.1.1 hj (hx.2.1.2 j hj).1 (hx.2.1.2 j hj).2.1 ?_
                rw [hsj, if_pos hpin, nI_clamp (by omega)]
                show bw_go _ _ _ _ _ _ _ 119 [(5, .int _), (4, .int _), (0, .ref _), (1, .int _), (2, .int _), (3, .int _)] ([]) _ _
                refine go_iinc dX7_shake_119 rfl (nI_1 k) (Nat.lt_of_lt_of_le (Nat.lt_succ_self _) (Nat.le_of_ble_eq_true rfl)) ?_
                show bw_go _ _ _ _ _ _ _ 122 [(5, .int _), (4, .int _), (0, .ref _), (1, .int _), (2, .int _), (3, .int _)] ([]) _ _
                refine go_goto (pc' := 90) dX7_shake_122 rfl ?_
                refine K _ ⟨?_, frM_t hf (frM_wi (h := g) (g := bw_sa g (1 + 4) (bw_up (bw_i g (1 + 4)) (j * 40 + k) (nI (l.getD k 0)))) rfl (fun q h1 h2 => by rw [i_sa_o (by omega)])), fun i hi => by rw [i_sa_o (by omega)]; exact hpr i hi⟩
                have z := xr_rows (h := g) (I := bw_i (bw_sa g (1 + 4) (bw_up (bw_i g (1 + 4)) (j * 40 + k) (nI (l.getD k 0))))) hx (fun q h1 h2 => by rw [i_sa_o (by omega)]) (shR_set hx.2.1 (j := j) (k := k) (v := nI (l.getD k 0)) (by omega))
                have e2 : bw_up (sRc (wR S (bw_up (sR S) j (some l.length)) (bw_up (sRc S) j (ckf l k)))) j (bw_up (sRc (wR S (bw_up (sR S) j (some l.length)) (bw_up (sRc S) j (ckf l k))) j) k (nI (l.getD k 0))) = bw_up (sRc S) j (ckf l (k + 1)) := by
                  show bw_up (bw_up (sRc S) j (ckf l k)) j (bw_up (bw_up (sRc S) j (ckf l k) j) k (nI (l.getD k 0))) = _
                  rw [bw_up_s, up_up, ckf_s]
                rw [e2] at z
                exact z
            · -- behind the last
              intro g hv
              obtain ⟨hg, hf, hpr⟩ := hv
              rw [ckf_e] at hg
              show bw_go _ _ _ _ _ _ _ 90 [(5, .int _), (4, .int _), (0, .ref _), (1, .int _), (2, .int _), (3, .int _)] ([]) _ _
              refine go_iload dX7_shake_90 rfl ?_
              refine go_iload dX7_shake_92 rfl ?_
              refine go_icmp_ge (pc' := 125) dX7_shake_94 rfl (fun c_94 => ?_) (fun c_94 => ?_)
              · -- ge at 94: yes
                show bw_go _ _ _ _ _ _ _ 125 [(5, .int _), (4, .int _), (0, .ref _), (1, .int _), (2, .int _), (3, .int _)] ([]) _ _
                refine go_iload dX7_shake_125 rfl ?_
                refine go_iret dX7_shake_127 rfl rfl ?_
                refine q_x hQ ?_ hg hf
                unfold yShake
                rw [if_pos ⟨show isn (nI y) 6 = true from c_4, show isn (nI w) (2 ^ cN (nowC S)) = true from c_15, show isn (nI j) 6 = true from c_26⟩, if_neg h0, rn_n (by omega), rn_n (by omega), rn_n (by omega), hsk, e9]
              · -- ge at 94: no
                exfalso; have t_0 := nI_toInt (n := l.length) (by omega); simp only [i_le, i_lt, i_eq, bi_eq] at c_94; omega
          · -- ne at 70: no
            show bw_go _ _ _ _ _ _ _ 73 [(4, .int _), (0, .ref _), (1, .int _), (2, .int _), (3, .int _)] ([]) _ _
            refine go_bipush (-9) dX7_shake_73 rfl ?_
            refine go_iret dX7_shake_75 rfl rfl ?_
            refine q_x hQ ?_ hx hf3
            unfold yShake
            rw [if_pos ⟨show isn (nI y) 6 = true from c_4, show isn (nI w) (2 ^ cN (nowC S)) = true from c_15, show isn (nI j) 6 = true from c_26⟩, if_neg h0, rn_n (by omega), rn_n (by omega), hsk, fpv_9.mp (Decidable.of_not_not c_70)]
        · -- ne at 38: no
          show bw_go _ _ _ _ _ _ _ 41 [(0, .ref _), (1, .int _), (2, .int _), (3, .int _)] ([]) _ _
          refine go_bipush (-4) dX7_shake_41 rfl ?_
          refine go_iret dX7_shake_43 rfl rfl ?_
          refine q_x hQ ?_ hx (frM_r h)
          unfold yShake
          rw [if_pos ⟨show isn (nI y) 6 = true from c_4, show isn (nI w) (2 ^ cN (nowC S)) = true from c_15, show isn (nI j) 6 = true from c_26⟩, if_pos ((nI_eq (a := cN (nowC S)) (b := 0) (by omega) (by omega)).mp (Decidable.of_not_not c_38))]
      · -- ne at 26: no
        show bw_go _ _ _ _ _ _ _ 29 [(0, .ref _), (1, .int _), (2, .int _), (3, .int _)] ([]) _ _
        refine go_iconst (-1) dX7_shake_29 rfl ?_
        refine go_iret dX7_shake_30 rfl rfl ?_
        refine q_x hQ ?_ hx (frM_r h)
        unfold yShake
        rw [if_neg (fun z => Bool.noConfusion ((show isn r 6 = false from c_26).symm.trans z.2.2))]
set_option maxRecDepth 100000 in
set_option maxHeartbeats 4000000 in
theorem me_X7_duel {X : Nat × (Nat → Int32)} {Q : Option Value → bw_H → Prop} {h : bw_H} {S : ST} {x n : Int32} (hx : XR h S) (hQ : PX h Q (yDuel x n S)) : bw_me X 8 bm_X7_duel false [.ref 0, .int x, .int n] h Q := by
  have hc : bw_ct h 11 (nowC S) := hx.2.2.2.1.1.1
  have hN := hc.2.2.1
  show bw_go _ 8 7 3 false (some .int) cX7_duel 0 [(0, .ref _), (1, .int _), (2, .int _)] [] _ _
  refine go_iload_n dX7_duel_0 rfl ?_
  refine go_cs (as := [.int _]) 0 dX7_duel_1 rfl rfl mt_7_175 (Nat.le_of_ble_eq_true rfl) rfl rfl (Nat.le_of_ble_eq_true rfl) (Nat.le_of_ble_eq_true rfl) (Nat.le_of_ble_eq_true rfl) (Nat.le_of_ble_eq_true rfl) ?_
  refine me_X7_isThing ?_
  show bw_go _ _ _ _ _ _ _ 4 [(0, .ref _), (1, .int _), (2, .int _)] ((.int _) :: []) _ _
  refine go_ifb_eq (pc' := 16) dX7_duel_4 rfl (fun c_4 => ?_) (fun c_4 => ?_)
  · -- eq at 4: yes
    show bw_go _ _ _ _ _ _ _ 16 [(0, .ref _), (1, .int _), (2, .int _)] ([]) _ _
    refine go_iconst (-1) dX7_duel_16 rfl ?_
    refine go_iret dX7_duel_17 rfl rfl ?_
    refine q_x hQ ?_ hx (frM_r h)
    unfold yDuel
    rw [if_neg (fun z => Bool.noConfusion ((show isn x 6 = false from c_4).symm.trans z.1))]
  · -- eq at 4: no
    show bw_go _ _ _ _ _ _ _ 7 [(0, .ref _), (1, .int _), (2, .int _)] ([]) _ _
    refine go_iload_n dX7_duel_7 rfl ?_
    refine go_if_lt (pc' := 16) dX7_duel_8 rfl (fun c_8 => ?_) (fun c_8 => ?_)
    · -- lt at 8: yes
      show bw_go _ _ _ _ _ _ _ 16 [(0, .ref _), (1, .int _), (2, .int _)] ([]) _ _
      refine go_iconst (-1) dX7_duel_16 rfl ?_
      refine go_iret dX7_duel_17 rfl rfl ?_
      refine q_x hQ ?_ hx (frM_r h)
      unfold yDuel
      have l_0 := i_0
      simp only [i_lt] at c_8
      rw [if_neg (fun z => by omega)]
    · -- lt at 8: no
      show bw_go _ _ _ _ _ _ _ 11 [(0, .ref _), (1, .int _), (2, .int _)] ([]) _ _
      refine go_iload_n dX7_duel_11 rfl ?_
      refine go_iconst (2) dX7_duel_12 rfl ?_
      refine go_icmp_le (pc' := 18) dX7_duel_13 rfl (fun c_13 => ?_) (fun c_13 => ?_)
      · -- le at 13: yes
        show bw_go _ _ _ _ _ _ _ 18 [(0, .ref _), (1, .int _), (2, .int _)] ([]) _ _
        obtain ⟨y, hy, rfl⟩ := isn_ex (r := x) (num := 6) c_4 (by decide)
        have hn2 : 0 ≤ n.toInt ∧ n.toInt ≤ 2 := by have l_0 := i_0; have l_2 : (2 : Int32).toInt = 2 := rfl; simp only [i_le, i_lt] at c_8 c_13; omega
        obtain ⟨w, hw, rfl⟩ := isn_ex (r := n) (num := 3) (decide_eq_true (by omega)) (by decide)
        have h2N0 := p2N hN
        refine go_aload_n dX7_duel_18 rfl ?_
        refine go_gfr dX7_duel_19 fl_7_24 rfl hx.1.1.1 hx.1.1.2.1 hx.1.1.2.2.2.2.1 ?_
        refine go_gfi dX7_duel_22 fl_7_141 rfl hc.1.1.1 hc.1.1.2.1 ?_
        rw [hc.2.1.1]
        refine go_if_ne (pc' := 31) dX7_duel_25 rfl (fun c_25 => ?_) (fun c_25 => ?_)
        · -- ne at 25: yes
          show bw_go _ _ _ _ _ _ _ 31 [(0, .ref _), (1, .int _), (2, .int _)] ([]) _ _
          refine go_aload_n dX7_duel_31 rfl ?_
          refine go_gfr dX7_duel_32 fl_7_59 rfl hx.1.1.1 hx.1.1.2.1 hx.1.1.2.2.2.2.2.2.2.2.2.2.1 ?_
          refine go_aload_n dX7_duel_35 rfl ?_
          refine go_gfr dX7_duel_36 fl_7_24 rfl hx.1.1.1 hx.1.1.2.1 hx.1.1.2.2.2.2.1 ?_
          refine go_iload_n dX7_duel_39 rfl ?_
          refine go_aload_n dX7_duel_40 rfl ?_
          refine go_gfr dX7_duel_41 fl_7_24 rfl hx.1.1.1 hx.1.1.2.1 hx.1.1.2.2.2.2.1 ?_
          refine go_cv (as := []) 0 dX7_duel_44 mt_7_193 (Or.inr rfl) rfl rfl hc.1.1.1 hc.1.1.2.1 (Nat.le_of_ble_eq_true rfl) (Nat.le_of_ble_eq_true rfl) (Nat.le_of_ble_eq_true rfl) (Nat.le_of_ble_eq_true rfl) (Nat.le_of_ble_eq_true rfl) ?_
          refine me_X1_allBears hc ?_
          show bw_go _ _ _ _ _ _ _ 47 [(0, .ref _), (1, .int _), (2, .int _)] ((.int _) :: (.int _) :: (.ref _) :: (.ref _) :: []) _ _
          refine go_cv (as := [.ref _, .int _, .int _]) 4 dX7_duel_47 mt_7_205 (Or.inr rfl) rfl rfl hx.1.2.2.2.2.2.2.1.1.1 hx.1.2.2.2.2.2.2.1.1.2.1 (Nat.le_of_ble_eq_true rfl) (Nat.le_of_ble_eq_true rfl) (Nat.le_of_ble_eq_true rfl) (Nat.le_of_ble_eq_true rfl) (Nat.le_of_ble_eq_true rfl) ?_
          refine me_X6_open (p := 51) (c := 11) hx.1.2.2.2.2.2.2.1 hc hy (S := 2 ^ cN (nowC S) - 1) (by omega) (Or.inr (by decide)) (fun I hI => ?_)
          have hx2 : XR (bw_wi h I) S := xr_sc hx (fun q hq => hI.2 q (by omega) (by omega) (by omega))
          have hf2 : frM h (bw_wi h I) := frM_wi rfl (fun q h1 h2 => hI.2 q (by omega) (by omega) (by omega))
          have h0 : ¬ cN (nowC S) = 0 := fun z => c_25 ((nI_eq (a := cN (nowC S)) (b := 0) (by omega) (by omega)).mpr z)
          show bw_go _ _ _ _ _ _ _ 50 [(0, .ref _), (1, .int _), (2, .int _)] ([]) _ _
          refine go_aload_n dX7_duel_50 rfl ?_
          refine go_aload_n dX7_duel_51 rfl ?_
          refine go_gfr dX7_duel_52 fl_7_59 rfl hx.1.1.1 hx.1.1.2.1 hx.1.1.2.2.2.2.2.2.2.2.2.2.1 ?_
          refine go_iconst (2) dX7_duel_55 rfl ?_
          refine go_iload_n dX7_duel_56 rfl ?_
          rw [show (2 : Int32) = nI 2 from rfl]
          refine go_imul dX7_duel_57 ?_
          rw [nmul]
          refine go_cv (as := [.int _]) 7 dX7_duel_58 mt_7_266 (Or.inr rfl) rfl rfl hx.1.2.2.2.2.2.2.1.1.1 hx.1.2.2.2.2.2.2.1.1.2.1 (Nat.le_of_ble_eq_true rfl) (Nat.le_of_ble_eq_true rfl) (Nat.le_of_ble_eq_true rfl) (Nat.le_of_ble_eq_true rfl) (Nat.le_of_ble_eq_true rfl) ?_
          refine bw_me_mono (d := 3 + 2 * w) (by omega) (play_rec (2 * w) hI.1 (by omega) (fun J hJ => ?_))
          have hx3 : XR (bw_wi (bw_wi h I) J) S := xr_sc hx2 (fun q hq => hJ.2 q (by omega) (by omega))
          have hf3 : frM h (bw_wi (bw_wi h I) J) := frM_t hf2 (frM_wi (h := bw_wi h I) (g := bw_wi (bw_wi h I) J) rfl (fun q h1 h2 => hJ.2 q (by omega) (by omega)))
          have hx0 := hx
          have hx := hx3
          show bw_go _ _ _ _ _ _ _ 61 [(0, .ref _), (1, .int _), (2, .int _)] ((.int _) :: (.ref _) :: []) _ _
          refine go_pfi dX7_duel_61 fl_7_76 rfl hx.1.1.1 hx.1.1.2.1 (Nat.le_of_ble_eq_true rfl) (Or.inl rfl) ?_
          show bw_go _ _ _ _ _ _ _ 64 [(0, .ref _), (1, .int _), (2, .int _)] ([]) _ _
          refine go_iconst (1) dX7_duel_64 rfl ?_
          refine go_iret dX7_duel_65 rfl rfl ?_
          refine q_x hQ ?_ (xr_la hx _) (frM_t hf3 (frM_wi rfl (fun q h1 h2 => ?_)))
          · unfold yDuel
            rw [if_pos ⟨show isn (nI y) 6 = true from c_4, hn2⟩, if_neg h0, rn_n (by omega), rn_n (by omega)]
          · rw [i_si_o (by omega)]
        · -- ne at 25: no
          show bw_go _ _ _ _ _ _ _ 28 [(0, .ref _), (1, .int _), (2, .int _)] ([]) _ _
          refine go_bipush (-4) dX7_duel_28 rfl ?_
          refine go_iret dX7_duel_30 rfl rfl ?_
          refine q_x hQ ?_ hx (frM_r h)
          unfold yDuel
          rw [if_pos ⟨show isn (nI y) 6 = true from c_4, hn2⟩, if_pos ((nI_eq (a := cN (nowC S)) (b := 0) (by omega) (by omega)).mp (Decidable.of_not_not c_25))]
      · -- le at 13: no
        show bw_go _ _ _ _ _ _ _ 16 [(0, .ref _), (1, .int _), (2, .int _)] ([]) _ _
        refine go_iconst (-1) dX7_duel_16 rfl ?_
        refine go_iret dX7_duel_17 rfl rfl ?_
        refine q_x hQ ?_ hx (frM_r h)
        unfold yDuel
        have l_2 : (2 : Int32).toInt = 2 := rfl
        simp only [i_le] at c_13
        rw [if_neg (fun z => by omega)]
