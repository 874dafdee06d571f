/-! Reader: a court from a text -/
def stt (C : CT) (k e w v : Nat) : CT := (cN C + 1, cD C, cW C, cT C, bw_up (cK C) (cN C) k, bw_up (cE C) (cN C) e, bw_up (cR C) (cN C) w, bw_up (cV C) (cN C) v)
def rbe (T : TX) (z : CT × RS) : CT × RS := match (if cN z.1 < 6 then kol (by8 T z.2.1) else none) with
  | none => (z.1, z.2.1, z.2.2.or (some z.2.1))
  | some k => (if (tfg T (ofg T 9 (ofg T 2 (z.2.1 + 1, z.2.2)).2).2).2.2 = none then stt z.1 k (ofg T 2 (z.2.1 + 1, z.2.2)).1 (ofg T 9 (ofg T 2 (z.2.1 + 1, z.2.2)).2).1 (tfg T (ofg T 9 (ofg T 2 (z.2.1 + 1, z.2.2)).2).2).1 else z.1, (tfg T (ofg T 9 (ofg T 2 (z.2.1 + 1, z.2.2)).2).2).2)
def lpf (T : TX) : Nat → Nat → CT × RS → CT × RS
  | 0, _, z => z
  | k + 1, i, z => if z.2.2 = none ∧ (i = 0 ∨ z.2.1 < T.1) then lpf T k (i + 1) ((rbe T z).1, skp T (rbe T z).2.1, (rbe T z).2.2) else z
def ct0 (d : Nat) : CT := (0, d, 0, 0, fun _ => 0, fun _ => 0, fun _ => 0, fun _ => 0)
def rdt (T : TX) : CT × RS := if by8 T (skp T 0) = 107 then
    lpf T 7 0 (ct0 (tfg T (skp T 0 + 1, none)).1, skp T (tfg T (skp T 0 + 1, none)).2.1, (tfg T (skp T 0 + 1, none)).2.2)
  else (ct0 0, skp T 0, some (skp T 0))
/-- outside of a reader at r and a court at c nothing changes -/
def rf2 (h : bw_H) (I : Nat → Nat → Int32) (r c : Nat) : Prop := ∀ x, x ≠ r → x ≠ c → x ≠ c + 2 → x ≠ c + 4 → x ≠ c + 6 → x ≠ c + 8 → I x = bw_i h x
def rf3 (h : bw_H) (I : Nat → Nat → Int32) (r bb c : Nat) : Prop := ∀ x, x ≠ r → x ≠ bb + 1 → x ≠ c → x ≠ c + 2 → x ≠ c + 4 → x ≠ c + 6 → x ≠ c + 8 → I x = bw_i h x
def rsep (r bb c : Nat) : Prop := (r < c ∨ c + 13 ≤ r) ∧ (bb + 2 ≤ c ∨ c + 13 ≤ bb)
theorem rf2_1 {h : bw_H} {I : Nat → Nat → Int32} {r c : Nat} (f : rfr h I r) : rf2 h I r c := fun x h1 _ _ _ _ _ => f x h1
theorem rf2_t {h : bw_H} {I J : Nat → Nat → Int32} {r c : Nat} (f1 : rf2 h I r c) (f2 : rf2 (bw_wi h I) J r c) : rf2 h J r c := fun x h1 h2 h3 h4 h5 h6 => (f2 x h1 h2 h3 h4 h5 h6).trans (f1 x h1 h2 h3 h4 h5 h6)
theorem rx_f2 {h : bw_H} {r bb c : Nat} {T : TX} {I : Nat → Nat → Int32} (hx : rx h r bb T) (hp : rsep r bb c) (hf : rf2 h I r c) : rx (bw_wi h I) r bb T := by
  have h1 := hx.2.2.2.2
  unfold rsep at hp
  exact rx_wi hx (hf _ (by omega) (by omega) (by omega) (by omega) (by omega) (by omega))
theorem ct_r {h : bw_H} {r bb c : Nat} {C : CT} {I : Nat → Nat → Int32} (hc : bw_ct h c C) (hp : rsep r bb c) (f : rfr h I r) : bw_ct (bw_wi h I) c C := by
  unfold rsep at hp
  exact ct_i hc hc.1 (f _ (by omega)) (f _ (by omega)) (f _ (by omega)) (f _ (by omega)) (f _ (by omega))
theorem nI_up {F : Nat → Int32} {G : Nat → Nat} {n k i : Nat} (h : i < n → F i = nI (G i)) (hi : i < n + 1) : bw_up F n (nI k) i = nI (bw_up G n k i) := by
  unfold bw_up
  split
  · rfl
  · exact h (by omega)
theorem ct_stt {h : bw_H} {c k e w v : Nat} {C : CT} {I : Nat → Nat → Int32} (hc : bw_ct h c C) (hn : cN C < 6) (hk : k < 6) (he : e ≤ 2) (hw : w ≤ 9) (hv : v < 64)
    (hI : I c = bw_up (bw_i h c) 0 (nI (cN C + 1)) ∧ I (c + 2) = bw_up (bw_i h (c + 2)) (cN C) (nI k) ∧ I (c + 4) = bw_up (bw_i h (c + 4)) (cN C) (nI e) ∧ I (c + 6) = bw_up (bw_i h (c + 6)) (cN C) (nI w) ∧ I (c + 8) = bw_up (bw_i h (c + 8)) (cN C) (nI v)) : bw_ct (bw_wi h I) c (stt C k e w v) := by
  obtain ⟨i0, i2, i4, i6, i8⟩ := hI
  obtain ⟨h1, ⟨v0, v1, v2, v3, hv2⟩, k0, k1, k2, k3, hk2⟩ := hc
  refine ⟨h1, ⟨?_, ?_, ?_, ?_, fun i hi => ⟨?_, ?_, ?_, ?_⟩⟩, ?_, k1, k2, k3, fun i hi => ?_⟩
  · rw [i_wi, i0, bw_up_s]; rfl
  · rw [i_wi, i0, bw_up_o (by decide)]; exact v1
  · rw [i_wi, i0, bw_up_o (by decide)]; exact v2
  · rw [i_wi, i0, bw_up_o (by decide)]; exact v3
  · rw [i_wi, i2]; exact nI_up (fun hi2 => (hv2 i hi2).1) hi
  · rw [i_wi, i4]; exact nI_up (fun hi2 => (hv2 i hi2).2.1) hi
  · rw [i_wi, i6]; exact nI_up (fun hi2 => (hv2 i hi2).2.2.1) hi
  · rw [i_wi, i8]; exact nI_up (fun hi2 => (hv2 i hi2).2.2.2) hi
  · show cN C + 1 ≤ 6; omega
  · show bw_up (cK C) (cN C) k i < 6 ∧ bw_up (cE C) (cN C) e i ≤ 2 ∧ bw_up (cR C) (cN C) w i ≤ 9 ∧ bw_up (cV C) (cN C) v i < 64
    have hi2 : i < cN C + 1 := hi
    unfold bw_up
    by_cases hin : i = cN C
    · simp only [hin, if_true]; omega
    · simp only [hin, if_false]; exact hk2 i (by omega)
theorem tfg_v {T : TX} {a : RS} (h : (tfg T a).2.2 = none) : (tfg T a).1 < 64 := by
  unfold tfg at h ⊢
  split
  · rename_i h1
    rw [if_pos h1] at h
    simp only at h ⊢
    split at h
    · cases e : (ofg T 9 (ofg T 9 a).2).2.2 <;> rw [e] at h <;> cases h
    · omega
  · omega
theorem rst_wi {h : bw_H} {r m : Nat} {a : RS} {I : Nat → Nat → Int32} (ha : rst h r m a) (e : I r = bw_i h r) : rst (bw_wi h I) r m a := by
  obtain ⟨a1, a2, a3, a4⟩ := ha
  exact ⟨by rw [i_wi, e]; exact a1, by rw [i_wi, e]; exact a2, by rw [i_wi, e]; exact a3, a4⟩
theorem kol_9 {T : TX} {i : Nat} : mtI (kol (by8 T i)) = -9 ↔ kol (by8 T i) = none := mtI_9 (fun p hp => by have := (kol_lt hp).2; omega)
set_option maxRecDepth 100000 in
set_option maxHeartbeats 4000000 in
theorem me_X3_readBear {X : Nat × (Nat → Int32)} {Q : Option Value → bw_H → Prop} {h : bw_H} {r bb c : Nat} {T : TX} {a : RS} {C : CT} (hx : rx h r bb T) (ha : rst h r T.1 a) (hc : bw_ct h c C) (hp : rsep r bb c) (hQ : ∀ I : Nat → Nat → Int32, rf2 h I r c → rst (bw_wi h I) r T.1 (rbe T (C, a)).2 → bw_ct (bw_wi h I) c (rbe T (C, a)).1 → Q none (bw_wi h I)) : bw_me X 4 bm_X3_readBear false [.ref r, .ref c] h Q := by
  show bw_go _ 4 3 6 false none cX3_readBear 0 [(0, .ref _), (1, .ref _)] [] _ _
  refine go_aload_n dX3_readBear_0 rfl ?_
  refine go_gfi dX3_readBear_1 fl_3_70 rfl hc.1.1.1 hc.1.1.2.1 ?_
  rw [hc.2.1.1]
  refine go_bipush (6) dX3_readBear_4 rfl ?_
  refine go_icmp_ge (pc' := 19) dX3_readBear_6 rfl (fun c_6 => ?_) (fun c_6 => ?_)
  · -- ge at 6: yes
    show bw_go _ _ _ _ _ _ _ 19 [(0, .ref _), (1, .ref _)] ([]) _ _
    refine go_bipush (-9) dX3_readBear_19 rfl ?_
    refine go_istore_n dX3_readBear_21 (Nat.lt_of_lt_of_le (Nat.lt_succ_self _) (Nat.le_of_ble_eq_true rfl)) ?_
    show bw_go _ _ _ _ _ _ _ 22 [(2, .int _), (0, .ref _), (1, .ref _)] ([]) _ _
    refine go_iload_n dX3_readBear_22 rfl ?_
    refine go_bipush (-9) dX3_readBear_23 rfl ?_
    refine go_icmp_ne (pc' := 37) dX3_readBear_25 rfl (fun c_25 => ?_) (fun c_25 => ?_)
    · -- ne at 25: yes
      exact absurd rfl c_25
    · -- ne at 25: no
      show bw_go _ _ _ _ _ _ _ 28 [(2, .int _), (0, .ref _), (1, .ref _)] ([]) _ _
      refine go_aload_n dX3_readBear_28 rfl ?_
      refine go_aload_n dX3_readBear_29 rfl ?_
      refine go_gfi dX3_readBear_30 fl_3_24 rfl hx.1.1 hx.1.2.1 ?_
      rw [ha.1]
      refine go_cv (as := [.int _]) 0 dX3_readBear_33 mt_3_76 (Or.inl rfl) rfl rfl hx.1.1 hx.1.2.1 (Nat.le_of_ble_eq_true rfl) (Nat.le_of_ble_eq_true rfl) (Nat.le_of_ble_eq_true rfl) (Nat.le_of_ble_eq_true rfl) (Nat.le_of_ble_eq_true rfl) ?_
      refine me_X3_fail ⟨hx.1.1, hx.1.2.1⟩ ha (v := a.1) (by have := T_lt hx; have := ha.2.2.2.1; omega) (fun I0 f0 a0 => ?_)
      show bw_go _ _ _ _ _ _ _ 36 [(2, .int _), (0, .ref _), (1, .ref _)] ([]) _ _
      refine go_vret dX3_readBear_36 rfl ?_
      have t_0 := nI_toInt (n := cN C) (by have := hc.2.2.1; omega)
      have l_0 : (6 : Int32).toInt = 6 := rfl
      simp only [i_le] at c_6
      have e0 : (if cN C < 6 then kol (by8 T a.1) else none) = none := if_neg (by omega)
      have e1 : rbe T (C, a) = (C, a.1, a.2.or (some a.1)) := by unfold rbe; simp only [e0]
      rw [e1] at hQ
      exact hQ I0 (rf2_1 f0) a0 (ct_r hc hp f0)
  · -- ge at 6: no
    show bw_go _ _ _ _ _ _ _ 9 [(0, .ref _), (1, .ref _)] ([]) _ _
    refine go_aload_n dX3_readBear_9 rfl ?_
    refine go_cv (as := []) 1 dX3_readBear_10 mt_3_42 (Or.inl rfl) rfl rfl hx.1.1 hx.1.2.1 (Nat.le_of_ble_eq_true rfl) (Nat.le_of_ble_eq_true rfl) (Nat.le_of_ble_eq_true rfl) (Nat.le_of_ble_eq_true rfl) (Nat.le_of_ble_eq_true rfl) ?_
    refine me_X3_byteHere hx ha ?_
    show bw_go _ _ _ _ _ _ _ 13 [(0, .ref _), (1, .ref _)] ((.int _) :: []) _ _
    refine go_cs (as := [.int _]) 0 dX3_readBear_13 rfl rfl mt_3_73 (Nat.le_of_ble_eq_true rfl) rfl rfl (Nat.le_of_ble_eq_true rfl) (Nat.le_of_ble_eq_true rfl) (Nat.le_of_ble_eq_true rfl) (Nat.le_of_ble_eq_true rfl) ?_
    refine me_X3_kindOfLetter ?_
    show bw_go _ _ _ _ _ _ _ 16 [(0, .ref _), (1, .ref _)] ((.int _) :: []) _ _
    refine go_goto (pc' := 21) dX3_readBear_16 rfl ?_
    show bw_go _ _ _ _ _ _ _ 21 [(0, .ref _), (1, .ref _)] ((.int _) :: []) _ _
    refine go_istore_n dX3_readBear_21 (Nat.lt_of_lt_of_le (Nat.lt_succ_self _) (Nat.le_of_ble_eq_true rfl)) ?_
    show bw_go _ _ _ _ _ _ _ 22 [(2, .int _), (0, .ref _), (1, .ref _)] ([]) _ _
    refine go_iload_n dX3_readBear_22 rfl ?_
    refine go_bipush (-9) dX3_readBear_23 rfl ?_
    refine go_icmp_ne (pc' := 37) dX3_readBear_25 rfl (fun c_25 => ?_) (fun c_25 => ?_)
    · -- ne at 25: yes
      have t_0 := nI_toInt (n := cN C) (by have := hc.2.2.1; omega)
      have l_0 : (6 : Int32).toInt = 6 := rfl
      simp only [i_le] at c_6
      have hnc : cN C < 6 := by omega
      obtain ⟨k, hk0⟩ : ∃ k, kol (by8 T a.1) = some k := by
        cases e : kol (by8 T a.1) with
        | none => exact absurd (kol_9.mpr e) c_25
        | some k => exact ⟨k, rfl⟩
      have hkl := kol_lt hk0
      rw [show mtI (kol (by8 T a.1)) = nI k by rw [hk0]; rfl]
      have e0 : (if cN C < 6 then kol (by8 T a.1) else none) = some k := by rw [if_pos hnc]; exact hk0
      refine go_aload_n dX3_readBear_37 rfl ?_
      refine go_dupA dX3_readBear_38 ?_
      refine go_gfi dX3_readBear_39 fl_3_24 rfl hx.1.1 hx.1.2.1 ?_
      rw [ha.1]
      refine go_iconst (1) dX3_readBear_42 rfl ?_
      refine go_iadd dX3_readBear_43 ?_
      refine go_pfi dX3_readBear_44 fl_3_24 rfl hx.1.1 hx.1.2.1 (Nat.le_of_ble_eq_true rfl) (Or.inl rfl) ?_
      show bw_go _ _ _ _ _ _ _ 47 [(2, .int _), (0, .ref _), (1, .ref _)] ([]) _ _
      rw [nI_1]
      have ha1 : rst (bw_si h r 2 (nI (a.1 + 1))) r T.1 (a.1 + 1, a.2) := rst_si0 ha hkl.1
      have hx1 : rx (bw_si h r 2 (nI (a.1 + 1))) r bb T := rx_si hx
      refine go_aload_n dX3_readBear_47 rfl ?_
      refine go_iconst (2) dX3_readBear_48 rfl ?_
      refine go_cv (as := [.int _]) 2 dX3_readBear_49 mt_3_79 (Or.inl rfl) rfl rfl hx.1.1 hx.1.2.1 (Nat.le_of_ble_eq_true rfl) (Nat.le_of_ble_eq_true rfl) (Nat.le_of_ble_eq_true rfl) (Nat.le_of_ble_eq_true rfl) (Nat.le_of_ble_eq_true rfl) ?_
      rw [show (2 : Int32) = nI 2 from rfl]
      refine me_X3_oneFigure hx1 ha1 (by decide) (fun I1 f1 a1 => ?_)
      have x1 := rx_fr hx1 f1
      show bw_go _ _ _ _ _ _ _ 52 [(2, .int _), (0, .ref _), (1, .ref _)] ((.int _) :: []) _ _
      refine go_istore_n dX3_readBear_52 (Nat.lt_of_lt_of_le (Nat.lt_succ_self _) (Nat.le_of_ble_eq_true rfl)) ?_
      show bw_go _ _ _ _ _ _ _ 53 [(3, .int _), (2, .int _), (0, .ref _), (1, .ref _)] ([]) _ _
      refine go_aload_n dX3_readBear_53 rfl ?_
      refine go_bipush (9) dX3_readBear_54 rfl ?_
      refine go_cv (as := [.int _]) 2 dX3_readBear_56 mt_3_79 (Or.inl rfl) rfl rfl hx.1.1 hx.1.2.1 (Nat.le_of_ble_eq_true rfl) (Nat.le_of_ble_eq_true rfl) (Nat.le_of_ble_eq_true rfl) (Nat.le_of_ble_eq_true rfl) (Nat.le_of_ble_eq_true rfl) ?_
      rw [show (9 : Int32) = nI 9 from rfl]
      refine me_X3_oneFigure x1 a1 (by decide) (fun I2 f2 a2 => ?_)
      have x2 := rx_fr x1 f2
      show bw_go _ _ _ _ _ _ _ 59 [(3, .int _), (2, .int _), (0, .ref _), (1, .ref _)] ((.int _) :: []) _ _
      refine go_istore dX3_readBear_59 (Nat.lt_of_lt_of_le (Nat.lt_succ_self _) (Nat.le_of_ble_eq_true rfl)) ?_
      show bw_go _ _ _ _ _ _ _ 61 [(4, .int _), (3, .int _), (2, .int _), (0, .ref _), (1, .ref _)] ([]) _ _
      refine go_aload_n dX3_readBear_61 rfl ?_
      refine go_cv (as := []) 3 dX3_readBear_62 mt_3_46 (Or.inl rfl) rfl rfl hx.1.1 hx.1.2.1 (Nat.le_of_ble_eq_true rfl) (Nat.le_of_ble_eq_true rfl) (Nat.le_of_ble_eq_true rfl) (Nat.le_of_ble_eq_true rfl) (Nat.le_of_ble_eq_true rfl) ?_
      refine me_X3_twoFigures x2 a2 (fun I3 f3 a3 => ?_)
      have g3 : rfr h I3 r := fun x hx1 => (f3 x hx1).trans ((f2 x hx1).trans ((f1 x hx1).trans (i_si_o hx1)))
      have hc3 : bw_ct (bw_wi h I3) c C := ct_r hc hp g3
      show bw_go _ _ _ _ _ _ _ 65 [(4, .int _), (3, .int _), (2, .int _), (0, .ref _), (1, .ref _)] ((.int _) :: []) _ _
      refine go_istore dX3_readBear_65 (Nat.lt_of_lt_of_le (Nat.lt_succ_self _) (Nat.le_of_ble_eq_true rfl)) ?_
      show bw_go _ _ _ _ _ _ _ 67 [(5, .int _), (4, .int _), (3, .int _), (2, .int _), (0, .ref _), (1, .ref _)] ([]) _ _
      refine go_aload_n dX3_readBear_67 rfl ?_
      refine go_gfi dX3_readBear_68 fl_3_27 rfl hx.1.1 hx.1.2.1 ?_
      rw [a3.2.2.1]
      refine go_bipush (-9) dX3_readBear_71 rfl ?_
      refine go_icmp_ne (pc' := 86) dX3_readBear_73 rfl (fun c_73 => ?_) (fun c_73 => ?_)
      · -- ne at 73: yes
        show bw_go _ _ _ _ _ _ _ 86 [(5, .int _), (4, .int _), (3, .int _), (2, .int _), (0, .ref _), (1, .ref _)] ([]) _ _
        refine go_vret dX3_readBear_86 rfl ?_
        unfold rbe at hQ
        simp only [e0] at hQ
        rw [if_neg (fun z => c_73 ((mtI_9 a3.2.2.2.2).mpr z))] at hQ
        exact hQ I3 (rf2_1 g3) a3 hc3
      · -- ne at 73: no
        show bw_go _ _ _ _ _ _ _ 76 [(5, .int _), (4, .int _), (3, .int _), (2, .int _), (0, .ref _), (1, .ref _)] ([]) _ _
        refine go_aload_n dX3_readBear_76 rfl ?_
        refine go_iload_n dX3_readBear_77 rfl ?_
        refine go_iload_n dX3_readBear_78 rfl ?_
        refine go_iload dX3_readBear_79 rfl ?_
        refine go_iload dX3_readBear_81 rfl ?_
        refine go_cv (as := [.int _, .int _, .int _, .int _]) 1 dX3_readBear_83 mt_3_82 (Or.inr rfl) rfl rfl hc.1.1.1 hc.1.1.2.1 (Nat.le_of_ble_eq_true rfl) (Nat.le_of_ble_eq_true rfl) (Nat.le_of_ble_eq_true rfl) (Nat.le_of_ble_eq_true rfl) (Nat.le_of_ble_eq_true rfl) ?_
        refine me_X1_seat (n := cN C) hc.1 hnc hc3.2.1.1 (fun I4 f4 => ?_)
        show bw_go _ _ _ _ _ _ _ 86 [(5, .int _), (4, .int _), (3, .int _), (2, .int _), (0, .ref _), (1, .ref _)] ([]) _ _
        refine go_vret dX3_readBear_86 rfl ?_
        have e84 := (mtI_9 a3.2.2.2.2).mp (Decidable.of_not_not c_73)
        unfold rbe at hQ
        simp only [e0] at hQ
        rw [if_pos e84] at hQ
        have hs2 := hp
        unfold rsep at hs2
        obtain ⟨i0, i2, i4, i6, i8, io⟩ := f4
        have f5 : rf2 (bw_wi h I3) I4 r c := fun x _ h0 h2 h4 h6 h8 => io x h0 h2 h4 h6 h8
        exact hQ I4 (rf2_t (rf2_1 g3) f5) (rst_wi (h := bw_wi h I3) a3 (io r (by omega) (by omega) (by omega) (by omega) (by omega))) (ct_stt (h := bw_wi h I3) hc3 hnc hkl.2 ofg_le ofg_le (tfg_v e84) ⟨i0, i2, i4, i6, i8⟩)
    · -- ne at 25: no
      show bw_go _ _ _ _ _ _ _ 28 [(2, .int _), (0, .ref _), (1, .ref _)] ([]) _ _
      refine go_aload_n dX3_readBear_28 rfl ?_
      refine go_aload_n dX3_readBear_29 rfl ?_
      refine go_gfi dX3_readBear_30 fl_3_24 rfl hx.1.1 hx.1.2.1 ?_
      rw [ha.1]
      refine go_cv (as := [.int _]) 0 dX3_readBear_33 mt_3_76 (Or.inl rfl) rfl rfl hx.1.1 hx.1.2.1 (Nat.le_of_ble_eq_true rfl) (Nat.le_of_ble_eq_true rfl) (Nat.le_of_ble_eq_true rfl) (Nat.le_of_ble_eq_true rfl) (Nat.le_of_ble_eq_true rfl) ?_
      refine me_X3_fail ⟨hx.1.1, hx.1.2.1⟩ ha (v := a.1) (by have := T_lt hx; have := ha.2.2.2.1; omega) (fun I0 f0 a0 => ?_)
      show bw_go _ _ _ _ _ _ _ 36 [(2, .int _), (0, .ref _), (1, .ref _)] ([]) _ _
      refine go_vret dX3_readBear_36 rfl ?_
      have t_0 := nI_toInt (n := cN C) (by have := hc.2.2.1; omega)
      have l_0 : (6 : Int32).toInt = 6 := rfl
      simp only [i_le] at c_6
      have e0 : (if cN C < 6 then kol (by8 T a.1) else none) = none := by rw [if_pos (by omega)]; exact kol_9.mp (Decidable.of_not_not c_25)
      have e1 : rbe T (C, a) = (C, a.1, a.2.or (some a.1)) := by unfold rbe; simp only [e0]
      rw [e1] at hQ
      exact hQ I0 (rf2_1 f0) a0 (ct_r hc hp f0)
