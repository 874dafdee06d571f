/-! the reference: its constructor -/
def mf (i : Nat) : Nat := if i < 8 then i else if i < 10 then i + 4 else i + 5
def msz (i : Nat) : Nat := match i with
  | 0 => 80
  | 1 => 240
  | 2 => 3
  | 3 => 240
  | 4 => 6
  | 5 => 240
  | 6 => 4
  | 7 => 6
  | 8 => 40
  | 9 => 80
  | 10 => 80
  | 11 => 4
  | 12 => 3
  | 13 => 4
  | 14 => 4
  | _ => 0
def mkd (i : Nat) : bw_K := .inr (if i = 2 then .boolean else .int, msz i)
def mI (a b i : Nat) : Nat → Int32 := if i = 4 then m1f a else if i = 6 then m1f b else fun _ => 0
theorem m1f_0 : m1f 0 = fun _ => 0 := by
  funext r; unfold m1f; rw [if_neg (by omega)]
theorem mI_0 (i : Nat) : mI 0 0 i = fun _ => 0 := by
  unfold mI; rw [m1f_0]
  by_cases h1 : i = 4
  · rw [if_pos h1]
  · rw [if_neg h1]
    by_cases h2 : i = 6
    · rw [if_pos h2]
    · rw [if_neg h2]
def mob (h0 g : bw_H) (L : Nat → Int64) (a b j : Nat) : Prop := bw_n g = 63 + j ∧ bw_k g 62 = .inl 8 ∧ (∀ i, i < j → bw_r g 62 (mf i) = some (63 + i) ∧ bw_k g (63 + i) = mkd i ∧ bw_i g (63 + i) = mI a b i) ∧ (∀ q, q < 62 → sm4 h0 g q) ∧ bw_i g 62 = (fun _ => 0) ∧ bw_l g 62 = L
theorem mf_inj {i j : Nat} (h : i < j) : mf i ≠ mf j := by
  unfold mf
  split <;> split <;> (try split) <;> (try split) <;> omega
theorem mob_s {h0 g : bw_H} {L : Nat → Int64} {j f n : Nat} {ty : FieldType} (ho : mob h0 g L 0 0 j) (hf : f = mf j) (hk : (.inr (ty, n) : bw_K) = mkd j) : mob h0 (bw_sr (bw_nw g (.inr (ty, n)) n) 62 f (some (bw_n g))) L 0 0 (j + 1) := by
  obtain ⟨o1, o2, o3, o4, o5, o6⟩ := ho
  subst hf
  have f1 : ∀ q, q < 63 + j → sm4 g (bw_nw g (.inr (ty, n)) n) q := fun q hq => nw_o (by omega)
  refine ⟨?_, (f1 62 (by omega)).1.trans o2, fun i hi => ?_, fun q hq => sm4_t (o4 q hq) (sm4_t (f1 q (by omega)) (sr_o (by omega))), (f1 62 (by omega)).2.1.trans o5, (f1 62 (by omega)).2.2.1.trans o6⟩
  · show bw_n g + 1 = _; omega
  · rw [r_sr_s]
    by_cases e : i = j
    · subst e
      refine ⟨by rw [bw_up_s, o1], ?_, ?_⟩
      · show bw_k (bw_nw g (.inr (ty, n)) n) (63 + i) = _
        rw [← o1, nwk_]; exact hk
      · show bw_i (bw_nw g (.inr (ty, n)) n) (63 + i) = _
        rw [← o1, nwi_, mI_0]
    · obtain ⟨b1, b2, b3⟩ := o3 i (by omega)
      rw [bw_up_o (mf_inj (by omega)), (f1 62 (by omega)).2.2.2]
      exact ⟨b1, (f1 _ (by omega)).1.trans b2, (f1 _ (by omega)).2.1.trans b3⟩
theorem go_mob {X : Nat × (Nat → Int32)} {d o nL : Nat} {ini : Bool} {rt : Option FieldType} {cc : ByteArray} {pc : Nat} {ls : bw_L} {st : List Value} {E h0 : bw_H} {Q : Option Value → bw_H → Prop} {L : Nat → Int64} {a b j : Nat} (ho : mob h0 E L a b j) (K : ∀ H, mob h0 H L a b j → bw_go X d o nL ini rt cc pc ls st H Q) : bw_go X d o nL ini rt cc pc ls st E Q := K E ho
theorem mob_l {h0 g : bw_H} {L : Nat → Int64} {a b j k : Nat} {v : Int64} (ho : mob h0 g L a b j) : mob h0 (bw_sl g 62 k v) (bw_up L k v) a b j := by
  obtain ⟨o1, o2, o3, o4, o5, o6⟩ := ho
  exact ⟨o1, o2, o3, fun q hq => sm4_t (o4 q hq) (sl_o (by omega)), o5, by rw [l_sl_s, o6]⟩
theorem mob_4 {h0 g : bw_H} {L : Nat → Int64} {a b : Nat} (ho : mob h0 g L a b 15) : mob h0 (bw_si g 67 a (-1)) L (a + 1) b 15 := by
  obtain ⟨o1, o2, o3, o4, o5, o6⟩ := ho
  refine ⟨o1, o2, fun i hi => ⟨(o3 i hi).1, (o3 i hi).2.1, ?_⟩, fun q hq => sm4_t (o4 q hq) (si_o (by omega)), (i_si_o (by decide)).trans o5, o6⟩
  by_cases e : i = 4
  · subst e
    rw [i_si_s, (o3 4 hi).2.2]
    exact m1f_s a
  · rw [i_si_o (by omega), (o3 i hi).2.2]
    unfold mI; rw [if_neg e, if_neg e]
theorem mob_6 {h0 g : bw_H} {L : Nat → Int64} {a b : Nat} (ho : mob h0 g L a b 15) : mob h0 (bw_si g 69 b (-1)) L a (b + 1) 15 := by
  obtain ⟨o1, o2, o3, o4, o5, o6⟩ := ho
  refine ⟨o1, o2, fun i hi => ⟨(o3 i hi).1, (o3 i hi).2.1, ?_⟩, fun q hq => sm4_t (o4 q hq) (si_o (by omega)), (i_si_o (by decide)).trans o5, o6⟩
  by_cases e : i = 6
  · subst e
    rw [i_si_s, (o3 6 hi).2.2]
    exact m1f_s b
  · rw [i_si_o (by omega), (o3 i hi).2.2]
    unfold mI; rw [if_neg e, if_neg e]
theorem mob_f {h0 g : bw_H} (ho : mob h0 g (bw_up (fun _ => 0) 11 1) 6 4 15) : MR (nm g) S00 := by
  obtain ⟨o1, o2, o3, o4, o5, o6⟩ := ho
  have hnb : 78 ≤ bw_n g := by omega
  have z61 : bw_i (nm g) 61 = fun _ => 0 := (i_re (p := 63) rfl).trans (o3 0 (by decide)).2.2
  have z63 : bw_i (nm g) 63 = fun _ => 0 := (i_re (p := 65) rfl).trans (o3 2 (by decide)).2.2
  have z65 : bw_i (nm g) 65 = m1f 6 := (i_re (p := 67) rfl).trans (o3 4 (by decide)).2.2
  have z67 : bw_i (nm g) 67 = m1f 4 := (i_re (p := 69) rfl).trans (o3 6 (by decide)).2.2
  have z68 : bw_i (nm g) 68 = fun _ => 0 := (i_re (p := 70) rfl).trans (o3 7 (by decide)).2.2
  refine ⟨⟨⟨by show 76 ≤ bw_n g; omega, k_re (p := 62) o2 rfl⟩, ⟨r_re (p := 62) (v := 63) (o3 0 (by decide)).1 rfl rfl, r_re (p := 62) (v := 64) (o3 1 (by decide)).1 rfl rfl, r_re (p := 62) (v := 65) (o3 2 (by decide)).1 rfl rfl, r_re (p := 62) (v := 66) (o3 3 (by decide)).1 rfl rfl, r_re (p := 62) (v := 67) (o3 4 (by decide)).1 rfl rfl, r_re (p := 62) (v := 68) (o3 5 (by decide)).1 rfl rfl, r_re (p := 62) (v := 69) (o3 6 (by decide)).1 rfl rfl, r_re (p := 62) (v := 70) (o3 7 (by decide)).1 rfl rfl, r_re (p := 62) (v := 71) (o3 8 (by decide)).1 rfl rfl, r_re (p := 62) (v := 72) (o3 9 (by decide)).1 rfl rfl, r_re (p := 62) (v := 73) (o3 10 (by decide)).1 rfl rfl, r_re (p := 62) (v := 74) (o3 11 (by decide)).1 rfl rfl, r_re (p := 62) (v := 75) (o3 12 (by decide)).1 rfl rfl, r_re (p := 62) (v := 76) (o3 13 (by decide)).1 rfl rfl, r_re (p := 62) (v := 77) (o3 14 (by decide)).1 rfl rfl⟩, k_re (p := 63) (o3 0 (by decide)).2.1 rfl, k_re (p := 64) (o3 1 (by decide)).2.1 rfl, k_re (p := 65) (o3 2 (by decide)).2.1 rfl, k_re (p := 66) (o3 3 (by decide)).2.1 rfl, k_re (p := 67) (o3 4 (by decide)).2.1 rfl, k_re (p := 68) (o3 5 (by decide)).2.1 rfl, k_re (p := 69) (o3 6 (by decide)).2.1 rfl, k_re (p := 70) (o3 7 (by decide)).2.1 rfl, k_re (p := 71) (o3 8 (by decide)).2.1 rfl, k_re (p := 72) (o3 9 (by decide)).2.1 rfl, k_re (p := 73) (o3 10 (by decide)).2.1 rfl, k_re (p := 74) (o3 11 (by decide)).2.1 rfl, k_re (p := 75) (o3 12 (by decide)).2.1 rfl, k_re (p := 76) (o3 13 (by decide)).2.1 rfl, k_re (p := 77) (o3 14 (by decide)).2.1 rfl⟩, ?_, ?_, ?_, ?_, ?_, ?_, ?_⟩
  · rw [z61]
    exact ⟨⟨rfl, rfl, rfl, fun i hi => absurd hi (Nat.not_lt_zero i)⟩, rfl, fun i hi => absurd hi (Nat.not_lt_zero i), fun i hi => absurd hi (Nat.not_lt_zero i)⟩
  · intro k hk
    rw [z63]
    exact ⟨fun _ => rfl, fun A z => by cases z⟩
  · intro r hr
    rw [z65]
    refine ⟨?_, (fun m z => by cases z), fun m z => by cases z⟩
    unfold m1f; rw [if_pos hr]; rfl
  · intro r hr
    rw [z67]
    refine ⟨?_, (fun m z => by cases z), fun m z => by cases z⟩
    unfold m1f; rw [if_pos hr]; rfl
  · intro f hf
    rw [z68]; rfl
  · unfold mFlg
    rw [i_re (p := 62) (p2 := 60) rfl, l_re (p := 62) (p2 := 60) rfl, o5, o6]
    exact ⟨rfl, rfl, rfl, rfl⟩
  · exact ⟨⟨⟨by decide, by decide, by decide, by decide, fun i hi => absurd hi (Nat.not_lt_zero i)⟩, by decide, fun i hi => absurd hi (Nat.not_lt_zero i)⟩, fun _ => rfl⟩
set_option maxRecDepth 100000 in
set_option maxHeartbeats 4000000 in
theorem me_X8_init {X : Nat × (Nat → Int32)} {Q : Option Value → bw_H → Prop} {h : bw_H} (hp : bw_n h = 63) (hk0 : bw_k h 62 = .inl 8) (hi0 : bw_i h 62 = fun _ => 0) (hl0 : bw_l h 62 = fun _ => 0) (hQ : ∀ g, MR (nm g) S00 → bw_n g = 78 → (∀ q, q < 62 → sm4 h g q) → Q none g) : bw_me X 0 bm_X8_init true [.ref 62] h Q := by
  show bw_go _ 0 8 2 true none cX8_init 0 [(0, .ref _)] [] _ _
  refine go_aload_n dX8_init_0 rfl ?_
  refine go_oi dX8_init_1 rfl (Nat.le_of_ble_eq_true rfl) ?_
  have ho : mob h h (fun _ => 0) 0 0 0 := ⟨hp, hk0, fun i hi => absurd hi (Nat.not_lt_zero i), fun q _ => sm4_r _ _, hi0, hl0⟩
  refine go_aload_n dX8_init_4 rfl ?_
  refine go_bipush (80) dX8_init_5 rfl ?_
  refine go_naI dX8_init_7 (by decide) ?_
  refine go_pfr dX8_init_9 fl_8_7 (Or.inr ⟨_, rfl⟩) (by first | (have := ho.1; omega) | (show 62 < bw_n _ + 1; have := ho.1; omega)) (by first | exact ho.2.1 | exact (nw_o (by have := ho.1; omega)).1.trans ho.2.1) (Nat.le_of_ble_eq_true rfl) ⟨rfl, rfl, rfl⟩ ?_
  show bw_go _ _ _ _ _ _ _ 12 [(0, .ref _)] ([]) _ _
  refine go_mob (mob_s ho rfl rfl) (fun H ho => ?_)
  refine go_aload_n dX8_init_12 rfl ?_
  refine go_sipush (240) dX8_init_13 rfl ?_
  refine go_naI dX8_init_16 (by decide) ?_
  refine go_pfr dX8_init_18 fl_8_13 (Or.inr ⟨_, rfl⟩) (by first | (have := ho.1; omega) | (show 62 < bw_n _ + 1; have := ho.1; omega)) (by first | exact ho.2.1 | exact (nw_o (by have := ho.1; omega)).1.trans ho.2.1) (Nat.le_of_ble_eq_true rfl) ⟨rfl, rfl, rfl⟩ ?_
  show bw_go _ _ _ _ _ _ _ 21 [(0, .ref _)] ([]) _ _
  refine go_mob (mob_s ho rfl rfl) (fun H ho => ?_)
  refine go_aload_n dX8_init_21 rfl ?_
  refine go_iconst (3) dX8_init_22 rfl ?_
  refine go_naZ dX8_init_23 (by decide) ?_
  refine go_pfr dX8_init_25 fl_8_16 (Or.inr ⟨_, rfl⟩) (by first | (have := ho.1; omega) | (show 62 < bw_n _ + 1; have := ho.1; omega)) (by first | exact ho.2.1 | exact (nw_o (by have := ho.1; omega)).1.trans ho.2.1) (Nat.le_of_ble_eq_true rfl) ⟨rfl, rfl, rfl⟩ ?_
  show bw_go _ _ _ _ _ _ _ 28 [(0, .ref _)] ([]) _ _
  refine go_mob (mob_s ho rfl rfl) (fun H ho => ?_)
  refine go_aload_n dX8_init_28 rfl ?_
  refine go_sipush (240) dX8_init_29 rfl ?_
  refine go_naI dX8_init_32 (by decide) ?_
  refine go_pfr dX8_init_34 fl_8_20 (Or.inr ⟨_, rfl⟩) (by first | (have := ho.1; omega) | (show 62 < bw_n _ + 1; have := ho.1; omega)) (by first | exact ho.2.1 | exact (nw_o (by have := ho.1; omega)).1.trans ho.2.1) (Nat.le_of_ble_eq_true rfl) ⟨rfl, rfl, rfl⟩ ?_
  show bw_go _ _ _ _ _ _ _ 37 [(0, .ref _)] ([]) _ _
  refine go_mob (mob_s ho rfl rfl) (fun H ho => ?_)
  refine go_aload_n dX8_init_37 rfl ?_
  refine go_bipush (6) dX8_init_38 rfl ?_
  refine go_naI dX8_init_40 (by decide) ?_
  refine go_pfr dX8_init_42 fl_8_23 (Or.inr ⟨_, rfl⟩) (by first | (have := ho.1; omega) | (show 62 < bw_n _ + 1; have := ho.1; omega)) (by first | exact ho.2.1 | exact (nw_o (by have := ho.1; omega)).1.trans ho.2.1) (Nat.le_of_ble_eq_true rfl) ⟨rfl, rfl, rfl⟩ ?_
  show bw_go _ _ _ _ _ _ _ 45 [(0, .ref _)] ([]) _ _
  refine go_mob (mob_s ho rfl rfl) (fun H ho => ?_)
  refine go_aload_n dX8_init_45 rfl ?_
  refine go_sipush (240) dX8_init_46 rfl ?_
  refine go_naI dX8_init_49 (by decide) ?_
  refine go_pfr dX8_init_51 fl_8_26 (Or.inr ⟨_, rfl⟩) (by first | (have := ho.1; omega) | (show 62 < bw_n _ + 1; have := ho.1; omega)) (by first | exact ho.2.1 | exact (nw_o (by have := ho.1; omega)).1.trans ho.2.1) (Nat.le_of_ble_eq_true rfl) ⟨rfl, rfl, rfl⟩ ?_
  show bw_go _ _ _ _ _ _ _ 54 [(0, .ref _)] ([]) _ _
  refine go_mob (mob_s ho rfl rfl) (fun H ho => ?_)
  refine go_aload_n dX8_init_54 rfl ?_
  refine go_iconst (4) dX8_init_55 rfl ?_
  refine go_naI dX8_init_56 (by decide) ?_
  refine go_pfr dX8_init_58 fl_8_29 (Or.inr ⟨_, rfl⟩) (by first | (have := ho.1; omega) | (show 62 < bw_n _ + 1; have := ho.1; omega)) (by first | exact ho.2.1 | exact (nw_o (by have := ho.1; omega)).1.trans ho.2.1) (Nat.le_of_ble_eq_true rfl) ⟨rfl, rfl, rfl⟩ ?_
  show bw_go _ _ _ _ _ _ _ 61 [(0, .ref _)] ([]) _ _
  refine go_mob (mob_s ho rfl rfl) (fun H ho => ?_)
  refine go_aload_n dX8_init_61 rfl ?_
  refine go_bipush (6) dX8_init_62 rfl ?_
  refine go_naI dX8_init_64 (by decide) ?_
  refine go_pfr dX8_init_66 fl_8_32 (Or.inr ⟨_, rfl⟩) (by first | (have := ho.1; omega) | (show 62 < bw_n _ + 1; have := ho.1; omega)) (by first | exact ho.2.1 | exact (nw_o (by have := ho.1; omega)).1.trans ho.2.1) (Nat.le_of_ble_eq_true rfl) ⟨rfl, rfl, rfl⟩ ?_
  show bw_go _ _ _ _ _ _ _ 69 [(0, .ref _)] ([]) _ _
  refine go_mob (mob_s ho rfl rfl) (fun H ho => ?_)
  refine go_aload_n dX8_init_69 rfl ?_
  refine go_lconst (1) dX8_init_70 rfl ?_
  refine go_pfl dX8_init_71 fl_8_35 rfl (by first | (have := ho.1; omega) | (show 62 < bw_n _ + 1; have := ho.1; omega)) (by first | exact ho.2.1 | exact (nw_o (by have := ho.1; omega)).1.trans ho.2.1) (Nat.le_of_ble_eq_true rfl) rfl ?_
  show bw_go _ _ _ _ _ _ _ 74 [(0, .ref _)] ([]) _ _
  refine go_mob (mob_l ho) (fun H ho => ?_)
  refine go_aload_n dX8_init_74 rfl ?_
  refine go_bipush (40) dX8_init_75 rfl ?_
  refine go_naI dX8_init_77 (by decide) ?_
  refine go_pfr dX8_init_79 fl_8_39 (Or.inr ⟨_, rfl⟩) (by first | (have := ho.1; omega) | (show 62 < bw_n _ + 1; have := ho.1; omega)) (by first | exact ho.2.1 | exact (nw_o (by have := ho.1; omega)).1.trans ho.2.1) (Nat.le_of_ble_eq_true rfl) ⟨rfl, rfl, rfl⟩ ?_
  show bw_go _ _ _ _ _ _ _ 82 [(0, .ref _)] ([]) _ _
  refine go_mob (mob_s ho rfl rfl) (fun H ho => ?_)
  refine go_aload_n dX8_init_82 rfl ?_
  refine go_bipush (80) dX8_init_83 rfl ?_
  refine go_naI dX8_init_85 (by decide) ?_
  refine go_pfr dX8_init_87 fl_8_42 (Or.inr ⟨_, rfl⟩) (by first | (have := ho.1; omega) | (show 62 < bw_n _ + 1; have := ho.1; omega)) (by first | exact ho.2.1 | exact (nw_o (by have := ho.1; omega)).1.trans ho.2.1) (Nat.le_of_ble_eq_true rfl) ⟨rfl, rfl, rfl⟩ ?_
  show bw_go _ _ _ _ _ _ _ 90 [(0, .ref _)] ([]) _ _
  refine go_mob (mob_s ho rfl rfl) (fun H ho => ?_)
  refine go_aload_n dX8_init_90 rfl ?_
  refine go_bipush (80) dX8_init_91 rfl ?_
  refine go_naI dX8_init_93 (by decide) ?_
  refine go_pfr dX8_init_95 fl_8_45 (Or.inr ⟨_, rfl⟩) (by first | (have := ho.1; omega) | (show 62 < bw_n _ + 1; have := ho.1; omega)) (by first | exact ho.2.1 | exact (nw_o (by have := ho.1; omega)).1.trans ho.2.1) (Nat.le_of_ble_eq_true rfl) ⟨rfl, rfl, rfl⟩ ?_
  show bw_go _ _ _ _ _ _ _ 98 [(0, .ref _)] ([]) _ _
  refine go_mob (mob_s ho rfl rfl) (fun H ho => ?_)
  refine go_aload_n dX8_init_98 rfl ?_
  refine go_iconst (4) dX8_init_99 rfl ?_
  refine go_naI dX8_init_100 (by decide) ?_
  refine go_pfr dX8_init_102 fl_8_48 (Or.inr ⟨_, rfl⟩) (by first | (have := ho.1; omega) | (show 62 < bw_n _ + 1; have := ho.1; omega)) (by first | exact ho.2.1 | exact (nw_o (by have := ho.1; omega)).1.trans ho.2.1) (Nat.le_of_ble_eq_true rfl) ⟨rfl, rfl, rfl⟩ ?_
  show bw_go _ _ _ _ _ _ _ 105 [(0, .ref _)] ([]) _ _
  refine go_mob (mob_s ho rfl rfl) (fun H ho => ?_)
  refine go_aload_n dX8_init_105 rfl ?_
  refine go_iconst (3) dX8_init_106 rfl ?_
  refine go_naI dX8_init_107 (by decide) ?_
  refine go_pfr dX8_init_109 fl_8_51 (Or.inr ⟨_, rfl⟩) (by first | (have := ho.1; omega) | (show 62 < bw_n _ + 1; have := ho.1; omega)) (by first | exact ho.2.1 | exact (nw_o (by have := ho.1; omega)).1.trans ho.2.1) (Nat.le_of_ble_eq_true rfl) ⟨rfl, rfl, rfl⟩ ?_
  show bw_go _ _ _ _ _ _ _ 112 [(0, .ref _)] ([]) _ _
  refine go_mob (mob_s ho rfl rfl) (fun H ho => ?_)
  refine go_aload_n dX8_init_112 rfl ?_
  refine go_iconst (4) dX8_init_113 rfl ?_
  refine go_naI dX8_init_114 (by decide) ?_
  refine go_pfr dX8_init_116 fl_8_54 (Or.inr ⟨_, rfl⟩) (by first | (have := ho.1; omega) | (show 62 < bw_n _ + 1; have := ho.1; omega)) (by first | exact ho.2.1 | exact (nw_o (by have := ho.1; omega)).1.trans ho.2.1) (Nat.le_of_ble_eq_true rfl) ⟨rfl, rfl, rfl⟩ ?_
  show bw_go _ _ _ _ _ _ _ 119 [(0, .ref _)] ([]) _ _
  refine go_mob (mob_s ho rfl rfl) (fun H ho => ?_)
  refine go_aload_n dX8_init_119 rfl ?_
  refine go_iconst (4) dX8_init_120 rfl ?_
  refine go_naI dX8_init_121 (by decide) ?_
  refine go_pfr dX8_init_123 fl_8_57 (Or.inr ⟨_, rfl⟩) (by first | (have := ho.1; omega) | (show 62 < bw_n _ + 1; have := ho.1; omega)) (by first | exact ho.2.1 | exact (nw_o (by have := ho.1; omega)).1.trans ho.2.1) (Nat.le_of_ble_eq_true rfl) ⟨rfl, rfl, rfl⟩ ?_
  show bw_go _ _ _ _ _ _ _ 126 [(0, .ref _)] ([]) _ _
  refine go_mob (mob_s ho rfl rfl) (fun H ho => ?_)
  refine go_iconst (0) dX8_init_126 rfl ?_
  refine go_istore_n dX8_init_127 (Nat.lt_of_lt_of_le (Nat.lt_succ_self _) (Nat.le_of_ble_eq_true rfl)) ?_
  show bw_go _ _ _ _ _ _ _ 128 [(1, .int _), (0, .ref _)] ([]) _ _
  refine go_for (P := fun k => ∀ (g : bw_H), (mob h g (bw_up (fun _ => 0) 11 1) k 0 15) → bw_go X 0 8 2 true none cX8_init 128 [(1, .int (nI k)), (0, .ref (62))] [] g Q) (N := 6) (fun k hk K => ?_) ?_ (0) (Nat.zero_le _) _ ho
  · -- a turn
    intro g hv
    show bw_go _ _ _ _ _ _ _ 128 [(1, .int _), (0, .ref _)] ([]) _ _
    refine go_iload_n dX8_init_128 rfl ?_
    refine go_bipush (6) dX8_init_129 rfl ?_
    refine go_icmp_ge (pc' := 147) dX8_init_131 rfl (fun c_131 => ?_) (fun c_131 => ?_)
    · -- ge at 131: yes
      exfalso; have t_0 := nI_toInt (n := k) (by omega); have l_0 : (6 : Int32).toInt = 6 := rfl; simp only [i_le, i_lt, i_eq, bi_eq] at c_131; omega
    · -- ge at 131: no
      show bw_go _ _ _ _ _ _ _ 134 [(1, .int _), (0, .ref _)] ([]) _ _
      refine go_aload_n dX8_init_134 rfl ?_
      refine go_gfr dX8_init_135 fl_8_23 rfl (by have := hv.1; omega) hv.2.1 (hv.2.2.1 4 (by decide)).1 ?_
      refine go_iload_n dX8_init_138 rfl ?_
      refine go_iconst (-1) dX8_init_139 rfl ?_
      refine go_ist dX8_init_140 ((hv.2.2.1 4 (by decide)).2.1) (by have := hv.1; omega) (n_in (N := 6) hk (by decide)) ?_
      show bw_go _ _ _ _ _ _ _ 141 [(1, .int _), (0, .ref _)] ([]) _ _
      refine go_iinc dX8_init_141 rfl (nI_1 k) (Nat.lt_of_lt_of_le (Nat.lt_succ_self _) (Nat.le_of_ble_eq_true rfl)) ?_
      show bw_go _ _ _ _ _ _ _ 144 [(1, .int _), (0, .ref _)] ([]) _ _
      refine go_goto (pc' := 128) dX8_init_144 rfl ?_
      have e9 := mob_4 hv
      rw [show bw_si g 67 k (-1) = bw_si g (63 + 4) (nI k).toNatClampNeg (-1) by rw [nI_clamp (by omega)]] at e9
      exact K _ e9
  · -- behind the last
    intro g hv
    show bw_go _ _ _ _ _ _ _ 128 [(1, .int _), (0, .ref _)] ([]) _ _
    refine go_iload_n dX8_init_128 rfl ?_
    refine go_bipush (6) dX8_init_129 rfl ?_
    refine go_icmp_ge (pc' := 147) dX8_init_131 rfl (fun c_131 => ?_) (fun c_131 => ?_)
    · -- ge at 131: yes
      show bw_go _ _ _ _ _ _ _ 147 [(1, .int _), (0, .ref _)] ([]) _ _
      refine go_iconst (0) dX8_init_147 rfl ?_
      refine go_istore_n dX8_init_148 (Nat.lt_of_lt_of_le (Nat.lt_succ_self _) (Nat.le_of_ble_eq_true rfl)) ?_
      show bw_go _ _ _ _ _ _ _ 149 [(1, .int _), (0, .ref _)] ([]) _ _
      refine go_for (P := fun k => ∀ (g : bw_H), (mob h g (bw_up (fun _ => 0) 11 1) 6 k 15) → bw_go X 0 8 2 true none cX8_init 149 [(1, .int (nI k)), (0, .ref (62))] [] g Q) (N := 4) (fun k hk K => ?_) ?_ (0) (Nat.zero_le _) _ hv
      · -- a turn
        intro g hv
        show bw_go _ _ _ _ _ _ _ 149 [(1, .int _), (0, .ref _)] ([]) _ _
        refine go_iload_n dX8_init_149 rfl ?_
        refine go_iconst (4) dX8_init_150 rfl ?_
        refine go_icmp_ge (pc' := 167) dX8_init_151 rfl (fun c_151 => ?_) (fun c_151 => ?_)
        · -- ge at 151: yes
          exfalso; have t_0 := nI_toInt (n := k) (by omega); have l_0 : (4 : Int32).toInt = 4 := rfl; simp only [i_le, i_lt, i_eq, bi_eq] at c_151; omega
        · -- ge at 151: no
          show bw_go _ _ _ _ _ _ _ 154 [(1, .int _), (0, .ref _)] ([]) _ _
          refine go_aload_n dX8_init_154 rfl ?_
          refine go_gfr dX8_init_155 fl_8_29 rfl (by have := hv.1; omega) hv.2.1 (hv.2.2.1 6 (by decide)).1 ?_
          refine go_iload_n dX8_init_158 rfl ?_
          refine go_iconst (-1) dX8_init_159 rfl ?_
          refine go_ist dX8_init_160 ((hv.2.2.1 6 (by decide)).2.1) (by have := hv.1; omega) (n_in (N := 4) hk (by decide)) ?_
          show bw_go _ _ _ _ _ _ _ 161 [(1, .int _), (0, .ref _)] ([]) _ _
          refine go_iinc dX8_init_161 rfl (nI_1 k) (Nat.lt_of_lt_of_le (Nat.lt_succ_self _) (Nat.le_of_ble_eq_true rfl)) ?_
          show bw_go _ _ _ _ _ _ _ 164 [(1, .int _), (0, .ref _)] ([]) _ _
          refine go_goto (pc' := 149) dX8_init_164 rfl ?_
          have e9 := mob_6 hv
          rw [show bw_si g 69 k (-1) = bw_si g (63 + 6) (nI k).toNatClampNeg (-1) by rw [nI_clamp (by omega)]] at e9
          exact K _ e9
      · -- behind the last
        intro g hv
        show bw_go _ _ _ _ _ _ _ 149 [(1, .int _), (0, .ref _)] ([]) _ _
        refine go_iload_n dX8_init_149 rfl ?_
        refine go_iconst (4) dX8_init_150 rfl ?_
        refine go_icmp_ge (pc' := 167) dX8_init_151 rfl (fun c_151 => ?_) (fun c_151 => ?_)
        · -- ge at 151: yes
          show bw_go _ _ _ _ _ _ _ 167 [(1, .int _), (0, .ref _)] ([]) _ _
          refine go_vret dX8_init_167 rfl ?_
          exact hQ g (mob_f hv) hv.1 hv.2.2.2.1
        · -- ge at 151: no
          exfalso; have t_0 := nI_toInt (n := 4) (by omega); have l_0 : (4 : Int32).toInt = 4 := rfl; simp only [i_le, i_lt, i_eq, bi_eq] at c_151; omega
    · -- ge at 131: no
      exfalso; have t_0 := nI_toInt (n := 6) (by omega); have l_0 : (6 : Int32).toInt = 6 := rfl; simp only [i_le, i_lt, i_eq, bi_eq] at c_131; omega
