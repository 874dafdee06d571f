/-! Looks: read from a text of pairs -/
theorem nI_div {a b : Nat} (ha : a < 2147483648) (hb : b < 2147483648) (hb0 : 0 < b) : nI a / nI b = nI (a / b) := by
  apply Int32.toInt_inj.mp
  have h1 : a / b ≤ a := Nat.div_le_self a b
  rw [Int32.toInt_div, nI_toInt ha, nI_toInt hb, nI_toInt (by omega), ← Int.ofNat_tdiv]
  generalize hz : a / b = z at *
  exact Int.bmod_eq_of_le (by omega) (by omega)
theorem nI_rem {a b : Nat} (ha : a < 2147483648) (hb : b < 2147483648) (hb0 : 0 < b) : nI a - nI a / nI b * nI b = nI (a % b) := by
  rw [nI_div ha hb hb0, nmul]
  have h1 := Nat.div_add_mod' a b
  have h2 : nI a = nI (a / b * b) + nI (a % b) := by rw [nI_add, h1]
  rw [h2, Int32.add_comm, Int32.add_sub_cancel]
theorem nn {a : Int32} (h : ¬ a < 0) : ∃ t, t < 2147483648 ∧ a = nI t := by
  rw [i_lt, i_0] at h
  have h1 := Int32.toInt_lt a
  refine ⟨a.toInt.toNat, by omega, Int32.toInt_inj.mp ?_⟩
  rw [nI_toInt (by omega)]; omega
def okp (a v : Int32) (n : Nat) : Bool := decide (0 ≤ a.toInt ∧ a.toNatClampNeg / 8 < n ∧ a.toNatClampNeg % 8 < 6 ∧ 0 ≤ v.toInt ∧ v.toInt ≤ 2)
def okR (F : Nat → Int32) (b n : Nat) : Nat → Bool
  | 0 => true
  | q + 1 => okR F b n q && okp (F (b + 2 * q)) (F (b + 2 * q + 1)) n
def rdf (S : Option Nat) (F : Nat → Int32) (b n : Nat) : Nat := match S with
  | none => 1
  | some m => if m % 2 = 0 ∧ m ≤ 16 then (if okR F b n (m / 2) = true then 0 else 3) else 5
def rdA (F : Nat → Int32) (b m : Nat) : LK := (m / 2, fun q => (F (b + 2 * q)).toNatClampNeg / 8, fun q => (F (b + 2 * q)).toNatClampNeg % 8, fun q => (F (b + 2 * q + 1)).toNatClampNeg)
theorem okR_f {F : Nat → Int32} {b n q m : Nat} (hq : q < m) (h : okp (F (b + 2 * q)) (F (b + 2 * q + 1)) n = false) : okR F b n m = false := by
  induction m with
  | zero => omega
  | succ m ih =>
    show (okR F b n m && okp (F (b + 2 * m)) (F (b + 2 * m + 1)) n) = false
    by_cases e : q = m
    · subst e; rw [h, Bool.and_false]
    · rw [ih (by omega), Bool.false_and]
theorem okR_t {F : Nat → Int32} {b n m : Nat} (h : okR F b n m = true) : ∀ q, q < m → okp (F (b + 2 * q)) (F (b + 2 * q + 1)) n = true := by
  intro q hq
  cases e : okp (F (b + 2 * q)) (F (b + 2 * q + 1)) n with
  | true => rfl
  | false => rw [okR_f hq e] at h; cases h
def rd_fr (h : bw_H) (I : Nat → Nat → Int32) (p : Nat) : Prop := ∀ x, x ≠ p → x ≠ p + 2 → x ≠ p + 4 → x ≠ p + 6 → I x = bw_i h x
def rd_i (h g : bw_H) (p : Nat) (F : Nat → Int32) (b m n q : Nat) : Prop := (g = bw_wi h (bw_i g) ∧ rd_fr h (bw_i g) p) ∧ bw_i g p 0 = nI (m / 2) ∧ okR F b n q = true ∧ ∀ i, i < q → bw_i g (p + 2) i = nI ((rdA F b m).2.1 i) ∧ bw_i g (p + 4) i = nI ((rdA F b m).2.2.1 i) ∧ bw_i g (p + 6) i = tvI ((rdA F b m).2.2.2 i)
theorem sf_fr {h g : bw_H} {s num wid p : Nat} (hc : bw_sf h s num wid) (hg : g = bw_wi h (bw_i g)) (hf : rd_fr h (bw_i g) p) (ha : p + 7 ≤ s ∨ s + 5 ≤ p) : bw_sf g s num wid ∧ bw_i g (s + 2) = bw_i h (s + 2) ∧ bw_i g (s + 4) = bw_i h (s + 4) := by
  have e0 : bw_i g s = bw_i h s := hf _ (by omega) (by omega) (by omega) (by omega)
  obtain ⟨h1, h2, h3, h4, h5, h6⟩ := hc
  exact ⟨⟨by rw [hg]; exact h1, by rw [hg]; exact h2, by rw [hg]; exact h3, by rw [e0]; exact h4, by rw [e0]; exact h5, h6⟩, hf _ (by omega) (by omega) (by omega) (by omega), hf _ (by omega) (by omega) (by omega) (by omega)⟩
theorem pin_m {m wid i : Nat} (hs : sok (some m) wid) (hi : i < 100) (hw : wid < 100) (him : i < m) : pin (some m) (nI i) = true := by
  have := hs m rfl
  unfold pin
  simp only [decide_eq_true_eq, nI_toInt (show i < 2147483648 by omega)]
  omega
set_option maxRecDepth 100000 in
set_option maxHeartbeats 4000000 in
theorem me_X2_readFrom {X : Nat × (Nat → Int32)} {Q : Option Value → bw_H → Prop} {h : bw_H} {p s num wid j n : Nat} {S : Option Nat} (hk : lk_s h p) (hc : bw_sf h s num wid) (hj : j < num) (hS : bw_i h (s + 2) j = oz S) (hs : sok S wid) (hn : n ≤ 6) (ha : p + 7 ≤ s ∨ s + 5 ≤ p) (hQ : ∀ I : Nat → Nat → Int32, rd_fr h I p → (∀ m, S = some m → rdf S (bw_i h (s + 4)) (j * wid) n = 0 → lk_v (bw_wi h I) p (rdA (bw_i h (s + 4)) (j * wid) m) n) → Q (some (.int (nI (rdf S (bw_i h (s + 4)) (j * wid) n)))) (bw_wi h I)) : bw_me X 4 bm_X2_readFrom false [.ref p, .ref s, .int (nI j), .int (nI n)] h Q := by
  show bw_go _ 4 2 8 false (some .int) cX2_readFrom 0 [(0, .ref _), (1, .ref _), (2, .int _), (3, .int _)] [] _ _
  have hQ0 : ∀ z : Nat, rdf S (bw_i h (s + 4)) (j * wid) n = z → ∀ {g : bw_H}, rd_fr h (bw_i g) p → (∀ m, S = some m → z = 0 → lk_v g p (rdA (bw_i h (s + 4)) (j * wid) m) n) → g = bw_wi h (bw_i g) → Q (some (.int (nI z))) g := by
    intro z hz g hf hl hg
    subst hz
    rw [hg]; exact hQ _ hf (by rw [← hg]; exact hl)
  refine go_aload_n dX2_readFrom_0 rfl ?_
  refine go_iload_n dX2_readFrom_1 rfl ?_
  refine go_cv (as := [.int _]) 2 dX2_readFrom_2 mt_2_34 (Or.inr rfl) rfl rfl hc.1.1 hc.1.2.1 (Nat.le_of_ble_eq_true rfl) (Nat.le_of_ble_eq_true rfl) (Nat.le_of_ble_eq_true rfl) (Nat.le_of_ble_eq_true rfl) (Nat.le_of_ble_eq_true rfl) ?_
  refine me_X4_has hc hj hS hs ?_
  show bw_go _ _ _ _ _ _ _ 5 [(0, .ref _), (1, .ref _), (2, .int _), (3, .int _)] ((.int _) :: []) _ _
  refine go_ifb_ne (pc' := 10) dX2_readFrom_5 rfl (fun c_5 => ?_) (fun c_5 => ?_)
  · -- ne at 5: yes
    show bw_go _ _ _ _ _ _ _ 10 [(0, .ref _), (1, .ref _), (2, .int _), (3, .int _)] ([]) _ _
    obtain ⟨m, rfl⟩ := Option.isSome_iff_exists.mp c_5
    have hm2 := hs m rfl
    have hw2 := hc.2.2.2.2.2.2
    refine go_aload_n dX2_readFrom_10 rfl ?_
    refine go_iload_n dX2_readFrom_11 rfl ?_
    refine go_cv (as := [.int _]) 1 dX2_readFrom_12 mt_2_40 (Or.inr rfl) rfl rfl hc.1.1 hc.1.2.1 (Nat.le_of_ble_eq_true rfl) (Nat.le_of_ble_eq_true rfl) (Nat.le_of_ble_eq_true rfl) (Nat.le_of_ble_eq_true rfl) (Nat.le_of_ble_eq_true rfl) ?_
    refine me_X4_sizeOf hc hj hS ?_
    show bw_go _ _ _ _ _ _ _ 15 [(0, .ref _), (1, .ref _), (2, .int _), (3, .int _)] ((.int _) :: []) _ _
    refine go_istore dX2_readFrom_15 (Nat.lt_of_lt_of_le (Nat.lt_succ_self _) (Nat.le_of_ble_eq_true rfl)) ?_
    show bw_go _ _ _ _ _ _ _ 17 [(4, .int _), (0, .ref _), (1, .ref _), (2, .int _), (3, .int _)] ([]) _ _
    refine go_iload dX2_readFrom_17 rfl ?_
    refine go_iconst (2) dX2_readFrom_19 rfl ?_
    refine go_irem dX2_readFrom_20 (by decide) ?_
    rw [show oz (some m) = nI m from rfl, show (2 : Int32) = nI 2 from rfl, nI_rem (by omega) (by decide) (by decide)]
    refine go_if_ne (pc' := 31) dX2_readFrom_21 rfl (fun c_21 => ?_) (fun c_21 => ?_)
    · -- ne at 21: yes
      show bw_go _ _ _ _ _ _ _ 31 [(4, .int _), (0, .ref _), (1, .ref _), (2, .int _), (3, .int _)] ([]) _ _
      refine go_iconst (5) dX2_readFrom_31 rfl ?_
      refine go_iret dX2_readFrom_32 rfl rfl ?_
      have t_m := nI_toInt (n := m) (by omega); have t_r := nI_toInt (n := m % 2) (by omega); have l_0 := i_0; have l_16 : (16 : Int32).toInt = 16 := rfl; simp only [i_eq] at c_21
      refine hQ0 5 ?_ (fun x _ _ _ _ => rfl) (fun _ _ z => absurd z (by decide)) rfl
      unfold rdf; (try simp only); rw [if_neg (by omega)]
    · -- ne at 21: no
      show bw_go _ _ _ _ _ _ _ 24 [(4, .int _), (0, .ref _), (1, .ref _), (2, .int _), (3, .int _)] ([]) _ _
      refine go_iload dX2_readFrom_24 rfl ?_
      refine go_bipush (16) dX2_readFrom_26 rfl ?_
      refine go_icmp_le (pc' := 33) dX2_readFrom_28 rfl (fun c_28 => ?_) (fun c_28 => ?_)
      · -- le at 28: yes
        show bw_go _ _ _ _ _ _ _ 33 [(4, .int _), (0, .ref _), (1, .ref _), (2, .int _), (3, .int _)] ([]) _ _
        have hm : m % 2 = 0 ∧ m ≤ 16 := by have t_m := nI_toInt (n := m) (by omega); have t_r := nI_toInt (n := m % 2) (by omega); have l_0 := i_0; have l_16 : (16 : Int32).toInt = 16 := rfl; simp only [i_eq] at c_21; simp only [i_le, i_lt] at c_28; omega
        refine go_aload_n dX2_readFrom_33 rfl ?_
        refine go_iload dX2_readFrom_34 rfl ?_
        refine go_iconst (2) dX2_readFrom_36 rfl ?_
        refine go_idiv dX2_readFrom_37 (by decide) ?_
        rw [show (2 : Int32) = nI 2 from rfl, nI_div (by omega) (by decide) (by decide)]
        refine go_pfi dX2_readFrom_38 fl_2_9 rfl hk.1.1 hk.1.2.1 (Nat.le_of_ble_eq_true rfl) (Or.inl rfl) ?_
        show bw_go _ _ _ _ _ _ _ 41 [(4, .int _), (0, .ref _), (1, .ref _), (2, .int _), (3, .int _)] ([]) _ _
        refine go_iconst (0) dX2_readFrom_41 rfl ?_
        refine go_istore dX2_readFrom_42 (Nat.lt_of_lt_of_le (Nat.lt_succ_self _) (Nat.le_of_ble_eq_true rfl)) ?_
        show bw_go _ _ _ _ _ _ _ 44 [(5, .int _), (4, .int _), (0, .ref _), (1, .ref _), (2, .int _), (3, .int _)] ([]) _ _
        have hv0 : rd_i h (bw_si h p 0 (nI (m / 2))) p (bw_i h (s + 4)) (j * wid) m n 0 := ⟨⟨rfl, fun x h1 _ _ _ => i_si_o h1⟩, by rw [i_si_s, bw_up_s], rfl, fun i hi => absurd hi (Nat.not_lt_zero i)⟩
        have hk0 := hk
        have hc0 := hc
        have hS0 := hS
        have hm16 := hm.2
        refine go_for (P := fun q => ∀ g : bw_H, (rd_i h g p (bw_i h (s + 4)) (j * wid) m n q) → bw_go X 4 2 8 false (some .int) cX2_readFrom 44 [(5, .int (nI q)), (4, .int (nI m)), (0, .ref (p)), (1, .ref (s)), (2, .int (nI j)), (3, .int (nI n))] [] g Q) (N := m / 2) (fun q hq K => ?_) ?_ (0) (Nat.zero_le _) _ hv0
        · -- a turn
          intro g hv
          have hk : lk_s g p := by rw [hv.1.1]; exact hk0
          obtain ⟨hc, hS2, hF⟩ := sf_fr hc0 hv.1.1 hv.1.2 ha
          have hS : bw_i g (s + 2) j = oz (some m) := by rw [hS2]; exact hS0
          have hw2 := hc.2.2.2.2.2.2
          have hm2 := hs m rfl
          show bw_go _ _ _ _ _ _ _ 44 [(5, .int _), (4, .int _), (0, .ref _), (1, .ref _), (2, .int _), (3, .int _)] ([]) _ _
          refine go_iload dX2_readFrom_44 rfl ?_
          refine go_aload_n dX2_readFrom_46 rfl ?_
          refine go_gfi dX2_readFrom_47 fl_2_9 rfl hk.1.1 hk.1.2.1 ?_
          rw [hv.2.1]
          refine go_icmp_ge (pc' := 172) dX2_readFrom_50 rfl (fun c_50 => ?_) (fun c_50 => ?_)
          · -- ge at 50: yes
            exfalso; have t_0 := nI_toInt (n := m / 2) (by omega); have t_1 := nI_toInt (n := q) (by omega); simp only [i_le, i_lt, i_eq, bi_eq] at c_50; omega
          · -- ge at 50: no
            show bw_go _ _ _ _ _ _ _ 53 [(5, .int _), (4, .int _), (0, .ref _), (1, .ref _), (2, .int _), (3, .int _)] ([]) _ _
            refine go_aload_n dX2_readFrom_53 rfl ?_
            refine go_iload_n dX2_readFrom_54 rfl ?_
            refine go_iconst (2) dX2_readFrom_55 rfl ?_
            refine go_iload dX2_readFrom_56 rfl ?_
            refine go_imul dX2_readFrom_58 ?_
            refine go_cv (as := [.int _, .int _]) 3 dX2_readFrom_59 mt_2_44 (Or.inr rfl) rfl rfl hc.1.1 hc.1.2.1 (Nat.le_of_ble_eq_true rfl) (Nat.le_of_ble_eq_true rfl) (Nat.le_of_ble_eq_true rfl) (Nat.le_of_ble_eq_true rfl) (Nat.le_of_ble_eq_true rfl) ?_
            refine me_X4_get hc hj hS hs ?_
            rw [show (2 : Int32) = nI 2 from rfl, nmul, if_pos (pin_m hs (i := 2 * q) (by omega) hw2 (by omega)), nI_clamp (by omega), hF]
            generalize hA : bw_i h (s + 4) (j * wid + 2 * q) = a
            show bw_go _ _ _ _ _ _ _ 62 [(5, .int _), (4, .int _), (0, .ref _), (1, .ref _), (2, .int _), (3, .int _)] ((.int _) :: []) _ _
            refine go_istore dX2_readFrom_62 (Nat.lt_of_lt_of_le (Nat.lt_succ_self _) (Nat.le_of_ble_eq_true rfl)) ?_
            show bw_go _ _ _ _ _ _ _ 64 [(6, .int _), (5, .int _), (4, .int _), (0, .ref _), (1, .ref _), (2, .int _), (3, .int _)] ([]) _ _
            refine go_aload_n dX2_readFrom_64 rfl ?_
            refine go_iload_n dX2_readFrom_65 rfl ?_
            refine go_iconst (2) dX2_readFrom_66 rfl ?_
            refine go_iload dX2_readFrom_67 rfl ?_
            refine go_imul dX2_readFrom_69 ?_
            refine go_iconst (1) dX2_readFrom_70 rfl ?_
            refine go_iadd dX2_readFrom_71 ?_
            refine go_cv (as := [.int _, .int _]) 3 dX2_readFrom_72 mt_2_44 (Or.inr rfl) rfl rfl hc.1.1 hc.1.2.1 (Nat.le_of_ble_eq_true rfl) (Nat.le_of_ble_eq_true rfl) (Nat.le_of_ble_eq_true rfl) (Nat.le_of_ble_eq_true rfl) (Nat.le_of_ble_eq_true rfl) ?_
            refine me_X4_get hc hj hS hs ?_
            rw [show (2 : Int32) = nI 2 from rfl, nmul, nI_1, if_pos (pin_m hs (i := 2 * q + 1) (by omega) hw2 (by omega)), nI_clamp (by omega), hF, show j * wid + (2 * q + 1) = j * wid + 2 * q + 1 from rfl]
            generalize hB : bw_i h (s + 4) (j * wid + 2 * q + 1) = v
            show bw_go _ _ _ _ _ _ _ 75 [(6, .int _), (5, .int _), (4, .int _), (0, .ref _), (1, .ref _), (2, .int _), (3, .int _)] ((.int _) :: []) _ _
            refine go_istore dX2_readFrom_75 (Nat.lt_of_lt_of_le (Nat.lt_succ_self _) (Nat.le_of_ble_eq_true rfl)) ?_
            show bw_go _ _ _ _ _ _ _ 77 [(7, .int _), (6, .int _), (5, .int _), (4, .int _), (0, .ref _), (1, .ref _), (2, .int _), (3, .int _)] ([]) _ _
            refine go_iload dX2_readFrom_77 rfl ?_
            refine go_if_lt (pc' := 101) dX2_readFrom_79 rfl (fun c_79 => ?_) (fun c_79 => ?_)
            · -- lt at 79: yes
              show bw_go _ _ _ _ _ _ _ 101 [(7, .int _), (6, .int _), (5, .int _), (4, .int _), (0, .ref _), (1, .ref _), (2, .int _), (3, .int _)] ([]) _ _
              refine go_iconst (3) dX2_readFrom_101 rfl ?_
              refine go_iret dX2_readFrom_102 rfl rfl ?_
              have hbad : okp (bw_i h (s + 4) (j * wid + 2 * q)) (bw_i h (s + 4) (j * wid + 2 * q + 1)) n = false := by
                rw [hA, hB]; refine decide_eq_false (fun z => ?_)
                simp only [i_lt, i_0] at c_79; omega
              rw [hv.1.1]
              refine hQ0 3 ?_ hv.1.2 (fun _ _ z => absurd z (by decide)) rfl
              show rdf (some m) _ _ _ = 3
              unfold rdf; (try simp only)
              rw [if_pos hm, if_neg (by rw [okR_f hq hbad]; decide)]
            · -- lt at 79: no
              show bw_go _ _ _ _ _ _ _ 82 [(7, .int _), (6, .int _), (5, .int _), (4, .int _), (0, .ref _), (1, .ref _), (2, .int _), (3, .int _)] ([]) _ _
              obtain ⟨t, ha2, rfl⟩ := nn c_79
              refine go_iload dX2_readFrom_82 rfl ?_
              refine go_bipush (8) dX2_readFrom_84 rfl ?_
              refine go_idiv dX2_readFrom_86 (by decide) ?_
              rw [show (8 : Int32) = nI 8 from rfl, nI_div ha2 (by decide) (by decide)]
              refine go_iload_n dX2_readFrom_87 rfl ?_
              refine go_icmp_ge (pc' := 101) dX2_readFrom_88 rfl (fun c_88 => ?_) (fun c_88 => ?_)
              · -- ge at 88: yes
                show bw_go _ _ _ _ _ _ _ 101 [(7, .int _), (6, .int _), (5, .int _), (4, .int _), (0, .ref _), (1, .ref _), (2, .int _), (3, .int _)] ([]) _ _
                refine go_iconst (3) dX2_readFrom_101 rfl ?_
                refine go_iret dX2_readFrom_102 rfl rfl ?_
                have hbad : okp (bw_i h (s + 4) (j * wid + 2 * q)) (bw_i h (s + 4) (j * wid + 2 * q + 1)) n = false := by
                  rw [hA, hB]; refine decide_eq_false (fun z => ?_)
                  have e1 : (nI t).toNatClampNeg = t := nI_clamp ha2; have t_1 := nI_toInt (n := t / 8) (by omega); have t_2 := nI_toInt (n := t % 8) (by omega); have t_3 := nI_toInt (n := n) (by omega); have l_6 : (6 : Int32).toInt = 6 := rfl; simp only [i_le] at c_88; omega
                rw [hv.1.1]
                refine hQ0 3 ?_ hv.1.2 (fun _ _ z => absurd z (by decide)) rfl
                show rdf (some m) _ _ _ = 3
                unfold rdf; (try simp only)
                rw [if_pos hm, if_neg (by rw [okR_f hq hbad]; decide)]
              · -- ge at 88: no
                show bw_go _ _ _ _ _ _ _ 91 [(7, .int _), (6, .int _), (5, .int _), (4, .int _), (0, .ref _), (1, .ref _), (2, .int _), (3, .int _)] ([]) _ _
                refine go_iload dX2_readFrom_91 rfl ?_
                refine go_bipush (8) dX2_readFrom_93 rfl ?_
                refine go_irem dX2_readFrom_95 (by decide) ?_
                rw [show (8 : Int32) = nI 8 from rfl, nI_rem ha2 (by decide) (by decide)]
                refine go_bipush (6) dX2_readFrom_96 rfl ?_
                refine go_icmp_lt (pc' := 103) dX2_readFrom_98 rfl (fun c_98 => ?_) (fun c_98 => ?_)
                · -- lt at 98: yes
                  show bw_go _ _ _ _ _ _ _ 103 [(7, .int _), (6, .int _), (5, .int _), (4, .int _), (0, .ref _), (1, .ref _), (2, .int _), (3, .int _)] ([]) _ _
                  have c1 : t / 8 < n := by have e1 : (nI t).toNatClampNeg = t := nI_clamp ha2; have t_1 := nI_toInt (n := t / 8) (by omega); have t_2 := nI_toInt (n := t % 8) (by omega); have t_3 := nI_toInt (n := n) (by omega); have l_6 : (6 : Int32).toInt = 6 := rfl; simp only [i_le] at c_88; omega
                  have c2 : t % 8 < 6 := by have e1 : (nI t).toNatClampNeg = t := nI_clamp ha2; have t_1 := nI_toInt (n := t / 8) (by omega); have t_2 := nI_toInt (n := t % 8) (by omega); have t_3 := nI_toInt (n := n) (by omega); have l_6 : (6 : Int32).toInt = 6 := rfl; simp only [i_lt] at c_98; omega
                  refine go_iload dX2_readFrom_103 rfl ?_
                  refine go_if_lt (pc' := 114) dX2_readFrom_105 rfl (fun c_105 => ?_) (fun c_105 => ?_)
                  · -- lt at 105: yes
                    show bw_go _ _ _ _ _ _ _ 114 [(7, .int _), (6, .int _), (5, .int _), (4, .int _), (0, .ref _), (1, .ref _), (2, .int _), (3, .int _)] ([]) _ _
                    refine go_iconst (3) dX2_readFrom_114 rfl ?_
                    refine go_iret dX2_readFrom_115 rfl rfl ?_
                    have hbad : okp (bw_i h (s + 4) (j * wid + 2 * q)) (bw_i h (s + 4) (j * wid + 2 * q + 1)) n = false := by
                      rw [hA, hB]; refine decide_eq_false (fun z => ?_)
                      simp only [i_lt, i_0] at c_105; omega
                    rw [hv.1.1]
                    refine hQ0 3 ?_ hv.1.2 (fun _ _ z => absurd z (by decide)) rfl
                    show rdf (some m) _ _ _ = 3
                    unfold rdf; (try simp only)
                    rw [if_pos hm, if_neg (by rw [okR_f hq hbad]; decide)]
                  · -- lt at 105: no
                    show bw_go _ _ _ _ _ _ _ 108 [(7, .int _), (6, .int _), (5, .int _), (4, .int _), (0, .ref _), (1, .ref _), (2, .int _), (3, .int _)] ([]) _ _
                    obtain ⟨u, hb2, rfl⟩ := nn c_105
                    refine go_iload dX2_readFrom_108 rfl ?_
                    refine go_iconst (2) dX2_readFrom_110 rfl ?_
                    refine go_icmp_le (pc' := 116) dX2_readFrom_111 rfl (fun c_111 => ?_) (fun c_111 => ?_)
                    · -- le at 111: yes
                      show bw_go _ _ _ _ _ _ _ 116 [(7, .int _), (6, .int _), (5, .int _), (4, .int _), (0, .ref _), (1, .ref _), (2, .int _), (3, .int _)] ([]) _ _
                      have c3 : u ≤ 2 := by have t_4 := nI_toInt hb2; have l_2 : (2 : Int32).toInt = 2 := rfl; simp only [i_le, i_lt] at c_111; omega
                      refine go_aload_n dX2_readFrom_116 rfl ?_
                      refine go_gfr dX2_readFrom_117 fl_2_20 rfl hk.1.1 hk.1.2.1 hk.1.2.2.1 ?_
                      refine go_iload dX2_readFrom_120 rfl ?_
                      refine go_iload dX2_readFrom_122 rfl ?_
                      refine go_bipush (8) dX2_readFrom_124 rfl ?_
                      refine go_idiv dX2_readFrom_126 (by decide) ?_
                      rw [show (8 : Int32) = nI 8 from rfl, nI_div ha2 (by decide) (by decide)]
                      refine go_cv (as := [.int _, .int _]) 0 dX2_readFrom_127 mt_2_48 (Or.inr rfl) rfl rfl hk.2.1.1 hk.2.1.2.1 (Nat.le_of_ble_eq_true rfl) (Nat.le_of_ble_eq_true rfl) (Nat.le_of_ble_eq_true rfl) (Nat.le_of_ble_eq_true rfl) (Nat.le_of_ble_eq_true rfl) ?_
                      refine me_X0_set hk.2.1 ?_
                      (try simp (disch := omega) only [i_sa_o])
                      rw [cs_n (N := 8) (by omega) (by decide)]
                      show bw_go _ _ _ _ _ _ _ 130 [(7, .int _), (6, .int _), (5, .int _), (4, .int _), (0, .ref _), (1, .ref _), (2, .int _), (3, .int _)] ([]) _ _
                      refine go_aload_n dX2_readFrom_130 rfl ?_
                      refine go_gfr dX2_readFrom_131 fl_2_24 rfl hk.1.1 hk.1.2.1 hk.1.2.2.2.1 ?_
                      refine go_iload dX2_readFrom_134 rfl ?_
                      refine go_iload dX2_readFrom_136 rfl ?_
                      refine go_bipush (8) dX2_readFrom_138 rfl ?_
                      refine go_irem dX2_readFrom_140 (by decide) ?_
                      rw [show (8 : Int32) = nI 8 from rfl, nI_rem ha2 (by decide) (by decide)]
                      refine go_cv (as := [.int _, .int _]) 0 dX2_readFrom_141 mt_2_48 (Or.inr rfl) rfl rfl hk.2.2.1.1 hk.2.2.1.2.1 (Nat.le_of_ble_eq_true rfl) (Nat.le_of_ble_eq_true rfl) (Nat.le_of_ble_eq_true rfl) (Nat.le_of_ble_eq_true rfl) (Nat.le_of_ble_eq_true rfl) ?_
                      refine me_X0_set hk.2.2.1 ?_
                      (try simp (disch := omega) only [i_sa_o])
                      rw [cs_n (N := 8) (by omega) (by decide)]
                      show bw_go _ _ _ _ _ _ _ 144 [(7, .int _), (6, .int _), (5, .int _), (4, .int _), (0, .ref _), (1, .ref _), (2, .int _), (3, .int _)] ([]) _ _
                      refine go_aload_n dX2_readFrom_144 rfl ?_
                      refine go_gfr dX2_readFrom_145 fl_2_27 rfl hk.1.1 hk.1.2.1 hk.1.2.2.2.2 ?_
                      refine go_iload dX2_readFrom_148 rfl ?_
                      refine go_iload dX2_readFrom_150 rfl ?_
                      refine go_iconst (2) dX2_readFrom_152 rfl ?_
                      refine go_icmp_ne (pc' := 161) dX2_readFrom_153 rfl (fun c_153 => ?_) (fun c_153 => ?_)
                      · -- ne at 153: yes
                        show bw_go _ _ _ _ _ _ _ 161 [(7, .int _), (6, .int _), (5, .int _), (4, .int _), (0, .ref _), (1, .ref _), (2, .int _), (3, .int _)] ((.int _) :: (.ref _) :: []) _ _
                        refine go_iload dX2_readFrom_161 rfl ?_
                        refine go_cv (as := [.int _, .int _]) 0 dX2_readFrom_163 mt_2_48 (Or.inr rfl) rfl rfl hk.2.2.2.1 hk.2.2.2.2.1 (Nat.le_of_ble_eq_true rfl) (Nat.le_of_ble_eq_true rfl) (Nat.le_of_ble_eq_true rfl) (Nat.le_of_ble_eq_true rfl) (Nat.le_of_ble_eq_true rfl) ?_
                        refine me_X0_set hk.2.2.2 ?_
                        (try simp (disch := omega) only [i_sa_o])
                        rw [cs_n (N := 8) (by omega) (by decide)]
                        show bw_go _ _ _ _ _ _ _ 166 [(7, .int _), (6, .int _), (5, .int _), (4, .int _), (0, .ref _), (1, .ref _), (2, .int _), (3, .int _)] ([]) _ _
                        refine go_iinc dX2_readFrom_166 rfl (nI_1 q) (Nat.lt_of_lt_of_le (Nat.lt_succ_self _) (Nat.le_of_ble_eq_true rfl)) ?_
                        show bw_go _ _ _ _ _ _ _ 169 [(5, .int _), (7, .int _), (6, .int _), (4, .int _), (0, .ref _), (1, .ref _), (2, .int _), (3, .int _)] ([]) _ _
                        refine go_goto (pc' := 44) dX2_readFrom_169 rfl ?_
                        refine go_ls [(5, .int _), (4, .int _), (0, .ref _), (1, .ref _), (2, .int _), (3, .int _)] (by show List.Nodup ([5, 4, 0, 1, 2, 3] : List Nat); decide) (by show List.Nodup ([5, 7, 6, 4, 0, 1, 2, 3] : List Nat); decide) (le_cons rfl (le_cons rfl (le_cons rfl (le_cons rfl (le_cons rfl (le_cons rfl (le_nil _))))))) ?_
                        refine K _ ⟨⟨by rw [hv.1.1]; rfl, fun x h1 h2 h3 h4 => ?_⟩, ?_, ?_, fun i hi => ?_⟩
                        · rw [i_sa_o h4, i_sa_o h3, i_sa_o h2]; exact hv.1.2 x h1 h2 h3 h4
                        · simp (disch := omega) only [i_sa_o]; exact hv.2.1
                        · show (okR _ _ n q && okp (bw_i h (s + 4) (j * wid + 2 * q)) (bw_i h (s + 4) (j * wid + 2 * q + 1)) n) = true
                          rw [hv.2.2.1, Bool.true_and, hA, hB]
                          exact decide_eq_true ⟨by rw [nI_toInt ha2]; omega, by rw [nI_clamp ha2]; exact c1, by rw [nI_clamp ha2]; exact c2, by rw [nI_toInt hb2]; omega, by rw [nI_toInt hb2]; omega⟩
                        · simp (disch := omega) only [i_sa_s, i_sa_o]
                          by_cases hik : i = q
                          · subst hik; rw [bw_up_s, bw_up_s, bw_up_s]
                            show _ = nI ((bw_i h (s + 4) (j * wid + 2 * i)).toNatClampNeg / 8) ∧ _ = nI ((bw_i h (s + 4) (j * wid + 2 * i)).toNatClampNeg % 8) ∧ _ = tvI ((bw_i h (s + 4) (j * wid + 2 * i + 1)).toNatClampNeg)
                            rw [hA, hB, nI_clamp ha2, nI_clamp hb2]
                            refine ⟨rfl, rfl, ?_⟩
                            unfold tvI
                            first | (rw [if_pos (by have t_0 := nI_toInt hb2; have l_0 : (2 : Int32).toInt = 2 := rfl; simp only [i_eq] at c_153; omega)]; done) | (rw [if_neg (by have t_0 := nI_toInt hb2; have l_0 : (2 : Int32).toInt = 2 := rfl; simp only [i_eq] at c_153; omega)]; done)
                          · rw [bw_up_o hik, bw_up_o hik, bw_up_o hik]; exact hv.2.2.2 i (by omega)
                      · -- ne at 153: no
                        show bw_go _ _ _ _ _ _ _ 156 [(7, .int _), (6, .int _), (5, .int _), (4, .int _), (0, .ref _), (1, .ref _), (2, .int _), (3, .int _)] ((.int _) :: (.ref _) :: []) _ _
                        refine go_bipush (-9) dX2_readFrom_156 rfl ?_
                        refine go_goto (pc' := 163) dX2_readFrom_158 rfl ?_
                        show bw_go _ _ _ _ _ _ _ 163 [(7, .int _), (6, .int _), (5, .int _), (4, .int _), (0, .ref _), (1, .ref _), (2, .int _), (3, .int _)] ((.int _) :: (.int _) :: (.ref _) :: []) _ _
                        refine go_cv (as := [.int _, .int _]) 0 dX2_readFrom_163 mt_2_48 (Or.inr rfl) rfl rfl hk.2.2.2.1 hk.2.2.2.2.1 (Nat.le_of_ble_eq_true rfl) (Nat.le_of_ble_eq_true rfl) (Nat.le_of_ble_eq_true rfl) (Nat.le_of_ble_eq_true rfl) (Nat.le_of_ble_eq_true rfl) ?_
                        refine me_X0_set hk.2.2.2 ?_
                        (try simp (disch := omega) only [i_sa_o])
                        rw [cs_n (N := 8) (by omega) (by decide)]
                        show bw_go _ _ _ _ _ _ _ 166 [(7, .int _), (6, .int _), (5, .int _), (4, .int _), (0, .ref _), (1, .ref _), (2, .int _), (3, .int _)] ([]) _ _
                        refine go_iinc dX2_readFrom_166 rfl (nI_1 q) (Nat.lt_of_lt_of_le (Nat.lt_succ_self _) (Nat.le_of_ble_eq_true rfl)) ?_
                        show bw_go _ _ _ _ _ _ _ 169 [(5, .int _), (7, .int _), (6, .int _), (4, .int _), (0, .ref _), (1, .ref _), (2, .int _), (3, .int _)] ([]) _ _
                        refine go_goto (pc' := 44) dX2_readFrom_169 rfl ?_
                        refine go_ls [(5, .int _), (4, .int _), (0, .ref _), (1, .ref _), (2, .int _), (3, .int _)] (by show List.Nodup ([5, 4, 0, 1, 2, 3] : List Nat); decide) (by show List.Nodup ([5, 7, 6, 4, 0, 1, 2, 3] : List Nat); decide) (le_cons rfl (le_cons rfl (le_cons rfl (le_cons rfl (le_cons rfl (le_cons rfl (le_nil _))))))) ?_
                        refine K _ ⟨⟨by rw [hv.1.1]; rfl, fun x h1 h2 h3 h4 => ?_⟩, ?_, ?_, fun i hi => ?_⟩
                        · rw [i_sa_o h4, i_sa_o h3, i_sa_o h2]; exact hv.1.2 x h1 h2 h3 h4
                        · simp (disch := omega) only [i_sa_o]; exact hv.2.1
                        · show (okR _ _ n q && okp (bw_i h (s + 4) (j * wid + 2 * q)) (bw_i h (s + 4) (j * wid + 2 * q + 1)) n) = true
                          rw [hv.2.2.1, Bool.true_and, hA, hB]
                          exact decide_eq_true ⟨by rw [nI_toInt ha2]; omega, by rw [nI_clamp ha2]; exact c1, by rw [nI_clamp ha2]; exact c2, by rw [nI_toInt hb2]; omega, by rw [nI_toInt hb2]; omega⟩
                        · simp (disch := omega) only [i_sa_s, i_sa_o]
                          by_cases hik : i = q
                          · subst hik; rw [bw_up_s, bw_up_s, bw_up_s]
                            show _ = nI ((bw_i h (s + 4) (j * wid + 2 * i)).toNatClampNeg / 8) ∧ _ = nI ((bw_i h (s + 4) (j * wid + 2 * i)).toNatClampNeg % 8) ∧ _ = tvI ((bw_i h (s + 4) (j * wid + 2 * i + 1)).toNatClampNeg)
                            rw [hA, hB, nI_clamp ha2, nI_clamp hb2]
                            refine ⟨rfl, rfl, ?_⟩
                            unfold tvI
                            first | (rw [if_pos (by have t_0 := nI_toInt hb2; have l_0 : (2 : Int32).toInt = 2 := rfl; simp only [i_eq] at c_153; omega)]; done) | (rw [if_neg (by have t_0 := nI_toInt hb2; have l_0 : (2 : Int32).toInt = 2 := rfl; simp only [i_eq] at c_153; omega)]; done)
                          · rw [bw_up_o hik, bw_up_o hik, bw_up_o hik]; exact hv.2.2.2 i (by omega)
                    · -- le at 111: no
                      show bw_go _ _ _ _ _ _ _ 114 [(7, .int _), (6, .int _), (5, .int _), (4, .int _), (0, .ref _), (1, .ref _), (2, .int _), (3, .int _)] ([]) _ _
                      refine go_iconst (3) dX2_readFrom_114 rfl ?_
                      refine go_iret dX2_readFrom_115 rfl rfl ?_
                      have hbad : okp (bw_i h (s + 4) (j * wid + 2 * q)) (bw_i h (s + 4) (j * wid + 2 * q + 1)) n = false := by
                        rw [hA, hB]; refine decide_eq_false (fun z => ?_)
                        have t_4 := nI_toInt hb2; have l_2 : (2 : Int32).toInt = 2 := rfl; simp only [i_le, i_lt] at c_111; omega
                      rw [hv.1.1]
                      refine hQ0 3 ?_ hv.1.2 (fun _ _ z => absurd z (by decide)) rfl
                      show rdf (some m) _ _ _ = 3
                      unfold rdf; (try simp only)
                      rw [if_pos hm, if_neg (by rw [okR_f hq hbad]; decide)]
                · -- lt at 98: no
                  show bw_go _ _ _ _ _ _ _ 101 [(7, .int _), (6, .int _), (5, .int _), (4, .int _), (0, .ref _), (1, .ref _), (2, .int _), (3, .int _)] ([]) _ _
                  refine go_iconst (3) dX2_readFrom_101 rfl ?_
                  refine go_iret dX2_readFrom_102 rfl rfl ?_
                  have hbad : okp (bw_i h (s + 4) (j * wid + 2 * q)) (bw_i h (s + 4) (j * wid + 2 * q + 1)) n = false := by
                    rw [hA, hB]; refine decide_eq_false (fun z => ?_)
                    have e1 : (nI t).toNatClampNeg = t := nI_clamp ha2; have t_1 := nI_toInt (n := t / 8) (by omega); have t_2 := nI_toInt (n := t % 8) (by omega); have t_3 := nI_toInt (n := n) (by omega); have l_6 : (6 : Int32).toInt = 6 := rfl; simp only [i_lt] at c_98; omega
                  rw [hv.1.1]
                  refine hQ0 3 ?_ hv.1.2 (fun _ _ z => absurd z (by decide)) rfl
                  show rdf (some m) _ _ _ = 3
                  unfold rdf; (try simp only)
                  rw [if_pos hm, if_neg (by rw [okR_f hq hbad]; decide)]
        · -- behind the last
          intro g hv
          have hm2 := hs m rfl
          have hw2 := hc0.2.2.2.2.2.2
          have hk : lk_s g p := by rw [hv.1.1]; exact hk0
          show bw_go _ _ _ _ _ _ _ 44 [(5, .int _), (4, .int _), (0, .ref _), (1, .ref _), (2, .int _), (3, .int _)] ([]) _ _
          refine go_iload dX2_readFrom_44 rfl ?_
          refine go_aload_n dX2_readFrom_46 rfl ?_
          refine go_gfi dX2_readFrom_47 fl_2_9 rfl hk.1.1 hk.1.2.1 ?_
          rw [hv.2.1]
          refine go_icmp_ge (pc' := 172) dX2_readFrom_50 rfl (fun c_50 => ?_) (fun c_50 => ?_)
          · -- ge at 50: yes
            show bw_go _ _ _ _ _ _ _ 172 [(5, .int _), (4, .int _), (0, .ref _), (1, .ref _), (2, .int _), (3, .int _)] ([]) _ _
            refine go_iconst (0) dX2_readFrom_172 rfl ?_
            refine go_iret dX2_readFrom_173 rfl rfl ?_
            have hz : rdf (some m) (bw_i h (s + 4)) (j * wid) n = 0 := by
              unfold rdf; (try simp only); rw [if_pos hm, if_pos hv.2.2.1]
            rw [hv.1.1]
            refine hQ0 0 hz hv.1.2 (fun m1 e1 _ => ?_) rfl
            cases e1
            refine ⟨hv.2.1, ?_, fun q hq => ⟨hv.2.2.2 q hq, ?_⟩⟩
            · show m / 2 ≤ 8; omega
            · have k1 := of_decide_eq_true (okR_t hv.2.2.1 q hq)
              refine ⟨k1.2.1, k1.2.2.1, ?_⟩
              show (bw_i h (s + 4) (j * wid + 2 * q + 1)).toNatClampNeg ≤ 2
              have k2 := k1.2.2.2.2
              rw [Int32.toNatClampNeg]; omega
          · -- ge at 50: no
            exfalso; have t_0 := nI_toInt (n := m / 2) (by omega); simp only [i_le, i_lt, i_eq, bi_eq] at c_50; omega
      · -- le at 28: no
        show bw_go _ _ _ _ _ _ _ 31 [(4, .int _), (0, .ref _), (1, .ref _), (2, .int _), (3, .int _)] ([]) _ _
        refine go_iconst (5) dX2_readFrom_31 rfl ?_
        refine go_iret dX2_readFrom_32 rfl rfl ?_
        have t_m := nI_toInt (n := m) (by omega); have t_r := nI_toInt (n := m % 2) (by omega); have l_0 := i_0; have l_16 : (16 : Int32).toInt = 16 := rfl; simp only [i_le, i_lt] at c_28
        refine hQ0 5 ?_ (fun x _ _ _ _ => rfl) (fun _ _ z => absurd z (by decide)) rfl
        unfold rdf; (try simp only); rw [if_neg (by omega)]
  · -- ne at 5: no
    show bw_go _ _ _ _ _ _ _ 8 [(0, .ref _), (1, .ref _), (2, .int _), (3, .int _)] ([]) _ _
    refine go_iconst (1) dX2_readFrom_8 rfl ?_
    refine go_iret dX2_readFrom_9 rfl rfl ?_
    refine hQ0 1 ?_ (fun x _ _ _ _ => rfl) (fun _ _ z => absurd z (by decide)) rfl
    have e1 : S = none := by cases S with
      | none => rfl
      | some _ => cases c_5
    rw [e1]; rfl
