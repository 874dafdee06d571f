/-! Reader: a court's text, byte by byte -/
abbrev TX : Type := Nat × (Nat → Int32)
abbrev RS : Type := Nat × Option Nat
def mtI : Option Nat → Int32
  | none => -9
  | some p => nI p
def by8 (T : TX) (i : Nat) : Int32 := if i < T.1 then T.2 i else 256
def kol (c : Int32) : Option Nat := if c = 98 then some 0 else if c = 108 then some 1 else if c = 112 then some 2 else if c = 109 then some 3 else if c = 103 then some 4 else if c = 114 then some 5 else none
def skf (T : TX) : Nat → Nat → Nat
  | 0, i => i
  | k + 1, i => if i < T.1 ∧ T.2 i = 32 then skf T k (i + 1) else i
def skp (T : TX) (i : Nat) : Nat := skf T (T.1 - i) i
theorem skp_s (T : TX) (i : Nat) (h : i < T.1 ∧ T.2 i = 32) : skp T i = skp T (i + 1) := by
  unfold skp
  rw [show T.1 - i = (T.1 - (i + 1)) + 1 by omega]
  show (if i < T.1 ∧ T.2 i = 32 then skf T (T.1 - (i + 1)) (i + 1) else i) = _
  rw [if_pos h]
theorem skp_o (T : TX) (i : Nat) (h : ¬ (i < T.1 ∧ T.2 i = 32)) : skp T i = i := by
  unfold skp
  cases e : T.1 - i with
  | zero => rfl
  | succ k =>
    show (if i < T.1 ∧ T.2 i = 32 then skf T k (i + 1) else i) = _
    rw [if_neg h]
theorem skp_le (T : TX) : ∀ k i, T.1 - i = k → i ≤ T.1 → i ≤ skp T i ∧ skp T i ≤ T.1 := by
  intro k
  induction k with
  | zero => intro i h1 h2; rw [skp_o T i (by omega)]; omega
  | succ k ih =>
    intro i h1 h2
    by_cases h : i < T.1 ∧ T.2 i = 32
    · rw [skp_s T i h]
      have := ih (i + 1) (by omega) (by omega)
      omega
    · rw [skp_o T i h]; omega
def fg (T : TX) (hi i : Nat) : Option Nat := if 48 ≤ (by8 T i).toInt ∧ (by8 T i).toInt ≤ 48 + hi then some ((by8 T i).toInt.toNat - 48) else none
def ofg (T : TX) (hi : Nat) (a : RS) : Nat × RS := match fg T hi a.1 with
  | some v => (v, a.1 + 1, a.2)
  | none => (0, a.1, a.2.or (some a.1))
def tfg (T : TX) (a : RS) : Nat × RS :=
  if (ofg T 9 a).2.2 = none then
    (let b := ofg T 9 (ofg T 9 a).2
     let v := 10 * (ofg T 9 a).1 + b.1
     (v, b.2.1, if 63 < v then b.2.2.or (some a.1) else b.2.2))
  else (0, (ofg T 9 a).2)
def rx (h : bw_H) (r bb : Nat) (T : TX) : Prop := (r < bw_n h ∧ bw_k h r = .inl 3 ∧ bw_r h r 0 = some bb) ∧ bw_ce h bb (bb + 1) 60 ∧ T.1 ≤ 60 ∧ (∀ i, i < T.1 → bw_i h (bb + 1) i = T.2 i) ∧ r ≠ bb + 1
def rst (h : bw_H) (r m : Nat) (a : RS) : Prop := bw_i h r 2 = nI a.1 ∧ bw_i h r 1 = nI m ∧ bw_i h r 3 = mtI a.2 ∧ a.1 ≤ m ∧ ∀ p, a.2 = some p → p < 1000
def rfr (h : bw_H) (I : Nat → Nat → Int32) (r : Nat) : Prop := ∀ x, x ≠ r → I x = bw_i h x
theorem rx_wi {h : bw_H} {r bb : Nat} {T : TX} {I : Nat → Nat → Int32} (hx : rx h r bb T) (h1 : I (bb + 1) = bw_i h (bb + 1)) : rx (bw_wi h I) r bb T := by
  obtain ⟨a1, a2, a3, a4, a5⟩ := hx
  exact ⟨a1, a2, a3, fun i hi => by rw [i_wi, h1]; exact a4 i hi, a5⟩
theorem rx_fr {h : bw_H} {r bb : Nat} {T : TX} {I : Nat → Nat → Int32} (hx : rx h r bb T) (hf : rfr h I r) : rx (bw_wi h I) r bb T :=
  rx_wi hx (hf _ (fun z => hx.2.2.2.2 z.symm))
theorem si_id {h : bw_H} {q k : Nat} {v : Int32} (e : bw_i h q k = v) : bw_si h q k v = h := by
  rw [si_sa]
  have : bw_up (bw_i h q) k v = bw_i h q := by
    funext x
    unfold bw_up
    split
    · rename_i hx; subst hx; exact e.symm
    · rfl
  rw [this, sa_id]
theorem si_si (h : bw_H) (q k : Nat) (v u : Int32) : bw_si (bw_si h q k v) q k u = bw_si h q k u := by
  rw [si_sa, si_sa, si_sa, sa_sa, i_sa_s]
  congr 1
  funext x
  unfold bw_up
  split <;> rfl
theorem rx_si {h : bw_H} {r bb : Nat} {T : TX} {k : Nat} {v : Int32} (hx : rx h r bb T) : rx (bw_si h r k v) r bb T := rx_fr (I := bw_i (bw_si h r k v)) hx (fun x hx1 => i_si_o hx1)
theorem rst_si0 {h : bw_H} {r m k : Nat} {a : RS} (ha : rst h r m a) (hk : k ≤ m) : rst (bw_si h r 2 (nI k)) r m (k, a.2) :=
  ⟨by rw [i_si_s, bw_up_s], by rw [i_si_s, bw_up_o (by decide)]; exact ha.2.1, by rw [i_si_s, bw_up_o (by decide)]; exact ha.2.2.1, hk, ha.2.2.2.2⟩
theorem rst_si2 {h : bw_H} {r m v : Nat} {a : RS} (ha : rst h r m a) (hv : v < 1000) : rst (bw_si h r 3 (nI v)) r m (a.1, some v) :=
  ⟨by rw [i_si_s, bw_up_o (by decide)]; exact ha.1, by rw [i_si_s, bw_up_o (by decide)]; exact ha.2.1, by rw [i_si_s, bw_up_s]; rfl, ha.2.2.2.1, fun p hp => by cases hp; exact hv⟩
theorem q_r {Q : Option Value → bw_H → Prop} {h : bw_H} {r m : Nat} {b : RS} {res : Option Value} (hQ : ∀ I : Nat → Nat → Int32, rfr h I r → rst (bw_wi h I) r m b → Q res (bw_wi h I)) {g : bw_H} (hg : g = bw_wi h (bw_i g)) (hf : rfr h (bw_i g) r) (hr : rst g r m b) : Q res g := by
  rw [hg]; exact hQ _ hf (by rw [← hg]; exact hr)
theorem mtI_9 {m : Option Nat} (h : ∀ p, m = some p → p < 1000) : mtI m = -9 ↔ m = none := by
  cases m with
  | none => exact ⟨fun _ => rfl, fun _ => rfl⟩
  | some p =>
    have h1 := h p rfl
    constructor
    · intro e
      have t_0 := nI_toInt (n := p) (by omega)
      have e2 : (nI p).toInt = (-9 : Int32).toInt := congrArg _ e
      have l_9 : (-9 : Int32).toInt = -9 := rfl
      omega
    · intro e; cases e
theorem T_lt {h : bw_H} {r bb : Nat} {T : TX} (hx : rx h r bb T) : T.1 < 100 := by
  have h1 := hx.2.2.1
  omega
theorem fg_e {T : TX} {hi i v : Nat} (h : fg T hi i = some v) : v ≤ hi ∧ by8 T i = nI (48 + v) := by
  unfold fg at h
  split at h
  · rename_i h1
    cases h
    refine ⟨by omega, Int32.toInt_inj.mp ?_⟩
    have h3 := Int32.toInt_lt (by8 T i)
    rw [nI_toInt (by omega)]; omega
  · cases h
theorem ofg_le {T : TX} {hi : Nat} {a : RS} : (ofg T hi a).1 ≤ hi := by
  unfold ofg
  split
  · rename_i v e; exact (fg_e e).1
  · exact Nat.zero_le _
set_option maxRecDepth 100000 in
set_option maxHeartbeats 4000000 in
theorem me_X3_byteHere {X : Nat × (Nat → Int32)} {Q : Option Value → bw_H → Prop} {h : bw_H} {r bb : Nat} {T : TX} {a : RS} (hx : rx h r bb T) (ha : rst h r T.1 a) (hQ : Q (some (.int (by8 T a.1))) h) : bw_me X 1 bm_X3_byteHere false [.ref r] h Q := by
  show bw_go _ 1 3 1 false (some .int) cX3_byteHere 0 [(0, .ref _)] [] _ _
  have hm := T_lt hx
  have h60 := hx.2.2.1
  have ham := ha.2.2.2.1
  refine go_aload_n dX3_byteHere_0 rfl ?_
  refine go_gfi dX3_byteHere_1 fl_3_24 rfl hx.1.1 hx.1.2.1 ?_
  rw [ha.1]
  refine go_aload_n dX3_byteHere_4 rfl ?_
  refine go_gfi dX3_byteHere_5 fl_3_20 rfl hx.1.1 hx.1.2.1 ?_
  rw [ha.2.1]
  refine go_icmp_ge (pc' := 25) dX3_byteHere_8 rfl (fun c_8 => ?_) (fun c_8 => ?_)
  · -- ge at 8: yes
    show bw_go _ _ _ _ _ _ _ 25 [(0, .ref _)] ([]) _ _
    refine go_sipush (256) dX3_byteHere_25 rfl ?_
    refine go_iret dX3_byteHere_28 rfl rfl ?_
    have t_0 := nI_toInt (n := a.1) (by omega); have t_1 := nI_toInt (n := T.1) (by omega); simp only [i_le] at c_8
    unfold by8 at hQ; rw [if_neg (by omega)] at hQ; exact hQ
  · -- ge at 8: no
    show bw_go _ _ _ _ _ _ _ 11 [(0, .ref _)] ([]) _ _
    have t_0 := nI_toInt (n := a.1) (by omega); have t_1 := nI_toInt (n := T.1) (by omega); simp only [i_le] at c_8
    refine go_aload_n dX3_byteHere_11 rfl ?_
    refine go_gfr dX3_byteHere_12 fl_3_14 rfl hx.1.1 hx.1.2.1 hx.1.2.2 ?_
    refine go_aload_n dX3_byteHere_15 rfl ?_
    refine go_gfi dX3_byteHere_16 fl_3_24 rfl hx.1.1 hx.1.2.1 ?_
    rw [ha.1]
    refine go_cv (as := [.int _]) 0 dX3_byteHere_19 mt_3_86 (Or.inr rfl) rfl rfl hx.2.1.1 hx.2.1.2.1 (Nat.le_of_ble_eq_true rfl) (Nat.le_of_ble_eq_true rfl) (Nat.le_of_ble_eq_true rfl) (Nat.le_of_ble_eq_true rfl) (Nat.le_of_ble_eq_true rfl) ?_
    refine me_X0_get hx.2.1 ?_
    rw [cg_n (k := a.1) (by omega) (by decide), hx.2.2.2.1 _ (by omega)]
    show bw_go _ _ _ _ _ _ _ 22 [(0, .ref _)] ((.int _) :: []) _ _
    refine go_goto (pc' := 28) dX3_byteHere_22 rfl ?_
    show bw_go _ _ _ _ _ _ _ 28 [(0, .ref _)] ((.int _) :: []) _ _
    refine go_iret dX3_byteHere_28 rfl rfl ?_
    unfold by8 at hQ; rw [if_pos (by omega)] at hQ; exact hQ
set_option maxRecDepth 100000 in
set_option maxHeartbeats 4000000 in
theorem me_X3_fail {X : Nat × (Nat → Int32)} {Q : Option Value → bw_H → Prop} {h : bw_H} {r m v : Nat} {a : RS} (hr : r < bw_n h ∧ bw_k h r = .inl 3) (ha : rst h r m a) (hv : v < 1000) (hQ : ∀ I : Nat → Nat → Int32, rfr h I r → rst (bw_wi h I) r m (a.1, a.2.or (some v)) → Q none (bw_wi h I)) : bw_me X 0 bm_X3_fail false [.ref r, .int (nI v)] h Q := by
  show bw_go _ 0 3 2 false none cX3_fail 0 [(0, .ref _), (1, .int _)] [] _ _
  refine go_aload_n dX3_fail_0 rfl ?_
  refine go_gfi dX3_fail_1 fl_3_27 rfl hr.1 hr.2 ?_
  rw [ha.2.2.1]
  refine go_bipush (-9) dX3_fail_4 rfl ?_
  refine go_icmp_ne (pc' := 14) dX3_fail_6 rfl (fun c_6 => ?_) (fun c_6 => ?_)
  · -- ne at 6: yes
    show bw_go _ _ _ _ _ _ _ 14 [(0, .ref _), (1, .int _)] ([]) _ _
    refine go_vret dX3_fail_14 rfl ?_
    have e1 : a.2 ≠ none := fun z => c_6 ((mtI_9 ha.2.2.2.2).mpr z)
    have e2 : a.2.or (some v) = a.2 := by cases e : a.2 with
      | none => exact absurd e e1
      | some _ => rfl
    refine hQ (bw_i h) (fun x _ => rfl) ?_
    rw [e2]; exact ha
  · -- ne at 6: no
    show bw_go _ _ _ _ _ _ _ 9 [(0, .ref _), (1, .int _)] ([]) _ _
    refine go_aload_n dX3_fail_9 rfl ?_
    refine go_iload_n dX3_fail_10 rfl ?_
    refine go_pfi dX3_fail_11 fl_3_27 rfl hr.1 hr.2 (Nat.le_of_ble_eq_true rfl) (Or.inl rfl) ?_
    show bw_go _ _ _ _ _ _ _ 14 [(0, .ref _), (1, .int _)] ([]) _ _
    refine go_vret dX3_fail_14 rfl ?_
    have e1 : a.2 = none := (mtI_9 ha.2.2.2.2).mp (Decidable.of_not_not c_6)
    rw [e1] at hQ
    exact q_r hQ rfl (fun x hx => i_si_o hx) (rst_si2 ha hv)
set_option maxRecDepth 100000 in
set_option maxHeartbeats 4000000 in
theorem me_X3_skipBlanks {X : Nat × (Nat → Int32)} {Q : Option Value → bw_H → Prop} {h : bw_H} {r bb : Nat} {T : TX} {a : RS} (hx : rx h r bb T) (ha : rst h r T.1 a) (hQ : ∀ I : Nat → Nat → Int32, rfr h I r → rst (bw_wi h I) r T.1 (skp T a.1, a.2) → Q none (bw_wi h I)) : bw_me X 1 bm_X3_skipBlanks false [.ref r] h Q := by
  show bw_go _ 1 3 1 false none cX3_skipBlanks 0 [(0, .ref _)] [] _ _
  have hg : bw_go X 1 3 1 false none cX3_skipBlanks 0 [(0, .ref r)] [] (bw_si h r 2 (nI a.1)) Q := by
    refine go_for (P := fun k => ∀ _u : True, (skp T k = skp T a.1) → bw_go X 1 3 1 false none cX3_skipBlanks 0 [(0, .ref (r))] [] (bw_si h r 2 (nI k)) Q) (N := T.1) (fun k hk K => ?_) ?_ (a.1) ha.2.2.2.1 trivial rfl
    · -- a turn
      intro _ e0
      have hm := T_lt hx
      have h60 := hx.2.2.1
      have hk2 : k ≤ T.1 := by omega
      have hx2 : rx (bw_si h r 2 (nI k)) r bb T := rx_si hx
      show bw_go _ _ _ _ _ _ _ 0 [(0, .ref _)] ([]) _ _
      refine go_aload_n dX3_skipBlanks_0 rfl ?_
      refine go_gfi dX3_skipBlanks_1 fl_3_24 rfl hx.1.1 hx.1.2.1 ?_
      rw [i_si_s, bw_up_s]
      refine go_aload_n dX3_skipBlanks_4 rfl ?_
      refine go_gfi dX3_skipBlanks_5 fl_3_20 rfl hx.1.1 hx.1.2.1 ?_
      rw [i_si_s, bw_up_o (by decide), ha.2.1]
      refine go_icmp_ge (pc' := 40) dX3_skipBlanks_8 rfl (fun c_8 => ?_) (fun c_8 => ?_)
      · -- ge at 8: yes
        show bw_go _ _ _ _ _ _ _ 40 [(0, .ref _)] ([]) _ _
        refine go_vret dX3_skipBlanks_40 rfl ?_
        exfalso; have t_0 := nI_toInt (n := k) (by omega); have t_1 := nI_toInt (n := T.1) (by omega); simp only [i_le] at c_8; omega
      · -- ge at 8: no
        show bw_go _ _ _ _ _ _ _ 11 [(0, .ref _)] ([]) _ _
        refine go_aload_n dX3_skipBlanks_11 rfl ?_
        refine go_gfr dX3_skipBlanks_12 fl_3_14 rfl hx.1.1 hx.1.2.1 hx.1.2.2 ?_
        refine go_aload_n dX3_skipBlanks_15 rfl ?_
        refine go_gfi dX3_skipBlanks_16 fl_3_24 rfl hx.1.1 hx.1.2.1 ?_
        rw [i_si_s, bw_up_s]
        refine go_cv (as := [.int _]) 0 dX3_skipBlanks_19 mt_3_86 (Or.inr rfl) rfl rfl hx.2.1.1 hx.2.1.2.1 (Nat.le_of_ble_eq_true rfl) (Nat.le_of_ble_eq_true rfl) (Nat.le_of_ble_eq_true rfl) (Nat.le_of_ble_eq_true rfl) (Nat.le_of_ble_eq_true rfl) ?_
        refine me_X0_get hx2.2.1 ?_
        rw [cg_n (k := k) (by omega) (by decide), hx2.2.2.2.1 _ (by omega)]
        show bw_go _ _ _ _ _ _ _ 22 [(0, .ref _)] ((.int _) :: []) _ _
        refine go_bipush (32) dX3_skipBlanks_22 rfl ?_
        refine go_icmp_ne (pc' := 40) dX3_skipBlanks_24 rfl (fun c_24 => ?_) (fun c_24 => ?_)
        · -- ne at 24: yes
          show bw_go _ _ _ _ _ _ _ 40 [(0, .ref _)] ([]) _ _
          refine go_vret dX3_skipBlanks_40 rfl ?_
          rw [← e0, skp_o T k (by intro z; exact c_24 z.2)] at hQ
          exact q_r hQ rfl (fun x hx1 => i_si_o hx1) (rst_si0 ha (by omega))
        · -- ne at 24: no
          show bw_go _ _ _ _ _ _ _ 27 [(0, .ref _)] ([]) _ _
          refine go_aload_n dX3_skipBlanks_27 rfl ?_
          refine go_dupA dX3_skipBlanks_28 ?_
          refine go_gfi dX3_skipBlanks_29 fl_3_24 rfl hx.1.1 hx.1.2.1 ?_
          rw [i_si_s, bw_up_s]
          refine go_iconst (1) dX3_skipBlanks_32 rfl ?_
          refine go_iadd dX3_skipBlanks_33 ?_
          refine go_pfi dX3_skipBlanks_34 fl_3_24 rfl hx.1.1 hx.1.2.1 (Nat.le_of_ble_eq_true rfl) (Or.inl rfl) ?_
          show bw_go _ _ _ _ _ _ _ 37 [(0, .ref _)] ([]) _ _
          refine go_goto (pc' := 0) dX3_skipBlanks_37 rfl ?_
          rw [nI_1, si_si]
          exact K trivial (by rw [← skp_s T k ⟨hk, Decidable.of_not_not c_24⟩]; exact e0)
    · -- behind the last
      intro _ e0
      show bw_go _ _ _ _ _ _ _ 0 [(0, .ref _)] ([]) _ _
      refine go_aload_n dX3_skipBlanks_0 rfl ?_
      refine go_gfi dX3_skipBlanks_1 fl_3_24 rfl hx.1.1 hx.1.2.1 ?_
      rw [i_si_s, bw_up_s]
      refine go_aload_n dX3_skipBlanks_4 rfl ?_
      refine go_gfi dX3_skipBlanks_5 fl_3_20 rfl hx.1.1 hx.1.2.1 ?_
      rw [i_si_s, bw_up_o (by decide), ha.2.1]
      refine go_icmp_ge (pc' := 40) dX3_skipBlanks_8 rfl (fun c_8 => ?_) (fun c_8 => ?_)
      · -- ge at 8: yes
        show bw_go _ _ _ _ _ _ _ 40 [(0, .ref _)] ([]) _ _
        refine go_vret dX3_skipBlanks_40 rfl ?_
        rw [← e0, skp_o T T.1 (by omega)] at hQ
        exact q_r hQ rfl (fun x hx1 => i_si_o hx1) (rst_si0 ha (by omega))
      · -- ge at 8: no
        exfalso; have hm := T_lt hx; have t_0 := nI_toInt (n := T.1) (by omega); simp only [i_le, i_lt, i_eq, bi_eq] at c_8; omega
  rw [si_id ha.1] at hg
  exact hg
theorem kol_n {c : Int32} (h : ¬ (98 ≤ c.toInt ∧ c.toInt ≤ 114)) : kol c = none := by
  unfold kol
  have l_0 : (98 : Int32).toInt = 98 := rfl
  have l_1 : (108 : Int32).toInt = 108 := rfl
  have l_2 : (112 : Int32).toInt = 112 := rfl
  have l_3 : (109 : Int32).toInt = 109 := rfl
  have l_4 : (103 : Int32).toInt = 103 := rfl
  have l_5 : (114 : Int32).toInt = 114 := rfl
  simp only [i_eq]
  rw [if_neg (by omega), if_neg (by omega), if_neg (by omega), if_neg (by omega), if_neg (by omega), if_neg (by omega)]
set_option maxRecDepth 100000 in
set_option maxHeartbeats 4000000 in
theorem me_X3_kindOfLetter {X : Nat × (Nat → Int32)} {Q : Option Value → bw_H → Prop} {h : bw_H} {c : Int32} (hQ : Q (some (.int (mtI (kol c)))) h) : bw_me X 0 bm_X3_kindOfLetter false [.int c] h Q := by
  show bw_go _ 0 3 1 false (some .int) cX3_kindOfLetter 0 [(0, .int _)] [] _ _
  refine go_iload_n dX3_kindOfLetter_0 rfl ?_
  by_cases hr : 98 ≤ c.toInt ∧ c.toInt ≤ 114
  · obtain ⟨t, ht, rfl⟩ : ∃ t, t < 17 ∧ c = nI (98 + t) := ⟨c.toInt.toNat - 98, by omega, Int32.toInt_inj.mp (by rw [nI_toInt (by omega)]; omega)⟩
    rcases (show t = 0 ∨ t = 1 ∨ t = 2 ∨ t = 3 ∨ t = 4 ∨ t = 5 ∨ t = 6 ∨ t = 7 ∨ t = 8 ∨ t = 9 ∨ t = 10 ∨ t = 11 ∨ t = 12 ∨ t = 13 ∨ t = 14 ∨ t = 15 ∨ t = 16 by omega) with rfl | rfl | rfl | rfl | rfl | rfl | rfl | rfl | rfl | rfl | rfl | rfl | rfl | rfl | rfl | rfl | rfl
    · --
      refine go_tsIn (pc' := 84) dX3_kindOfLetter_1 (by decide) (by decide) rfl rfl ?_
      show bw_go _ _ _ _ _ _ _ 84 [(0, .int _)] ([]) _ _
      refine go_iconst (0) dX3_kindOfLetter_84 rfl ?_
      refine go_iret dX3_kindOfLetter_85 rfl rfl ?_
      exact hQ
    · --
      refine go_tsIn (pc' := 96) dX3_kindOfLetter_1 (by decide) (by decide) rfl rfl ?_
      show bw_go _ _ _ _ _ _ _ 96 [(0, .int _)] ([]) _ _
      refine go_bipush (-9) dX3_kindOfLetter_96 rfl ?_
      refine go_iret dX3_kindOfLetter_98 rfl rfl ?_
      exact hQ
    · --
      refine go_tsIn (pc' := 96) dX3_kindOfLetter_1 (by decide) (by decide) rfl rfl ?_
      show bw_go _ _ _ _ _ _ _ 96 [(0, .int _)] ([]) _ _
      refine go_bipush (-9) dX3_kindOfLetter_96 rfl ?_
      refine go_iret dX3_kindOfLetter_98 rfl rfl ?_
      exact hQ
    · --
      refine go_tsIn (pc' := 96) dX3_kindOfLetter_1 (by decide) (by decide) rfl rfl ?_
      show bw_go _ _ _ _ _ _ _ 96 [(0, .int _)] ([]) _ _
      refine go_bipush (-9) dX3_kindOfLetter_96 rfl ?_
      refine go_iret dX3_kindOfLetter_98 rfl rfl ?_
      exact hQ
    · --
      refine go_tsIn (pc' := 96) dX3_kindOfLetter_1 (by decide) (by decide) rfl rfl ?_
      show bw_go _ _ _ _ _ _ _ 96 [(0, .int _)] ([]) _ _
      refine go_bipush (-9) dX3_kindOfLetter_96 rfl ?_
      refine go_iret dX3_kindOfLetter_98 rfl rfl ?_
      exact hQ
    · --
      refine go_tsIn (pc' := 92) dX3_kindOfLetter_1 (by decide) (by decide) rfl rfl ?_
      show bw_go _ _ _ _ _ _ _ 92 [(0, .int _)] ([]) _ _
      refine go_iconst (4) dX3_kindOfLetter_92 rfl ?_
      refine go_iret dX3_kindOfLetter_93 rfl rfl ?_
      exact hQ
    · --
      refine go_tsIn (pc' := 96) dX3_kindOfLetter_1 (by decide) (by decide) rfl rfl ?_
      show bw_go _ _ _ _ _ _ _ 96 [(0, .int _)] ([]) _ _
      refine go_bipush (-9) dX3_kindOfLetter_96 rfl ?_
      refine go_iret dX3_kindOfLetter_98 rfl rfl ?_
      exact hQ
    · --
      refine go_tsIn (pc' := 96) dX3_kindOfLetter_1 (by decide) (by decide) rfl rfl ?_
      show bw_go _ _ _ _ _ _ _ 96 [(0, .int _)] ([]) _ _
      refine go_bipush (-9) dX3_kindOfLetter_96 rfl ?_
      refine go_iret dX3_kindOfLetter_98 rfl rfl ?_
      exact hQ
    · --
      refine go_tsIn (pc' := 96) dX3_kindOfLetter_1 (by decide) (by decide) rfl rfl ?_
      show bw_go _ _ _ _ _ _ _ 96 [(0, .int _)] ([]) _ _
      refine go_bipush (-9) dX3_kindOfLetter_96 rfl ?_
      refine go_iret dX3_kindOfLetter_98 rfl rfl ?_
      exact hQ
    · --
      refine go_tsIn (pc' := 96) dX3_kindOfLetter_1 (by decide) (by decide) rfl rfl ?_
      show bw_go _ _ _ _ _ _ _ 96 [(0, .int _)] ([]) _ _
      refine go_bipush (-9) dX3_kindOfLetter_96 rfl ?_
      refine go_iret dX3_kindOfLetter_98 rfl rfl ?_
      exact hQ
    · --
      refine go_tsIn (pc' := 86) dX3_kindOfLetter_1 (by decide) (by decide) rfl rfl ?_
      show bw_go _ _ _ _ _ _ _ 86 [(0, .int _)] ([]) _ _
      refine go_iconst (1) dX3_kindOfLetter_86 rfl ?_
      refine go_iret dX3_kindOfLetter_87 rfl rfl ?_
      exact hQ
    · --
      refine go_tsIn (pc' := 90) dX3_kindOfLetter_1 (by decide) (by decide) rfl rfl ?_
      show bw_go _ _ _ _ _ _ _ 90 [(0, .int _)] ([]) _ _
      refine go_iconst (3) dX3_kindOfLetter_90 rfl ?_
      refine go_iret dX3_kindOfLetter_91 rfl rfl ?_
      exact hQ
    · --
      refine go_tsIn (pc' := 96) dX3_kindOfLetter_1 (by decide) (by decide) rfl rfl ?_
      show bw_go _ _ _ _ _ _ _ 96 [(0, .int _)] ([]) _ _
      refine go_bipush (-9) dX3_kindOfLetter_96 rfl ?_
      refine go_iret dX3_kindOfLetter_98 rfl rfl ?_
      exact hQ
    · --
      refine go_tsIn (pc' := 96) dX3_kindOfLetter_1 (by decide) (by decide) rfl rfl ?_
      show bw_go _ _ _ _ _ _ _ 96 [(0, .int _)] ([]) _ _
      refine go_bipush (-9) dX3_kindOfLetter_96 rfl ?_
      refine go_iret dX3_kindOfLetter_98 rfl rfl ?_
      exact hQ
    · --
      refine go_tsIn (pc' := 88) dX3_kindOfLetter_1 (by decide) (by decide) rfl rfl ?_
      show bw_go _ _ _ _ _ _ _ 88 [(0, .int _)] ([]) _ _
      refine go_iconst (2) dX3_kindOfLetter_88 rfl ?_
      refine go_iret dX3_kindOfLetter_89 rfl rfl ?_
      exact hQ
    · --
      refine go_tsIn (pc' := 96) dX3_kindOfLetter_1 (by decide) (by decide) rfl rfl ?_
      show bw_go _ _ _ _ _ _ _ 96 [(0, .int _)] ([]) _ _
      refine go_bipush (-9) dX3_kindOfLetter_96 rfl ?_
      refine go_iret dX3_kindOfLetter_98 rfl rfl ?_
      exact hQ
    · --
      refine go_tsIn (pc' := 94) dX3_kindOfLetter_1 (by decide) (by decide) rfl rfl ?_
      show bw_go _ _ _ _ _ _ _ 94 [(0, .int _)] ([]) _ _
      refine go_iconst (5) dX3_kindOfLetter_94 rfl ?_
      refine go_iret dX3_kindOfLetter_95 rfl rfl ?_
      exact hQ
  · --
    refine go_tsOut (pc' := 96) dX3_kindOfLetter_1 (by omega) rfl ?_
    show bw_go _ _ _ _ _ _ _ 96 [(0, .int _)] ([]) _ _
    refine go_bipush (-9) dX3_kindOfLetter_96 rfl ?_
    refine go_iret dX3_kindOfLetter_98 rfl rfl ?_
    rw [kol_n hr] at hQ; exact hQ
