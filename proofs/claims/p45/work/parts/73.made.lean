/-! the law writes a court's text, and reads it -/
def kF (F : Nat → Int32) (j : Nat) : Nat := rn (F (2 + j))
def eF (F : Nat → Int32) (j : Nat) : Nat := rn (F (8 + j))
def wF (F : Nat → Int32) (j : Nat) : Nat := rn (F (14 + j))
def vF (F : Nat → Int32) (j : Nat) : Nat := rn (F (20 + j))
theorem rk_f {F : Nat → Int32} {n j : Nat} (h : rkp F n) (hj : j < n) : (F (2 + j) = nI (kF F j) ∧ kF F j < 6) ∧ (F (8 + j) = nI (eF F j) ∧ eF F j ≤ 2) ∧ (F (14 + j) = nI (wF F j) ∧ wF F j ≤ 9) ∧ F (20 + j) = nI (vF F j) ∧ vF F j < 64 := by
  obtain ⟨⟨a, a1, a2⟩, ⟨b, b1, b2⟩, ⟨c, c1, c2⟩, ⟨d, d1, d2⟩⟩ := h j hj
  unfold kF eF wF vF
  rw [a2, b2, c2, d2, rn_n (by omega), rn_n (by omega), rn_n (by omega), rn_n (by omega)]
  exact ⟨⟨rfl, a1⟩, ⟨rfl, b1⟩, ⟨rfl, c1⟩, rfl, d1⟩
def txc (F : Nat → Int32) (d p : Nat) : Int32 := if p = 0 then 107 else if p = 1 then nI (48 + d / 10) else if p = 2 then nI (48 + d % 10) else
  if (p - 3) % 6 = 0 then 32 else if (p - 3) % 6 = 1 then ltr (kF F ((p - 3) / 6)) else if (p - 3) % 6 = 2 then nI (48 + eF F ((p - 3) / 6)) else if (p - 3) % 6 = 3 then nI (48 + wF F ((p - 3) / 6)) else if (p - 3) % 6 = 4 then nI (48 + vF F ((p - 3) / 6) / 10) else nI (48 + vF F ((p - 3) / 6) % 10)
def tn (F : Nat → Int32) (d i : Nat) : Nat → Int32 := fun p => if p < 3 + 6 * i then txc F d p else 32
theorem tx_r (F : Nat → Int32) (d j r : Nat) (hr : r < 6) : txc F d (3 + 6 * j + r) = if r = 0 then 32 else if r = 1 then ltr (kF F j) else if r = 2 then nI (48 + eF F j) else if r = 3 then nI (48 + wF F j) else if r = 4 then nI (48 + vF F j / 10) else nI (48 + vF F j % 10) := by
  unfold txc
  rw [if_neg (by omega), if_neg (by omega), if_neg (by omega), show 3 + 6 * j + r - 3 = 6 * j + r by omega, show (6 * j + r) % 6 = r by omega, show (6 * j + r) / 6 = j by omega]
theorem fg_n {T : TX} {hi i x : Nat} (e : by8 T i = nI (48 + x)) (hx : x ≤ hi) (hh : hi ≤ 9) : fg T hi i = some x := by
  have t_0 := nI_toInt (n := 48 + x) (by omega)
  unfold fg
  rw [e, if_pos (by omega)]
  exact congrArg some (by omega)
theorem ofg_n {T : TX} {hi i x : Nat} (e : by8 T i = nI (48 + x)) (hx : x ≤ hi) (hh : hi ≤ 9) : ofg T hi (i, none) = (x, i + 1, none) := by
  unfold ofg
  rw [show fg T hi (i, (none : Option Nat)).1 = some x from fg_n e hx hh]
theorem tfg_n {T : TX} {i x : Nat} (e1 : by8 T i = nI (48 + x / 10)) (e2 : by8 T (i + 1) = nI (48 + x % 10)) (hx : x < 64) : tfg T (i, none) = (x, i + 2, none) := by
  unfold tfg
  rw [ofg_n e1 (by omega) (by decide)]
  rw [if_pos rfl]
  simp only
  rw [ofg_n e2 (by omega) (by decide)]
  simp only
  rw [if_neg (by omega), show 10 * (x / 10) + x % 10 = x by omega]
theorem kol_l : ∀ k, k < 6 → kol (ltr k) = some k ∧ ltr k ≠ 32 := by decide
theorem rbe_n {T : TX} {C : CT} {p k e w v : Nat} (hn : cN C < 6) (hk : k < 6) (he : e ≤ 2) (hw : w ≤ 9) (hv : v < 64) (e0 : by8 T p = ltr k) (e1 : by8 T (p + 1) = nI (48 + e)) (e2 : by8 T (p + 1 + 1) = nI (48 + w)) (e3 : by8 T (p + 1 + 1 + 1) = nI (48 + v / 10)) (e4 : by8 T (p + 1 + 1 + 1 + 1) = nI (48 + v % 10)) : rbe T (C, p, none) = (stt C k e w v, p + 5, none) := by
  unfold rbe
  have h0 : (if cN C < 6 then kol (by8 T p) else none) = some k := by rw [if_pos hn, e0]; exact (kol_l k hk).1
  simp only [h0]
  rw [ofg_n e1 he (by decide)]
  simp only
  rw [ofg_n e2 hw (by decide)]
  simp only
  rw [tfg_n e3 e4 hv]
  simp only [if_true]
def Cs (F : Nat → Int32) (d : Nat) : Nat → CT
  | 0 => ct0 d
  | i + 1 => stt (Cs F d i) (kF F i) (eF F i) (wF F i) (vF F i)
theorem Cs_f (F : Nat → Int32) (d : Nat) : ∀ i, cN (Cs F d i) = i ∧ cD (Cs F d i) = d ∧ cW (Cs F d i) = 0 ∧ cT (Cs F d i) = 0 ∧ ∀ j, j < i → cK (Cs F d i) j = kF F j ∧ cE (Cs F d i) j = eF F j ∧ cR (Cs F d i) j = wF F j ∧ cV (Cs F d i) j = vF F j := by
  intro i
  induction i with
  | zero => exact ⟨rfl, rfl, rfl, rfl, fun j hj => absurd hj (Nat.not_lt_zero j)⟩
  | succ i ih =>
    obtain ⟨h1, h2, h3, h4, h5⟩ := ih
    refine ⟨by show cN (Cs F d i) + 1 = i + 1; rw [h1], h2, h3, h4, fun j hj => ?_⟩
    show bw_up (cK (Cs F d i)) (cN (Cs F d i)) (kF F i) j = _ ∧ bw_up (cE (Cs F d i)) (cN (Cs F d i)) (eF F i) j = _ ∧ bw_up (cR (Cs F d i)) (cN (Cs F d i)) (wF F i) j = _ ∧ bw_up (cV (Cs F d i)) (cN (Cs F d i)) (vF F i) j = _
    rw [h1]
    by_cases e : j = i
    · subst e
      rw [bw_up_s, bw_up_s, bw_up_s, bw_up_s]
      exact ⟨rfl, rfl, rfl, rfl⟩
    · rw [bw_up_o e, bw_up_o e, bw_up_o e, bw_up_o e]
      exact h5 j (by omega)
def psn (n i : Nat) : Nat := if i < n then 4 + 6 * i else 3 + 6 * n
section RD
variable {F : Nat → Int32} {n d : Nat}
theorem t8 {i : Nat} (h : i < 3 + 6 * n) : by8 (3 + 6 * n, tn F d n) i = txc F d i := by
  unfold by8 tn
  rw [if_pos h]
  show (if i < 3 + 6 * n then txc F d i else 32) = _
  rw [if_pos h]
theorem t8r {i p : Nat} (hi : i < n) (r : Nat) (hr : r < 6) (hp : p = 3 + 6 * i + r) : by8 (3 + 6 * n, tn F d n) p = if r = 0 then 32 else if r = 1 then ltr (kF F i) else if r = 2 then nI (48 + eF F i) else if r = 3 then nI (48 + wF F i) else if r = 4 then nI (48 + vF F i / 10) else nI (48 + vF F i % 10) := by
  rw [hp, t8 (by omega), tx_r F d i r hr]
theorem sk_n {i : Nat} (hr : rkp F n) (hi : i ≤ n) : skp (3 + 6 * n, tn F d n) (3 + 6 * i) = psn n i := by
  unfold psn
  by_cases h : i < n
  · rw [if_pos h]
    have e0 := t8r (F := F) (d := d) h 0 (by decide) rfl
    have e1 := t8r (F := F) (d := d) h 1 (by decide) rfl
    rw [t8 (by omega)] at e0 e1
    have e3 : tn F d n (3 + 6 * i + 0) = 32 := by
      unfold tn; rw [if_pos (by omega)]; exact e0
    have e4 : tn F d n (3 + 6 * i + 1) = ltr (kF F i) := by
      unfold tn; rw [if_pos (by omega)]; exact e1
    rw [skp_s _ _ ⟨by show 3 + 6 * i < 3 + 6 * n; omega, e3⟩, skp_o _ _ (fun z => (kol_l _ (rk_f hr h).1.2).2 (e4.symm.trans z.2))]
    omega
  · rw [if_neg h, skp_o _ _ (fun z => by have z1 : 3 + 6 * i < 3 + 6 * n := z.1; omega)]
    omega
theorem lp_n (hr : rkp F n) (hn1 : 1 ≤ n) (hn6 : n ≤ 6) : ∀ k i, i + k = n → lpf (3 + 6 * n, tn F d n) (7 - i) i (Cs F d i, psn n i, none) = (Cs F d n, 3 + 6 * n, none) := by
  intro k
  induction k with
  | zero =>
    intro i hi
    obtain rfl : i = n := by omega
    obtain ⟨m, hm⟩ : ∃ m, 7 - i = m + 1 := ⟨6 - i, by omega⟩
    rw [hm]
    show (if (none : Option Nat) = none ∧ (i = 0 ∨ psn i i < 3 + 6 * i) then _ else (Cs F d i, psn i i, none)) = _
    have e : psn i i = 3 + 6 * i := by unfold psn; rw [if_neg (by omega)]
    rw [e, if_neg (by omega)]
  | succ k ih =>
    intro i hi
    have hin : i < n := by omega
    obtain ⟨m, hm⟩ : ∃ m, 7 - i = m + 1 := ⟨6 - i, by omega⟩
    rw [hm]
    have e : psn n i = 4 + 6 * i := by unfold psn; rw [if_pos hin]
    obtain ⟨⟨_, f1⟩, ⟨_, f2⟩, ⟨_, f3⟩, _, f4⟩ := rk_f hr hin
    have eb : rbe (3 + 6 * n, tn F d n) (Cs F d i, psn n i, none) = (Cs F d (i + 1), 9 + 6 * i, none) := by
      rw [e, rbe_n (k := kF F i) (e := eF F i) (w := wF F i) (v := vF F i) (by rw [(Cs_f F d i).1]; omega) f1 f2 f3 f4 (t8r hin 1 (by decide) (by omega)) (t8r hin 2 (by decide) (by omega)) (t8r hin 3 (by decide) (by omega)) (t8r hin 4 (by decide) (by omega)) (t8r hin 5 (by decide) (by omega)), show 4 + 6 * i + 5 = 9 + 6 * i by omega]
      rfl
    show (if (none : Option Nat) = none ∧ (i = 0 ∨ psn n i < 3 + 6 * n) then lpf (3 + 6 * n, tn F d n) m (i + 1) ((rbe (3 + 6 * n, tn F d n) (Cs F d i, psn n i, none)).1, skp (3 + 6 * n, tn F d n) (rbe (3 + 6 * n, tn F d n) (Cs F d i, psn n i, none)).2.1, (rbe (3 + 6 * n, tn F d n) (Cs F d i, psn n i, none)).2.2) else _) = _
    rw [if_pos ⟨rfl, Or.inr (by rw [e]; omega)⟩, eb]
    have e2 := ih (i + 1) (by omega)
    rw [show 7 - (i + 1) = m by omega] at e2
    have e3 := sk_n (F := F) (n := n) (d := d) hr (i := i + 1) (by omega)
    rw [show 3 + 6 * (i + 1) = 9 + 6 * i by omega] at e3
    show lpf (3 + 6 * n, tn F d n) m (i + 1) (Cs F d (i + 1), skp (3 + 6 * n, tn F d n) (9 + 6 * i), none) = _
    rw [e3]
    exact e2
theorem rd_n (h : rok F n d) : rdt (3 + 6 * n, tn F d n) = (Cs F d n, 3 + 6 * n, none) := by
  obtain ⟨h0, h1, h6, hd0, hd, hr⟩ := h
  have b0 : by8 (3 + 6 * n, tn F d n) 0 = 107 := by rw [t8 (by omega)]; rfl
  have s0 : skp (3 + 6 * n, tn F d n) 0 = 0 := skp_o _ _ (fun z => by
    have z2 : tn F d n 0 = 32 := z.2
    have z3 : tn F d n 0 = 107 := by unfold tn; rw [if_pos (by omega)]; rfl
    rw [z3] at z2
    exact absurd z2 (by decide))
  have tf : tfg (3 + 6 * n, tn F d n) (0 + 1, none) = (d, 0 + 1 + 2, none) := tfg_n (by rw [t8 (by omega)]; rfl) (by rw [t8 (by omega)]; rfl) hd
  unfold rdt
  rw [s0, b0, if_pos rfl, tf]
  have e3 := sk_n (F := F) (n := n) (d := d) hr (i := 0) (by omega)
  show lpf (3 + 6 * n, tn F d n) 7 0 (ct0 d, skp (3 + 6 * n, tn F d n) (3 + 6 * 0), none) = _
  rw [e3]
  exact lp_n hr h1 h6 n 0 (by omega)
end RD
def Sx (S : ST) (m : Nat) (T : Nat → Int32) : ST := wT S (bw_up (sT S) 0 (some m)) (bw_up (sTc S) 0 T)
theorem i8_n : ∀ x, x < 128 → (nI x).toInt8.toInt32 = nI x := by decide +kernel
theorem eText {S : ST} {m : Nat} (hm : m ≤ 60) : yText 0 (nI m) S = (nI m, Sx S m (fun _ => 32)) := by
  have t_0 := nI_toInt (n := m) (by omega)
  unfold yText
  rw [if_pos ⟨by decide, by omega⟩, if_neg (by omega), show rn 0 = 0 from rfl, rn_n (by omega)]
  rfl
theorem ePut {S : ST} {m a x : Nat} {T : Nat → Int32} (ha : a < m) (hm : m ≤ 60) (hx : x < 128) : yPut 0 (nI a) (nI x) (Sx S m T) = (T a + 1000, Sx S m (bw_up T a (nI x))) := by
  have e1 : sT (Sx S m T) 0 = some m := bw_up_s (sT S) 0 (some m)
  have e2 : sTc (Sx S m T) 0 = T := bw_up_s (sTc S) 0 T
  have e3 : mis (sT (Sx S m T) 0) (nI a) = 0 := by
    rw [e1]
    unfold mis
    simp only
    rw [if_pos]
    show decide (0 ≤ (nI a).toInt ∧ (nI a).toInt < m) = true
    exact decide_eq_true (n_in ha (by omega))
  unfold yPut
  rw [if_pos (by decide), show rn 0 = 0 from rfl, if_pos e3, rn_n (by omega), e2, i8_n x hx]
  refine Prod.ext rfl ?_
  show wT (Sx S m T) (sT (Sx S m T)) (bw_up (sTc (Sx S m T)) 0 (bw_up T a (nI x))) = wT S (bw_up (sT S) 0 (some m)) (bw_up (sTc S) 0 (bw_up T a (nI x)))
  show wT (Sx S m T) (sT (Sx S m T)) (bw_up (bw_up (sTc S) 0 T) 0 (bw_up T a (nI x))) = _
  rw [upup]
  rfl
theorem me_sgn {X : Nat × (Nat → Int32)} {Q : Option Value → bw_H → Prop} {h : bw_H} {z c m a x : Nat} {S : ST} {A : LY} {T : Nat → Int32} (hl : LB z c h (Sx S m T) A) (ha : a < m) (hm : m ≤ 60) (hx : x < 128) (hT : T a = 32) (hQ : ∀ G, LB z c G (Sx S m (bw_up T a (nI x))) A → Q (some (.int 1)) G) : bw_me X 5 bm_L_sign false [.ref 0, .int (nI a), .int (nI x)] h Q := by
  refine me_L_sign hl (fun G hG => ?_)
  rw [ePut ha hm hx, hT] at hG ⊢
  exact hQ G hG
def mkS (S : ST) (F : Nat → Int32) (n d : Nat) : ST := wK (wA (Sx S (3 + 6 * n) (tn F d n)) (nwA (Cs F d n))) (fun _ => none)
theorem eCourt {S S0 : ST} {F : Nat → Int32} {n d : Nat} (h : rok F n d) (e : S.2.1 = (Sx S0 (3 + 6 * n) (tn F d n)).2.1) : yCourt 0 S = (nI n, wK (wA S (nwA (Cs F d n))) (fun _ => none)) := by
  have e1 : sT S 0 = some (3 + 6 * n) := by
    show S.2.1.1 0 = _
    rw [e]; exact bw_up_s (sT S0) 0 (some (3 + 6 * n))
  have e2 : sTc S 0 = tn F d n := by
    show S.2.1.2 0 = _
    rw [e]; exact bw_up_s (sTc S0) 0 (tn F d n)
  unfold yCourt
  rw [if_pos (by decide), show rn 0 = 0 from rfl, e1, e2]
  simp only
  rw [rd_n h, if_pos rfl, (Cs_f F d n).1]
theorem ltr_n : ∀ k, k < 6 → ∃ x, x < 128 ∧ ltr k = nI x := by
  intro k hk
  rcases (show k = 0 ∨ k = 1 ∨ k = 2 ∨ k = 3 ∨ k = 4 ∨ k = 5 by omega) with rfl | rfl | rfl | rfl | rfl | rfl
  · exact ⟨98, by decide, rfl⟩
  · exact ⟨108, by decide, rfl⟩
  · exact ⟨112, by decide, rfl⟩
  · exact ⟨109, by decide, rfl⟩
  · exact ⟨103, by decide, rfl⟩
  · exact ⟨114, by decide, rfl⟩
theorem tn_s (F : Nat → Int32) (d i : Nat) : bw_up (bw_up (bw_up (bw_up (bw_up (tn F d i) (4 + 6 * i) (ltr (kF F i))) (4 + 6 * i + 1) (nI (48 + eF F i))) (4 + 6 * i + 2) (nI (48 + wF F i))) (4 + 6 * i + 3) (nI (48 + vF F i / 10))) (4 + 6 * i + 4) (nI (48 + vF F i % 10)) = tn F d (i + 1) := by
  funext p
  have hr := fun r hr => tx_r F d i r hr
  by_cases h5 : p = 4 + 6 * i + 4
  · subst h5; rw [bw_up_s]; unfold tn; rw [if_pos (by omega), show 4 + 6 * i + 4 = 3 + 6 * i + 5 by omega, hr 5 (by decide)]; rfl
  rw [bw_up_o h5]
  by_cases h4 : p = 4 + 6 * i + 3
  · subst h4; rw [bw_up_s]; unfold tn; rw [if_pos (by omega), show 4 + 6 * i + 3 = 3 + 6 * i + 4 by omega, hr 4 (by decide)]; rfl
  rw [bw_up_o h4]
  by_cases h3 : p = 4 + 6 * i + 2
  · subst h3; rw [bw_up_s]; unfold tn; rw [if_pos (by omega), show 4 + 6 * i + 2 = 3 + 6 * i + 3 by omega, hr 3 (by decide)]; rfl
  rw [bw_up_o h3]
  by_cases h2 : p = 4 + 6 * i + 1
  · subst h2; rw [bw_up_s]; unfold tn; rw [if_pos (by omega), show 4 + 6 * i + 1 = 3 + 6 * i + 2 by omega, hr 2 (by decide)]; rfl
  rw [bw_up_o h2]
  by_cases h1 : p = 4 + 6 * i
  · subst h1; rw [bw_up_s]; unfold tn; rw [if_pos (by omega), show 4 + 6 * i = 3 + 6 * i + 1 by omega, hr 1 (by decide)]; rfl
  rw [bw_up_o h1]
  unfold tn
  by_cases h0 : p < 3 + 6 * i
  · rw [if_pos h0, if_pos (by omega)]
  · rw [if_neg h0]
    by_cases h6 : p < 3 + 6 * (i + 1)
    · rw [if_pos h6]
      obtain rfl : p = 3 + 6 * i + 0 := by omega
      rw [hr 0 (by decide)]; rfl
    · rw [if_neg h6]
theorem tn_0 (F : Nat → Int32) (d : Nat) : bw_up (bw_up (bw_up (fun _ => (32 : Int32)) 0 107) 1 (nI (48 + d / 10))) 2 (nI (48 + d % 10)) = tn F d 0 := by
  funext p
  by_cases h2 : p = 2
  · subst h2; rw [bw_up_s]; rfl
  rw [bw_up_o h2]
  by_cases h1 : p = 1
  · subst h1; rw [bw_up_s]; rfl
  rw [bw_up_o h1]
  by_cases h0 : p = 0
  · subst h0; rw [bw_up_s]; rfl
  rw [bw_up_o h0]
  unfold tn
  rw [if_neg (by omega)]
theorem tn_32 (F : Nat → Int32) (d i p : Nat) (h : 3 + 6 * i ≤ p) : tn F d i p = 32 := by unfold tn; rw [if_neg (by omega)]
set_option maxRecDepth 100000 in
set_option maxHeartbeats 4000000 in
theorem me_L_made {X : Nat × (Nat → Int32)} {Q : Option Value → bw_H → Prop} {h : bw_H} {S : ST} {A : LY} {F : Nat → Int32} {n d : Nat} (hl : LB 1 62 h S (AR A F)) (hr : rok F n d) (hQ : ∀ G, LB 1 62 G (mkS S F n d) (AR A F) → Q (some (.int 1)) G) : bw_me X 7 bm_L_made false [.ref 0, .ref 62] h Q := by
  have hn1 := hr.2.1
  have hn6 := hr.2.2.1
  have hd := hr.2.2.2.2.1
  show bw_go _ 7 9 6 false (some .boolean) cL_made 0 [(0, .ref _), (1, .ref _)] [] _ _
  refine go_iconst (3) dL_made_0 rfl ?_
  refine go_bipush (6) dL_made_1 rfl ?_
  refine go_aload_n dL_made_3 rfl ?_
  refine go_iconst (0) dL_made_4 rfl ?_
  refine go_ia dL_made_5 (lb_a hl (AR_e A _)).2.1 (lb_a hl (AR_e A _)).1 (by decide) ?_
  rw [show (0 : Int32).toNatClampNeg = 0 from rfl, (lb_a hl (AR_e A _)).2.2, hr.1]
  refine go_imul dL_made_6 ?_
  rw [show (6 : Int32) = nI 6 from rfl, nmul]
  refine go_iadd dL_made_7 ?_
  rw [show (3 : Int32) = nI 3 from rfl, nI_add]
  refine go_istore_n dL_made_8 (Nat.lt_of_lt_of_le (Nat.lt_succ_self _) (Nat.le_of_ble_eq_true rfl)) ?_
  show bw_go _ _ _ _ _ _ _ 9 [(2, .int _), (0, .ref _), (1, .ref _)] ([]) _ _
  refine go_aload_n dL_made_9 rfl ?_
  refine go_iconst (0) dL_made_10 rfl ?_
  refine go_iload_n dL_made_11 rfl ?_
  refine go_cv (as := [.int _, .int _]) 2 dL_made_12 mt_9_25 (Or.inl rfl) rfl rfl (lb_lt hl) (lb_k hl) (Nat.le_of_ble_eq_true rfl) (Nat.le_of_ble_eq_true rfl) (Nat.le_of_ble_eq_true rfl) (Nat.le_of_ble_eq_true rfl) (Nat.le_of_ble_eq_true rfl) ?_
  refine lb_me hl (fun h Q hx hq => me_X7_text hx hq) (fun _ => rfl) (fun _ => rfl) (fun G hl => ?_)
  rw [eText (by omega)] at hl ⊢
  show bw_go _ _ _ _ _ _ _ 15 [(2, .int _), (0, .ref _), (1, .ref _)] ((.int _) :: []) _ _
  refine go_iload_n dL_made_15 rfl ?_
  refine go_icmp_ne (pc' := 67) dL_made_16 rfl (fun c_16 => ?_) (fun c_16 => ?_)
  · -- ne at 16: yes
    exact absurd rfl c_16
  · -- ne at 16: no
    show bw_go _ _ _ _ _ _ _ 19 [(2, .int _), (0, .ref _), (1, .ref _)] ([]) _ _
    refine go_aload_n dL_made_19 rfl ?_
    refine go_iconst (0) dL_made_20 rfl ?_
    refine go_bipush (107) dL_made_21 rfl ?_
    refine go_cs (as := [.ref _, .int _, .int _]) 5 dL_made_23 rfl rfl mt_9_28 (Nat.le_of_ble_eq_true rfl) rfl rfl (Nat.le_of_ble_eq_true rfl) (Nat.le_of_ble_eq_true rfl) (Nat.le_of_ble_eq_true rfl) (Nat.le_of_ble_eq_true rfl) ?_
    refine me_sgn (m := 3 + 6 * n) (a := 0) (x := 107) hl (by omega) (by omega) (by decide) rfl (fun G hl => ?_)
    show bw_go _ _ _ _ _ _ _ 26 [(2, .int _), (0, .ref _), (1, .ref _)] ((.int _) :: []) _ _
    refine go_if_eq (pc' := 67) dL_made_26 rfl (fun c => absurd c (by decide)) (fun _ => ?_)
    show bw_go _ _ _ _ _ _ _ 29 [(2, .int _), (0, .ref _), (1, .ref _)] ([]) _ _
    refine go_aload_n dL_made_29 rfl ?_
    refine go_iconst (1) dL_made_30 rfl ?_
    refine go_bipush (48) dL_made_31 rfl ?_
    refine go_aload_n dL_made_33 rfl ?_
    refine go_iconst (1) dL_made_34 rfl ?_
    refine go_ia dL_made_35 (lb_a hl (AR_e A _)).2.1 (lb_a hl (AR_e A _)).1 (by decide) ?_
    rw [show (1 : Int32).toNatClampNeg = 1 from rfl, (lb_a hl (AR_e A _)).2.2, hr.2.2.2.1]
    refine go_bipush (10) dL_made_36 rfl ?_
    refine go_idiv dL_made_38 (fun z => absurd z (by decide)) ?_
    rw [show (10 : Int32) = nI 10 from rfl, nI_div (by omega) (by decide) (by decide)]
    refine go_iadd dL_made_39 ?_
    rw [show (48 : Int32) = nI 48 from rfl, nI_add]
    refine go_cs (as := [.ref _, .int _, .int _]) 5 dL_made_40 rfl rfl mt_9_28 (Nat.le_of_ble_eq_true rfl) rfl rfl (Nat.le_of_ble_eq_true rfl) (Nat.le_of_ble_eq_true rfl) (Nat.le_of_ble_eq_true rfl) (Nat.le_of_ble_eq_true rfl) ?_
    refine me_sgn (m := 3 + 6 * n) (a := 1) (x := 48 + d / 10) hl (by omega) (by omega) (by omega) rfl (fun G hl => ?_)
    show bw_go _ _ _ _ _ _ _ 43 [(2, .int _), (0, .ref _), (1, .ref _)] ((.int _) :: []) _ _
    refine go_if_eq (pc' := 67) dL_made_43 rfl (fun c => absurd c (by decide)) (fun _ => ?_)
    show bw_go _ _ _ _ _ _ _ 46 [(2, .int _), (0, .ref _), (1, .ref _)] ([]) _ _
    refine go_aload_n dL_made_46 rfl ?_
    refine go_iconst (2) dL_made_47 rfl ?_
    refine go_bipush (48) dL_made_48 rfl ?_
    refine go_aload_n dL_made_50 rfl ?_
    refine go_iconst (1) dL_made_51 rfl ?_
    refine go_ia dL_made_52 (lb_a hl (AR_e A _)).2.1 (lb_a hl (AR_e A _)).1 (by decide) ?_
    rw [show (1 : Int32).toNatClampNeg = 1 from rfl, (lb_a hl (AR_e A _)).2.2, hr.2.2.2.1]
    refine go_bipush (10) dL_made_53 rfl ?_
    refine go_irem dL_made_55 (fun z => absurd z (by decide)) ?_
    rw [show (10 : Int32) = nI 10 from rfl, nI_rem (by omega) (by decide) (by decide)]
    refine go_iadd dL_made_56 ?_
    rw [show (48 : Int32) = nI 48 from rfl, nI_add]
    refine go_cs (as := [.ref _, .int _, .int _]) 5 dL_made_57 rfl rfl mt_9_28 (Nat.le_of_ble_eq_true rfl) rfl rfl (Nat.le_of_ble_eq_true rfl) (Nat.le_of_ble_eq_true rfl) (Nat.le_of_ble_eq_true rfl) (Nat.le_of_ble_eq_true rfl) ?_
    refine me_sgn (m := 3 + 6 * n) (a := 2) (x := 48 + d % 10) hl (by omega) (by omega) (by omega) rfl (fun G hl => ?_)
    show bw_go _ _ _ _ _ _ _ 60 [(2, .int _), (0, .ref _), (1, .ref _)] ((.int _) :: []) _ _
    refine go_if_eq (pc' := 67) dL_made_60 rfl (fun c => absurd c (by decide)) (fun _ => ?_)
    show bw_go _ _ _ _ _ _ _ 63 [(2, .int _), (0, .ref _), (1, .ref _)] ([]) _ _
    refine go_iconst (1) dL_made_63 rfl ?_
    refine go_goto (pc' := 68) dL_made_64 rfl ?_
    show bw_go _ _ _ _ _ _ _ 68 [(2, .int _), (0, .ref _), (1, .ref _)] ((.int _) :: []) _ _
    refine go_istore_n dL_made_68 (Nat.lt_of_lt_of_le (Nat.lt_succ_self _) (Nat.le_of_ble_eq_true rfl)) ?_
    show bw_go _ _ _ _ _ _ _ 69 [(3, .int _), (2, .int _), (0, .ref _), (1, .ref _)] ([]) _ _
    refine go_iconst (0) dL_made_69 rfl ?_
    refine go_istore dL_made_70 (Nat.lt_of_lt_of_le (Nat.lt_succ_self _) (Nat.le_of_ble_eq_true rfl)) ?_
    show bw_go _ _ _ _ _ _ _ 72 [(4, .int _), (3, .int _), (2, .int _), (0, .ref _), (1, .ref _)] ([]) _ _
    have hl : LB 1 62 G (Sx S (3 + 6 * n) (tn F d 0)) (AR A F) := by
      rw [← tn_0 F d]; exact hl
    refine go_for (P := fun i => ∀ (g : bw_H), (LB 1 62 g (Sx S (3 + 6 * n) (tn F d i)) (AR A F)) → bw_go X 7 9 6 false (some .boolean) cL_made 72 [(4, .int (nI i)), (3, .int (1)), (2, .int (nI (3 + 6 * n))), (0, .ref (0)), (1, .ref (62))] [] g Q) (N := n) (fun i hi K => ?_) ?_ (0) (Nat.zero_le _) _ hl
    · -- a turn
      intro g hv
      have hl := hv
      show bw_go _ _ _ _ _ _ _ 72 [(4, .int _), (3, .int _), (2, .int _), (0, .ref _), (1, .ref _)] ([]) _ _
      refine go_iload dL_made_72 rfl ?_
      refine go_aload_n dL_made_74 rfl ?_
      refine go_iconst (0) dL_made_75 rfl ?_
      refine go_ia dL_made_76 (lb_a hl (AR_e A _)).2.1 (lb_a hl (AR_e A _)).1 (by decide) ?_
      rw [show (0 : Int32).toNatClampNeg = 0 from rfl, (lb_a hl (AR_e A _)).2.2, hr.1]
      refine go_icmp_ge (pc' := 213) dL_made_77 rfl (fun c_77 => ?_) (fun c_77 => ?_)
      · -- ge at 77: yes
        exfalso; have t_0 := nI_toInt (n := i) (by omega); have t_1 := nI_toInt (n := n) (by omega); simp only [i_le, i_lt, i_eq, bi_eq] at c_77; omega
      · -- ge at 77: no
        show bw_go _ _ _ _ _ _ _ 80 [(4, .int _), (3, .int _), (2, .int _), (0, .ref _), (1, .ref _)] ([]) _ _
        obtain ⟨⟨g1, f1⟩, ⟨g2, f2⟩, ⟨g3, f3⟩, g4, f4⟩ := rk_f hr.2.2.2.2.2 hi
        obtain ⟨x0, hx0, hx0e⟩ := ltr_n _ f1
        refine go_iconst (4) dL_made_80 rfl ?_
        refine go_bipush (6) dL_made_81 rfl ?_
        refine go_iload dL_made_83 rfl ?_
        refine go_imul dL_made_85 ?_
        refine go_iadd dL_made_86 ?_
        rw [show (4 : Int32) = nI 4 from rfl, show (6 : Int32) = nI 6 from rfl, nmul, nI_add]
        refine go_istore dL_made_87 (Nat.lt_of_lt_of_le (Nat.lt_succ_self _) (Nat.le_of_ble_eq_true rfl)) ?_
        show bw_go _ _ _ _ _ _ _ 89 [(5, .int _), (4, .int _), (3, .int _), (2, .int _), (0, .ref _), (1, .ref _)] ([]) _ _
        refine go_iload_n dL_made_89 rfl ?_
        refine go_if_eq (pc' := 205) dL_made_90 rfl (fun c => absurd c (by decide)) (fun _ => ?_)
        show bw_go _ _ _ _ _ _ _ 93 [(5, .int _), (4, .int _), (3, .int _), (2, .int _), (0, .ref _), (1, .ref _)] ([]) _ _
        refine go_aload_n dL_made_93 rfl ?_
        refine go_iload dL_made_94 rfl ?_
        refine go_aload_n dL_made_96 rfl ?_
        refine go_iconst (2) dL_made_97 rfl ?_
        refine go_iload dL_made_98 rfl ?_
        refine go_iadd dL_made_100 ?_
        rw [show (2 : Int32) = nI 2 from rfl, nI_add]
        refine go_ia dL_made_101 (lb_a hl (AR_e A _)).2.1 (lb_a hl (AR_e A _)).1 (n_in (N := 28) (by omega) (by decide)) ?_
        rw [nI_clamp (by omega), (lb_a hl (AR_e A _)).2.2, g1]
        refine go_cs (as := [.int _]) 0 dL_made_102 rfl rfl mt_9_32 (Nat.le_of_ble_eq_true rfl) rfl rfl (Nat.le_of_ble_eq_true rfl) (Nat.le_of_ble_eq_true rfl) (Nat.le_of_ble_eq_true rfl) (Nat.le_of_ble_eq_true rfl) ?_
        refine me_L_letter f1 ?_
        rw [hx0e]
        show bw_go _ _ _ _ _ _ _ 105 [(5, .int _), (4, .int _), (3, .int _), (2, .int _), (0, .ref _), (1, .ref _)] ((.int _) :: (.int _) :: (.ref _) :: []) _ _
        refine go_cs (as := [.ref _, .int _, .int _]) 5 dL_made_105 rfl rfl mt_9_28 (Nat.le_of_ble_eq_true rfl) rfl rfl (Nat.le_of_ble_eq_true rfl) (Nat.le_of_ble_eq_true rfl) (Nat.le_of_ble_eq_true rfl) (Nat.le_of_ble_eq_true rfl) ?_
        refine me_sgn (m := 3 + 6 * n) (a := 4 + 6 * i) (x := x0) hl (by omega) (by omega) hx0 (tn_32 F d i _ (by omega)) (fun G hl => ?_)
        show bw_go _ _ _ _ _ _ _ 108 [(5, .int _), (4, .int _), (3, .int _), (2, .int _), (0, .ref _), (1, .ref _)] ((.int _) :: []) _ _
        refine go_if_eq (pc' := 205) dL_made_108 rfl (fun c => absurd c (by decide)) (fun _ => ?_)
        show bw_go _ _ _ _ _ _ _ 111 [(5, .int _), (4, .int _), (3, .int _), (2, .int _), (0, .ref _), (1, .ref _)] ([]) _ _
        refine go_aload_n dL_made_111 rfl ?_
        refine go_iload dL_made_112 rfl ?_
        refine go_iconst (1) dL_made_114 rfl ?_
        refine go_iadd dL_made_115 ?_
        rw [show (1 : Int32) = nI 1 from rfl, nI_add]
        refine go_bipush (48) dL_made_116 rfl ?_
        refine go_aload_n dL_made_118 rfl ?_
        refine go_bipush (8) dL_made_119 rfl ?_
        refine go_iload dL_made_121 rfl ?_
        refine go_iadd dL_made_123 ?_
        rw [show (8 : Int32) = nI 8 from rfl, nI_add]
        refine go_ia dL_made_124 (lb_a hl (AR_e A _)).2.1 (lb_a hl (AR_e A _)).1 (n_in (N := 28) (by omega) (by decide)) ?_
        rw [nI_clamp (by omega), (lb_a hl (AR_e A _)).2.2, g2]
        refine go_iadd dL_made_125 ?_
        rw [show (48 : Int32) = nI 48 from rfl, nI_add]
        refine go_cs (as := [.ref _, .int _, .int _]) 5 dL_made_126 rfl rfl mt_9_28 (Nat.le_of_ble_eq_true rfl) rfl rfl (Nat.le_of_ble_eq_true rfl) (Nat.le_of_ble_eq_true rfl) (Nat.le_of_ble_eq_true rfl) (Nat.le_of_ble_eq_true rfl) ?_
        refine me_sgn (m := 3 + 6 * n) (a := 4 + 6 * i + 1) (x := 48 + eF F i) hl (by omega) (by omega) (by omega) (by rw [bw_up_o (by omega)]; exact tn_32 F d i _ (by omega)) (fun G hl => ?_)
        show bw_go _ _ _ _ _ _ _ 129 [(5, .int _), (4, .int _), (3, .int _), (2, .int _), (0, .ref _), (1, .ref _)] ((.int _) :: []) _ _
        refine go_if_eq (pc' := 205) dL_made_129 rfl (fun c => absurd c (by decide)) (fun _ => ?_)
        show bw_go _ _ _ _ _ _ _ 132 [(5, .int _), (4, .int _), (3, .int _), (2, .int _), (0, .ref _), (1, .ref _)] ([]) _ _
        refine go_aload_n dL_made_132 rfl ?_
        refine go_iload dL_made_133 rfl ?_
        refine go_iconst (2) dL_made_135 rfl ?_
        refine go_iadd dL_made_136 ?_
        rw [show (2 : Int32) = nI 2 from rfl, nI_add]
        refine go_bipush (48) dL_made_137 rfl ?_
        refine go_aload_n dL_made_139 rfl ?_
        refine go_bipush (14) dL_made_140 rfl ?_
        refine go_iload dL_made_142 rfl ?_
        refine go_iadd dL_made_144 ?_
        rw [show (14 : Int32) = nI 14 from rfl, nI_add]
        refine go_ia dL_made_145 (lb_a hl (AR_e A _)).2.1 (lb_a hl (AR_e A _)).1 (n_in (N := 28) (by omega) (by decide)) ?_
        rw [nI_clamp (by omega), (lb_a hl (AR_e A _)).2.2, g3]
        refine go_iadd dL_made_146 ?_
        rw [show (48 : Int32) = nI 48 from rfl, nI_add]
        refine go_cs (as := [.ref _, .int _, .int _]) 5 dL_made_147 rfl rfl mt_9_28 (Nat.le_of_ble_eq_true rfl) rfl rfl (Nat.le_of_ble_eq_true rfl) (Nat.le_of_ble_eq_true rfl) (Nat.le_of_ble_eq_true rfl) (Nat.le_of_ble_eq_true rfl) ?_
        refine me_sgn (m := 3 + 6 * n) (a := 4 + 6 * i + 2) (x := 48 + wF F i) hl (by omega) (by omega) (by omega) (by rw [bw_up_o (by omega), bw_up_o (by omega)]; exact tn_32 F d i _ (by omega)) (fun G hl => ?_)
        show bw_go _ _ _ _ _ _ _ 150 [(5, .int _), (4, .int _), (3, .int _), (2, .int _), (0, .ref _), (1, .ref _)] ((.int _) :: []) _ _
        refine go_if_eq (pc' := 205) dL_made_150 rfl (fun c => absurd c (by decide)) (fun _ => ?_)
        show bw_go _ _ _ _ _ _ _ 153 [(5, .int _), (4, .int _), (3, .int _), (2, .int _), (0, .ref _), (1, .ref _)] ([]) _ _
        refine go_aload_n dL_made_153 rfl ?_
        refine go_iload dL_made_154 rfl ?_
        refine go_iconst (3) dL_made_156 rfl ?_
        refine go_iadd dL_made_157 ?_
        rw [show (3 : Int32) = nI 3 from rfl, nI_add]
        refine go_bipush (48) dL_made_158 rfl ?_
        refine go_aload_n dL_made_160 rfl ?_
        refine go_bipush (20) dL_made_161 rfl ?_
        refine go_iload dL_made_163 rfl ?_
        refine go_iadd dL_made_165 ?_
        rw [show (20 : Int32) = nI 20 from rfl, nI_add]
        refine go_ia dL_made_166 (lb_a hl (AR_e A _)).2.1 (lb_a hl (AR_e A _)).1 (n_in (N := 28) (by omega) (by decide)) ?_
        rw [nI_clamp (by omega), (lb_a hl (AR_e A _)).2.2, g4]
        refine go_bipush (10) dL_made_167 rfl ?_
        refine go_idiv dL_made_169 (fun z => absurd z (by decide)) ?_
        rw [show (10 : Int32) = nI 10 from rfl, nI_div (by omega) (by decide) (by decide)]
        refine go_iadd dL_made_170 ?_
        rw [show (48 : Int32) = nI 48 from rfl, nI_add]
        refine go_cs (as := [.ref _, .int _, .int _]) 5 dL_made_171 rfl rfl mt_9_28 (Nat.le_of_ble_eq_true rfl) rfl rfl (Nat.le_of_ble_eq_true rfl) (Nat.le_of_ble_eq_true rfl) (Nat.le_of_ble_eq_true rfl) (Nat.le_of_ble_eq_true rfl) ?_
        refine me_sgn (m := 3 + 6 * n) (a := 4 + 6 * i + 3) (x := 48 + vF F i / 10) hl (by omega) (by omega) (by omega) (by rw [bw_up_o (by omega), bw_up_o (by omega), bw_up_o (by omega)]; exact tn_32 F d i _ (by omega)) (fun G hl => ?_)
        show bw_go _ _ _ _ _ _ _ 174 [(5, .int _), (4, .int _), (3, .int _), (2, .int _), (0, .ref _), (1, .ref _)] ((.int _) :: []) _ _
        refine go_if_eq (pc' := 205) dL_made_174 rfl (fun c => absurd c (by decide)) (fun _ => ?_)
        show bw_go _ _ _ _ _ _ _ 177 [(5, .int _), (4, .int _), (3, .int _), (2, .int _), (0, .ref _), (1, .ref _)] ([]) _ _
        refine go_aload_n dL_made_177 rfl ?_
        refine go_iload dL_made_178 rfl ?_
        refine go_iconst (4) dL_made_180 rfl ?_
        refine go_iadd dL_made_181 ?_
        rw [show (4 : Int32) = nI 4 from rfl, nI_add]
        refine go_bipush (48) dL_made_182 rfl ?_
        refine go_aload_n dL_made_184 rfl ?_
        refine go_bipush (20) dL_made_185 rfl ?_
        refine go_iload dL_made_187 rfl ?_
        refine go_iadd dL_made_189 ?_
        rw [show (20 : Int32) = nI 20 from rfl, nI_add]
        refine go_ia dL_made_190 (lb_a hl (AR_e A _)).2.1 (lb_a hl (AR_e A _)).1 (n_in (N := 28) (by omega) (by decide)) ?_
        rw [nI_clamp (by omega), (lb_a hl (AR_e A _)).2.2, g4]
        refine go_bipush (10) dL_made_191 rfl ?_
        refine go_irem dL_made_193 (fun z => absurd z (by decide)) ?_
        rw [show (10 : Int32) = nI 10 from rfl, nI_rem (by omega) (by decide) (by decide)]
        refine go_iadd dL_made_194 ?_
        rw [show (48 : Int32) = nI 48 from rfl, nI_add]
        refine go_cs (as := [.ref _, .int _, .int _]) 5 dL_made_195 rfl rfl mt_9_28 (Nat.le_of_ble_eq_true rfl) rfl rfl (Nat.le_of_ble_eq_true rfl) (Nat.le_of_ble_eq_true rfl) (Nat.le_of_ble_eq_true rfl) (Nat.le_of_ble_eq_true rfl) ?_
        refine me_sgn (m := 3 + 6 * n) (a := 4 + 6 * i + 4) (x := 48 + vF F i % 10) hl (by omega) (by omega) (by omega) (by rw [bw_up_o (by omega), bw_up_o (by omega), bw_up_o (by omega), bw_up_o (by omega)]; exact tn_32 F d i _ (by omega)) (fun G hl => ?_)
        show bw_go _ _ _ _ _ _ _ 198 [(5, .int _), (4, .int _), (3, .int _), (2, .int _), (0, .ref _), (1, .ref _)] ((.int _) :: []) _ _
        refine go_if_eq (pc' := 205) dL_made_198 rfl (fun c => absurd c (by decide)) (fun _ => ?_)
        show bw_go _ _ _ _ _ _ _ 201 [(5, .int _), (4, .int _), (3, .int _), (2, .int _), (0, .ref _), (1, .ref _)] ([]) _ _
        refine go_iconst (1) dL_made_201 rfl ?_
        refine go_goto (pc' := 206) dL_made_202 rfl ?_
        show bw_go _ _ _ _ _ _ _ 206 [(5, .int _), (4, .int _), (3, .int _), (2, .int _), (0, .ref _), (1, .ref _)] ((.int _) :: []) _ _
        refine go_istore_n dL_made_206 (Nat.lt_of_lt_of_le (Nat.lt_succ_self _) (Nat.le_of_ble_eq_true rfl)) ?_
        show bw_go _ _ _ _ _ _ _ 207 [(3, .int _), (5, .int _), (4, .int _), (2, .int _), (0, .ref _), (1, .ref _)] ([]) _ _
        refine go_iinc dL_made_207 rfl (nI_1 i) (Nat.lt_of_lt_of_le (Nat.lt_succ_self _) (Nat.le_of_ble_eq_true rfl)) ?_
        show bw_go _ _ _ _ _ _ _ 210 [(4, .int _), (3, .int _), (5, .int _), (2, .int _), (0, .ref _), (1, .ref _)] ([]) _ _
        refine go_goto (pc' := 72) dL_made_210 rfl ?_
        refine go_ls [(4, .int _), (3, .int _), (2, .int _), (0, .ref _), (1, .ref _)] (by show List.Nodup ([4, 3, 2, 0, 1] : List Nat); decide) (by show List.Nodup ([4, 3, 5, 2, 0, 1] : List Nat); decide) (le_cons rfl (le_cons rfl (le_cons rfl (le_cons rfl (le_cons rfl (le_nil _)))))) ?_
        refine K _ ?_
        rw [hx0e.symm, tn_s] at hl
        exact hl
    · -- behind the last
      intro g hv
      have hl := hv
      show bw_go _ _ _ _ _ _ _ 72 [(4, .int _), (3, .int _), (2, .int _), (0, .ref _), (1, .ref _)] ([]) _ _
      refine go_iload dL_made_72 rfl ?_
      refine go_aload_n dL_made_74 rfl ?_
      refine go_iconst (0) dL_made_75 rfl ?_
      refine go_ia dL_made_76 (lb_a hl (AR_e A _)).2.1 (lb_a hl (AR_e A _)).1 (by decide) ?_
      rw [show (0 : Int32).toNatClampNeg = 0 from rfl, (lb_a hl (AR_e A _)).2.2, hr.1]
      refine go_icmp_ge (pc' := 213) dL_made_77 rfl (fun c_77 => ?_) (fun c_77 => ?_)
      · -- ge at 77: yes
        show bw_go _ _ _ _ _ _ _ 213 [(4, .int _), (3, .int _), (2, .int _), (0, .ref _), (1, .ref _)] ([]) _ _
        refine go_iload_n dL_made_213 rfl ?_
        refine go_if_eq (pc' := 232) dL_made_214 rfl (fun c => absurd c (by decide)) (fun _ => ?_)
        show bw_go _ _ _ _ _ _ _ 217 [(4, .int _), (3, .int _), (2, .int _), (0, .ref _), (1, .ref _)] ([]) _ _
        refine go_aload_n dL_made_217 rfl ?_
        refine go_iconst (0) dL_made_218 rfl ?_
        refine go_cv (as := [.int _]) 6 dL_made_219 mt_9_36 (Or.inl rfl) rfl rfl (lb_lt hl) (lb_k hl) (Nat.le_of_ble_eq_true rfl) (Nat.le_of_ble_eq_true rfl) (Nat.le_of_ble_eq_true rfl) (Nat.le_of_ble_eq_true rfl) (Nat.le_of_ble_eq_true rfl) ?_
        refine lb_me hl (fun h Q hx hq => me_X7_court hx hq) (fun _ => rfl) (fun _ => rfl) (fun G hl => ?_)
        rw [eCourt (S0 := S) hr rfl] at hl ⊢
        show bw_go _ _ _ _ _ _ _ 222 [(4, .int _), (3, .int _), (2, .int _), (0, .ref _), (1, .ref _)] ((.int _) :: []) _ _
        refine go_aload_n dL_made_222 rfl ?_
        refine go_iconst (0) dL_made_223 rfl ?_
        refine go_ia dL_made_224 (lb_a hl (AR_e A _)).2.1 (lb_a hl (AR_e A _)).1 (by decide) ?_
        rw [show (0 : Int32).toNatClampNeg = 0 from rfl, (lb_a hl (AR_e A _)).2.2, hr.1]
        refine go_icmp_ne (pc' := 232) dL_made_225 rfl (fun c_225 => ?_) (fun c_225 => ?_)
        · -- ne at 225: yes
          show bw_go _ _ _ _ _ _ _ 232 [(4, .int _), (3, .int _), (2, .int _), (0, .ref _), (1, .ref _)] ([]) _ _
          refine go_iconst (0) dL_made_232 rfl ?_
          refine go_iret dL_made_233 rfl rfl ?_
          exact absurd rfl c_225
        · -- ne at 225: no
          show bw_go _ _ _ _ _ _ _ 228 [(4, .int _), (3, .int _), (2, .int _), (0, .ref _), (1, .ref _)] ([]) _ _
          refine go_iconst (1) dL_made_228 rfl ?_
          refine go_goto (pc' := 233) dL_made_229 rfl ?_
          show bw_go _ _ _ _ _ _ _ 233 [(4, .int _), (3, .int _), (2, .int _), (0, .ref _), (1, .ref _)] ((.int _) :: []) _ _
          refine go_iret dL_made_233 rfl rfl ?_
          exact hQ _ hl
      · -- ge at 77: no
        exfalso; have t_0 := nI_toInt (n := n) (by omega); simp only [i_le, i_lt, i_eq, bi_eq] at c_77; omega
