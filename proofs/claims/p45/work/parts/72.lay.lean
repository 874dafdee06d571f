/-! the law lays a court's numbers into its row -/
theorem upup {α : Type} (f : Nat → α) (p : Nat) (a b : α) : bw_up (bw_up f p a) p b = bw_up f p b := by
  funext q
  unfold bw_up
  split <;> rfl
def AR (A : LY) (F : Nat → Int32) : LY := bw_up A 62 (some (28, F))
theorem AR_e (A : LY) (F : Nat → Int32) : AR A F 62 = some (28, F) := bw_up_s _ _ _
theorem lb_st {z c k : Nat} {H : bw_H} {S : ST} {A : LY} {F : Nat → Int32} {v : Int32} (hl : LB z c H S (AR A F)) : LB z c (bw_si H 62 k v) S (AR A (bw_up F k v)) := by
  have h1 := lb_si (k := k) (v := v) hl (AR_e A F)
  unfold AR at h1
  rw [upup] at h1
  exact h1
theorem go_lb {X : Nat × (Nat → Int32)} {d o nL : Nat} {ini : Bool} {rt : Option FieldType} {cc : ByteArray} {pc : Nat} {ls : bw_L} {st : List Value} {E : bw_H} {Q : Option Value → bw_H → Prop} {z c : Nat} {S : ST} {A : LY} (hl : LB z c E S A) (K : ∀ H, LB z c H S A → bw_go X d o nL ini rt cc pc ls st H Q) : bw_go X d o nL ini rt cc pc ls st E Q := K E hl
def rkp (F : Nat → Int32) (i : Nat) : Prop := ∀ j, j < i → (∃ x, x < 6 ∧ F (2 + j) = nI x) ∧ (∃ x, x ≤ 2 ∧ F (8 + j) = nI x) ∧ (∃ x, x ≤ 9 ∧ F (14 + j) = nI x) ∧ ∃ x, x < 64 ∧ F (20 + j) = nI x
theorem rkp_s {F : Nat → Int32} {i a b c d : Nat} (h : rkp F i) (hi : i < 6) (ha : a < 6) (hb : b ≤ 2) (hc : c ≤ 9) (hd : d < 64) : rkp (bw_up (bw_up (bw_up (bw_up F (2 + i) (nI a)) (8 + i) (nI b)) (14 + i) (nI c)) (20 + i) (nI d)) (i + 1) := by
  intro j hj
  by_cases e : j = i
  · subst e
    refine ⟨⟨a, ha, ?_⟩, ⟨b, hb, ?_⟩, ⟨c, hc, ?_⟩, ⟨d, hd, ?_⟩⟩
    · rw [bw_up_o (by omega), bw_up_o (by omega), bw_up_o (by omega), bw_up_s]
    · rw [bw_up_o (by omega), bw_up_o (by omega), bw_up_s]
    · rw [bw_up_o (by omega), bw_up_s]
    · rw [bw_up_s]
  · obtain ⟨h1, h2, h3, h4⟩ := h j (by omega)
    refine ⟨?_, ?_, ?_, ?_⟩
    · rw [bw_up_o (by omega), bw_up_o (by omega), bw_up_o (by omega), bw_up_o (by omega)]; exact h1
    · rw [bw_up_o (by omega), bw_up_o (by omega), bw_up_o (by omega), bw_up_o (by omega)]; exact h2
    · rw [bw_up_o (by omega), bw_up_o (by omega), bw_up_o (by omega), bw_up_o (by omega)]; exact h3
    · rw [bw_up_o (by omega), bw_up_o (by omega), bw_up_o (by omega), bw_up_o (by omega)]; exact h4
def rok (F : Nat → Int32) (n d : Nat) : Prop := F 0 = nI n ∧ 1 ≤ n ∧ n ≤ 6 ∧ F 1 = nI d ∧ d < 64 ∧ rkp F n
set_option maxRecDepth 100000 in
set_option maxHeartbeats 4000000 in
theorem me_L_lay {X : Nat × (Nat → Int32)} {Q : Option Value → bw_H → Prop} {h : bw_H} {S : ST} {A : LY} {F0 : Nat → Int32} (hl : LB 1 62 h S (AR A F0)) (hL : X.1 ≤ 260) (hQ : ∀ (G : bw_H) (F : Nat → Int32) (n d : Nat), LB 1 62 G S (AR A F) → rok F n d → Q none G) : bw_me X 1 bm_L_lay false [.retAddr 1, .ref 62] h Q := by
  show bw_go _ 1 9 4 false none cL_lay 0 [(0, .retAddr _), (1, .ref _)] [] _ _
  refine go_iconst (0) dL_lay_0 rfl ?_
  refine go_istore_n dL_lay_1 (Nat.lt_of_lt_of_le (Nat.lt_succ_self _) (Nat.le_of_ble_eq_true rfl)) ?_
  show bw_go _ _ _ _ _ _ _ 2 [(2, .int _), (0, .retAddr _), (1, .ref _)] ([]) _ _
  refine go_for (P := fun k => ∀ (g : bw_H) (F : Nat → Int32), (LB 1 62 g S (AR A F)) → bw_go X 1 9 4 false none cL_lay 2 [(2, .int (nI k)), (0, .retAddr 1), (1, .ref (62))] [] g Q) (N := 28) (fun k hk K => ?_) ?_ (0) (Nat.zero_le _) _ _ hl
  · -- a turn
    intro g F hv
    have hl := hv
    show bw_go _ _ _ _ _ _ _ 2 [(2, .int _), (0, .retAddr _), (1, .ref _)] ([]) _ _
    refine go_iload_n dL_lay_2 rfl ?_
    refine go_bipush (28) dL_lay_3 rfl ?_
    refine go_icmp_ge (pc' := 18) dL_lay_5 rfl (fun c_5 => ?_) (fun c_5 => ?_)
    · -- ge at 5: yes
      exfalso; have t_0 := nI_toInt (n := k) (by omega); have l_0 : (28 : Int32).toInt = 28 := rfl; simp only [i_le, i_lt, i_eq, bi_eq] at c_5; omega
    · -- ge at 5: no
      show bw_go _ _ _ _ _ _ _ 8 [(2, .int _), (0, .retAddr _), (1, .ref _)] ([]) _ _
      refine go_aload_n dL_lay_8 rfl ?_
      refine go_iload_n dL_lay_9 rfl ?_
      refine go_iconst (0) dL_lay_10 rfl ?_
      refine go_ist dL_lay_11 (lb_a hl (AR_e A _)).2.1 (lb_a hl (AR_e A _)).1 (n_in (N := 28) hk (by decide)) ?_
      show bw_go _ _ _ _ _ _ _ 12 [(2, .int _), (0, .retAddr _), (1, .ref _)] ([]) _ _
      rw [nI_clamp (by omega)]
      refine go_iinc dL_lay_12 rfl (nI_1 k) (Nat.lt_of_lt_of_le (Nat.lt_succ_self _) (Nat.le_of_ble_eq_true rfl)) ?_
      show bw_go _ _ _ _ _ _ _ 15 [(2, .int _), (0, .retAddr _), (1, .ref _)] ([]) _ _
      refine go_goto (pc' := 2) dL_lay_15 rfl ?_
      exact K _ _ (lb_st hl)
  · -- behind the last
    intro g F hv
    have hl := hv
    show bw_go _ _ _ _ _ _ _ 2 [(2, .int _), (0, .retAddr _), (1, .ref _)] ([]) _ _
    refine go_iload_n dL_lay_2 rfl ?_
    refine go_bipush (28) dL_lay_3 rfl ?_
    refine go_icmp_ge (pc' := 18) dL_lay_5 rfl (fun c_5 => ?_) (fun c_5 => ?_)
    · -- ge at 5: yes
      show bw_go _ _ _ _ _ _ _ 18 [(2, .int _), (0, .retAddr _), (1, .ref _)] ([]) _ _
      refine go_aload_n dL_lay_18 rfl ?_
      refine go_iconst (0) dL_lay_19 rfl ?_
      refine go_iconst (1) dL_lay_20 rfl ?_
      refine go_aloadA_n dL_lay_21 rfl ?_
      refine go_iconst (0) dL_lay_22 rfl ?_
      refine go_cs (as := [.retAddr _, .int _]) 0 dL_lay_23 rfl rfl mt_9_9 (Nat.le_of_ble_eq_true rfl) rfl rfl (Nat.le_of_ble_eq_true rfl) (Nat.le_of_ble_eq_true rfl) (Nat.le_of_ble_eq_true rfl) (Nat.le_of_ble_eq_true rfl) ?_
      refine me_L_cell (k := 0) hL (by decide) ?_
      show bw_go _ _ _ _ _ _ _ 26 [(2, .int _), (0, .retAddr _), (1, .ref _)] ((.int _) :: (.int _) :: (.int _) :: (.ref _) :: []) _ _
      refine go_bipush (6) dL_lay_26 rfl ?_
      refine go_cs (as := [.int _, .int _]) 0 dL_lay_28 rfl rfl mt_9_15 (Nat.le_of_ble_eq_true rfl) rfl rfl (Nat.le_of_ble_eq_true rfl) (Nat.le_of_ble_eq_true rfl) (Nat.le_of_ble_eq_true rfl) (Nat.le_of_ble_eq_true rfl) ?_
      refine me_L_up (n := 6) (by decide) (by decide) ?_
      show bw_go _ _ _ _ _ _ _ 31 [(2, .int _), (0, .retAddr _), (1, .ref _)] ((.int _) :: (.int _) :: (.int _) :: (.ref _) :: []) _ _
      refine go_iadd dL_lay_31 ?_
      rw [show (1 : Int32) = nI 1 from rfl, nI_add]
      refine go_ist dL_lay_32 (lb_a hl (AR_e A _)).2.1 (lb_a hl (AR_e A _)).1 (by decide) ?_
      show bw_go _ _ _ _ _ _ _ 33 [(2, .int _), (0, .retAddr _), (1, .ref _)] ([]) _ _
      rw [show (0 : Int32).toNatClampNeg = 0 from rfl]
      refine go_lb (lb_st hl) (fun H hl => ?_)
      refine go_aload_n dL_lay_33 rfl ?_
      refine go_iconst (1) dL_lay_34 rfl ?_
      refine go_aloadA_n dL_lay_35 rfl ?_
      refine go_iconst (0) dL_lay_36 rfl ?_
      refine go_cs (as := [.retAddr _, .int _]) 0 dL_lay_37 rfl rfl mt_9_9 (Nat.le_of_ble_eq_true rfl) rfl rfl (Nat.le_of_ble_eq_true rfl) (Nat.le_of_ble_eq_true rfl) (Nat.le_of_ble_eq_true rfl) (Nat.le_of_ble_eq_true rfl) ?_
      refine me_L_cell (k := 0) hL (by decide) ?_
      show bw_go _ _ _ _ _ _ _ 40 [(2, .int _), (0, .retAddr _), (1, .ref _)] ((.int _) :: (.int _) :: (.ref _) :: []) _ _
      refine go_iconst (4) dL_lay_40 rfl ?_
      refine go_ishr dL_lay_41 ?_
      refine go_bipush (64) dL_lay_42 rfl ?_
      refine go_cs (as := [.int _, .int _]) 0 dL_lay_44 rfl rfl mt_9_15 (Nat.le_of_ble_eq_true rfl) rfl rfl (Nat.le_of_ble_eq_true rfl) (Nat.le_of_ble_eq_true rfl) (Nat.le_of_ble_eq_true rfl) (Nat.le_of_ble_eq_true rfl) ?_
      refine me_L_up (n := 64) (by decide) (by decide) ?_
      show bw_go _ _ _ _ _ _ _ 47 [(2, .int _), (0, .retAddr _), (1, .ref _)] ((.int _) :: (.int _) :: (.ref _) :: []) _ _
      refine go_ist dL_lay_47 (lb_a hl (AR_e A _)).2.1 (lb_a hl (AR_e A _)).1 (by decide) ?_
      show bw_go _ _ _ _ _ _ _ 48 [(2, .int _), (0, .retAddr _), (1, .ref _)] ([]) _ _
      rw [show (1 : Int32).toNatClampNeg = 1 from rfl]
      refine go_lb (lb_st hl) (fun H hl => ?_)
      refine go_iconst (0) dL_lay_48 rfl ?_
      refine go_istore_n dL_lay_49 (Nat.lt_of_lt_of_le (Nat.lt_succ_self _) (Nat.le_of_ble_eq_true rfl)) ?_
      show bw_go _ _ _ _ _ _ _ 50 [(2, .int _), (0, .retAddr _), (1, .ref _)] ([]) _ _
      generalize hn : 1 + upn (clx X 0) 6 = n at hl
      generalize hd0 : upn (clx X 0 >>> (4 &&& 31)) 64 = d at hl
      have hn6 : n ≤ 6 := by have := upn_lt (v := clx X 0) (n := 6) (by decide); omega
      have hn1 : 1 ≤ n := by omega
      have hd : d < 64 := by rw [← hd0]; exact upn_lt (by decide)
      refine go_for (P := fun i => ∀ (g : bw_H) (F : Nat → Int32), (LB 1 62 g S (AR A F) ∧ (F 0 = nI n ∧ F 1 = nI d) ∧ rkp F i) → bw_go X 1 9 4 false none cL_lay 50 [(2, .int (nI i)), (0, .retAddr 1), (1, .ref (62))] [] g Q) (N := n) (fun i hi K => ?_) ?_ (0) (Nat.zero_le _) _ _ ⟨hl, ⟨rfl, rfl⟩, fun j hj => absurd hj (Nat.not_lt_zero j)⟩
      · -- a turn
        intro g F hv
        obtain ⟨hl, hF, hk⟩ := hv
        show bw_go _ _ _ _ _ _ _ 50 [(2, .int _), (0, .retAddr _), (1, .ref _)] ([]) _ _
        refine go_iload_n dL_lay_50 rfl ?_
        refine go_aload_n dL_lay_51 rfl ?_
        refine go_iconst (0) dL_lay_52 rfl ?_
        refine go_ia dL_lay_53 (lb_a hl (AR_e A _)).2.1 (lb_a hl (AR_e A _)).1 (by decide) ?_
        rw [show (0 : Int32).toNatClampNeg = 0 from rfl, (lb_a hl (AR_e A _)).2.2, hF.1]
        refine go_icmp_ge (pc' := 184) dL_lay_54 rfl (fun c_54 => ?_) (fun c_54 => ?_)
        · -- ge at 54: yes
          exfalso; have t_0 := nI_toInt (n := i) (by omega); have t_1 := nI_toInt (n := n) (by omega); simp only [i_le, i_lt, i_eq, bi_eq] at c_54; omega
        · -- ge at 54: no
          show bw_go _ _ _ _ _ _ _ 57 [(2, .int _), (0, .retAddr _), (1, .ref _)] ([]) _ _
          refine go_aloadA_n dL_lay_57 rfl ?_
          refine go_iconst (1) dL_lay_58 rfl ?_
          refine go_iload_n dL_lay_59 rfl ?_
          refine go_iadd dL_lay_60 ?_
          rw [show (1 : Int32) = nI 1 from rfl, nI_add]
          refine go_cs (as := [.retAddr _, .int _]) 0 dL_lay_61 rfl rfl mt_9_9 (Nat.le_of_ble_eq_true rfl) rfl rfl (Nat.le_of_ble_eq_true rfl) (Nat.le_of_ble_eq_true rfl) (Nat.le_of_ble_eq_true rfl) (Nat.le_of_ble_eq_true rfl) ?_
          refine me_L_cell hL (by omega) ?_
          generalize clx X (1 + i) = x
          show bw_go _ _ _ _ _ _ _ 64 [(2, .int _), (0, .retAddr _), (1, .ref _)] ((.int _) :: []) _ _
          refine go_istore_n dL_lay_64 (Nat.lt_of_lt_of_le (Nat.lt_succ_self _) (Nat.le_of_ble_eq_true rfl)) ?_
          show bw_go _ _ _ _ _ _ _ 65 [(3, .int _), (2, .int _), (0, .retAddr _), (1, .ref _)] ([]) _ _
          refine go_aload_n dL_lay_65 rfl ?_
          refine go_iconst (2) dL_lay_66 rfl ?_
          refine go_iload_n dL_lay_67 rfl ?_
          refine go_iadd dL_lay_68 ?_
          rw [show (2 : Int32) = nI 2 from rfl, nI_add]
          refine go_iload_n dL_lay_69 rfl ?_
          refine go_bipush (6) dL_lay_70 rfl ?_
          refine go_cs (as := [.int _, .int _]) 0 dL_lay_72 rfl rfl mt_9_15 (Nat.le_of_ble_eq_true rfl) rfl rfl (Nat.le_of_ble_eq_true rfl) (Nat.le_of_ble_eq_true rfl) (Nat.le_of_ble_eq_true rfl) (Nat.le_of_ble_eq_true rfl) ?_
          refine me_L_up (n := 6) (by decide) (by decide) ?_
          show bw_go _ _ _ _ _ _ _ 75 [(3, .int _), (2, .int _), (0, .retAddr _), (1, .ref _)] ((.int _) :: (.int _) :: (.ref _) :: []) _ _
          refine go_ist dL_lay_75 (lb_a hl (AR_e A _)).2.1 (lb_a hl (AR_e A _)).1 (n_in (N := 28) (by omega) (by decide)) ?_
          show bw_go _ _ _ _ _ _ _ 76 [(3, .int _), (2, .int _), (0, .retAddr _), (1, .ref _)] ([]) _ _
          rw [nI_clamp (by omega)]
          refine go_lb (lb_st hl) (fun H hl => ?_)
          have b1 : upn x 6 < 6 := upn_lt (by decide)
          refine go_aload_n dL_lay_76 rfl ?_
          refine go_bipush (8) dL_lay_77 rfl ?_
          refine go_iload_n dL_lay_79 rfl ?_
          refine go_iadd dL_lay_80 ?_
          rw [show (8 : Int32) = nI 8 from rfl, nI_add]
          refine go_iload_n dL_lay_81 rfl ?_
          refine go_iconst (4) dL_lay_82 rfl ?_
          refine go_ishr dL_lay_83 ?_
          refine go_iconst (4) dL_lay_84 rfl ?_
          refine go_cs (as := [.int _, .int _]) 0 dL_lay_85 rfl rfl mt_9_15 (Nat.le_of_ble_eq_true rfl) rfl rfl (Nat.le_of_ble_eq_true rfl) (Nat.le_of_ble_eq_true rfl) (Nat.le_of_ble_eq_true rfl) (Nat.le_of_ble_eq_true rfl) ?_
          refine me_L_up (n := 4) (by decide) (by decide) ?_
          show bw_go _ _ _ _ _ _ _ 88 [(3, .int _), (2, .int _), (0, .retAddr _), (1, .ref _)] ((.int _) :: (.int _) :: (.ref _) :: []) _ _
          refine go_if_ne (pc' := 102) dL_lay_88 rfl (fun c_88 => ?_) (fun c_88 => ?_)
          · -- ne at 88: yes
            show bw_go _ _ _ _ _ _ _ 102 [(3, .int _), (2, .int _), (0, .retAddr _), (1, .ref _)] ((.int _) :: (.ref _) :: []) _ _
            refine go_iconst (1) dL_lay_102 rfl ?_
            refine go_iload_n dL_lay_103 rfl ?_
            refine go_bipush (6) dL_lay_104 rfl ?_
            refine go_ishr dL_lay_106 ?_
            refine go_iconst (2) dL_lay_107 rfl ?_
            refine go_cs (as := [.int _, .int _]) 0 dL_lay_108 rfl rfl mt_9_15 (Nat.le_of_ble_eq_true rfl) rfl rfl (Nat.le_of_ble_eq_true rfl) (Nat.le_of_ble_eq_true rfl) (Nat.le_of_ble_eq_true rfl) (Nat.le_of_ble_eq_true rfl) ?_
            refine me_L_up (n := 2) (by decide) (by decide) ?_
            show bw_go _ _ _ _ _ _ _ 111 [(3, .int _), (2, .int _), (0, .retAddr _), (1, .ref _)] ((.int _) :: (.int _) :: (.int _) :: (.ref _) :: []) _ _
            refine go_iadd dL_lay_111 ?_
            first | rw [show (1 : Int32) = nI 1 from rfl, nI_add] | skip
            refine go_ist dL_lay_112 (lb_a hl (AR_e A _)).2.1 (lb_a hl (AR_e A _)).1 (n_in (N := 28) (by omega) (by decide)) ?_
            show bw_go _ _ _ _ _ _ _ 113 [(3, .int _), (2, .int _), (0, .retAddr _), (1, .ref _)] ([]) _ _
            rw [nI_clamp (by omega)]
            refine go_lb (lb_st hl) (fun H hl => ?_)
            refine go_aload_n dL_lay_113 rfl ?_
            refine go_bipush (14) dL_lay_114 rfl ?_
            refine go_iload_n dL_lay_116 rfl ?_
            refine go_iadd dL_lay_117 ?_
            rw [show (14 : Int32) = nI 14 from rfl, nI_add]
            refine go_iload_n dL_lay_118 rfl ?_
            refine go_bipush (8) dL_lay_119 rfl ?_
            refine go_ishr dL_lay_121 ?_
            refine go_iload_n dL_lay_122 rfl ?_
            refine go_bipush (20) dL_lay_123 rfl ?_
            refine go_ishr dL_lay_125 ?_
            refine go_iconst (3) dL_lay_126 rfl ?_
            refine go_cs (as := [.int _, .int _]) 0 dL_lay_127 rfl rfl mt_9_15 (Nat.le_of_ble_eq_true rfl) rfl rfl (Nat.le_of_ble_eq_true rfl) (Nat.le_of_ble_eq_true rfl) (Nat.le_of_ble_eq_true rfl) (Nat.le_of_ble_eq_true rfl) ?_
            refine me_L_up (n := 3) (by decide) (by decide) ?_
            show bw_go _ _ _ _ _ _ _ 130 [(3, .int _), (2, .int _), (0, .retAddr _), (1, .ref _)] ((.int _) :: (.int _) :: (.int _) :: (.ref _) :: []) _ _
            refine go_if_ne (pc' := 138) dL_lay_130 rfl (fun c_130 => ?_) (fun c_130 => ?_)
            · -- ne at 130: yes
              show bw_go _ _ _ _ _ _ _ 138 [(3, .int _), (2, .int _), (0, .retAddr _), (1, .ref _)] ((.int _) :: (.int _) :: (.ref _) :: []) _ _
              refine go_bipush (6) dL_lay_138 rfl ?_
              refine go_cs (as := [.int _, .int _]) 0 dL_lay_140 rfl rfl mt_9_15 (Nat.le_of_ble_eq_true rfl) rfl rfl (Nat.le_of_ble_eq_true rfl) (Nat.le_of_ble_eq_true rfl) (Nat.le_of_ble_eq_true rfl) (Nat.le_of_ble_eq_true rfl) ?_
              refine me_L_up (n := 6) (by decide) (by decide) ?_
              show bw_go _ _ _ _ _ _ _ 143 [(3, .int _), (2, .int _), (0, .retAddr _), (1, .ref _)] ((.int _) :: (.int _) :: (.ref _) :: []) _ _
              refine go_ist dL_lay_143 (lb_a hl (AR_e A _)).2.1 (lb_a hl (AR_e A _)).1 (n_in (N := 28) (by omega) (by decide)) ?_
              show bw_go _ _ _ _ _ _ _ 144 [(3, .int _), (2, .int _), (0, .retAddr _), (1, .ref _)] ([]) _ _
              rw [nI_clamp (by omega)]
              refine go_lb (lb_st hl) (fun H hl => ?_)
              refine go_aload_n dL_lay_144 rfl ?_
              refine go_bipush (20) dL_lay_145 rfl ?_
              refine go_iload_n dL_lay_147 rfl ?_
              refine go_iadd dL_lay_148 ?_
              refine go_iload_n dL_lay_149 rfl ?_
              rw [show (20 : Int32) = nI 20 from rfl, nI_add]
              refine go_bipush (12) dL_lay_150 rfl ?_
              refine go_ishr dL_lay_152 ?_
              refine go_bipush (64) dL_lay_153 rfl ?_
              refine go_cs (as := [.int _, .int _]) 0 dL_lay_155 rfl rfl mt_9_15 (Nat.le_of_ble_eq_true rfl) rfl rfl (Nat.le_of_ble_eq_true rfl) (Nat.le_of_ble_eq_true rfl) (Nat.le_of_ble_eq_true rfl) (Nat.le_of_ble_eq_true rfl) ?_
              refine me_L_up (n := 64) (by decide) (by decide) ?_
              show bw_go _ _ _ _ _ _ _ 158 [(3, .int _), (2, .int _), (0, .retAddr _), (1, .ref _)] ((.int _) :: (.int _) :: (.ref _) :: []) _ _
              refine go_iload_n dL_lay_158 rfl ?_
              refine go_bipush (24) dL_lay_159 rfl ?_
              refine go_ishr dL_lay_161 ?_
              refine go_iconst (2) dL_lay_162 rfl ?_
              refine go_cs (as := [.int _, .int _]) 0 dL_lay_163 rfl rfl mt_9_15 (Nat.le_of_ble_eq_true rfl) rfl rfl (Nat.le_of_ble_eq_true rfl) (Nat.le_of_ble_eq_true rfl) (Nat.le_of_ble_eq_true rfl) (Nat.le_of_ble_eq_true rfl) ?_
              refine me_L_up (n := 2) (by decide) (by decide) ?_
              show bw_go _ _ _ _ _ _ _ 166 [(3, .int _), (2, .int _), (0, .retAddr _), (1, .ref _)] ((.int _) :: (.int _) :: (.int _) :: (.ref _) :: []) _ _
              refine go_iload_n dL_lay_166 rfl ?_
              refine go_bipush (18) dL_lay_167 rfl ?_
              refine go_ishr dL_lay_169 ?_
              refine go_bipush (64) dL_lay_170 rfl ?_
              refine go_cs (as := [.int _, .int _]) 0 dL_lay_172 rfl rfl mt_9_15 (Nat.le_of_ble_eq_true rfl) rfl rfl (Nat.le_of_ble_eq_true rfl) (Nat.le_of_ble_eq_true rfl) (Nat.le_of_ble_eq_true rfl) (Nat.le_of_ble_eq_true rfl) ?_
              refine me_L_up (n := 64) (by decide) (by decide) ?_
              show bw_go _ _ _ _ _ _ _ 175 [(3, .int _), (2, .int _), (0, .retAddr _), (1, .ref _)] ((.int _) :: (.int _) :: (.int _) :: (.int _) :: (.ref _) :: []) _ _
              refine go_imul dL_lay_175 ?_
              rw [nmul]
              refine go_ior dL_lay_176 ?_
              rw [or_n]
              refine go_ist dL_lay_177 (lb_a hl (AR_e A _)).2.1 (lb_a hl (AR_e A _)).1 (n_in (N := 28) (by omega) (by decide)) ?_
              show bw_go _ _ _ _ _ _ _ 178 [(3, .int _), (2, .int _), (0, .retAddr _), (1, .ref _)] ([]) _ _
              rw [nI_clamp (by omega)]
              refine go_lb (lb_st hl) (fun H hl => ?_)
              refine go_iinc dL_lay_178 rfl (nI_1 i) (Nat.lt_of_lt_of_le (Nat.lt_succ_self _) (Nat.le_of_ble_eq_true rfl)) ?_
              show bw_go _ _ _ _ _ _ _ 181 [(2, .int _), (3, .int _), (0, .retAddr _), (1, .ref _)] ([]) _ _
              refine go_goto (pc' := 50) dL_lay_181 rfl ?_
              refine go_ls [(2, .int _), (0, .retAddr _), (1, .ref _)] (by show List.Nodup ([2, 0, 1] : List Nat); decide) (by show List.Nodup ([2, 3, 0, 1] : List Nat); decide) (le_cons rfl (le_cons rfl (le_cons rfl (le_nil _)))) ?_
              have bm : upn (x >>> (24 &&& 31)) 2 * upn (x >>> (18 &&& 31)) 64 < 64 := by
                have q1 := upn_lt (v := x >>> (24 &&& 31)) (n := 2) (by decide)
                have q2 := upn_lt (v := x >>> (18 &&& 31)) (n := 64) (by decide)
                rcases (show upn (x >>> (24 &&& 31)) 2 = 0 ∨ upn (x >>> (24 &&& 31)) 2 = 1 by omega) with q3 | q3
                · rw [q3]; omega
                · rw [q3]; omega
              refine K _ _ ⟨hl, ⟨?_, ?_⟩, rkp_s hk (by omega) b1 (by have := upn_lt (v := x >>> (6 &&& 31)) (n := 2) (by decide); omega) (by have := upn_lt (v := x >>> (8 &&& 31)) (n := 6) (by decide); omega) (or_lt (upn_lt (by decide)) bm)⟩
              · rw [bw_up_o (by omega), bw_up_o (by omega), bw_up_o (by omega), bw_up_o (by omega)]; exact hF.1
              · rw [bw_up_o (by omega), bw_up_o (by omega), bw_up_o (by omega), bw_up_o (by omega)]; exact hF.2
            · -- ne at 130: no
              show bw_go _ _ _ _ _ _ _ 133 [(3, .int _), (2, .int _), (0, .retAddr _), (1, .ref _)] ((.int _) :: (.int _) :: (.ref _) :: []) _ _
              refine go_bipush (10) dL_lay_133 rfl ?_
              refine go_goto (pc' := 140) dL_lay_135 rfl ?_
              show bw_go _ _ _ _ _ _ _ 140 [(3, .int _), (2, .int _), (0, .retAddr _), (1, .ref _)] ((.int _) :: (.int _) :: (.int _) :: (.ref _) :: []) _ _
              refine go_cs (as := [.int _, .int _]) 0 dL_lay_140 rfl rfl mt_9_15 (Nat.le_of_ble_eq_true rfl) rfl rfl (Nat.le_of_ble_eq_true rfl) (Nat.le_of_ble_eq_true rfl) (Nat.le_of_ble_eq_true rfl) (Nat.le_of_ble_eq_true rfl) ?_
              refine me_L_up (n := 10) (by decide) (by decide) ?_
              show bw_go _ _ _ _ _ _ _ 143 [(3, .int _), (2, .int _), (0, .retAddr _), (1, .ref _)] ((.int _) :: (.int _) :: (.ref _) :: []) _ _
              refine go_ist dL_lay_143 (lb_a hl (AR_e A _)).2.1 (lb_a hl (AR_e A _)).1 (n_in (N := 28) (by omega) (by decide)) ?_
              show bw_go _ _ _ _ _ _ _ 144 [(3, .int _), (2, .int _), (0, .retAddr _), (1, .ref _)] ([]) _ _
              rw [nI_clamp (by omega)]
              refine go_lb (lb_st hl) (fun H hl => ?_)
              refine go_aload_n dL_lay_144 rfl ?_
              refine go_bipush (20) dL_lay_145 rfl ?_
              refine go_iload_n dL_lay_147 rfl ?_
              refine go_iadd dL_lay_148 ?_
              refine go_iload_n dL_lay_149 rfl ?_
              rw [show (20 : Int32) = nI 20 from rfl, nI_add]
              refine go_bipush (12) dL_lay_150 rfl ?_
              refine go_ishr dL_lay_152 ?_
              refine go_bipush (64) dL_lay_153 rfl ?_
              refine go_cs (as := [.int _, .int _]) 0 dL_lay_155 rfl rfl mt_9_15 (Nat.le_of_ble_eq_true rfl) rfl rfl (Nat.le_of_ble_eq_true rfl) (Nat.le_of_ble_eq_true rfl) (Nat.le_of_ble_eq_true rfl) (Nat.le_of_ble_eq_true rfl) ?_
              refine me_L_up (n := 64) (by decide) (by decide) ?_
              show bw_go _ _ _ _ _ _ _ 158 [(3, .int _), (2, .int _), (0, .retAddr _), (1, .ref _)] ((.int _) :: (.int _) :: (.ref _) :: []) _ _
              refine go_iload_n dL_lay_158 rfl ?_
              refine go_bipush (24) dL_lay_159 rfl ?_
              refine go_ishr dL_lay_161 ?_
              refine go_iconst (2) dL_lay_162 rfl ?_
              refine go_cs (as := [.int _, .int _]) 0 dL_lay_163 rfl rfl mt_9_15 (Nat.le_of_ble_eq_true rfl) rfl rfl (Nat.le_of_ble_eq_true rfl) (Nat.le_of_ble_eq_true rfl) (Nat.le_of_ble_eq_true rfl) (Nat.le_of_ble_eq_true rfl) ?_
              refine me_L_up (n := 2) (by decide) (by decide) ?_
              show bw_go _ _ _ _ _ _ _ 166 [(3, .int _), (2, .int _), (0, .retAddr _), (1, .ref _)] ((.int _) :: (.int _) :: (.int _) :: (.ref _) :: []) _ _
              refine go_iload_n dL_lay_166 rfl ?_
              refine go_bipush (18) dL_lay_167 rfl ?_
              refine go_ishr dL_lay_169 ?_
              refine go_bipush (64) dL_lay_170 rfl ?_
              refine go_cs (as := [.int _, .int _]) 0 dL_lay_172 rfl rfl mt_9_15 (Nat.le_of_ble_eq_true rfl) rfl rfl (Nat.le_of_ble_eq_true rfl) (Nat.le_of_ble_eq_true rfl) (Nat.le_of_ble_eq_true rfl) (Nat.le_of_ble_eq_true rfl) ?_
              refine me_L_up (n := 64) (by decide) (by decide) ?_
              show bw_go _ _ _ _ _ _ _ 175 [(3, .int _), (2, .int _), (0, .retAddr _), (1, .ref _)] ((.int _) :: (.int _) :: (.int _) :: (.int _) :: (.ref _) :: []) _ _
              refine go_imul dL_lay_175 ?_
              rw [nmul]
              refine go_ior dL_lay_176 ?_
              rw [or_n]
              refine go_ist dL_lay_177 (lb_a hl (AR_e A _)).2.1 (lb_a hl (AR_e A _)).1 (n_in (N := 28) (by omega) (by decide)) ?_
              show bw_go _ _ _ _ _ _ _ 178 [(3, .int _), (2, .int _), (0, .retAddr _), (1, .ref _)] ([]) _ _
              rw [nI_clamp (by omega)]
              refine go_lb (lb_st hl) (fun H hl => ?_)
              refine go_iinc dL_lay_178 rfl (nI_1 i) (Nat.lt_of_lt_of_le (Nat.lt_succ_self _) (Nat.le_of_ble_eq_true rfl)) ?_
              show bw_go _ _ _ _ _ _ _ 181 [(2, .int _), (3, .int _), (0, .retAddr _), (1, .ref _)] ([]) _ _
              refine go_goto (pc' := 50) dL_lay_181 rfl ?_
              refine go_ls [(2, .int _), (0, .retAddr _), (1, .ref _)] (by show List.Nodup ([2, 0, 1] : List Nat); decide) (by show List.Nodup ([2, 3, 0, 1] : List Nat); decide) (le_cons rfl (le_cons rfl (le_cons rfl (le_nil _)))) ?_
              have bm : upn (x >>> (24 &&& 31)) 2 * upn (x >>> (18 &&& 31)) 64 < 64 := by
                have q1 := upn_lt (v := x >>> (24 &&& 31)) (n := 2) (by decide)
                have q2 := upn_lt (v := x >>> (18 &&& 31)) (n := 64) (by decide)
                rcases (show upn (x >>> (24 &&& 31)) 2 = 0 ∨ upn (x >>> (24 &&& 31)) 2 = 1 by omega) with q3 | q3
                · rw [q3]; omega
                · rw [q3]; omega
              refine K _ _ ⟨hl, ⟨?_, ?_⟩, rkp_s hk (by omega) b1 (by have := upn_lt (v := x >>> (6 &&& 31)) (n := 2) (by decide); omega) (Nat.le_of_lt_succ (upn_lt (by decide))) (or_lt (upn_lt (by decide)) bm)⟩
              · rw [bw_up_o (by omega), bw_up_o (by omega), bw_up_o (by omega), bw_up_o (by omega)]; exact hF.1
              · rw [bw_up_o (by omega), bw_up_o (by omega), bw_up_o (by omega), bw_up_o (by omega)]; exact hF.2
          · -- ne at 88: no
            show bw_go _ _ _ _ _ _ _ 91 [(3, .int _), (2, .int _), (0, .retAddr _), (1, .ref _)] ((.int _) :: (.ref _) :: []) _ _
            refine go_iload_n dL_lay_91 rfl ?_
            refine go_bipush (6) dL_lay_92 rfl ?_
            refine go_ishr dL_lay_94 ?_
            refine go_iconst (3) dL_lay_95 rfl ?_
            refine go_cs (as := [.int _, .int _]) 0 dL_lay_96 rfl rfl mt_9_15 (Nat.le_of_ble_eq_true rfl) rfl rfl (Nat.le_of_ble_eq_true rfl) (Nat.le_of_ble_eq_true rfl) (Nat.le_of_ble_eq_true rfl) (Nat.le_of_ble_eq_true rfl) ?_
            refine me_L_up (n := 3) (by decide) (by decide) ?_
            show bw_go _ _ _ _ _ _ _ 99 [(3, .int _), (2, .int _), (0, .retAddr _), (1, .ref _)] ((.int _) :: (.int _) :: (.ref _) :: []) _ _
            refine go_goto (pc' := 112) dL_lay_99 rfl ?_
            show bw_go _ _ _ _ _ _ _ 112 [(3, .int _), (2, .int _), (0, .retAddr _), (1, .ref _)] ((.int _) :: (.int _) :: (.ref _) :: []) _ _
            first | rw [show (1 : Int32) = nI 1 from rfl, nI_add] | skip
            refine go_ist dL_lay_112 (lb_a hl (AR_e A _)).2.1 (lb_a hl (AR_e A _)).1 (n_in (N := 28) (by omega) (by decide)) ?_
            show bw_go _ _ _ _ _ _ _ 113 [(3, .int _), (2, .int _), (0, .retAddr _), (1, .ref _)] ([]) _ _
            rw [nI_clamp (by omega)]
            refine go_lb (lb_st hl) (fun H hl => ?_)
            refine go_aload_n dL_lay_113 rfl ?_
            refine go_bipush (14) dL_lay_114 rfl ?_
            refine go_iload_n dL_lay_116 rfl ?_
            refine go_iadd dL_lay_117 ?_
            rw [show (14 : Int32) = nI 14 from rfl, nI_add]
            refine go_iload_n dL_lay_118 rfl ?_
            refine go_bipush (8) dL_lay_119 rfl ?_
            refine go_ishr dL_lay_121 ?_
            refine go_iload_n dL_lay_122 rfl ?_
            refine go_bipush (20) dL_lay_123 rfl ?_
            refine go_ishr dL_lay_125 ?_
            refine go_iconst (3) dL_lay_126 rfl ?_
            refine go_cs (as := [.int _, .int _]) 0 dL_lay_127 rfl rfl mt_9_15 (Nat.le_of_ble_eq_true rfl) rfl rfl (Nat.le_of_ble_eq_true rfl) (Nat.le_of_ble_eq_true rfl) (Nat.le_of_ble_eq_true rfl) (Nat.le_of_ble_eq_true rfl) ?_
            refine me_L_up (n := 3) (by decide) (by decide) ?_
            show bw_go _ _ _ _ _ _ _ 130 [(3, .int _), (2, .int _), (0, .retAddr _), (1, .ref _)] ((.int _) :: (.int _) :: (.int _) :: (.ref _) :: []) _ _
            refine go_if_ne (pc' := 138) dL_lay_130 rfl (fun c_130 => ?_) (fun c_130 => ?_)
            · -- ne at 130: yes
              show bw_go _ _ _ _ _ _ _ 138 [(3, .int _), (2, .int _), (0, .retAddr _), (1, .ref _)] ((.int _) :: (.int _) :: (.ref _) :: []) _ _
              refine go_bipush (6) dL_lay_138 rfl ?_
              refine go_cs (as := [.int _, .int _]) 0 dL_lay_140 rfl rfl mt_9_15 (Nat.le_of_ble_eq_true rfl) rfl rfl (Nat.le_of_ble_eq_true rfl) (Nat.le_of_ble_eq_true rfl) (Nat.le_of_ble_eq_true rfl) (Nat.le_of_ble_eq_true rfl) ?_
              refine me_L_up (n := 6) (by decide) (by decide) ?_
              show bw_go _ _ _ _ _ _ _ 143 [(3, .int _), (2, .int _), (0, .retAddr _), (1, .ref _)] ((.int _) :: (.int _) :: (.ref _) :: []) _ _
              refine go_ist dL_lay_143 (lb_a hl (AR_e A _)).2.1 (lb_a hl (AR_e A _)).1 (n_in (N := 28) (by omega) (by decide)) ?_
              show bw_go _ _ _ _ _ _ _ 144 [(3, .int _), (2, .int _), (0, .retAddr _), (1, .ref _)] ([]) _ _
              rw [nI_clamp (by omega)]
              refine go_lb (lb_st hl) (fun H hl => ?_)
              refine go_aload_n dL_lay_144 rfl ?_
              refine go_bipush (20) dL_lay_145 rfl ?_
              refine go_iload_n dL_lay_147 rfl ?_
              refine go_iadd dL_lay_148 ?_
              refine go_iload_n dL_lay_149 rfl ?_
              rw [show (20 : Int32) = nI 20 from rfl, nI_add]
              refine go_bipush (12) dL_lay_150 rfl ?_
              refine go_ishr dL_lay_152 ?_
              refine go_bipush (64) dL_lay_153 rfl ?_
              refine go_cs (as := [.int _, .int _]) 0 dL_lay_155 rfl rfl mt_9_15 (Nat.le_of_ble_eq_true rfl) rfl rfl (Nat.le_of_ble_eq_true rfl) (Nat.le_of_ble_eq_true rfl) (Nat.le_of_ble_eq_true rfl) (Nat.le_of_ble_eq_true rfl) ?_
              refine me_L_up (n := 64) (by decide) (by decide) ?_
              show bw_go _ _ _ _ _ _ _ 158 [(3, .int _), (2, .int _), (0, .retAddr _), (1, .ref _)] ((.int _) :: (.int _) :: (.ref _) :: []) _ _
              refine go_iload_n dL_lay_158 rfl ?_
              refine go_bipush (24) dL_lay_159 rfl ?_
              refine go_ishr dL_lay_161 ?_
              refine go_iconst (2) dL_lay_162 rfl ?_
              refine go_cs (as := [.int _, .int _]) 0 dL_lay_163 rfl rfl mt_9_15 (Nat.le_of_ble_eq_true rfl) rfl rfl (Nat.le_of_ble_eq_true rfl) (Nat.le_of_ble_eq_true rfl) (Nat.le_of_ble_eq_true rfl) (Nat.le_of_ble_eq_true rfl) ?_
              refine me_L_up (n := 2) (by decide) (by decide) ?_
              show bw_go _ _ _ _ _ _ _ 166 [(3, .int _), (2, .int _), (0, .retAddr _), (1, .ref _)] ((.int _) :: (.int _) :: (.int _) :: (.ref _) :: []) _ _
              refine go_iload_n dL_lay_166 rfl ?_
              refine go_bipush (18) dL_lay_167 rfl ?_
              refine go_ishr dL_lay_169 ?_
              refine go_bipush (64) dL_lay_170 rfl ?_
              refine go_cs (as := [.int _, .int _]) 0 dL_lay_172 rfl rfl mt_9_15 (Nat.le_of_ble_eq_true rfl) rfl rfl (Nat.le_of_ble_eq_true rfl) (Nat.le_of_ble_eq_true rfl) (Nat.le_of_ble_eq_true rfl) (Nat.le_of_ble_eq_true rfl) ?_
              refine me_L_up (n := 64) (by decide) (by decide) ?_
              show bw_go _ _ _ _ _ _ _ 175 [(3, .int _), (2, .int _), (0, .retAddr _), (1, .ref _)] ((.int _) :: (.int _) :: (.int _) :: (.int _) :: (.ref _) :: []) _ _
              refine go_imul dL_lay_175 ?_
              rw [nmul]
              refine go_ior dL_lay_176 ?_
              rw [or_n]
              refine go_ist dL_lay_177 (lb_a hl (AR_e A _)).2.1 (lb_a hl (AR_e A _)).1 (n_in (N := 28) (by omega) (by decide)) ?_
              show bw_go _ _ _ _ _ _ _ 178 [(3, .int _), (2, .int _), (0, .retAddr _), (1, .ref _)] ([]) _ _
              rw [nI_clamp (by omega)]
              refine go_lb (lb_st hl) (fun H hl => ?_)
              refine go_iinc dL_lay_178 rfl (nI_1 i) (Nat.lt_of_lt_of_le (Nat.lt_succ_self _) (Nat.le_of_ble_eq_true rfl)) ?_
              show bw_go _ _ _ _ _ _ _ 181 [(2, .int _), (3, .int _), (0, .retAddr _), (1, .ref _)] ([]) _ _
              refine go_goto (pc' := 50) dL_lay_181 rfl ?_
              refine go_ls [(2, .int _), (0, .retAddr _), (1, .ref _)] (by show List.Nodup ([2, 0, 1] : List Nat); decide) (by show List.Nodup ([2, 3, 0, 1] : List Nat); decide) (le_cons rfl (le_cons rfl (le_cons rfl (le_nil _)))) ?_
              have bm : upn (x >>> (24 &&& 31)) 2 * upn (x >>> (18 &&& 31)) 64 < 64 := by
                have q1 := upn_lt (v := x >>> (24 &&& 31)) (n := 2) (by decide)
                have q2 := upn_lt (v := x >>> (18 &&& 31)) (n := 64) (by decide)
                rcases (show upn (x >>> (24 &&& 31)) 2 = 0 ∨ upn (x >>> (24 &&& 31)) 2 = 1 by omega) with q3 | q3
                · rw [q3]; omega
                · rw [q3]; omega
              refine K _ _ ⟨hl, ⟨?_, ?_⟩, rkp_s hk (by omega) b1 (Nat.le_of_lt_succ (upn_lt (by decide))) (by have := upn_lt (v := x >>> (8 &&& 31)) (n := 6) (by decide); omega) (or_lt (upn_lt (by decide)) bm)⟩
              · rw [bw_up_o (by omega), bw_up_o (by omega), bw_up_o (by omega), bw_up_o (by omega)]; exact hF.1
              · rw [bw_up_o (by omega), bw_up_o (by omega), bw_up_o (by omega), bw_up_o (by omega)]; exact hF.2
            · -- ne at 130: no
              show bw_go _ _ _ _ _ _ _ 133 [(3, .int _), (2, .int _), (0, .retAddr _), (1, .ref _)] ((.int _) :: (.int _) :: (.ref _) :: []) _ _
              refine go_bipush (10) dL_lay_133 rfl ?_
              refine go_goto (pc' := 140) dL_lay_135 rfl ?_
              show bw_go _ _ _ _ _ _ _ 140 [(3, .int _), (2, .int _), (0, .retAddr _), (1, .ref _)] ((.int _) :: (.int _) :: (.int _) :: (.ref _) :: []) _ _
              refine go_cs (as := [.int _, .int _]) 0 dL_lay_140 rfl rfl mt_9_15 (Nat.le_of_ble_eq_true rfl) rfl rfl (Nat.le_of_ble_eq_true rfl) (Nat.le_of_ble_eq_true rfl) (Nat.le_of_ble_eq_true rfl) (Nat.le_of_ble_eq_true rfl) ?_
              refine me_L_up (n := 10) (by decide) (by decide) ?_
              show bw_go _ _ _ _ _ _ _ 143 [(3, .int _), (2, .int _), (0, .retAddr _), (1, .ref _)] ((.int _) :: (.int _) :: (.ref _) :: []) _ _
              refine go_ist dL_lay_143 (lb_a hl (AR_e A _)).2.1 (lb_a hl (AR_e A _)).1 (n_in (N := 28) (by omega) (by decide)) ?_
              show bw_go _ _ _ _ _ _ _ 144 [(3, .int _), (2, .int _), (0, .retAddr _), (1, .ref _)] ([]) _ _
              rw [nI_clamp (by omega)]
              refine go_lb (lb_st hl) (fun H hl => ?_)
              refine go_aload_n dL_lay_144 rfl ?_
              refine go_bipush (20) dL_lay_145 rfl ?_
              refine go_iload_n dL_lay_147 rfl ?_
              refine go_iadd dL_lay_148 ?_
              refine go_iload_n dL_lay_149 rfl ?_
              rw [show (20 : Int32) = nI 20 from rfl, nI_add]
              refine go_bipush (12) dL_lay_150 rfl ?_
              refine go_ishr dL_lay_152 ?_
              refine go_bipush (64) dL_lay_153 rfl ?_
              refine go_cs (as := [.int _, .int _]) 0 dL_lay_155 rfl rfl mt_9_15 (Nat.le_of_ble_eq_true rfl) rfl rfl (Nat.le_of_ble_eq_true rfl) (Nat.le_of_ble_eq_true rfl) (Nat.le_of_ble_eq_true rfl) (Nat.le_of_ble_eq_true rfl) ?_
              refine me_L_up (n := 64) (by decide) (by decide) ?_
              show bw_go _ _ _ _ _ _ _ 158 [(3, .int _), (2, .int _), (0, .retAddr _), (1, .ref _)] ((.int _) :: (.int _) :: (.ref _) :: []) _ _
              refine go_iload_n dL_lay_158 rfl ?_
              refine go_bipush (24) dL_lay_159 rfl ?_
              refine go_ishr dL_lay_161 ?_
              refine go_iconst (2) dL_lay_162 rfl ?_
              refine go_cs (as := [.int _, .int _]) 0 dL_lay_163 rfl rfl mt_9_15 (Nat.le_of_ble_eq_true rfl) rfl rfl (Nat.le_of_ble_eq_true rfl) (Nat.le_of_ble_eq_true rfl) (Nat.le_of_ble_eq_true rfl) (Nat.le_of_ble_eq_true rfl) ?_
              refine me_L_up (n := 2) (by decide) (by decide) ?_
              show bw_go _ _ _ _ _ _ _ 166 [(3, .int _), (2, .int _), (0, .retAddr _), (1, .ref _)] ((.int _) :: (.int _) :: (.int _) :: (.ref _) :: []) _ _
              refine go_iload_n dL_lay_166 rfl ?_
              refine go_bipush (18) dL_lay_167 rfl ?_
              refine go_ishr dL_lay_169 ?_
              refine go_bipush (64) dL_lay_170 rfl ?_
              refine go_cs (as := [.int _, .int _]) 0 dL_lay_172 rfl rfl mt_9_15 (Nat.le_of_ble_eq_true rfl) rfl rfl (Nat.le_of_ble_eq_true rfl) (Nat.le_of_ble_eq_true rfl) (Nat.le_of_ble_eq_true rfl) (Nat.le_of_ble_eq_true rfl) ?_
              refine me_L_up (n := 64) (by decide) (by decide) ?_
              show bw_go _ _ _ _ _ _ _ 175 [(3, .int _), (2, .int _), (0, .retAddr _), (1, .ref _)] ((.int _) :: (.int _) :: (.int _) :: (.int _) :: (.ref _) :: []) _ _
              refine go_imul dL_lay_175 ?_
              rw [nmul]
              refine go_ior dL_lay_176 ?_
              rw [or_n]
              refine go_ist dL_lay_177 (lb_a hl (AR_e A _)).2.1 (lb_a hl (AR_e A _)).1 (n_in (N := 28) (by omega) (by decide)) ?_
              show bw_go _ _ _ _ _ _ _ 178 [(3, .int _), (2, .int _), (0, .retAddr _), (1, .ref _)] ([]) _ _
              rw [nI_clamp (by omega)]
              refine go_lb (lb_st hl) (fun H hl => ?_)
              refine go_iinc dL_lay_178 rfl (nI_1 i) (Nat.lt_of_lt_of_le (Nat.lt_succ_self _) (Nat.le_of_ble_eq_true rfl)) ?_
              show bw_go _ _ _ _ _ _ _ 181 [(2, .int _), (3, .int _), (0, .retAddr _), (1, .ref _)] ([]) _ _
              refine go_goto (pc' := 50) dL_lay_181 rfl ?_
              refine go_ls [(2, .int _), (0, .retAddr _), (1, .ref _)] (by show List.Nodup ([2, 0, 1] : List Nat); decide) (by show List.Nodup ([2, 3, 0, 1] : List Nat); decide) (le_cons rfl (le_cons rfl (le_cons rfl (le_nil _)))) ?_
              have bm : upn (x >>> (24 &&& 31)) 2 * upn (x >>> (18 &&& 31)) 64 < 64 := by
                have q1 := upn_lt (v := x >>> (24 &&& 31)) (n := 2) (by decide)
                have q2 := upn_lt (v := x >>> (18 &&& 31)) (n := 64) (by decide)
                rcases (show upn (x >>> (24 &&& 31)) 2 = 0 ∨ upn (x >>> (24 &&& 31)) 2 = 1 by omega) with q3 | q3
                · rw [q3]; omega
                · rw [q3]; omega
              refine K _ _ ⟨hl, ⟨?_, ?_⟩, rkp_s hk (by omega) b1 (Nat.le_of_lt_succ (upn_lt (by decide))) (Nat.le_of_lt_succ (upn_lt (by decide))) (or_lt (upn_lt (by decide)) bm)⟩
              · rw [bw_up_o (by omega), bw_up_o (by omega), bw_up_o (by omega), bw_up_o (by omega)]; exact hF.1
              · rw [bw_up_o (by omega), bw_up_o (by omega), bw_up_o (by omega), bw_up_o (by omega)]; exact hF.2
      · -- behind the last
        intro g F hv
        obtain ⟨hl, hF, hk⟩ := hv
        show bw_go _ _ _ _ _ _ _ 50 [(2, .int _), (0, .retAddr _), (1, .ref _)] ([]) _ _
        refine go_iload_n dL_lay_50 rfl ?_
        refine go_aload_n dL_lay_51 rfl ?_
        refine go_iconst (0) dL_lay_52 rfl ?_
        refine go_ia dL_lay_53 (lb_a hl (AR_e A _)).2.1 (lb_a hl (AR_e A _)).1 (by decide) ?_
        rw [show (0 : Int32).toNatClampNeg = 0 from rfl, (lb_a hl (AR_e A _)).2.2, hF.1]
        refine go_icmp_ge (pc' := 184) dL_lay_54 rfl (fun c_54 => ?_) (fun c_54 => ?_)
        · -- ge at 54: yes
          show bw_go _ _ _ _ _ _ _ 184 [(2, .int _), (0, .retAddr _), (1, .ref _)] ([]) _ _
          refine go_vret dL_lay_184 rfl ?_
          exact hQ g F n d hl ⟨hF.1, hn1, hn6, hF.2, hd, hk⟩
        · -- ge at 54: no
          exfalso; have t_0 := nI_toInt (n := n) (by omega); simp only [i_le, i_lt, i_eq, bi_eq] at c_54; omega
    · -- ge at 5: no
      exfalso; have t_0 := nI_toInt (n := 28) (by omega); have l_0 : (28 : Int32).toInt = 28 := rfl; simp only [i_le, i_lt, i_eq, bi_eq] at c_5; omega
