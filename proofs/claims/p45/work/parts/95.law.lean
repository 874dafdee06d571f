/-! the law, end to end -/
theorem law_go {X : Nat × (Nat → Int32)} {Q : Option Value → bw_H → Prop} {h : bw_H} (hn0 : bw_n h = 0) (hcl : cl h) (hL : X.1 ≤ 260) (hQ : ∀ g, bw_n g ≤ 79 → Q (some (.int 1)) g) : bw_go X 12 9 48 false (some .boolean) cL_law 0 [(0, .retAddr 1)] [] h Q := by
  refine law_AB hn0 hcl hL (fun G1 S1 F B hx hf => ?_)
  refine law_C hx hf (fun G2 S2 T hx hT => ?_)
  refine law_D hx hf (fun G3 S3 hx => ?_)
  refine law_E hx hf (fun G4 S4 hx => ?_)
  refine law_F hx hf (bw_up_s (fun _ => none) 0 (some B)) hL (fun G5 S5 W5 x hx6 hx => ?_)
  refine law_G hx hf hT hL (fun G6 S6 hx => ?_)
  refine law_H hx hf hT (fun G7 S7 hx => ?_)
  refine law_I hx hf hL (fun G8 S8 W8 q hq8 hx hm hlk => ?_)
  refine law_J hx hf hm hq8 hlk (fun G9 S9 hx => ?_)
  refine law_K hx hf hx6 hL (fun G10 S10 hx => ?_)
  refine law_L hx hf hL (fun G11 S11 Bk did U V hd hx ha => ?_)
  refine law_M hx ha hd hf.2.1 (fun G12 S12 B2 hx h2 hN2 hT2 => ?_)
  exact law_N hx hf h2 hT2 (bw_up_s (fun _ => none) 0 (some B)) rfl hQ
