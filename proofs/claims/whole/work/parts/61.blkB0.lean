/-! BLOCKS. Printed by wip/make.py. -/
theorem b_B_init_0 {d : Nat} {A : Nat → Prop} {h0 : ah_H} {h : ah_H} {x0 : Nat} {h_1 : ah_H} {h_2 : ah_H} {h_3 : ah_H} {h_4 : ah_H} {h_5 : ah_H} (hd1 : 1 ≤ d) (w1 : A x0) (e1 : (ah_sel h x0 0 0).isSome = true) (q1 : ah_sto h x0 0 (.int 0) = h_1) (w2 : A x0) (e2 : (ah_sel h_1 x0 0 1).isSome = true) (q2 : ah_sto h_1 x0 1 (.long 0) = h_2) (w3 : A x0) (e3 : (ah_sel h_2 x0 0 2).isSome = true) (q3 : ah_sto h_2 x0 2 (.int 0) = h_3) (w4 : A x0) (e4 : (ah_sel h_3 x0 0 3).isSome = true) (q4 : ah_sto h_3 x0 3 (.int 0) = h_4) (w5 : A x0) (e5 : (ah_sel h_4 x0 0 4).isSome = true) (q5 : ah_sto h_4 x0 4 (.long 0) = h_5) : ah_At mt_B_init d A h0 (.returned none) h_5 0 [(0, .ref x0)] [] h := by
  refine s_aload_n d_B_init_0 rfl rfl ?_
  refine s_objinit d_B_init_1 mo_B_1 hd1 ?_
  refine s_aload_n d_B_init_4 rfl rfl ?_
  refine s_iconst (v := 0) d_B_init_5 (by decide) ?_
  refine s_putfieldE (k := 0) d_B_init_6 kc0 (by decide) fl_B_7 (Or.inl rfl) w1 rfl e1 q1 ?_
  refine s_aload_n d_B_init_9 rfl rfl ?_
  refine s_lconst (v := 0) d_B_init_10 (by decide) ?_
  refine s_putfieldE (k := 1) d_B_init_11 kc0 (by decide) fl_B_13 (Or.inl rfl) w2 rfl e2 q2 ?_
  refine s_aload_n d_B_init_14 rfl rfl ?_
  refine s_iconst (v := 0) d_B_init_15 (by decide) ?_
  refine s_putfieldE (k := 2) d_B_init_16 kc0 (by decide) fl_B_17 (Or.inl rfl) w3 rfl e3 q3 ?_
  refine s_aload_n d_B_init_19 rfl rfl ?_
  refine s_iconst (v := 0) d_B_init_20 (by decide) ?_
  refine s_putfieldE (k := 3) d_B_init_21 kc0 (by decide) fl_B_20 (Or.inl rfl) w4 rfl e4 q4 ?_
  refine s_aload_n d_B_init_24 rfl rfl ?_
  refine s_lconst (v := 0) d_B_init_25 (by decide) ?_
  refine s_putfieldE (k := 4) d_B_init_26 kc0 (by decide) fl_B_23 (Or.inl rfl) w5 rfl e5 q5 ?_
  exact e_vret d_B_init_29 rfl
