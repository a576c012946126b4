/-! BLOCKS. Printed by wip/make.py. -/
theorem b_T_init_0 {d : Nat} {A : Nat → Prop} {h2 : ah_H} {o : Outcome} {h0 : ah_H} {h : ah_H} {x0 : Nat} {h_1 : ah_H} {h_2 : ah_H} {h_3 : ah_H} {h_4 : ah_H} {h_5 : ah_H} {h_6 : ah_H} {h_7 : ah_H} {h_8 : ah_H} {h_9 : ah_H} (hd1 : 1 ≤ d) (q1 : ah_new h (115, List.replicate 3 .null) = h_1) (w1 : A x0) (e1 : (ah_sel h_1 x0 4 0).isSome = true) (q2 : ah_sto h_1 x0 0 (.ref h.1) = h_2) (w2 : A x0) (e2 : (ah_sel h_2 x0 4 1).isSome = true) (q3 : ah_sto h_2 x0 1 (.int 0) = h_3) (q4 : ah_new h_3 (110, List.replicate 8 .null) = h_4) (w3 : A x0) (e3 : (ah_sel h_4 x0 4 2).isSome = true) (q5 : ah_sto h_4 x0 2 (.ref h_3.1) = h_5) (w4 : A x0) (e4 : (ah_sel h_5 x0 4 3).isSome = true) (q6 : ah_sto h_5 x0 3 (.int 0) = h_6) (q7 : ah_mna h_6 4 4 = h_7) (w5 : A x0) (e5 : (ah_sel h_7 x0 4 4).isSome = true) (q8 : ah_sto h_7 x0 4 (.ref h_6.1) = h_8) (w6 : A x0) (e6 : (ah_sel h_8 x0 4 5).isSome = true) (q9 : ah_sto h_8 x0 5 (.long 1000000000) = h_9) (k : ah_At mt_T_init d A h0 o h2 50 [(0, .ref x0), (1, .int 0)] [] h_9) : ah_At mt_T_init d A h0 o h2 0 [(0, .ref x0)] [] h := by
  refine s_aload_n d_T_init_0 rfl rfl ?_
  refine s_objinit d_T_init_1 mo_T_3 hd1 ?_
  refine s_aload_n d_T_init_4 rfl rfl ?_
  refine s_iconst (v := 3) d_T_init_5 (by decide) ?_
  refine s_anewarrayE (ci := 5) (j := 3) kc5 ⟨rfl, by decide, rfl⟩ cl_T_9 ao5 d_T_init_6 ⟨by decide, by decide⟩ (by decide) q1 ?_
  refine s_putfieldE (k := 0) d_T_init_9 kc4 (by decide) fl_T_11 (Or.inr ⟨rfl, rfl, rfl, flk_T_11⟩) w1 rfl e1 q2 ?_
  refine s_aload_n d_T_init_12 rfl rfl ?_
  refine s_iconst (v := 0) d_T_init_13 (by decide) ?_
  refine s_putfieldE (k := 1) d_T_init_14 kc4 (by decide) fl_T_17 (Or.inl rfl) w2 rfl e2 q3 ?_
  refine s_aload_n d_T_init_17 rfl rfl ?_
  refine s_bipush (v := 8) d_T_init_18 (by decide) ?_
  refine s_anewarrayE (ci := 0) (j := 8) kc0 ⟨rfl, by decide, rfl⟩ cl_T_21 ao0 d_T_init_20 ⟨by decide, by decide⟩ (by decide) q4 ?_
  refine s_putfieldE (k := 2) d_T_init_23 kc4 (by decide) fl_T_23 (Or.inr ⟨rfl, rfl, rfl, flk_T_23⟩) w3 rfl e3 q5 ?_
  refine s_aload_n d_T_init_26 rfl rfl ?_
  refine s_iconst (v := 0) d_T_init_27 (by decide) ?_
  refine s_putfieldE (k := 3) d_T_init_28 kc4 (by decide) fl_T_27 (Or.inl rfl) w4 rfl e4 q6 ?_
  refine s_aload_n d_T_init_31 rfl rfl ?_
  refine s_iconst (v := 4) d_T_init_32 (by decide) ?_
  refine s_iconst (v := 4) d_T_init_33 (by decide) ?_
  refine s_mnaE (a := 4) (b := 4) d_T_init_34 cl_T_30 ⟨by decide, by decide⟩ ⟨by decide, by decide⟩ q7 ?_
  refine s_putfieldE (k := 4) d_T_init_38 kc4 (by decide) fl_T_32 (Or.inr ⟨rfl, rfl, rfl, flk_T_32⟩) w5 rfl e5 q8 ?_
  refine s_aload_n d_T_init_41 rfl rfl ?_
  refine s_ldc2_w (v := 1000000000) d_T_init_42 lc_T_35 ?_
  refine s_putfieldE (k := 5) d_T_init_45 kc4 (by decide) fl_T_37 (Or.inl rfl) w6 rfl e6 q9 ?_
  refine s_iconst (v := 0) d_T_init_48 (by decide) ?_
  refine s_istore_n (lv' := [(0, .ref x0), (1, .int 0)]) d_T_init_49 rfl (by decide) rfl ?_
  exact k
