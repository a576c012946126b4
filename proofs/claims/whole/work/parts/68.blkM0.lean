/-! BLOCKS. Printed by wip/make.py. -/
theorem b_M_init_0 {d : Nat} {A : Nat → Prop} {h0 : ah_H} {h : ah_H} {x0 : Nat} {h_1 : ah_H} {h_2 : ah_H} {h_3 : ah_H} {h_4 : ah_H} {h_5 : ah_H} {h_6 : ah_H} {h_7 : ah_H} {h_8 : ah_H} {h_9 : ah_H} {h_10 : ah_H} {h_11 : ah_H} {h_12 : ah_H} {h_13 : ah_H} {h_14 : ah_H} {h_15 : ah_H} {h_16 : ah_H} {h_17 : ah_H} {h_18 : ah_H} {h_19 : ah_H} {h_20 : ah_H} {h_21 : ah_H} {h_22 : ah_H} {h_23 : ah_H} {h_24 : ah_H} {h_25 : ah_H} {h_26 : ah_H} {h_27 : ah_H} {h_28 : ah_H} {h_29 : ah_H} {h_30 : ah_H} {h_31 : ah_H} (hd1 : 1 ≤ d) (q1 : ah_new h (100, List.replicate 3 (.int 0)) = h_1) (w1 : A x0) (e1 : (ah_sel h_1 x0 7 3).isSome = true) (q2 : ah_sto h_1 x0 3 (.ref h.1) = h_2) (q3 : ah_new h_2 (101, List.replicate 3 (.long 0)) = h_3) (w2 : A x0) (e2 : (ah_sel h_3 x0 7 4).isSome = true) (q4 : ah_sto h_3 x0 4 (.ref h_2.1) = h_4) (q5 : ah_new h_4 (100, List.replicate 3 (.int 0)) = h_5) (w3 : A x0) (e3 : (ah_sel h_5 x0 7 5).isSome = true) (q6 : ah_sto h_5 x0 5 (.ref h_4.1) = h_6) (q7 : ah_new h_6 (100, List.replicate 3 (.int 0)) = h_7) (w4 : A x0) (e4 : (ah_sel h_7 x0 7 6).isSome = true) (q8 : ah_sto h_7 x0 6 (.ref h_6.1) = h_8) (q9 : ah_new h_8 (103, List.replicate 3 (.int 0)) = h_9) (w5 : A x0) (e5 : (ah_sel h_9 x0 7 7).isSome = true) (q10 : ah_sto h_9 x0 7 (.ref h_8.1) = h_10) (q11 : ah_new h_10 (100, List.replicate 3 (.int 0)) = h_11) (w6 : A x0) (e6 : (ah_sel h_11 x0 7 8).isSome = true) (q12 : ah_sto h_11 x0 8 (.ref h_10.1) = h_12) (q13 : ah_new h_12 (100, List.replicate 12 (.int 0)) = h_13) (w7 : A x0) (e7 : (ah_sel h_13 x0 7 9).isSome = true) (q14 : ah_sto h_13 x0 9 (.ref h_12.1) = h_14) (q15 : ah_new h_14 (100, List.replicate 8 (.int 0)) = h_15) (w8 : A x0) (e8 : (ah_sel h_15 x0 7 10).isSome = true) (q16 : ah_sto h_15 x0 10 (.ref h_14.1) = h_16) (q17 : ah_new h_16 (101, List.replicate 8 (.long 0)) = h_17) (w9 : A x0) (e9 : (ah_sel h_17 x0 7 11).isSome = true) (q18 : ah_sto h_17 x0 11 (.ref h_16.1) = h_18) (q19 : ah_new h_18 (100, List.replicate 8 (.int 0)) = h_19) (w10 : A x0) (e10 : (ah_sel h_19 x0 7 12).isSome = true) (q20 : ah_sto h_19 x0 12 (.ref h_18.1) = h_20) (q21 : ah_new h_20 (100, List.replicate 8 (.int 0)) = h_21) (w11 : A x0) (e11 : (ah_sel h_21 x0 7 13).isSome = true) (q22 : ah_sto h_21 x0 13 (.ref h_20.1) = h_22) (q23 : ah_new h_22 (101, List.replicate 8 (.long 0)) = h_23) (w12 : A x0) (e12 : (ah_sel h_23 x0 7 14).isSome = true) (q24 : ah_sto h_23 x0 14 (.ref h_22.1) = h_24) (q25 : ah_new h_24 (100, List.replicate 16 (.int 0)) = h_25) (w13 : A x0) (e13 : (ah_sel h_25 x0 7 15).isSome = true) (q26 : ah_sto h_25 x0 15 (.ref h_24.1) = h_26) (w14 : A x0) (e14 : (ah_sel h_26 x0 7 16).isSome = true) (q27 : ah_sto h_26 x0 16 (.long 1000000000) = h_27) (q28 : ah_new h_27 (100, List.replicate 8 (.int 0)) = h_28) (w15 : A x0) (e15 : (ah_sel h_28 x0 7 18).isSome = true) (q29 : ah_sto h_28 x0 18 (.ref h_27.1) = h_29) (q30 : ah_new h_29 (100, List.replicate 8 (.int 0)) = h_30) (w16 : A x0) (e16 : (ah_sel h_30 x0 7 19).isSome = true) (q31 : ah_sto h_30 x0 19 (.ref h_29.1) = h_31) : ah_At mt_M_init d A h0 (.returned none) h_31 0 [(0, .ref x0)] [] h := by
  refine s_aload_n d_M_init_0 rfl rfl ?_
  refine s_objinit d_M_init_1 mo_M_1 hd1 ?_
  refine s_aload_n d_M_init_4 rfl rfl ?_
  refine s_iconst (v := 3) d_M_init_5 (by decide) ?_
  refine s_newarrayE (t := 100) (j := 3) ⟨rfl, by decide, rfl⟩ rfl ac_int d_M_init_6 ⟨by decide, by decide⟩ (by decide) q1 ?_
  refine s_putfieldE (k := 3) d_M_init_8 kc7 (by decide) fl_M_7 (Or.inr ⟨rfl, rfl, rfl, flk_M_7⟩) w1 rfl e1 q2 ?_
  refine s_aload_n d_M_init_11 rfl rfl ?_
  refine s_iconst (v := 3) d_M_init_12 (by decide) ?_
  refine s_newarrayE (t := 101) (j := 3) ⟨rfl, by decide, rfl⟩ rfl ac_long d_M_init_13 ⟨by decide, by decide⟩ (by decide) q3 ?_
  refine s_putfieldE (k := 4) d_M_init_15 kc7 (by decide) fl_M_13 (Or.inr ⟨rfl, rfl, rfl, flk_M_13⟩) w2 rfl e2 q4 ?_
  refine s_aload_n d_M_init_18 rfl rfl ?_
  refine s_iconst (v := 3) d_M_init_19 (by decide) ?_
  refine s_newarrayE (t := 100) (j := 3) ⟨rfl, by decide, rfl⟩ rfl ac_int d_M_init_20 ⟨by decide, by decide⟩ (by decide) q5 ?_
  refine s_putfieldE (k := 5) d_M_init_22 kc7 (by decide) fl_M_17 (Or.inr ⟨rfl, rfl, rfl, flk_M_17⟩) w3 rfl e3 q6 ?_
  refine s_aload_n d_M_init_25 rfl rfl ?_
  refine s_iconst (v := 3) d_M_init_26 (by decide) ?_
  refine s_newarrayE (t := 100) (j := 3) ⟨rfl, by decide, rfl⟩ rfl ac_int d_M_init_27 ⟨by decide, by decide⟩ (by decide) q7 ?_
  refine s_putfieldE (k := 6) d_M_init_29 kc7 (by decide) fl_M_20 (Or.inr ⟨rfl, rfl, rfl, flk_M_20⟩) w4 rfl e4 q8 ?_
  refine s_aload_n d_M_init_32 rfl rfl ?_
  refine s_iconst (v := 3) d_M_init_33 (by decide) ?_
  refine s_newarrayE (t := 103) (j := 3) ⟨rfl, by decide, rfl⟩ rfl ac_boolean d_M_init_34 ⟨by decide, by decide⟩ (by decide) q9 ?_
  refine s_putfieldE (k := 7) d_M_init_36 kc7 (by decide) fl_M_23 (Or.inr ⟨rfl, rfl, rfl, flk_M_23⟩) w5 rfl e5 q10 ?_
  refine s_aload_n d_M_init_39 rfl rfl ?_
  refine s_iconst (v := 3) d_M_init_40 (by decide) ?_
  refine s_newarrayE (t := 100) (j := 3) ⟨rfl, by decide, rfl⟩ rfl ac_int d_M_init_41 ⟨by decide, by decide⟩ (by decide) q11 ?_
  refine s_putfieldE (k := 8) d_M_init_43 kc7 (by decide) fl_M_27 (Or.inr ⟨rfl, rfl, rfl, flk_M_27⟩) w6 rfl e6 q12 ?_
  refine s_aload_n d_M_init_46 rfl rfl ?_
  refine s_bipush (v := 12) d_M_init_47 (by decide) ?_
  refine s_newarrayE (t := 100) (j := 12) ⟨rfl, by decide, rfl⟩ rfl ac_int d_M_init_49 ⟨by decide, by decide⟩ (by decide) q13 ?_
  refine s_putfieldE (k := 9) d_M_init_51 kc7 (by decide) fl_M_30 (Or.inr ⟨rfl, rfl, rfl, flk_M_30⟩) w7 rfl e7 q14 ?_
  refine s_aload_n d_M_init_54 rfl rfl ?_
  refine s_bipush (v := 8) d_M_init_55 (by decide) ?_
  refine s_newarrayE (t := 100) (j := 8) ⟨rfl, by decide, rfl⟩ rfl ac_int d_M_init_57 ⟨by decide, by decide⟩ (by decide) q15 ?_
  refine s_putfieldE (k := 10) d_M_init_59 kc7 (by decide) fl_M_33 (Or.inr ⟨rfl, rfl, rfl, flk_M_33⟩) w8 rfl e8 q16 ?_
  refine s_aload_n d_M_init_62 rfl rfl ?_
  refine s_bipush (v := 8) d_M_init_63 (by decide) ?_
  refine s_newarrayE (t := 101) (j := 8) ⟨rfl, by decide, rfl⟩ rfl ac_long d_M_init_65 ⟨by decide, by decide⟩ (by decide) q17 ?_
  refine s_putfieldE (k := 11) d_M_init_67 kc7 (by decide) fl_M_36 (Or.inr ⟨rfl, rfl, rfl, flk_M_36⟩) w9 rfl e9 q18 ?_
  refine s_aload_n d_M_init_70 rfl rfl ?_
  refine s_bipush (v := 8) d_M_init_71 (by decide) ?_
  refine s_newarrayE (t := 100) (j := 8) ⟨rfl, by decide, rfl⟩ rfl ac_int d_M_init_73 ⟨by decide, by decide⟩ (by decide) q19 ?_
  refine s_putfieldE (k := 12) d_M_init_75 kc7 (by decide) fl_M_39 (Or.inr ⟨rfl, rfl, rfl, flk_M_39⟩) w10 rfl e10 q20 ?_
  refine s_aload_n d_M_init_78 rfl rfl ?_
  refine s_bipush (v := 8) d_M_init_79 (by decide) ?_
  refine s_newarrayE (t := 100) (j := 8) ⟨rfl, by decide, rfl⟩ rfl ac_int d_M_init_81 ⟨by decide, by decide⟩ (by decide) q21 ?_
  refine s_putfieldE (k := 13) d_M_init_83 kc7 (by decide) fl_M_42 (Or.inr ⟨rfl, rfl, rfl, flk_M_42⟩) w11 rfl e11 q22 ?_
  refine s_aload_n d_M_init_86 rfl rfl ?_
  refine s_bipush (v := 8) d_M_init_87 (by decide) ?_
  refine s_newarrayE (t := 101) (j := 8) ⟨rfl, by decide, rfl⟩ rfl ac_long d_M_init_89 ⟨by decide, by decide⟩ (by decide) q23 ?_
  refine s_putfieldE (k := 14) d_M_init_91 kc7 (by decide) fl_M_45 (Or.inr ⟨rfl, rfl, rfl, flk_M_45⟩) w12 rfl e12 q24 ?_
  refine s_aload_n d_M_init_94 rfl rfl ?_
  refine s_bipush (v := 16) d_M_init_95 (by decide) ?_
  refine s_newarrayE (t := 100) (j := 16) ⟨rfl, by decide, rfl⟩ rfl ac_int d_M_init_97 ⟨by decide, by decide⟩ (by decide) q25 ?_
  refine s_putfieldE (k := 15) d_M_init_99 kc7 (by decide) fl_M_48 (Or.inr ⟨rfl, rfl, rfl, flk_M_48⟩) w13 rfl e13 q26 ?_
  refine s_aload_n d_M_init_102 rfl rfl ?_
  refine s_ldc2_w (v := 1000000000) d_M_init_103 lc_M_51 ?_
  refine s_putfieldE (k := 16) d_M_init_106 kc7 (by decide) fl_M_53 (Or.inl rfl) w14 rfl e14 q27 ?_
  refine s_aload_n d_M_init_109 rfl rfl ?_
  refine s_bipush (v := 8) d_M_init_110 (by decide) ?_
  refine s_newarrayE (t := 100) (j := 8) ⟨rfl, by decide, rfl⟩ rfl ac_int d_M_init_112 ⟨by decide, by decide⟩ (by decide) q28 ?_
  refine s_putfieldE (k := 18) d_M_init_114 kc7 (by decide) fl_M_57 (Or.inr ⟨rfl, rfl, rfl, flk_M_57⟩) w15 rfl e15 q29 ?_
  refine s_aload_n d_M_init_117 rfl rfl ?_
  refine s_bipush (v := 8) d_M_init_118 (by decide) ?_
  refine s_newarrayE (t := 100) (j := 8) ⟨rfl, by decide, rfl⟩ rfl ac_int d_M_init_120 ⟨by decide, by decide⟩ (by decide) q30 ?_
  refine s_putfieldE (k := 19) d_M_init_122 kc7 (by decide) fl_M_60 (Or.inr ⟨rfl, rfl, rfl, flk_M_60⟩) w16 rfl e16 q31 ?_
  exact e_vret d_M_init_125 rfl
theorem b_M_thrown_0 {d : Nat} {A : Nat → Prop} {h0 : ah_H} {h : ah_H} {x0 : Nat} {v1 : Int32} (g1 : ah_sel h x0 7 0 = some (.int v1)) : ah_At mt_M_thrown d A h0 (.returned (some (.int v1))) h 0 [(0, .ref x0)] [] h := by
  refine s_aload_n d_M_thrown_0 rfl rfl ?_
  refine s_getfield (k := 0) d_M_thrown_1 kc7 (by decide) fl_M_63 g1 ?_
  exact e_iret (ty := .int) d_M_thrown_4 rfl rfl
theorem b_M_in_0 {d : Nat} {A : Nat → Prop} {h2 : ah_H} {o : Outcome} {h0 : ah_H} {h : ah_H} {x0 : Int64} {x2 : Int64} {x4 : Int64} (kt : (lg_cmp x0 x2) < 0 → ah_At mt_M_in d A h0 o h2 17 [] [] h) (kf : ¬ ((lg_cmp x0 x2) < 0) → ah_At mt_M_in d A h0 o h2 6 [(0, .long x0), (4, .long x4)] [] h) : ah_At mt_M_in d A h0 o h2 0 [(0, .long x0), (2, .long x2), (4, .long x4)] [] h := by
  refine s_lload_n d_M_in_0 rfl rfl ?_
  refine s_lload_n d_M_in_1 rfl rfl ?_
  refine s_lcmp d_M_in_2 ?_
  refine s_iflt (t := 17) d_M_in_3 (by decide) (fun z => ?_) (fun z => ?_)
  · exact ah_At.sub [] rfl (kt z)
  · exact ah_At.sub [0, 2] rfl (kf z)
theorem b_M_in_6 {d : Nat} {A : Nat → Prop} {h2 : ah_H} {o : Outcome} {h0 : ah_H} {h : ah_H} {x0 : Int64} {x4 : Int64} (kt : 0 < (lg_cmp x0 x4) → ah_At mt_M_in d A h0 o h2 17 [] [] h) (kf : ¬ (0 < (lg_cmp x0 x4)) → ah_At mt_M_in d A h0 o h2 13 [] [] h) : ah_At mt_M_in d A h0 o h2 6 [(0, .long x0), (4, .long x4)] [] h := by
  refine s_lload_n d_M_in_6 rfl rfl ?_
  refine s_lload d_M_in_7 rfl ?_
  refine s_lcmp d_M_in_9 ?_
  refine s_ifgt (t := 17) d_M_in_10 (by decide) (fun z => ?_) (fun z => ?_)
  · exact ah_At.sub [] rfl (kt z)
  · exact ah_At.sub [] rfl (kf z)
theorem b_M_in_13 {d : Nat} {A : Nat → Prop} {h2 : ah_H} {o : Outcome} {h0 : ah_H} {h : ah_H}  (k : ah_At mt_M_in d A h0 o h2 18 [] [.int 1] h) : ah_At mt_M_in d A h0 o h2 13 [] [] h := by
  refine s_iconst (v := 1) d_M_in_13 (by decide) ?_
  refine s_goto (t := 18) d_M_in_14 (by decide) ?_
  exact k
theorem b_M_in_17 {d : Nat} {A : Nat → Prop} {h2 : ah_H} {o : Outcome} {h0 : ah_H} {h : ah_H}  (k : ah_At mt_M_in d A h0 o h2 18 [] [.int 0] h) : ah_At mt_M_in d A h0 o h2 17 [] [] h := by
  refine s_iconst (v := 0) d_M_in_17 (by decide) ?_
  exact k
theorem b_M_in_18 {d : Nat} {A : Nat → Prop} {h0 : ah_H} {h : ah_H} {s0 : Int32} (hz : narrow .boolean (.int s0) = .int s0) : ah_At mt_M_in d A h0 (.returned (some (.int s0))) h 18 [] [.int s0] h := by
  exact e_iret (ty := .boolean) d_M_in_18 rfl hz
theorem b_M_lengthOf_0 {d : Nat} {A : Nat → Prop} {h2 : ah_H} {o : Outcome} {h0 : ah_H} {h : ah_H} {x0 : Int32} (kt : ¬ x0 = 1 → ah_At mt_M_lengthOf d A h0 o h2 9 [(0, .int x0)] [] h) (kf : ¬ (¬ x0 = 1) → ah_At mt_M_lengthOf d A h0 o h2 5 [] [] h) : ah_At mt_M_lengthOf d A h0 o h2 0 [(0, .int x0)] [] h := by
  refine s_iload_n d_M_lengthOf_0 rfl rfl ?_
  refine s_iconst (v := 1) d_M_lengthOf_1 (by decide) ?_
  refine s_if_icmpne (t := 9) d_M_lengthOf_2 (by decide) (fun z => ?_) (fun z => ?_)
  · exact (kt z)
  · exact ah_At.sub [] rfl (kf z)
theorem b_M_lengthOf_5 {d : Nat} {A : Nat → Prop} {h2 : ah_H} {o : Outcome} {h0 : ah_H} {h : ah_H}  (k : ah_At mt_M_lengthOf d A h0 o h2 21 [] [.int 4] h) : ah_At mt_M_lengthOf d A h0 o h2 5 [] [] h := by
  refine s_iconst (v := 4) d_M_lengthOf_5 (by decide) ?_
  refine s_goto (t := 21) d_M_lengthOf_6 (by decide) ?_
  exact k
theorem b_M_lengthOf_9 {d : Nat} {A : Nat → Prop} {h2 : ah_H} {o : Outcome} {h0 : ah_H} {h : ah_H} {x0 : Int32} (kt : ¬ x0 = 2 → ah_At mt_M_lengthOf d A h0 o h2 19 [] [] h) (kf : ¬ (¬ x0 = 2) → ah_At mt_M_lengthOf d A h0 o h2 14 [] [] h) : ah_At mt_M_lengthOf d A h0 o h2 9 [(0, .int x0)] [] h := by
  refine s_iload_n d_M_lengthOf_9 rfl rfl ?_
  refine s_iconst (v := 2) d_M_lengthOf_10 (by decide) ?_
  refine s_if_icmpne (t := 19) d_M_lengthOf_11 (by decide) (fun z => ?_) (fun z => ?_)
  · exact ah_At.sub [] rfl (kt z)
  · exact ah_At.sub [] rfl (kf z)
theorem b_M_lengthOf_14 {d : Nat} {A : Nat → Prop} {h2 : ah_H} {o : Outcome} {h0 : ah_H} {h : ah_H}  (k : ah_At mt_M_lengthOf d A h0 o h2 21 [] [.int 8] h) : ah_At mt_M_lengthOf d A h0 o h2 14 [] [] h := by
  refine s_bipush (v := 8) d_M_lengthOf_14 (by decide) ?_
  refine s_goto (t := 21) d_M_lengthOf_16 (by decide) ?_
  exact k
theorem b_M_lengthOf_19 {d : Nat} {A : Nat → Prop} {h2 : ah_H} {o : Outcome} {h0 : ah_H} {h : ah_H}  (k : ah_At mt_M_lengthOf d A h0 o h2 21 [] [.int 9] h) : ah_At mt_M_lengthOf d A h0 o h2 19 [] [] h := by
  refine s_bipush (v := 9) d_M_lengthOf_19 (by decide) ?_
  exact k
theorem b_M_lengthOf_21 {d : Nat} {A : Nat → Prop} {h0 : ah_H} {h : ah_H} {s0 : Int32}  : ah_At mt_M_lengthOf d A h0 (.returned (some (.int s0))) h 21 [] [.int s0] h := by
  exact e_iret (ty := .int) d_M_lengthOf_21 rfl rfl
theorem b_M_isWagon_0 {d : Nat} {A : Nat → Prop} {h2 : ah_H} {o : Outcome} {h0 : ah_H} {h : ah_H} {x0 : Nat} {x1 : Int32} (kt : x1 < 0 → ah_At mt_M_isWagon d A h0 o h2 16 [] [] h) (kf : ¬ (x1 < 0) → ah_At mt_M_isWagon d A h0 o h2 4 [(0, .ref x0), (1, .int x1)] [] h) : ah_At mt_M_isWagon d A h0 o h2 0 [(0, .ref x0), (1, .int x1)] [] h := by
  refine s_iload_n d_M_isWagon_0 rfl rfl ?_
  refine s_iflt (t := 16) d_M_isWagon_1 (by decide) (fun z => ?_) (fun z => ?_)
  · exact ah_At.sub [] rfl (kt z)
  · exact (kf z)
theorem b_M_isWagon_4 {d : Nat} {A : Nat → Prop} {h2 : ah_H} {o : Outcome} {h0 : ah_H} {h : ah_H} {x0 : Nat} {x1 : Int32} {v1 : Int32} (g1 : ah_sel h x0 7 1 = some (.int v1)) (kt : v1 ≤ x1 → ah_At mt_M_isWagon d A h0 o h2 16 [] [] h) (kf : ¬ (v1 ≤ x1) → ah_At mt_M_isWagon d A h0 o h2 12 [] [] h) : ah_At mt_M_isWagon d A h0 o h2 4 [(0, .ref x0), (1, .int x1)] [] h := by
  refine s_iload_n d_M_isWagon_4 rfl rfl ?_
  refine s_aload_n d_M_isWagon_5 rfl rfl ?_
  refine s_getfield (k := 1) d_M_isWagon_6 kc7 (by decide) fl_M_67 g1 ?_
  refine s_if_icmpge (t := 16) d_M_isWagon_9 (by decide) (fun z => ?_) (fun z => ?_)
  · exact ah_At.sub [] rfl (kt z)
  · exact ah_At.sub [] rfl (kf z)
theorem b_M_isWagon_12 {d : Nat} {A : Nat → Prop} {h2 : ah_H} {o : Outcome} {h0 : ah_H} {h : ah_H}  (k : ah_At mt_M_isWagon d A h0 o h2 17 [] [.int 1] h) : ah_At mt_M_isWagon d A h0 o h2 12 [] [] h := by
  refine s_iconst (v := 1) d_M_isWagon_12 (by decide) ?_
  refine s_goto (t := 17) d_M_isWagon_13 (by decide) ?_
  exact k
theorem b_M_isWagon_16 {d : Nat} {A : Nat → Prop} {h2 : ah_H} {o : Outcome} {h0 : ah_H} {h : ah_H}  (k : ah_At mt_M_isWagon d A h0 o h2 17 [] [.int 0] h) : ah_At mt_M_isWagon d A h0 o h2 16 [] [] h := by
  refine s_iconst (v := 0) d_M_isWagon_16 (by decide) ?_
  exact k
theorem b_M_isWagon_17 {d : Nat} {A : Nat → Prop} {h0 : ah_H} {h : ah_H} {s0 : Int32} (hz : narrow .boolean (.int s0) = .int s0) : ah_At mt_M_isWagon d A h0 (.returned (some (.int s0))) h 17 [] [.int s0] h := by
  exact e_iret (ty := .boolean) d_M_isWagon_17 rfl hz
theorem b_M_isBox_0 {d : Nat} {A : Nat → Prop} {h2 : ah_H} {o : Outcome} {h0 : ah_H} {h : ah_H} {x0 : Nat} {x1 : Int32} (kt : x1 < 0 → ah_At mt_M_isBox d A h0 o h2 16 [] [] h) (kf : ¬ (x1 < 0) → ah_At mt_M_isBox d A h0 o h2 4 [(0, .ref x0), (1, .int x1)] [] h) : ah_At mt_M_isBox d A h0 o h2 0 [(0, .ref x0), (1, .int x1)] [] h := by
  refine s_iload_n d_M_isBox_0 rfl rfl ?_
  refine s_iflt (t := 16) d_M_isBox_1 (by decide) (fun z => ?_) (fun z => ?_)
  · exact ah_At.sub [] rfl (kt z)
  · exact (kf z)
theorem b_M_isBox_4 {d : Nat} {A : Nat → Prop} {h2 : ah_H} {o : Outcome} {h0 : ah_H} {h : ah_H} {x0 : Nat} {x1 : Int32} {v1 : Int32} (g1 : ah_sel h x0 7 2 = some (.int v1)) (kt : v1 ≤ x1 → ah_At mt_M_isBox d A h0 o h2 16 [] [] h) (kf : ¬ (v1 ≤ x1) → ah_At mt_M_isBox d A h0 o h2 12 [] [] h) : ah_At mt_M_isBox d A h0 o h2 4 [(0, .ref x0), (1, .int x1)] [] h := by
  refine s_iload_n d_M_isBox_4 rfl rfl ?_
  refine s_aload_n d_M_isBox_5 rfl rfl ?_
  refine s_getfield (k := 2) d_M_isBox_6 kc7 (by decide) fl_M_70 g1 ?_
  refine s_if_icmpge (t := 16) d_M_isBox_9 (by decide) (fun z => ?_) (fun z => ?_)
  · exact ah_At.sub [] rfl (kt z)
  · exact ah_At.sub [] rfl (kf z)
theorem b_M_isBox_12 {d : Nat} {A : Nat → Prop} {h2 : ah_H} {o : Outcome} {h0 : ah_H} {h : ah_H}  (k : ah_At mt_M_isBox d A h0 o h2 17 [] [.int 1] h) : ah_At mt_M_isBox d A h0 o h2 12 [] [] h := by
  refine s_iconst (v := 1) d_M_isBox_12 (by decide) ?_
  refine s_goto (t := 17) d_M_isBox_13 (by decide) ?_
  exact k
theorem b_M_isBox_16 {d : Nat} {A : Nat → Prop} {h2 : ah_H} {o : Outcome} {h0 : ah_H} {h : ah_H}  (k : ah_At mt_M_isBox d A h0 o h2 17 [] [.int 0] h) : ah_At mt_M_isBox d A h0 o h2 16 [] [] h := by
  refine s_iconst (v := 0) d_M_isBox_16 (by decide) ?_
  exact k
theorem b_M_isBox_17 {d : Nat} {A : Nat → Prop} {h0 : ah_H} {h : ah_H} {s0 : Int32} (hz : narrow .boolean (.int s0) = .int s0) : ah_At mt_M_isBox d A h0 (.returned (some (.int s0))) h 17 [] [.int s0] h := by
  exact e_iret (ty := .boolean) d_M_isBox_17 rfl hz
theorem b_M_wagon_0 {d : Nat} {A : Nat → Prop} {h2 : ah_H} {o : Outcome} {h0 : ah_H} {h : ah_H} {x0 : Nat} {x1 : Int32} {x2 : Int64} {x4 : Int32} {x5 : Int32} {d' : Nat} {A' : Nat → Prop} {o' : Outcome} {h' : ah_H} (hE : ah_Ev mt_M_in d' A' [.long (Int32.toInt64 x1), .long 1, .long 30] h o' h') (hdd : d' + 1 ≤ d) (hAA : ∀ q, A' q → A q) (k : ah_aft mt_M_wagon d A h0 o h2 7 [(0, .ref x0), (1, .int x1), (2, .long x2), (4, .int x4), (5, .int x5)] [.ref x0] h' o') : ah_At mt_M_wagon d A h0 o h2 0 [(0, .ref x0), (1, .int x1), (2, .long x2), (4, .int x4), (5, .int x5)] [] h := by
  refine s_aload_n d_M_wagon_0 rfl rfl ?_
  refine s_iload_n d_M_wagon_1 rfl rfl ?_
  refine s_i2l d_M_wagon_2 ?_
  refine s_lconst (v := 1) d_M_wagon_3 (by decide) ?_
  refine s_ldc2_w (v := 30) d_M_wagon_4 lc_M_73 ?_
  exact ah_callS (av := [.long (Int32.toInt64 x1), .long 1, .long 30]) (st := [.ref x0]) d_M_wagon_7 ml_M_75 ms_M_in hE hdd hAA rfl (Nat.le_of_ble_eq_true rfl) k
theorem b_M_wagon_10 {d : Nat} {A : Nat → Prop} {h2 : ah_H} {o : Outcome} {h0 : ah_H} {h : ah_H} {x0 : Nat} {x1 : Int32} {x2 : Int64} {x4 : Int32} {x5 : Int32} {s0 : Int32} {s1 : Nat} (kt : s0 = 0 → ah_At mt_M_wagon d A h0 o h2 50 [(0, .ref x0), (1, .int x1), (2, .long x2), (4, .int x4), (5, .int x5)] [.ref s1] h) (kf : ¬ (s0 = 0) → ah_At mt_M_wagon d A h0 o h2 13 [(0, .ref x0), (1, .int x1), (2, .long x2), (4, .int x4), (5, .int x5)] [.ref s1] h) : ah_At mt_M_wagon d A h0 o h2 10 [(0, .ref x0), (1, .int x1), (2, .long x2), (4, .int x4), (5, .int x5)] [.int s0, .ref s1] h := by
  refine s_ifeq (t := 50) d_M_wagon_10 (by decide) (fun z => ?_) (fun z => ?_)
  · exact (kt z)
  · exact (kf z)
theorem b_M_wagon_13 {d : Nat} {A : Nat → Prop} {h2 : ah_H} {o : Outcome} {h0 : ah_H} {h : ah_H} {x0 : Nat} {x1 : Int32} {x2 : Int64} {x4 : Int32} {x5 : Int32} {s0 : Nat} {d' : Nat} {A' : Nat → Prop} {o' : Outcome} {h' : ah_H} (hE : ah_Ev mt_M_in d' A' [.long x2, .long 0, .long 1000000] h o' h') (hdd : d' + 1 ≤ d) (hAA : ∀ q, A' q → A q) (k : ah_aft mt_M_wagon d A h0 o h2 18 [(0, .ref x0), (1, .int x1), (2, .long x2), (4, .int x4), (5, .int x5)] [.ref s0] h' o') : ah_At mt_M_wagon d A h0 o h2 13 [(0, .ref x0), (1, .int x1), (2, .long x2), (4, .int x4), (5, .int x5)] [.ref s0] h := by
  refine s_lload_n d_M_wagon_13 rfl rfl ?_
  refine s_lconst (v := 0) d_M_wagon_14 (by decide) ?_
  refine s_ldc2_w (v := 1000000) d_M_wagon_15 lc_M_79 ?_
  exact ah_callS (av := [.long x2, .long 0, .long 1000000]) (st := [.ref s0]) d_M_wagon_18 ml_M_75 ms_M_in hE hdd hAA rfl (Nat.le_of_ble_eq_true rfl) k
theorem b_M_wagon_21 {d : Nat} {A : Nat → Prop} {h2 : ah_H} {o : Outcome} {h0 : ah_H} {h : ah_H} {x0 : Nat} {x1 : Int32} {x2 : Int64} {x4 : Int32} {x5 : Int32} {s0 : Int32} {s1 : Nat} (kt : s0 = 0 → ah_At mt_M_wagon d A h0 o h2 50 [(0, .ref x0), (1, .int x1), (2, .long x2), (4, .int x4), (5, .int x5)] [.ref s1] h) (kf : ¬ (s0 = 0) → ah_At mt_M_wagon d A h0 o h2 24 [(0, .ref x0), (1, .int x1), (2, .long x2), (4, .int x4), (5, .int x5)] [.ref s1] h) : ah_At mt_M_wagon d A h0 o h2 21 [(0, .ref x0), (1, .int x1), (2, .long x2), (4, .int x4), (5, .int x5)] [.int s0, .ref s1] h := by
  refine s_ifeq (t := 50) d_M_wagon_21 (by decide) (fun z => ?_) (fun z => ?_)
  · exact (kt z)
  · exact (kf z)
theorem b_M_wagon_24 {d : Nat} {A : Nat → Prop} {h2 : ah_H} {o : Outcome} {h0 : ah_H} {h : ah_H} {x0 : Nat} {x1 : Int32} {x2 : Int64} {x4 : Int32} {x5 : Int32} {s0 : Nat} {d' : Nat} {A' : Nat → Prop} {o' : Outcome} {h' : ah_H} (hE : ah_Ev mt_M_in d' A' [.long (Int32.toInt64 x4), .long 0, .long 8] h o' h') (hdd : d' + 1 ≤ d) (hAA : ∀ q, A' q → A q) (k : ah_aft mt_M_wagon d A h0 o h2 31 [(0, .ref x0), (1, .int x1), (2, .long x2), (4, .int x4), (5, .int x5)] [.ref s0] h' o') : ah_At mt_M_wagon d A h0 o h2 24 [(0, .ref x0), (1, .int x1), (2, .long x2), (4, .int x4), (5, .int x5)] [.ref s0] h := by
  refine s_iload d_M_wagon_24 rfl ?_
  refine s_i2l d_M_wagon_26 ?_
  refine s_lconst (v := 0) d_M_wagon_27 (by decide) ?_
  refine s_ldc2_w (v := 8) d_M_wagon_28 lc_M_81 ?_
  exact ah_callS (av := [.long (Int32.toInt64 x4), .long 0, .long 8]) (st := [.ref s0]) d_M_wagon_31 ml_M_75 ms_M_in hE hdd hAA rfl (Nat.le_of_ble_eq_true rfl) k
theorem b_M_wagon_34 {d : Nat} {A : Nat → Prop} {h2 : ah_H} {o : Outcome} {h0 : ah_H} {h : ah_H} {x0 : Nat} {x1 : Int32} {x2 : Int64} {x4 : Int32} {x5 : Int32} {s0 : Int32} {s1 : Nat} (kt : s0 = 0 → ah_At mt_M_wagon d A h0 o h2 50 [(0, .ref x0), (1, .int x1), (2, .long x2), (4, .int x4), (5, .int x5)] [.ref s1] h) (kf : ¬ (s0 = 0) → ah_At mt_M_wagon d A h0 o h2 37 [(0, .ref x0), (1, .int x1), (2, .long x2), (4, .int x4), (5, .int x5)] [.ref s1] h) : ah_At mt_M_wagon d A h0 o h2 34 [(0, .ref x0), (1, .int x1), (2, .long x2), (4, .int x4), (5, .int x5)] [.int s0, .ref s1] h := by
  refine s_ifeq (t := 50) d_M_wagon_34 (by decide) (fun z => ?_) (fun z => ?_)
  · exact (kt z)
  · exact (kf z)
theorem b_M_wagon_37 {d : Nat} {A : Nat → Prop} {h2 : ah_H} {o : Outcome} {h0 : ah_H} {h : ah_H} {x0 : Nat} {x1 : Int32} {x2 : Int64} {x4 : Int32} {x5 : Int32} {s0 : Nat} {d' : Nat} {A' : Nat → Prop} {o' : Outcome} {h' : ah_H} (hE : ah_Ev mt_M_in d' A' [.long (Int32.toInt64 x5), .long 1, .long 100] h o' h') (hdd : d' + 1 ≤ d) (hAA : ∀ q, A' q → A q) (k : ah_aft mt_M_wagon d A h0 o h2 44 [(0, .ref x0), (1, .int x1), (2, .long x2), (4, .int x4), (5, .int x5)] [.ref s0] h' o') : ah_At mt_M_wagon d A h0 o h2 37 [(0, .ref x0), (1, .int x1), (2, .long x2), (4, .int x4), (5, .int x5)] [.ref s0] h := by
  refine s_iload d_M_wagon_37 rfl ?_
  refine s_i2l d_M_wagon_39 ?_
  refine s_lconst (v := 1) d_M_wagon_40 (by decide) ?_
  refine s_ldc2_w (v := 100) d_M_wagon_41 lc_M_83 ?_
  exact ah_callS (av := [.long (Int32.toInt64 x5), .long 1, .long 100]) (st := [.ref s0]) d_M_wagon_44 ml_M_75 ms_M_in hE hdd hAA rfl (Nat.le_of_ble_eq_true rfl) k
theorem b_M_wagon_47 {d : Nat} {A : Nat → Prop} {h2 : ah_H} {o : Outcome} {h0 : ah_H} {h : ah_H} {x0 : Nat} {x1 : Int32} {x2 : Int64} {x4 : Int32} {x5 : Int32} {s0 : Int32} {s1 : Nat} (kt : ¬ s0 = 0 → ah_At mt_M_wagon d A h0 o h2 54 [(0, .ref x0), (1, .int x1), (2, .long x2), (4, .int x4), (5, .int x5)] [.ref s1] h) (kf : ¬ (¬ s0 = 0) → ah_At mt_M_wagon d A h0 o h2 50 [(0, .ref x0), (1, .int x1), (2, .long x2), (4, .int x4), (5, .int x5)] [.ref s1] h) : ah_At mt_M_wagon d A h0 o h2 47 [(0, .ref x0), (1, .int x1), (2, .long x2), (4, .int x4), (5, .int x5)] [.int s0, .ref s1] h := by
  refine s_ifne (t := 54) d_M_wagon_47 (by decide) (fun z => ?_) (fun z => ?_)
  · exact (kt z)
  · exact (kf z)
theorem b_M_wagon_50 {d : Nat} {A : Nat → Prop} {h2 : ah_H} {o : Outcome} {h0 : ah_H} {h : ah_H} {x0 : Nat} {x1 : Int32} {x2 : Int64} {x4 : Int32} {x5 : Int32} {s0 : Nat} (k : ah_At mt_M_wagon d A h0 o h2 67 [(0, .ref x0), (1, .int x1), (2, .long x2), (4, .int x4), (5, .int x5)] [.int 1, .ref s0] h) : ah_At mt_M_wagon d A h0 o h2 50 [(0, .ref x0), (1, .int x1), (2, .long x2), (4, .int x4), (5, .int x5)] [.ref s0] h := by
  refine s_iconst (v := 1) d_M_wagon_50 (by decide) ?_
  refine s_goto (t := 67) d_M_wagon_51 (by decide) ?_
  exact k
theorem b_M_wagon_54 {d : Nat} {A : Nat → Prop} {h2 : ah_H} {o : Outcome} {h0 : ah_H} {h : ah_H} {x0 : Nat} {x1 : Int32} {x2 : Int64} {x4 : Int32} {x5 : Int32} {s0 : Nat} {v1 : Int32} (g1 : ah_sel h x0 7 1 = some (.int v1)) (kt : ¬ v1 = 3 → ah_At mt_M_wagon d A h0 o h2 66 [(0, .ref x0), (1, .int x1), (2, .long x2), (4, .int x4), (5, .int x5)] [.ref s0] h) (kf : ¬ (¬ v1 = 3) → ah_At mt_M_wagon d A h0 o h2 62 [(0, .ref x0), (1, .int x1), (2, .long x2), (4, .int x4), (5, .int x5)] [.ref s0] h) : ah_At mt_M_wagon d A h0 o h2 54 [(0, .ref x0), (1, .int x1), (2, .long x2), (4, .int x4), (5, .int x5)] [.ref s0] h := by
  refine s_aload_n d_M_wagon_54 rfl rfl ?_
  refine s_getfield (k := 1) d_M_wagon_55 kc7 (by decide) fl_M_67 g1 ?_
  refine s_iconst (v := 3) d_M_wagon_58 (by decide) ?_
  refine s_if_icmpne (t := 66) d_M_wagon_59 (by decide) (fun z => ?_) (fun z => ?_)
  · exact (kt z)
  · exact (kf z)
theorem b_M_wagon_62 {d : Nat} {A : Nat → Prop} {h2 : ah_H} {o : Outcome} {h0 : ah_H} {h : ah_H} {x0 : Nat} {x1 : Int32} {x2 : Int64} {x4 : Int32} {x5 : Int32} {s0 : Nat} (k : ah_At mt_M_wagon d A h0 o h2 67 [(0, .ref x0), (1, .int x1), (2, .long x2), (4, .int x4), (5, .int x5)] [.int 2, .ref s0] h) : ah_At mt_M_wagon d A h0 o h2 62 [(0, .ref x0), (1, .int x1), (2, .long x2), (4, .int x4), (5, .int x5)] [.ref s0] h := by
  refine s_iconst (v := 2) d_M_wagon_62 (by decide) ?_
  refine s_goto (t := 67) d_M_wagon_63 (by decide) ?_
  exact k
theorem b_M_wagon_66 {d : Nat} {A : Nat → Prop} {h2 : ah_H} {o : Outcome} {h0 : ah_H} {h : ah_H} {x0 : Nat} {x1 : Int32} {x2 : Int64} {x4 : Int32} {x5 : Int32} {s0 : Nat} (k : ah_At mt_M_wagon d A h0 o h2 67 [(0, .ref x0), (1, .int x1), (2, .long x2), (4, .int x4), (5, .int x5)] [.int 0, .ref s0] h) : ah_At mt_M_wagon d A h0 o h2 66 [(0, .ref x0), (1, .int x1), (2, .long x2), (4, .int x4), (5, .int x5)] [.ref s0] h := by
  refine s_iconst (v := 0) d_M_wagon_66 (by decide) ?_
  exact k
theorem b_M_wagon_67 {d : Nat} {A : Nat → Prop} {h2 : ah_H} {o : Outcome} {h0 : ah_H} {h : ah_H} {x0 : Nat} {x1 : Int32} {x2 : Int64} {x4 : Int32} {x5 : Int32} {s0 : Int32} {s1 : Nat} {v2 : Int32} (w1 : A s1) (e1 : (ah_sel h s1 7 0).isSome = true) (g2 : ah_sel (ah_sto h s1 0 (.int s0)) x0 7 0 = some (.int v2)) (kt : v2 ≤ 0 → ah_At mt_M_wagon d A h0 o h2 79 [(0, .ref x0), (1, .int x1), (2, .long x2), (4, .int x4), (5, .int x5)] [] (ah_sto h s1 0 (.int s0))) (kf : ¬ (v2 ≤ 0) → ah_At mt_M_wagon d A h0 o h2 77 [] [] (ah_sto h s1 0 (.int s0))) : ah_At mt_M_wagon d A h0 o h2 67 [(0, .ref x0), (1, .int x1), (2, .long x2), (4, .int x4), (5, .int x5)] [.int s0, .ref s1] h := by
  refine s_putfield (k := 0) d_M_wagon_67 kc7 (by decide) fl_M_63 (Or.inl rfl) w1 rfl e1 ?_
  refine s_aload_n d_M_wagon_70 rfl rfl ?_
  refine s_getfield (k := 0) d_M_wagon_71 kc7 (by decide) fl_M_63 g2 ?_
  refine s_ifle (t := 79) d_M_wagon_74 (by decide) (fun z => ?_) (fun z => ?_)
  · exact (kt z)
  · exact ah_At.sub [] rfl (kf z)
theorem b_M_wagon_77 {d : Nat} {A : Nat → Prop} {h0 : ah_H} {h : ah_H}   : ah_At mt_M_wagon d A h0 (.returned (some (.int 0))) h 77 [] [] h := by
  refine s_iconst (v := 0) d_M_wagon_77 (by decide) ?_
  exact e_iret (ty := .int) d_M_wagon_78 rfl rfl
theorem b_M_wagon_79 {d : Nat} {A : Nat → Prop} {h0 : ah_H} {h : ah_H} {x0 : Nat} {x1 : Int32} {x2 : Int64} {x4 : Int32} {x5 : Int32} {v1 : Nat} {v2 : Int32} {j3 : Nat} {v4 : Nat} {v5 : Int32} {j6 : Nat} {v7 : Nat} {v8 : Int32} {j9 : Nat} {v10 : Nat} {v11 : Int32} {j12 : Nat} {v13 : Int32} {v16 : Int32} (g1 : ah_sel h x0 7 3 = some (.ref v1)) (g2 : ah_sel h x0 7 1 = some (.int v2)) (w3 : A v1) (i3 : ah_ix v2 j3) (e3 : (ah_sel h v1 100 j3).isSome = true) (g4 : ah_sel (ah_sto h v1 j3 (.int x1)) x0 7 4 = some (.ref v4)) (g5 : ah_sel (ah_sto h v1 j3 (.int x1)) x0 7 1 = some (.int v5)) (w6 : A v4) (i6 : ah_ix v5 j6) (e6 : (ah_sel (ah_sto h v1 j3 (.int x1)) v4 101 j6).isSome = true) (g7 : ah_sel (ah_sto (ah_sto h v1 j3 (.int x1)) v4 j6 (.long x2)) x0 7 5 = some (.ref v7)) (g8 : ah_sel (ah_sto (ah_sto h v1 j3 (.int x1)) v4 j6 (.long x2)) x0 7 1 = some (.int v8)) (w9 : A v7) (i9 : ah_ix v8 j9) (e9 : (ah_sel (ah_sto (ah_sto h v1 j3 (.int x1)) v4 j6 (.long x2)) v7 100 j9).isSome = true) (g10 : ah_sel (ah_sto (ah_sto (ah_sto h v1 j3 (.int x1)) v4 j6 (.long x2)) v7 j9 (.int x4)) x0 7 6 = some (.ref v10)) (g11 : ah_sel (ah_sto (ah_sto (ah_sto h v1 j3 (.int x1)) v4 j6 (.long x2)) v7 j9 (.int x4)) x0 7 1 = some (.int v11)) (w12 : A v10) (i12 : ah_ix v11 j12) (e12 : (ah_sel (ah_sto (ah_sto (ah_sto h v1 j3 (.int x1)) v4 j6 (.long x2)) v7 j9 (.int x4)) v10 100 j12).isSome = true) (g13 : ah_sel (ah_sto (ah_sto (ah_sto (ah_sto h v1 j3 (.int x1)) v4 j6 (.long x2)) v7 j9 (.int x4)) v10 j12 (.int x5)) x0 7 1 = some (.int v13)) (w14 : A x0) (e14 : (ah_sel (ah_sto (ah_sto (ah_sto (ah_sto h v1 j3 (.int x1)) v4 j6 (.long x2)) v7 j9 (.int x4)) v10 j12 (.int x5)) x0 7 1).isSome = true) (w15 : A x0) (e15 : (ah_sel (ah_sto (ah_sto (ah_sto (ah_sto (ah_sto h v1 j3 (.int x1)) v4 j6 (.long x2)) v7 j9 (.int x4)) v10 j12 (.int x5)) x0 1 (.int (v13 + 1))) x0 7 17).isSome = true) (g16 : ah_sel (ah_sto (ah_sto (ah_sto (ah_sto (ah_sto (ah_sto h v1 j3 (.int x1)) v4 j6 (.long x2)) v7 j9 (.int x4)) v10 j12 (.int x5)) x0 1 (.int (v13 + 1))) x0 17 (.int 0)) x0 7 1 = some (.int v16)) : ah_At mt_M_wagon d A h0 (.returned (some (.int (v16 - 1)))) (ah_sto (ah_sto (ah_sto (ah_sto (ah_sto (ah_sto h v1 j3 (.int x1)) v4 j6 (.long x2)) v7 j9 (.int x4)) v10 j12 (.int x5)) x0 1 (.int (v13 + 1))) x0 17 (.int 0)) 79 [(0, .ref x0), (1, .int x1), (2, .long x2), (4, .int x4), (5, .int x5)] [] h := by
  refine s_aload_n d_M_wagon_79 rfl rfl ?_
  refine s_getfield (k := 3) d_M_wagon_80 kc7 (by decide) fl_M_7 g1 ?_
  refine s_aload_n d_M_wagon_83 rfl rfl ?_
  refine s_getfield (k := 1) d_M_wagon_84 kc7 (by decide) fl_M_67 g2 ?_
  refine s_iload_n d_M_wagon_87 rfl rfl ?_
  refine s_iastore d_M_wagon_88 w3 i3 e3 ?_
  refine s_aload_n d_M_wagon_89 rfl rfl ?_
  refine s_getfield (k := 4) d_M_wagon_90 kc7 (by decide) fl_M_13 g4 ?_
  refine s_aload_n d_M_wagon_93 rfl rfl ?_
  refine s_getfield (k := 1) d_M_wagon_94 kc7 (by decide) fl_M_67 g5 ?_
  refine s_lload_n d_M_wagon_97 rfl rfl ?_
  refine s_lastore d_M_wagon_98 w6 i6 e6 ?_
  refine s_aload_n d_M_wagon_99 rfl rfl ?_
  refine s_getfield (k := 5) d_M_wagon_100 kc7 (by decide) fl_M_17 g7 ?_
  refine s_aload_n d_M_wagon_103 rfl rfl ?_
  refine s_getfield (k := 1) d_M_wagon_104 kc7 (by decide) fl_M_67 g8 ?_
  refine s_iload d_M_wagon_107 rfl ?_
  refine s_iastore d_M_wagon_109 w9 i9 e9 ?_
  refine s_aload_n d_M_wagon_110 rfl rfl ?_
  refine s_getfield (k := 6) d_M_wagon_111 kc7 (by decide) fl_M_20 g10 ?_
  refine s_aload_n d_M_wagon_114 rfl rfl ?_
  refine s_getfield (k := 1) d_M_wagon_115 kc7 (by decide) fl_M_67 g11 ?_
  refine s_iload d_M_wagon_118 rfl ?_
  refine s_iastore d_M_wagon_120 w12 i12 e12 ?_
  refine s_aload_n d_M_wagon_121 rfl rfl ?_
  refine s_dup d_M_wagon_122 rfl ?_
  refine s_getfield (k := 1) d_M_wagon_123 kc7 (by decide) fl_M_67 g13 ?_
  refine s_iconst (v := 1) d_M_wagon_126 (by decide) ?_
  refine s_iadd d_M_wagon_127 ?_
  refine s_putfield (k := 1) d_M_wagon_128 kc7 (by decide) fl_M_67 (Or.inl rfl) w14 rfl e14 ?_
  refine s_aload_n d_M_wagon_131 rfl rfl ?_
  refine s_iconst (v := 0) d_M_wagon_132 (by decide) ?_
  refine s_putfield (k := 17) d_M_wagon_133 kc7 (by decide) fl_M_85 (Or.inl rfl) w15 (by decide) e15 ?_
  refine s_aload_n d_M_wagon_136 rfl rfl ?_
  refine s_getfield (k := 1) d_M_wagon_137 kc7 (by decide) fl_M_67 g16 ?_
  refine s_iconst (v := 1) d_M_wagon_140 (by decide) ?_
  refine s_isub d_M_wagon_141 ?_
  exact e_iret (ty := .int) d_M_wagon_142 rfl rfl
theorem b_M_pattern_0 {d : Nat} {A : Nat → Prop} {h2 : ah_H} {o : Outcome} {h0 : ah_H} {h : ah_H} {x0 : Nat} {x1 : Int32} {x2 : Int32} {d' : Nat} {A' : Nat → Prop} {o' : Outcome} {h' : ah_H} (hE : ah_Ev mt_M_isWagon d' A' [.ref x0, .int x1] h o' h') (hdd : d' + 1 ≤ d) (hAA : ∀ q, A' q → A q) (k : ah_aft mt_M_pattern d A h0 o h2 2 [(0, .ref x0), (1, .int x1), (2, .int x2)] [] h' o') (hb : (ah_len h x0 7).isSome = true) : ah_At mt_M_pattern d A h0 o h2 0 [(0, .ref x0), (1, .int x1), (2, .int x2)] [] h := by
  refine s_aload_n d_M_pattern_0 rfl rfl ?_
  refine s_iload_n d_M_pattern_1 rfl rfl ?_
  exact ah_callV (av := [.int x1]) (st := []) d_M_pattern_2 ml_M_89 mi_M_isWagon mv_M_isWagon kc7 hb hE hdd hAA rfl (Nat.le_of_ble_eq_true rfl) k
theorem b_M_pattern_5 {d : Nat} {A : Nat → Prop} {h2 : ah_H} {o : Outcome} {h0 : ah_H} {h : ah_H} {x0 : Nat} {x1 : Int32} {x2 : Int32} {s0 : Int32} (kt : s0 = 0 → ah_At mt_M_pattern d A h0 o h2 24 [(0, .ref x0), (1, .int x1), (2, .int x2)] [] h) (kf : ¬ (s0 = 0) → ah_At mt_M_pattern d A h0 o h2 8 [(0, .ref x0), (1, .int x1), (2, .int x2)] [] h) : ah_At mt_M_pattern d A h0 o h2 5 [(0, .ref x0), (1, .int x1), (2, .int x2)] [.int s0] h := by
  refine s_ifeq (t := 24) d_M_pattern_5 (by decide) (fun z => ?_) (fun z => ?_)
  · exact (kt z)
  · exact (kf z)
theorem b_M_pattern_8 {d : Nat} {A : Nat → Prop} {h2 : ah_H} {o : Outcome} {h0 : ah_H} {h : ah_H} {x0 : Nat} {x1 : Int32} {x2 : Int32} {d' : Nat} {A' : Nat → Prop} {o' : Outcome} {h' : ah_H} (hE : ah_Ev mt_M_in d' A' [.long (Int32.toInt64 x2), .long 1, .long 3333] h o' h') (hdd : d' + 1 ≤ d) (hAA : ∀ q, A' q → A q) (k : ah_aft mt_M_pattern d A h0 o h2 14 [(0, .ref x0), (1, .int x1), (2, .int x2)] [] h' o') : ah_At mt_M_pattern d A h0 o h2 8 [(0, .ref x0), (1, .int x1), (2, .int x2)] [] h := by
  refine s_iload_n d_M_pattern_8 rfl rfl ?_
  refine s_i2l d_M_pattern_9 ?_
  refine s_lconst (v := 1) d_M_pattern_10 (by decide) ?_
  refine s_ldc2_w (v := 3333) d_M_pattern_11 lc_M_93 ?_
  exact ah_callS (av := [.long (Int32.toInt64 x2), .long 1, .long 3333]) (st := []) d_M_pattern_14 ml_M_75 ms_M_in hE hdd hAA rfl (Nat.le_of_ble_eq_true rfl) k
theorem b_M_pattern_17 {d : Nat} {A : Nat → Prop} {h2 : ah_H} {o : Outcome} {h0 : ah_H} {h : ah_H} {x0 : Nat} {x1 : Int32} {x2 : Int32} {s0 : Int32} (kt : s0 = 0 → ah_At mt_M_pattern d A h0 o h2 24 [(0, .ref x0), (1, .int x1), (2, .int x2)] [] h) (kf : ¬ (s0 = 0) → ah_At mt_M_pattern d A h0 o h2 20 [(0, .ref x0), (1, .int x1), (2, .int x2)] [] h) : ah_At mt_M_pattern d A h0 o h2 17 [(0, .ref x0), (1, .int x1), (2, .int x2)] [.int s0] h := by
  refine s_ifeq (t := 24) d_M_pattern_17 (by decide) (fun z => ?_) (fun z => ?_)
  · exact (kt z)
  · exact (kf z)
theorem b_M_pattern_20 {d : Nat} {A : Nat → Prop} {h2 : ah_H} {o : Outcome} {h0 : ah_H} {h : ah_H} {x0 : Nat} {x1 : Int32} {x2 : Int32} (k : ah_At mt_M_pattern d A h0 o h2 25 [(0, .ref x0), (1, .int x1), (2, .int x2)] [.int 1] h) : ah_At mt_M_pattern d A h0 o h2 20 [(0, .ref x0), (1, .int x1), (2, .int x2)] [] h := by
  refine s_iconst (v := 1) d_M_pattern_20 (by decide) ?_
  refine s_goto (t := 25) d_M_pattern_21 (by decide) ?_
  exact k
theorem b_M_pattern_24 {d : Nat} {A : Nat → Prop} {h2 : ah_H} {o : Outcome} {h0 : ah_H} {h : ah_H} {x0 : Nat} {x1 : Int32} {x2 : Int32} (k : ah_At mt_M_pattern d A h0 o h2 25 [(0, .ref x0), (1, .int x1), (2, .int x2)] [.int 0] h) : ah_At mt_M_pattern d A h0 o h2 24 [(0, .ref x0), (1, .int x1), (2, .int x2)] [] h := by
  refine s_iconst (v := 0) d_M_pattern_24 (by decide) ?_
  exact k
theorem b_M_pattern_25 {d : Nat} {A : Nat → Prop} {h2 : ah_H} {o : Outcome} {h0 : ah_H} {h : ah_H} {x0 : Nat} {x1 : Int32} {x2 : Int32} {s0 : Int32} (k : ah_At mt_M_pattern d A h0 o h2 32 [(0, .ref x0), (1, .int x1), (2, .int x2), (3, .int s0), (4, .int 0), (5, .int x2)] [] h) : ah_At mt_M_pattern d A h0 o h2 25 [(0, .ref x0), (1, .int x1), (2, .int x2)] [.int s0] h := by
  refine s_istore_n (lv' := [(0, .ref x0), (1, .int x1), (2, .int x2), (3, .int s0)]) d_M_pattern_25 rfl (by decide) rfl ?_
  refine s_iconst (v := 0) d_M_pattern_26 (by decide) ?_
  refine s_istore (lv' := [(0, .ref x0), (1, .int x1), (2, .int x2), (3, .int s0), (4, .int 0)]) d_M_pattern_27 (by decide) rfl ?_
  refine s_iload_n d_M_pattern_29 rfl rfl ?_
  refine s_istore (lv' := [(0, .ref x0), (1, .int x1), (2, .int x2), (3, .int s0), (4, .int 0), (5, .int x2)]) d_M_pattern_30 (by decide) rfl ?_
  exact k
theorem b_M_pattern_32 {d : Nat} {A : Nat → Prop} {h2 : ah_H} {o : Outcome} {h0 : ah_H} {h : ah_H} {x0 : Nat} {x1 : Int32} {x2 : Int32} {x3 : Int32} {x4 : Int32} {x5 : Int32} (kt : x5 ≤ 0 → ah_At mt_M_pattern d A h0 o h2 78 [(0, .ref x0), (1, .int x1), (2, .int x2), (3, .int x3), (4, .int x4)] [] h) (kf : ¬ (x5 ≤ 0) → ah_At mt_M_pattern d A h0 o h2 37 [(0, .ref x0), (1, .int x1), (2, .int x2), (3, .int x3), (4, .int x4), (5, .int x5)] [] h) : ah_At mt_M_pattern d A h0 o h2 32 [(0, .ref x0), (1, .int x1), (2, .int x2), (3, .int x3), (4, .int x4), (5, .int x5)] [] h := by
  refine s_iload d_M_pattern_32 rfl ?_
  refine s_ifle (t := 78) d_M_pattern_34 (by decide) (fun z => ?_) (fun z => ?_)
  · exact ah_At.sub [0, 1, 2, 3, 4] rfl (kt z)
  · exact (kf z)
theorem b_M_pattern_37 {d : Nat} {A : Nat → Prop} {h2 : ah_H} {o : Outcome} {h0 : ah_H} {h : ah_H} {x0 : Nat} {x1 : Int32} {x2 : Int32} {x3 : Int32} {x4 : Int32} {x5 : Int32} (kt : x3 = 0 → ah_At mt_M_pattern d A h0 o h2 78 [(0, .ref x0), (1, .int x1), (2, .int x2), (3, .int x3), (4, .int x4)] [] h) (kf : ¬ (x3 = 0) → ah_At mt_M_pattern d A h0 o h2 41 [(0, .ref x0), (1, .int x1), (2, .int x2), (4, .int x4), (5, .int x5)] [] h) : ah_At mt_M_pattern d A h0 o h2 37 [(0, .ref x0), (1, .int x1), (2, .int x2), (3, .int x3), (4, .int x4), (5, .int x5)] [] h := by
  refine s_iload_n d_M_pattern_37 rfl rfl ?_
  refine s_ifeq (t := 78) d_M_pattern_38 (by decide) (fun z => ?_) (fun z => ?_)
  · exact ah_At.sub [0, 1, 2, 3, 4] rfl (kt z)
  · exact ah_At.sub [0, 1, 2, 4, 5] rfl (kf z)
theorem b_M_pattern_41 {d : Nat} {A : Nat → Prop} {h2 : ah_H} {o : Outcome} {h0 : ah_H} {h : ah_H} {x0 : Nat} {x1 : Int32} {x2 : Int32} {x4 : Int32} {x5 : Int32} {d' : Nat} {A' : Nat → Prop} {o' : Outcome} {h' : ah_H} (hE : ah_Ev mt_M_in d' A' [.long (Int32.toInt64 (x5 - x5 / 10 * 10)), .long 1, .long 3] h o' h') (hdd : d' + 1 ≤ d) (hAA : ∀ q, A' q → A q) (k : ah_aft mt_M_pattern d A h0 o h2 51 [(0, .ref x0), (1, .int x1), (2, .int x2), (4, .int x4), (5, .int x5)] [] h' o') : ah_At mt_M_pattern d A h0 o h2 41 [(0, .ref x0), (1, .int x1), (2, .int x2), (4, .int x4), (5, .int x5)] [] h := by
  refine s_iload d_M_pattern_41 rfl ?_
  refine s_bipush (v := 10) d_M_pattern_43 (by decide) ?_
  refine s_irem d_M_pattern_45 (by decide) ?_
  refine s_i2l d_M_pattern_46 ?_
  refine s_lconst (v := 1) d_M_pattern_47 (by decide) ?_
  refine s_ldc2_w (v := 3) d_M_pattern_48 lc_M_95 ?_
  exact ah_callS (av := [.long (Int32.toInt64 (x5 - x5 / 10 * 10)), .long 1, .long 3]) (st := []) d_M_pattern_51 ml_M_75 ms_M_in hE hdd hAA rfl (Nat.le_of_ble_eq_true rfl) k
theorem b_M_pattern_54 {d : Nat} {A : Nat → Prop} {h2 : ah_H} {o : Outcome} {h0 : ah_H} {h : ah_H} {x0 : Nat} {x1 : Int32} {x2 : Int32} {x4 : Int32} {x5 : Int32} {s0 : Int32} {d' : Nat} {A' : Nat → Prop} {o' : Outcome} {h' : ah_H} (hE : ah_Ev mt_M_lengthOf d' A' [.int (x5 - x5 / 10 * 10)] h o' h') (hdd : d' + 1 ≤ d) (hAA : ∀ q, A' q → A q) (k : ah_aft mt_M_pattern d A h0 o h2 62 [(0, .ref x0), (1, .int x1), (2, .int x2), (3, .int s0), (5, .int x5)] [.int x4] h' o') : ah_At mt_M_pattern d A h0 o h2 54 [(0, .ref x0), (1, .int x1), (2, .int x2), (4, .int x4), (5, .int x5)] [.int s0] h := by
  refine s_istore_n (lv' := [(0, .ref x0), (1, .int x1), (2, .int x2), (4, .int x4), (5, .int x5), (3, .int s0)]) d_M_pattern_54 rfl (by decide) rfl ?_
  refine s_iload d_M_pattern_55 rfl ?_
  refine s_iload d_M_pattern_57 rfl ?_
  refine s_bipush (v := 10) d_M_pattern_59 (by decide) ?_
  refine s_irem d_M_pattern_61 (by decide) ?_
  refine ah_At.sub [0, 1, 2, 5, 4] rfl ?_
  exact ah_callS (av := [.int (x5 - x5 / 10 * 10)]) (st := [.int x4]) d_M_pattern_62 ml_M_97 ms_M_lengthOf hE hdd hAA rfl (Nat.le_of_ble_eq_true rfl) k
theorem b_M_pattern_65 {d : Nat} {A : Nat → Prop} {h2 : ah_H} {o : Outcome} {h0 : ah_H} {h : ah_H} {x0 : Nat} {x1 : Int32} {x2 : Int32} {x3 : Int32} {x5 : Int32} {s0 : Int32} {s1 : Int32} (k : ah_At mt_M_pattern d A h0 o h2 32 [(0, .ref x0), (1, .int x1), (2, .int x2), (3, .int x3), (4, .int (s1 + s0)), (5, .int (x5 / 10))] [] h) : ah_At mt_M_pattern d A h0 o h2 65 [(0, .ref x0), (1, .int x1), (2, .int x2), (3, .int x3), (5, .int x5)] [.int s0, .int s1] h := by
  refine s_iadd d_M_pattern_65 ?_
  refine s_istore (lv' := [(0, .ref x0), (1, .int x1), (2, .int x2), (3, .int x3), (5, .int x5), (4, .int (s1 + s0))]) d_M_pattern_66 (by decide) rfl ?_
  refine s_iload d_M_pattern_68 rfl ?_
  refine s_bipush (v := 10) d_M_pattern_70 (by decide) ?_
  refine s_idiv d_M_pattern_72 (by decide) ?_
  refine s_istore (lv' := [(0, .ref x0), (1, .int x1), (2, .int x2), (3, .int x3), (5, .int (x5 / 10)), (4, .int (s1 + s0))]) d_M_pattern_73 (by decide) rfl ?_
  refine s_goto (t := 32) d_M_pattern_75 (by decide) ?_
  exact ah_At.sub [0, 1, 2, 3, 5, 4] rfl k
theorem b_M_pattern_78 {d : Nat} {A : Nat → Prop} {h2 : ah_H} {o : Outcome} {h0 : ah_H} {h : ah_H} {x0 : Nat} {x1 : Int32} {x2 : Int32} {x3 : Int32} {x4 : Int32} (kt : x3 = 0 → ah_At mt_M_pattern d A h0 o h2 97 [(0, .ref x0), (1, .int x1), (2, .int x2)] [] h) (kf : ¬ (x3 = 0) → ah_At mt_M_pattern d A h0 o h2 82 [(0, .ref x0), (1, .int x1), (2, .int x2), (4, .int x4)] [] h) : ah_At mt_M_pattern d A h0 o h2 78 [(0, .ref x0), (1, .int x1), (2, .int x2), (3, .int x3), (4, .int x4)] [] h := by
  refine s_iload_n d_M_pattern_78 rfl rfl ?_
  refine s_ifeq (t := 97) d_M_pattern_79 (by decide) (fun z => ?_) (fun z => ?_)
  · exact ah_At.sub [0, 1, 2] rfl (kt z)
  · exact ah_At.sub [0, 1, 2, 4] rfl (kf z)
theorem b_M_pattern_82 {d : Nat} {A : Nat → Prop} {h2 : ah_H} {o : Outcome} {h0 : ah_H} {h : ah_H} {x0 : Nat} {x1 : Int32} {x2 : Int32} {x4 : Int32} {v1 : Nat} {v2 : Int32} {j2 : Nat} (g1 : ah_sel h x0 7 3 = some (.ref v1)) (i2 : ah_ix x1 j2) (g2 : ah_sel h v1 100 j2 = some (.int v2)) (kt : v2 < x4 → ah_At mt_M_pattern d A h0 o h2 97 [(0, .ref x0), (1, .int x1), (2, .int x2)] [] h) (kf : ¬ (v2 < x4) → ah_At mt_M_pattern d A h0 o h2 93 [(0, .ref x0), (1, .int x1), (2, .int x2)] [] h) : ah_At mt_M_pattern d A h0 o h2 82 [(0, .ref x0), (1, .int x1), (2, .int x2), (4, .int x4)] [] h := by
  refine s_iload d_M_pattern_82 rfl ?_
  refine s_aload_n d_M_pattern_84 rfl rfl ?_
  refine s_getfield (k := 3) d_M_pattern_85 kc7 (by decide) fl_M_7 g1 ?_
  refine s_iload_n d_M_pattern_88 rfl rfl ?_
  refine s_iaload d_M_pattern_89 i2 g2 ?_
  refine s_if_icmpgt (t := 97) d_M_pattern_90 (by decide) (fun z => ?_) (fun z => ?_)
  · exact ah_At.sub [0, 1, 2] rfl (kt z)
  · exact ah_At.sub [0, 1, 2] rfl (kf z)
theorem b_M_pattern_93 {d : Nat} {A : Nat → Prop} {h2 : ah_H} {o : Outcome} {h0 : ah_H} {h : ah_H} {x0 : Nat} {x1 : Int32} {x2 : Int32} (k : ah_At mt_M_pattern d A h0 o h2 98 [(0, .ref x0), (1, .int x1), (2, .int x2)] [.int 1] h) : ah_At mt_M_pattern d A h0 o h2 93 [(0, .ref x0), (1, .int x1), (2, .int x2)] [] h := by
  refine s_iconst (v := 1) d_M_pattern_93 (by decide) ?_
  refine s_goto (t := 98) d_M_pattern_94 (by decide) ?_
  exact k
theorem b_M_pattern_97 {d : Nat} {A : Nat → Prop} {h2 : ah_H} {o : Outcome} {h0 : ah_H} {h : ah_H} {x0 : Nat} {x1 : Int32} {x2 : Int32} (k : ah_At mt_M_pattern d A h0 o h2 98 [(0, .ref x0), (1, .int x1), (2, .int x2)] [.int 0] h) : ah_At mt_M_pattern d A h0 o h2 97 [(0, .ref x0), (1, .int x1), (2, .int x2)] [] h := by
  refine s_iconst (v := 0) d_M_pattern_97 (by decide) ?_
  exact k
theorem b_M_pattern_98 {d : Nat} {A : Nat → Prop} {h2 : ah_H} {o : Outcome} {h0 : ah_H} {h : ah_H} {x0 : Nat} {x1 : Int32} {x2 : Int32} {s0 : Int32} (kt : ¬ s0 = 0 → ah_At mt_M_pattern d A h0 o h2 108 [(0, .ref x0), (1, .int x1), (2, .int x2)] [.ref x0] h) (kf : ¬ (¬ s0 = 0) → ah_At mt_M_pattern d A h0 o h2 104 [(0, .ref x0), (1, .int x1), (2, .int x2)] [.ref x0] h) : ah_At mt_M_pattern d A h0 o h2 98 [(0, .ref x0), (1, .int x1), (2, .int x2)] [.int s0] h := by
  refine s_istore_n (lv' := [(0, .ref x0), (1, .int x1), (2, .int x2), (3, .int s0)]) d_M_pattern_98 rfl (by decide) rfl ?_
  refine s_aload_n d_M_pattern_99 rfl rfl ?_
  refine s_iload_n d_M_pattern_100 rfl rfl ?_
  refine s_ifne (t := 108) d_M_pattern_101 (by decide) (fun z => ?_) (fun z => ?_)
  · exact ah_At.sub [0, 1, 2] rfl (kt z)
  · exact ah_At.sub [0, 1, 2] rfl (kf z)
theorem b_M_pattern_104 {d : Nat} {A : Nat → Prop} {h2 : ah_H} {o : Outcome} {h0 : ah_H} {h : ah_H} {x0 : Nat} {x1 : Int32} {x2 : Int32} {s0 : Nat} (k : ah_At mt_M_pattern d A h0 o h2 123 [(0, .ref x0), (1, .int x1), (2, .int x2)] [.int 1, .ref s0] h) : ah_At mt_M_pattern d A h0 o h2 104 [(0, .ref x0), (1, .int x1), (2, .int x2)] [.ref s0] h := by
  refine s_iconst (v := 1) d_M_pattern_104 (by decide) ?_
  refine s_goto (t := 123) d_M_pattern_105 (by decide) ?_
  exact k
theorem b_M_pattern_108 {d : Nat} {A : Nat → Prop} {h2 : ah_H} {o : Outcome} {h0 : ah_H} {h : ah_H} {x0 : Nat} {x1 : Int32} {x2 : Int32} {s0 : Nat} {v1 : Nat} {v2 : Int32} {j2 : Nat} (g1 : ah_sel h x0 7 8 = some (.ref v1)) (i2 : ah_ix x1 j2) (g2 : ah_sel h v1 100 j2 = some (.int v2)) (kt : ¬ v2 = 4 → ah_At mt_M_pattern d A h0 o h2 122 [(0, .ref x0), (1, .int x1), (2, .int x2)] [.ref s0] h) (kf : ¬ (¬ v2 = 4) → ah_At mt_M_pattern d A h0 o h2 118 [(0, .ref x0), (1, .int x1), (2, .int x2)] [.ref s0] h) : ah_At mt_M_pattern d A h0 o h2 108 [(0, .ref x0), (1, .int x1), (2, .int x2)] [.ref s0] h := by
  refine s_aload_n d_M_pattern_108 rfl rfl ?_
  refine s_getfield (k := 8) d_M_pattern_109 kc7 (by decide) fl_M_27 g1 ?_
  refine s_iload_n d_M_pattern_112 rfl rfl ?_
  refine s_iaload d_M_pattern_113 i2 g2 ?_
  refine s_iconst (v := 4) d_M_pattern_114 (by decide) ?_
  refine s_if_icmpne (t := 122) d_M_pattern_115 (by decide) (fun z => ?_) (fun z => ?_)
  · exact (kt z)
  · exact (kf z)
theorem b_M_pattern_118 {d : Nat} {A : Nat → Prop} {h2 : ah_H} {o : Outcome} {h0 : ah_H} {h : ah_H} {x0 : Nat} {x1 : Int32} {x2 : Int32} {s0 : Nat} (k : ah_At mt_M_pattern d A h0 o h2 123 [(0, .ref x0), (1, .int x1), (2, .int x2)] [.int 2, .ref s0] h) : ah_At mt_M_pattern d A h0 o h2 118 [(0, .ref x0), (1, .int x1), (2, .int x2)] [.ref s0] h := by
  refine s_iconst (v := 2) d_M_pattern_118 (by decide) ?_
  refine s_goto (t := 123) d_M_pattern_119 (by decide) ?_
  exact k
theorem b_M_pattern_122 {d : Nat} {A : Nat → Prop} {h2 : ah_H} {o : Outcome} {h0 : ah_H} {h : ah_H} {x0 : Nat} {x1 : Int32} {x2 : Int32} {s0 : Nat} (k : ah_At mt_M_pattern d A h0 o h2 123 [(0, .ref x0), (1, .int x1), (2, .int x2)] [.int 0, .ref s0] h) : ah_At mt_M_pattern d A h0 o h2 122 [(0, .ref x0), (1, .int x1), (2, .int x2)] [.ref s0] h := by
  refine s_iconst (v := 0) d_M_pattern_122 (by decide) ?_
  exact k
theorem b_M_pattern_123 {d : Nat} {A : Nat → Prop} {h2 : ah_H} {o : Outcome} {h0 : ah_H} {h : ah_H} {x0 : Nat} {x1 : Int32} {x2 : Int32} {s0 : Int32} {s1 : Nat} {v2 : Int32} (w1 : A s1) (e1 : (ah_sel h s1 7 0).isSome = true) (g2 : ah_sel (ah_sto h s1 0 (.int s0)) x0 7 0 = some (.int v2)) (kt : v2 ≤ 0 → ah_At mt_M_pattern d A h0 o h2 135 [(0, .ref x0), (1, .int x1), (2, .int x2)] [] (ah_sto h s1 0 (.int s0))) (kf : ¬ (v2 ≤ 0) → ah_At mt_M_pattern d A h0 o h2 133 [] [] (ah_sto h s1 0 (.int s0))) : ah_At mt_M_pattern d A h0 o h2 123 [(0, .ref x0), (1, .int x1), (2, .int x2)] [.int s0, .ref s1] h := by
  refine s_putfield (k := 0) d_M_pattern_123 kc7 (by decide) fl_M_63 (Or.inl rfl) w1 rfl e1 ?_
  refine s_aload_n d_M_pattern_126 rfl rfl ?_
  refine s_getfield (k := 0) d_M_pattern_127 kc7 (by decide) fl_M_63 g2 ?_
  refine s_ifle (t := 135) d_M_pattern_130 (by decide) (fun z => ?_) (fun z => ?_)
  · exact (kt z)
  · exact ah_At.sub [] rfl (kf z)
theorem b_M_pattern_133 {d : Nat} {A : Nat → Prop} {h0 : ah_H} {h : ah_H}   : ah_At mt_M_pattern d A h0 (.returned (some (.int 0))) h 133 [] [] h := by
  refine s_iconst (v := 0) d_M_pattern_133 (by decide) ?_
  exact e_iret (ty := .int) d_M_pattern_134 rfl rfl
theorem b_M_pattern_135 {d : Nat} {A : Nat → Prop} {h0 : ah_H} {h : ah_H} {x0 : Nat} {x1 : Int32} {x2 : Int32} {v1 : Nat} {v2 : Nat} {v3 : Int32} {j3 : Nat} {j4 : Nat} {v5 : Nat} {v6 : Int32} {j6 : Nat} {j7 : Nat} {v9 : Nat} {v10 : Int32} {j10 : Nat} (g1 : ah_sel h x0 7 9 = some (.ref v1)) (g2 : ah_sel h x0 7 8 = some (.ref v2)) (i3 : ah_ix x1 j3) (g3 : ah_sel h v2 100 j3 = some (.int v3)) (w4 : A v1) (i4 : ah_ix ((4 * x1) + v3) j4) (e4 : (ah_sel h v1 100 j4).isSome = true) (g5 : ah_sel (ah_sto h v1 j4 (.int x2)) x0 7 8 = some (.ref v5)) (i6 : ah_ix x1 j6) (g6 : ah_sel (ah_sto h v1 j4 (.int x2)) v5 100 j6 = some (.int v6)) (w7 : A v5) (i7 : ah_ix x1 j7) (e7 : (ah_sel (ah_sto h v1 j4 (.int x2)) v5 100 j7).isSome = true) (w8 : A x0) (e8 : (ah_sel (ah_sto (ah_sto h v1 j4 (.int x2)) v5 j7 (.int (v6 + 1))) x0 7 17).isSome = true) (g9 : ah_sel (ah_sto (ah_sto (ah_sto h v1 j4 (.int x2)) v5 j7 (.int (v6 + 1))) x0 17 (.int 0)) x0 7 8 = some (.ref v9)) (i10 : ah_ix x1 j10) (g10 : ah_sel (ah_sto (ah_sto (ah_sto h v1 j4 (.int x2)) v5 j7 (.int (v6 + 1))) x0 17 (.int 0)) v9 100 j10 = some (.int v10)) : ah_At mt_M_pattern d A h0 (.returned (some (.int (v10 - 1)))) (ah_sto (ah_sto (ah_sto h v1 j4 (.int x2)) v5 j7 (.int (v6 + 1))) x0 17 (.int 0)) 135 [(0, .ref x0), (1, .int x1), (2, .int x2)] [] h := by
  refine s_aload_n d_M_pattern_135 rfl rfl ?_
  refine s_getfield (k := 9) d_M_pattern_136 kc7 (by decide) fl_M_30 g1 ?_
  refine s_iconst (v := 4) d_M_pattern_139 (by decide) ?_
  refine s_iload_n d_M_pattern_140 rfl rfl ?_
  refine s_imul d_M_pattern_141 ?_
  refine s_aload_n d_M_pattern_142 rfl rfl ?_
  refine s_getfield (k := 8) d_M_pattern_143 kc7 (by decide) fl_M_27 g2 ?_
  refine s_iload_n d_M_pattern_146 rfl rfl ?_
  refine s_iaload d_M_pattern_147 i3 g3 ?_
  refine s_iadd d_M_pattern_148 ?_
  refine s_iload_n d_M_pattern_149 rfl rfl ?_
  refine s_iastore d_M_pattern_150 w4 i4 e4 ?_
  refine s_aload_n d_M_pattern_151 rfl rfl ?_
  refine s_getfield (k := 8) d_M_pattern_152 kc7 (by decide) fl_M_27 g5 ?_
  refine s_iload_n d_M_pattern_155 rfl rfl ?_
  refine s_dup2 d_M_pattern_156 rfl rfl ?_
  refine s_iaload d_M_pattern_157 i6 g6 ?_
  refine s_iconst (v := 1) d_M_pattern_158 (by decide) ?_
  refine s_iadd d_M_pattern_159 ?_
  refine s_iastore d_M_pattern_160 w7 i7 e7 ?_
  refine s_aload_n d_M_pattern_161 rfl rfl ?_
  refine s_iconst (v := 0) d_M_pattern_162 (by decide) ?_
  refine s_putfield (k := 17) d_M_pattern_163 kc7 (by decide) fl_M_85 (Or.inl rfl) w8 (by decide) e8 ?_
  refine s_aload_n d_M_pattern_166 rfl rfl ?_
  refine s_getfield (k := 8) d_M_pattern_167 kc7 (by decide) fl_M_27 g9 ?_
  refine s_iload_n d_M_pattern_170 rfl rfl ?_
  refine s_iaload d_M_pattern_171 i10 g10 ?_
  refine s_iconst (v := 1) d_M_pattern_172 (by decide) ?_
  refine s_isub d_M_pattern_173 ?_
  exact e_iret (ty := .int) d_M_pattern_174 rfl rfl
theorem b_M_box_0 {d : Nat} {A : Nat → Prop} {h2 : ah_H} {o : Outcome} {h0 : ah_H} {h : ah_H} {x0 : Nat} {x1 : Int32} {x2 : Int64} {x4 : Int32} {x5 : Int32} {x6 : Int64} {d' : Nat} {A' : Nat → Prop} {o' : Outcome} {h' : ah_H} (hE : ah_Ev mt_M_in d' A' [.long (Int32.toInt64 x1), .long 1, .long 3] h o' h') (hdd : d' + 1 ≤ d) (hAA : ∀ q, A' q → A q) (k : ah_aft mt_M_box d A h0 o h2 7 [(0, .ref x0), (1, .int x1), (2, .long x2), (4, .int x4), (5, .int x5), (6, .long x6)] [.ref x0] h' o') : ah_At mt_M_box d A h0 o h2 0 [(0, .ref x0), (1, .int x1), (2, .long x2), (4, .int x4), (5, .int x5), (6, .long x6)] [] h := by
  refine s_aload_n d_M_box_0 rfl rfl ?_
  refine s_iload_n d_M_box_1 rfl rfl ?_
  refine s_i2l d_M_box_2 ?_
  refine s_lconst (v := 1) d_M_box_3 (by decide) ?_
  refine s_ldc2_w (v := 3) d_M_box_4 lc_M_95 ?_
  exact ah_callS (av := [.long (Int32.toInt64 x1), .long 1, .long 3]) (st := [.ref x0]) d_M_box_7 ml_M_75 ms_M_in hE hdd hAA rfl (Nat.le_of_ble_eq_true rfl) k
theorem b_M_box_10 {d : Nat} {A : Nat → Prop} {h2 : ah_H} {o : Outcome} {h0 : ah_H} {h : ah_H} {x0 : Nat} {x1 : Int32} {x2 : Int64} {x4 : Int32} {x5 : Int32} {x6 : Int64} {s0 : Int32} {s1 : Nat} (kt : s0 = 0 → ah_At mt_M_box d A h0 o h2 62 [(0, .ref x0), (1, .int x1), (2, .long x2), (4, .int x4), (5, .int x5), (6, .long x6)] [.ref s1] h) (kf : ¬ (s0 = 0) → ah_At mt_M_box d A h0 o h2 13 [(0, .ref x0), (1, .int x1), (2, .long x2), (4, .int x4), (5, .int x5), (6, .long x6)] [.ref s1] h) : ah_At mt_M_box d A h0 o h2 10 [(0, .ref x0), (1, .int x1), (2, .long x2), (4, .int x4), (5, .int x5), (6, .long x6)] [.int s0, .ref s1] h := by
  refine s_ifeq (t := 62) d_M_box_10 (by decide) (fun z => ?_) (fun z => ?_)
  · exact (kt z)
  · exact (kf z)
theorem b_M_box_13 {d : Nat} {A : Nat → Prop} {h2 : ah_H} {o : Outcome} {h0 : ah_H} {h : ah_H} {x0 : Nat} {x1 : Int32} {x2 : Int64} {x4 : Int32} {x5 : Int32} {x6 : Int64} {s0 : Nat} {d' : Nat} {A' : Nat → Prop} {o' : Outcome} {h' : ah_H} (hE : ah_Ev mt_M_in d' A' [.long x2, .long 0, .long 1000000] h o' h') (hdd : d' + 1 ≤ d) (hAA : ∀ q, A' q → A q) (k : ah_aft mt_M_box d A h0 o h2 18 [(0, .ref x0), (1, .int x1), (2, .long x2), (4, .int x4), (5, .int x5), (6, .long x6)] [.ref s0] h' o') : ah_At mt_M_box d A h0 o h2 13 [(0, .ref x0), (1, .int x1), (2, .long x2), (4, .int x4), (5, .int x5), (6, .long x6)] [.ref s0] h := by
  refine s_lload_n d_M_box_13 rfl rfl ?_
  refine s_lconst (v := 0) d_M_box_14 (by decide) ?_
  refine s_ldc2_w (v := 1000000) d_M_box_15 lc_M_79 ?_
  exact ah_callS (av := [.long x2, .long 0, .long 1000000]) (st := [.ref s0]) d_M_box_18 ml_M_75 ms_M_in hE hdd hAA rfl (Nat.le_of_ble_eq_true rfl) k
theorem b_M_box_21 {d : Nat} {A : Nat → Prop} {h2 : ah_H} {o : Outcome} {h0 : ah_H} {h : ah_H} {x0 : Nat} {x1 : Int32} {x2 : Int64} {x4 : Int32} {x5 : Int32} {x6 : Int64} {s0 : Int32} {s1 : Nat} (kt : s0 = 0 → ah_At mt_M_box d A h0 o h2 62 [(0, .ref x0), (1, .int x1), (2, .long x2), (4, .int x4), (5, .int x5), (6, .long x6)] [.ref s1] h) (kf : ¬ (s0 = 0) → ah_At mt_M_box d A h0 o h2 24 [(0, .ref x0), (1, .int x1), (2, .long x2), (4, .int x4), (5, .int x5), (6, .long x6)] [.ref s1] h) : ah_At mt_M_box d A h0 o h2 21 [(0, .ref x0), (1, .int x1), (2, .long x2), (4, .int x4), (5, .int x5), (6, .long x6)] [.int s0, .ref s1] h := by
  refine s_ifeq (t := 62) d_M_box_21 (by decide) (fun z => ?_) (fun z => ?_)
  · exact (kt z)
  · exact (kf z)
theorem b_M_box_24 {d : Nat} {A : Nat → Prop} {h2 : ah_H} {o : Outcome} {h0 : ah_H} {h : ah_H} {x0 : Nat} {x1 : Int32} {x2 : Int64} {x4 : Int32} {x5 : Int32} {x6 : Int64} {s0 : Nat} {d' : Nat} {A' : Nat → Prop} {o' : Outcome} {h' : ah_H} (hE : ah_Ev mt_M_in d' A' [.long (Int32.toInt64 x4), .long 1, .long 100] h o' h') (hdd : d' + 1 ≤ d) (hAA : ∀ q, A' q → A q) (k : ah_aft mt_M_box d A h0 o h2 31 [(0, .ref x0), (1, .int x1), (2, .long x2), (4, .int x4), (5, .int x5), (6, .long x6)] [.ref s0] h' o') : ah_At mt_M_box d A h0 o h2 24 [(0, .ref x0), (1, .int x1), (2, .long x2), (4, .int x4), (5, .int x5), (6, .long x6)] [.ref s0] h := by
  refine s_iload d_M_box_24 rfl ?_
  refine s_i2l d_M_box_26 ?_
  refine s_lconst (v := 1) d_M_box_27 (by decide) ?_
  refine s_ldc2_w (v := 100) d_M_box_28 lc_M_83 ?_
  exact ah_callS (av := [.long (Int32.toInt64 x4), .long 1, .long 100]) (st := [.ref s0]) d_M_box_31 ml_M_75 ms_M_in hE hdd hAA rfl (Nat.le_of_ble_eq_true rfl) k
theorem b_M_box_34 {d : Nat} {A : Nat → Prop} {h2 : ah_H} {o : Outcome} {h0 : ah_H} {h : ah_H} {x0 : Nat} {x1 : Int32} {x2 : Int64} {x4 : Int32} {x5 : Int32} {x6 : Int64} {s0 : Int32} {s1 : Nat} (kt : s0 = 0 → ah_At mt_M_box d A h0 o h2 62 [(0, .ref x0), (1, .int x1), (2, .long x2), (4, .int x4), (5, .int x5), (6, .long x6)] [.ref s1] h) (kf : ¬ (s0 = 0) → ah_At mt_M_box d A h0 o h2 37 [(0, .ref x0), (1, .int x1), (2, .long x2), (4, .int x4), (5, .int x5), (6, .long x6)] [.ref s1] h) : ah_At mt_M_box d A h0 o h2 34 [(0, .ref x0), (1, .int x1), (2, .long x2), (4, .int x4), (5, .int x5), (6, .long x6)] [.int s0, .ref s1] h := by
  refine s_ifeq (t := 62) d_M_box_34 (by decide) (fun z => ?_) (fun z => ?_)
  · exact (kt z)
  · exact (kf z)
theorem b_M_box_37 {d : Nat} {A : Nat → Prop} {h2 : ah_H} {o : Outcome} {h0 : ah_H} {h : ah_H} {x0 : Nat} {x1 : Int32} {x2 : Int64} {x4 : Int32} {x5 : Int32} {x6 : Int64} {s0 : Nat} {d' : Nat} {A' : Nat → Prop} {o' : Outcome} {h' : ah_H} (hE : ah_Ev mt_M_in d' A' [.long (Int32.toInt64 x5), .long 0, .long 3] h o' h') (hdd : d' + 1 ≤ d) (hAA : ∀ q, A' q → A q) (k : ah_aft mt_M_box d A h0 o h2 44 [(0, .ref x0), (1, .int x1), (2, .long x2), (4, .int x4), (5, .int x5), (6, .long x6)] [.ref s0] h' o') : ah_At mt_M_box d A h0 o h2 37 [(0, .ref x0), (1, .int x1), (2, .long x2), (4, .int x4), (5, .int x5), (6, .long x6)] [.ref s0] h := by
  refine s_iload d_M_box_37 rfl ?_
  refine s_i2l d_M_box_39 ?_
  refine s_lconst (v := 0) d_M_box_40 (by decide) ?_
  refine s_ldc2_w (v := 3) d_M_box_41 lc_M_95 ?_
  exact ah_callS (av := [.long (Int32.toInt64 x5), .long 0, .long 3]) (st := [.ref s0]) d_M_box_44 ml_M_75 ms_M_in hE hdd hAA rfl (Nat.le_of_ble_eq_true rfl) k
theorem b_M_box_47 {d : Nat} {A : Nat → Prop} {h2 : ah_H} {o : Outcome} {h0 : ah_H} {h : ah_H} {x0 : Nat} {x1 : Int32} {x2 : Int64} {x4 : Int32} {x5 : Int32} {x6 : Int64} {s0 : Int32} {s1 : Nat} (kt : s0 = 0 → ah_At mt_M_box d A h0 o h2 62 [(0, .ref x0), (1, .int x1), (2, .long x2), (4, .int x4), (5, .int x5), (6, .long x6)] [.ref s1] h) (kf : ¬ (s0 = 0) → ah_At mt_M_box d A h0 o h2 50 [(0, .ref x0), (1, .int x1), (2, .long x2), (4, .int x4), (5, .int x5), (6, .long x6)] [.ref s1] h) : ah_At mt_M_box d A h0 o h2 47 [(0, .ref x0), (1, .int x1), (2, .long x2), (4, .int x4), (5, .int x5), (6, .long x6)] [.int s0, .ref s1] h := by
  refine s_ifeq (t := 62) d_M_box_47 (by decide) (fun z => ?_) (fun z => ?_)
  · exact (kt z)
  · exact (kf z)
theorem b_M_box_50 {d : Nat} {A : Nat → Prop} {h2 : ah_H} {o : Outcome} {h0 : ah_H} {h : ah_H} {x0 : Nat} {x1 : Int32} {x2 : Int64} {x4 : Int32} {x5 : Int32} {x6 : Int64} {s0 : Nat} {d' : Nat} {A' : Nat → Prop} {o' : Outcome} {h' : ah_H} (hE : ah_Ev mt_M_in d' A' [.long x6, .long 0, .long 1000000000] h o' h') (hdd : d' + 1 ≤ d) (hAA : ∀ q, A' q → A q) (k : ah_aft mt_M_box d A h0 o h2 56 [(0, .ref x0), (1, .int x1), (2, .long x2), (4, .int x4), (5, .int x5), (6, .long x6)] [.ref s0] h' o') : ah_At mt_M_box d A h0 o h2 50 [(0, .ref x0), (1, .int x1), (2, .long x2), (4, .int x4), (5, .int x5), (6, .long x6)] [.ref s0] h := by
  refine s_lload d_M_box_50 rfl ?_
  refine s_lconst (v := 0) d_M_box_52 (by decide) ?_
  refine s_ldc2_w (v := 1000000000) d_M_box_53 lc_M_51 ?_
  exact ah_callS (av := [.long x6, .long 0, .long 1000000000]) (st := [.ref s0]) d_M_box_56 ml_M_75 ms_M_in hE hdd hAA rfl (Nat.le_of_ble_eq_true rfl) k
theorem b_M_box_59 {d : Nat} {A : Nat → Prop} {h2 : ah_H} {o : Outcome} {h0 : ah_H} {h : ah_H} {x0 : Nat} {x1 : Int32} {x2 : Int64} {x4 : Int32} {x5 : Int32} {x6 : Int64} {s0 : Int32} {s1 : Nat} (kt : ¬ s0 = 0 → ah_At mt_M_box d A h0 o h2 66 [(0, .ref x0), (1, .int x1), (2, .long x2), (4, .int x4), (5, .int x5), (6, .long x6)] [.ref s1] h) (kf : ¬ (¬ s0 = 0) → ah_At mt_M_box d A h0 o h2 62 [(0, .ref x0), (1, .int x1), (2, .long x2), (4, .int x4), (5, .int x5), (6, .long x6)] [.ref s1] h) : ah_At mt_M_box d A h0 o h2 59 [(0, .ref x0), (1, .int x1), (2, .long x2), (4, .int x4), (5, .int x5), (6, .long x6)] [.int s0, .ref s1] h := by
  refine s_ifne (t := 66) d_M_box_59 (by decide) (fun z => ?_) (fun z => ?_)
  · exact (kt z)
  · exact (kf z)
theorem b_M_box_62 {d : Nat} {A : Nat → Prop} {h2 : ah_H} {o : Outcome} {h0 : ah_H} {h : ah_H} {x0 : Nat} {x1 : Int32} {x2 : Int64} {x4 : Int32} {x5 : Int32} {x6 : Int64} {s0 : Nat} (k : ah_At mt_M_box d A h0 o h2 80 [(0, .ref x0), (1, .int x1), (2, .long x2), (4, .int x4), (5, .int x5), (6, .long x6)] [.int 1, .ref s0] h) : ah_At mt_M_box d A h0 o h2 62 [(0, .ref x0), (1, .int x1), (2, .long x2), (4, .int x4), (5, .int x5), (6, .long x6)] [.ref s0] h := by
  refine s_iconst (v := 1) d_M_box_62 (by decide) ?_
  refine s_goto (t := 80) d_M_box_63 (by decide) ?_
  exact k
theorem b_M_box_66 {d : Nat} {A : Nat → Prop} {h2 : ah_H} {o : Outcome} {h0 : ah_H} {h : ah_H} {x0 : Nat} {x1 : Int32} {x2 : Int64} {x4 : Int32} {x5 : Int32} {x6 : Int64} {s0 : Nat} {v1 : Int32} (g1 : ah_sel h x0 7 2 = some (.int v1)) (kt : ¬ v1 = 8 → ah_At mt_M_box d A h0 o h2 79 [(0, .ref x0), (1, .int x1), (2, .long x2), (4, .int x4), (5, .int x5), (6, .long x6)] [.ref s0] h) (kf : ¬ (¬ v1 = 8) → ah_At mt_M_box d A h0 o h2 75 [(0, .ref x0), (1, .int x1), (2, .long x2), (4, .int x4), (5, .int x5), (6, .long x6)] [.ref s0] h) : ah_At mt_M_box d A h0 o h2 66 [(0, .ref x0), (1, .int x1), (2, .long x2), (4, .int x4), (5, .int x5), (6, .long x6)] [.ref s0] h := by
  refine s_aload_n d_M_box_66 rfl rfl ?_
  refine s_getfield (k := 2) d_M_box_67 kc7 (by decide) fl_M_70 g1 ?_
  refine s_bipush (v := 8) d_M_box_70 (by decide) ?_
  refine s_if_icmpne (t := 79) d_M_box_72 (by decide) (fun z => ?_) (fun z => ?_)
  · exact (kt z)
  · exact (kf z)
theorem b_M_box_75 {d : Nat} {A : Nat → Prop} {h2 : ah_H} {o : Outcome} {h0 : ah_H} {h : ah_H} {x0 : Nat} {x1 : Int32} {x2 : Int64} {x4 : Int32} {x5 : Int32} {x6 : Int64} {s0 : Nat} (k : ah_At mt_M_box d A h0 o h2 80 [(0, .ref x0), (1, .int x1), (2, .long x2), (4, .int x4), (5, .int x5), (6, .long x6)] [.int 2, .ref s0] h) : ah_At mt_M_box d A h0 o h2 75 [(0, .ref x0), (1, .int x1), (2, .long x2), (4, .int x4), (5, .int x5), (6, .long x6)] [.ref s0] h := by
  refine s_iconst (v := 2) d_M_box_75 (by decide) ?_
  refine s_goto (t := 80) d_M_box_76 (by decide) ?_
  exact k
theorem b_M_box_79 {d : Nat} {A : Nat → Prop} {h2 : ah_H} {o : Outcome} {h0 : ah_H} {h : ah_H} {x0 : Nat} {x1 : Int32} {x2 : Int64} {x4 : Int32} {x5 : Int32} {x6 : Int64} {s0 : Nat} (k : ah_At mt_M_box d A h0 o h2 80 [(0, .ref x0), (1, .int x1), (2, .long x2), (4, .int x4), (5, .int x5), (6, .long x6)] [.int 0, .ref s0] h) : ah_At mt_M_box d A h0 o h2 79 [(0, .ref x0), (1, .int x1), (2, .long x2), (4, .int x4), (5, .int x5), (6, .long x6)] [.ref s0] h := by
  refine s_iconst (v := 0) d_M_box_79 (by decide) ?_
  exact k
theorem b_M_box_80 {d : Nat} {A : Nat → Prop} {h2 : ah_H} {o : Outcome} {h0 : ah_H} {h : ah_H} {x0 : Nat} {x1 : Int32} {x2 : Int64} {x4 : Int32} {x5 : Int32} {x6 : Int64} {s0 : Int32} {s1 : Nat} {v2 : Int32} (w1 : A s1) (e1 : (ah_sel h s1 7 0).isSome = true) (g2 : ah_sel (ah_sto h s1 0 (.int s0)) x0 7 0 = some (.int v2)) (kt : v2 ≤ 0 → ah_At mt_M_box d A h0 o h2 92 [(0, .ref x0), (1, .int x1), (2, .long x2), (4, .int x4), (5, .int x5), (6, .long x6)] [] (ah_sto h s1 0 (.int s0))) (kf : ¬ (v2 ≤ 0) → ah_At mt_M_box d A h0 o h2 90 [] [] (ah_sto h s1 0 (.int s0))) : ah_At mt_M_box d A h0 o h2 80 [(0, .ref x0), (1, .int x1), (2, .long x2), (4, .int x4), (5, .int x5), (6, .long x6)] [.int s0, .ref s1] h := by
  refine s_putfield (k := 0) d_M_box_80 kc7 (by decide) fl_M_63 (Or.inl rfl) w1 rfl e1 ?_
  refine s_aload_n d_M_box_83 rfl rfl ?_
  refine s_getfield (k := 0) d_M_box_84 kc7 (by decide) fl_M_63 g2 ?_
  refine s_ifle (t := 92) d_M_box_87 (by decide) (fun z => ?_) (fun z => ?_)
  · exact (kt z)
  · exact ah_At.sub [] rfl (kf z)
theorem b_M_box_90 {d : Nat} {A : Nat → Prop} {h0 : ah_H} {h : ah_H}   : ah_At mt_M_box d A h0 (.returned (some (.int 0))) h 90 [] [] h := by
  refine s_iconst (v := 0) d_M_box_90 (by decide) ?_
  exact e_iret (ty := .int) d_M_box_91 rfl rfl
theorem b_M_box_92 {d : Nat} {A : Nat → Prop} {h0 : ah_H} {h : ah_H} {x0 : Nat} {x1 : Int32} {x2 : Int64} {x4 : Int32} {x5 : Int32} {x6 : Int64} {v1 : Nat} {v2 : Int32} {j3 : Nat} {v4 : Nat} {v5 : Int32} {j6 : Nat} {v7 : Nat} {v8 : Int32} {j9 : Nat} {v10 : Nat} {v11 : Int32} {j12 : Nat} {v13 : Nat} {v14 : Int32} {j15 : Nat} {v16 : Int32} {v19 : Int32} (g1 : ah_sel h x0 7 10 = some (.ref v1)) (g2 : ah_sel h x0 7 2 = some (.int v2)) (w3 : A v1) (i3 : ah_ix v2 j3) (e3 : (ah_sel h v1 100 j3).isSome = true) (g4 : ah_sel (ah_sto h v1 j3 (.int x1)) x0 7 11 = some (.ref v4)) (g5 : ah_sel (ah_sto h v1 j3 (.int x1)) x0 7 2 = some (.int v5)) (w6 : A v4) (i6 : ah_ix v5 j6) (e6 : (ah_sel (ah_sto h v1 j3 (.int x1)) v4 101 j6).isSome = true) (g7 : ah_sel (ah_sto (ah_sto h v1 j3 (.int x1)) v4 j6 (.long x2)) x0 7 12 = some (.ref v7)) (g8 : ah_sel (ah_sto (ah_sto h v1 j3 (.int x1)) v4 j6 (.long x2)) x0 7 2 = some (.int v8)) (w9 : A v7) (i9 : ah_ix v8 j9) (e9 : (ah_sel (ah_sto (ah_sto h v1 j3 (.int x1)) v4 j6 (.long x2)) v7 100 j9).isSome = true) (g10 : ah_sel (ah_sto (ah_sto (ah_sto h v1 j3 (.int x1)) v4 j6 (.long x2)) v7 j9 (.int x4)) x0 7 13 = some (.ref v10)) (g11 : ah_sel (ah_sto (ah_sto (ah_sto h v1 j3 (.int x1)) v4 j6 (.long x2)) v7 j9 (.int x4)) x0 7 2 = some (.int v11)) (w12 : A v10) (i12 : ah_ix v11 j12) (e12 : (ah_sel (ah_sto (ah_sto (ah_sto h v1 j3 (.int x1)) v4 j6 (.long x2)) v7 j9 (.int x4)) v10 100 j12).isSome = true) (g13 : ah_sel (ah_sto (ah_sto (ah_sto (ah_sto h v1 j3 (.int x1)) v4 j6 (.long x2)) v7 j9 (.int x4)) v10 j12 (.int x5)) x0 7 14 = some (.ref v13)) (g14 : ah_sel (ah_sto (ah_sto (ah_sto (ah_sto h v1 j3 (.int x1)) v4 j6 (.long x2)) v7 j9 (.int x4)) v10 j12 (.int x5)) x0 7 2 = some (.int v14)) (w15 : A v13) (i15 : ah_ix v14 j15) (e15 : (ah_sel (ah_sto (ah_sto (ah_sto (ah_sto h v1 j3 (.int x1)) v4 j6 (.long x2)) v7 j9 (.int x4)) v10 j12 (.int x5)) v13 101 j15).isSome = true) (g16 : ah_sel (ah_sto (ah_sto (ah_sto (ah_sto (ah_sto h v1 j3 (.int x1)) v4 j6 (.long x2)) v7 j9 (.int x4)) v10 j12 (.int x5)) v13 j15 (.long x6)) x0 7 2 = some (.int v16)) (w17 : A x0) (e17 : (ah_sel (ah_sto (ah_sto (ah_sto (ah_sto (ah_sto h v1 j3 (.int x1)) v4 j6 (.long x2)) v7 j9 (.int x4)) v10 j12 (.int x5)) v13 j15 (.long x6)) x0 7 2).isSome = true) (w18 : A x0) (e18 : (ah_sel (ah_sto (ah_sto (ah_sto (ah_sto (ah_sto (ah_sto h v1 j3 (.int x1)) v4 j6 (.long x2)) v7 j9 (.int x4)) v10 j12 (.int x5)) v13 j15 (.long x6)) x0 2 (.int (v16 + 1))) x0 7 17).isSome = true) (g19 : ah_sel (ah_sto (ah_sto (ah_sto (ah_sto (ah_sto (ah_sto (ah_sto h v1 j3 (.int x1)) v4 j6 (.long x2)) v7 j9 (.int x4)) v10 j12 (.int x5)) v13 j15 (.long x6)) x0 2 (.int (v16 + 1))) x0 17 (.int 0)) x0 7 2 = some (.int v19)) : ah_At mt_M_box d A h0 (.returned (some (.int (v19 - 1)))) (ah_sto (ah_sto (ah_sto (ah_sto (ah_sto (ah_sto (ah_sto h v1 j3 (.int x1)) v4 j6 (.long x2)) v7 j9 (.int x4)) v10 j12 (.int x5)) v13 j15 (.long x6)) x0 2 (.int (v16 + 1))) x0 17 (.int 0)) 92 [(0, .ref x0), (1, .int x1), (2, .long x2), (4, .int x4), (5, .int x5), (6, .long x6)] [] h := by
  refine s_aload_n d_M_box_92 rfl rfl ?_
  refine s_getfield (k := 10) d_M_box_93 kc7 (by decide) fl_M_33 g1 ?_
  refine s_aload_n d_M_box_96 rfl rfl ?_
  refine s_getfield (k := 2) d_M_box_97 kc7 (by decide) fl_M_70 g2 ?_
  refine s_iload_n d_M_box_100 rfl rfl ?_
  refine s_iastore d_M_box_101 w3 i3 e3 ?_
  refine s_aload_n d_M_box_102 rfl rfl ?_
  refine s_getfield (k := 11) d_M_box_103 kc7 (by decide) fl_M_36 g4 ?_
  refine s_aload_n d_M_box_106 rfl rfl ?_
  refine s_getfield (k := 2) d_M_box_107 kc7 (by decide) fl_M_70 g5 ?_
  refine s_lload_n d_M_box_110 rfl rfl ?_
  refine s_lastore d_M_box_111 w6 i6 e6 ?_
  refine s_aload_n d_M_box_112 rfl rfl ?_
  refine s_getfield (k := 12) d_M_box_113 kc7 (by decide) fl_M_39 g7 ?_
  refine s_aload_n d_M_box_116 rfl rfl ?_
  refine s_getfield (k := 2) d_M_box_117 kc7 (by decide) fl_M_70 g8 ?_
  refine s_iload d_M_box_120 rfl ?_
  refine s_iastore d_M_box_122 w9 i9 e9 ?_
  refine s_aload_n d_M_box_123 rfl rfl ?_
  refine s_getfield (k := 13) d_M_box_124 kc7 (by decide) fl_M_42 g10 ?_
  refine s_aload_n d_M_box_127 rfl rfl ?_
  refine s_getfield (k := 2) d_M_box_128 kc7 (by decide) fl_M_70 g11 ?_
  refine s_iload d_M_box_131 rfl ?_
  refine s_iastore d_M_box_133 w12 i12 e12 ?_
  refine s_aload_n d_M_box_134 rfl rfl ?_
  refine s_getfield (k := 14) d_M_box_135 kc7 (by decide) fl_M_45 g13 ?_
  refine s_aload_n d_M_box_138 rfl rfl ?_
  refine s_getfield (k := 2) d_M_box_139 kc7 (by decide) fl_M_70 g14 ?_
  refine s_lload d_M_box_142 rfl ?_
  refine s_lastore d_M_box_144 w15 i15 e15 ?_
  refine s_aload_n d_M_box_145 rfl rfl ?_
  refine s_dup d_M_box_146 rfl ?_
  refine s_getfield (k := 2) d_M_box_147 kc7 (by decide) fl_M_70 g16 ?_
  refine s_iconst (v := 1) d_M_box_150 (by decide) ?_
  refine s_iadd d_M_box_151 ?_
  refine s_putfield (k := 2) d_M_box_152 kc7 (by decide) fl_M_70 (Or.inl rfl) w17 rfl e17 ?_
  refine s_aload_n d_M_box_155 rfl rfl ?_
  refine s_iconst (v := 0) d_M_box_156 (by decide) ?_
  refine s_putfield (k := 17) d_M_box_157 kc7 (by decide) fl_M_85 (Or.inl rfl) w18 (by decide) e18 ?_
  refine s_aload_n d_M_box_160 rfl rfl ?_
  refine s_getfield (k := 2) d_M_box_161 kc7 (by decide) fl_M_70 g19 ?_
  refine s_iconst (v := 1) d_M_box_164 (by decide) ?_
  refine s_isub d_M_box_165 ?_
  exact e_iret (ty := .int) d_M_box_166 rfl rfl
theorem b_M_rule_0 {d : Nat} {A : Nat → Prop} {h2 : ah_H} {o : Outcome} {h0 : ah_H} {h : ah_H} {x0 : Nat} {x1 : Int32} {x2 : Int32} {x3 : Int32} {d' : Nat} {A' : Nat → Prop} {o' : Outcome} {h' : ah_H} (w1 : A x0) (e1 : (ah_sel h x0 7 0).isSome = true) (hE : ah_Ev mt_M_in d' A' [.long (Int32.toInt64 x1), .long 1, .long 3] (ah_sto h x0 0 (.int 0)) o' h') (hdd : d' + 1 ≤ d) (hAA : ∀ q, A' q → A q) (k : ah_aft mt_M_rule d A h0 o h2 11 [(0, .ref x0), (1, .int x1), (2, .int x2), (3, .int x3)] [] h' o') : ah_At mt_M_rule d A h0 o h2 0 [(0, .ref x0), (1, .int x1), (2, .int x2), (3, .int x3)] [] h := by
  refine s_aload_n d_M_rule_0 rfl rfl ?_
  refine s_iconst (v := 0) d_M_rule_1 (by decide) ?_
  refine s_putfield (k := 0) d_M_rule_2 kc7 (by decide) fl_M_63 (Or.inl rfl) w1 rfl e1 ?_
  refine s_iload_n d_M_rule_5 rfl rfl ?_
  refine s_i2l d_M_rule_6 ?_
  refine s_lconst (v := 1) d_M_rule_7 (by decide) ?_
  refine s_ldc2_w (v := 3) d_M_rule_8 lc_M_95 ?_
  exact ah_callS (av := [.long (Int32.toInt64 x1), .long 1, .long 3]) (st := []) d_M_rule_11 ml_M_75 ms_M_in hE hdd hAA rfl (Nat.le_of_ble_eq_true rfl) k
theorem b_M_rule_14 {d : Nat} {A : Nat → Prop} {h2 : ah_H} {o : Outcome} {h0 : ah_H} {h : ah_H} {x0 : Nat} {x1 : Int32} {x2 : Int32} {x3 : Int32} {s0 : Int32} (kt : s0 = 0 → ah_At mt_M_rule d A h0 o h2 41 [] [] h) (kf : ¬ (s0 = 0) → ah_At mt_M_rule d A h0 o h2 17 [(0, .ref x0), (1, .int x1), (2, .int x2), (3, .int x3)] [] h) : ah_At mt_M_rule d A h0 o h2 14 [(0, .ref x0), (1, .int x1), (2, .int x2), (3, .int x3)] [.int s0] h := by
  refine s_ifeq (t := 41) d_M_rule_14 (by decide) (fun z => ?_) (fun z => ?_)
  · exact ah_At.sub [] rfl (kt z)
  · exact (kf z)
theorem b_M_rule_17 {d : Nat} {A : Nat → Prop} {h2 : ah_H} {o : Outcome} {h0 : ah_H} {h : ah_H} {x0 : Nat} {x1 : Int32} {x2 : Int32} {x3 : Int32} {d' : Nat} {A' : Nat → Prop} {o' : Outcome} {h' : ah_H} (hE : ah_Ev mt_M_in d' A' [.long (Int32.toInt64 x2), .long 1, .long 3] h o' h') (hdd : d' + 1 ≤ d) (hAA : ∀ q, A' q → A q) (k : ah_aft mt_M_rule d A h0 o h2 23 [(0, .ref x0), (1, .int x1), (2, .int x2), (3, .int x3)] [] h' o') : ah_At mt_M_rule d A h0 o h2 17 [(0, .ref x0), (1, .int x1), (2, .int x2), (3, .int x3)] [] h := by
  refine s_iload_n d_M_rule_17 rfl rfl ?_
  refine s_i2l d_M_rule_18 ?_
  refine s_lconst (v := 1) d_M_rule_19 (by decide) ?_
  refine s_ldc2_w (v := 3) d_M_rule_20 lc_M_95 ?_
  exact ah_callS (av := [.long (Int32.toInt64 x2), .long 1, .long 3]) (st := []) d_M_rule_23 ml_M_75 ms_M_in hE hdd hAA rfl (Nat.le_of_ble_eq_true rfl) k
theorem b_M_rule_26 {d : Nat} {A : Nat → Prop} {h2 : ah_H} {o : Outcome} {h0 : ah_H} {h : ah_H} {x0 : Nat} {x1 : Int32} {x2 : Int32} {x3 : Int32} {s0 : Int32} (kt : s0 = 0 → ah_At mt_M_rule d A h0 o h2 41 [] [] h) (kf : ¬ (s0 = 0) → ah_At mt_M_rule d A h0 o h2 29 [(0, .ref x0), (1, .int x1), (2, .int x2), (3, .int x3)] [] h) : ah_At mt_M_rule d A h0 o h2 26 [(0, .ref x0), (1, .int x1), (2, .int x2), (3, .int x3)] [.int s0] h := by
  refine s_ifeq (t := 41) d_M_rule_26 (by decide) (fun z => ?_) (fun z => ?_)
  · exact ah_At.sub [] rfl (kt z)
  · exact (kf z)
theorem b_M_rule_29 {d : Nat} {A : Nat → Prop} {h2 : ah_H} {o : Outcome} {h0 : ah_H} {h : ah_H} {x0 : Nat} {x1 : Int32} {x2 : Int32} {x3 : Int32} {d' : Nat} {A' : Nat → Prop} {o' : Outcome} {h' : ah_H} (hE : ah_Ev mt_M_in d' A' [.long (Int32.toInt64 x3), .long 0, .long 2] h o' h') (hdd : d' + 1 ≤ d) (hAA : ∀ q, A' q → A q) (k : ah_aft mt_M_rule d A h0 o h2 35 [(0, .ref x0), (1, .int x1), (2, .int x2), (3, .int x3)] [] h' o') : ah_At mt_M_rule d A h0 o h2 29 [(0, .ref x0), (1, .int x1), (2, .int x2), (3, .int x3)] [] h := by
  refine s_iload_n d_M_rule_29 rfl rfl ?_
  refine s_i2l d_M_rule_30 ?_
  refine s_lconst (v := 0) d_M_rule_31 (by decide) ?_
  refine s_ldc2_w (v := 2) d_M_rule_32 lc_M_101 ?_
  exact ah_callS (av := [.long (Int32.toInt64 x3), .long 0, .long 2]) (st := []) d_M_rule_35 ml_M_75 ms_M_in hE hdd hAA rfl (Nat.le_of_ble_eq_true rfl) k
theorem b_M_rule_38 {d : Nat} {A : Nat → Prop} {h2 : ah_H} {o : Outcome} {h0 : ah_H} {h : ah_H} {x0 : Nat} {x1 : Int32} {x2 : Int32} {x3 : Int32} {s0 : Int32} (kt : ¬ s0 = 0 → ah_At mt_M_rule d A h0 o h2 43 [(0, .ref x0), (1, .int x1), (2, .int x2), (3, .int x3)] [] h) (kf : ¬ (¬ s0 = 0) → ah_At mt_M_rule d A h0 o h2 41 [] [] h) : ah_At mt_M_rule d A h0 o h2 38 [(0, .ref x0), (1, .int x1), (2, .int x2), (3, .int x3)] [.int s0] h := by
  refine s_ifne (t := 43) d_M_rule_38 (by decide) (fun z => ?_) (fun z => ?_)
  · exact (kt z)
  · exact ah_At.sub [] rfl (kf z)
theorem b_M_rule_41 {d : Nat} {A : Nat → Prop} {h0 : ah_H} {h : ah_H}   : ah_At mt_M_rule d A h0 (.returned (some (.int 0))) h 41 [] [] h := by
  refine s_iconst (v := 0) d_M_rule_41 (by decide) ?_
  exact e_iret (ty := .boolean) d_M_rule_42 rfl (by decide +kernel)
theorem b_M_rule_43 {d : Nat} {A : Nat → Prop} {h0 : ah_H} {h : ah_H} {x0 : Nat} {x1 : Int32} {x2 : Int32} {x3 : Int32} {v1 : Nat} {j2 : Nat} {v3 : Nat} {j4 : Nat} (g1 : ah_sel h x0 7 15 = some (.ref v1)) (w2 : A v1) (i2 : ah_ix ((4 * x1) + x2) j2) (e2 : (ah_sel h v1 100 j2).isSome = true) (g3 : ah_sel (ah_sto h v1 j2 (.int x3)) x0 7 15 = some (.ref v3)) (w4 : A v3) (i4 : ah_ix ((4 * x2) + x1) j4) (e4 : (ah_sel (ah_sto h v1 j2 (.int x3)) v3 100 j4).isSome = true) (w5 : A x0) (e5 : (ah_sel (ah_sto (ah_sto h v1 j2 (.int x3)) v3 j4 (.int x3)) x0 7 17).isSome = true) : ah_At mt_M_rule d A h0 (.returned (some (.int 1))) (ah_sto (ah_sto (ah_sto h v1 j2 (.int x3)) v3 j4 (.int x3)) x0 17 (.int 0)) 43 [(0, .ref x0), (1, .int x1), (2, .int x2), (3, .int x3)] [] h := by
  refine s_aload_n d_M_rule_43 rfl rfl ?_
  refine s_getfield (k := 15) d_M_rule_44 kc7 (by decide) fl_M_48 g1 ?_
  refine s_iconst (v := 4) d_M_rule_47 (by decide) ?_
  refine s_iload_n d_M_rule_48 rfl rfl ?_
  refine s_imul d_M_rule_49 ?_
  refine s_iload_n d_M_rule_50 rfl rfl ?_
  refine s_iadd d_M_rule_51 ?_
  refine s_iload_n d_M_rule_52 rfl rfl ?_
  refine s_iastore d_M_rule_53 w2 i2 e2 ?_
  refine s_aload_n d_M_rule_54 rfl rfl ?_
  refine s_getfield (k := 15) d_M_rule_55 kc7 (by decide) fl_M_48 g3 ?_
  refine s_iconst (v := 4) d_M_rule_58 (by decide) ?_
  refine s_iload_n d_M_rule_59 rfl rfl ?_
  refine s_imul d_M_rule_60 ?_
  refine s_iload_n d_M_rule_61 rfl rfl ?_
  refine s_iadd d_M_rule_62 ?_
  refine s_iload_n d_M_rule_63 rfl rfl ?_
  refine s_iastore d_M_rule_64 w4 i4 e4 ?_
  refine s_aload_n d_M_rule_65 rfl rfl ?_
  refine s_iconst (v := 0) d_M_rule_66 (by decide) ?_
  refine s_putfield (k := 17) d_M_rule_67 kc7 (by decide) fl_M_85 (Or.inl rfl) w5 (by decide) e5 ?_
  refine s_iconst (v := 1) d_M_rule_70 (by decide) ?_
  exact e_iret (ty := .boolean) d_M_rule_71 rfl (by decide +kernel)
theorem b_M_cut_0 {d : Nat} {A : Nat → Prop} {h2 : ah_H} {o : Outcome} {h0 : ah_H} {h : ah_H} {x0 : Nat} {x1 : Int64} {d' : Nat} {A' : Nat → Prop} {o' : Outcome} {h' : ah_H} (w1 : A x0) (e1 : (ah_sel h x0 7 0).isSome = true) (hE : ah_Ev mt_M_in d' A' [.long x1, .long 0, .long 1000000000] (ah_sto h x0 0 (.int 0)) o' h') (hdd : d' + 1 ≤ d) (hAA : ∀ q, A' q → A q) (k : ah_aft mt_M_cut d A h0 o h2 10 [(0, .ref x0), (1, .long x1)] [] h' o') : ah_At mt_M_cut d A h0 o h2 0 [(0, .ref x0), (1, .long x1)] [] h := by
  refine s_aload_n d_M_cut_0 rfl rfl ?_
  refine s_iconst (v := 0) d_M_cut_1 (by decide) ?_
  refine s_putfield (k := 0) d_M_cut_2 kc7 (by decide) fl_M_63 (Or.inl rfl) w1 rfl e1 ?_
  refine s_lload_n d_M_cut_5 rfl rfl ?_
  refine s_lconst (v := 0) d_M_cut_6 (by decide) ?_
  refine s_ldc2_w (v := 1000000000) d_M_cut_7 lc_M_51 ?_
  exact ah_callS (av := [.long x1, .long 0, .long 1000000000]) (st := []) d_M_cut_10 ml_M_75 ms_M_in hE hdd hAA rfl (Nat.le_of_ble_eq_true rfl) k
theorem b_M_cut_13 {d : Nat} {A : Nat → Prop} {h2 : ah_H} {o : Outcome} {h0 : ah_H} {h : ah_H} {x0 : Nat} {x1 : Int64} {s0 : Int32} (kt : ¬ s0 = 0 → ah_At mt_M_cut d A h0 o h2 18 [(0, .ref x0), (1, .long x1)] [] h) (kf : ¬ (¬ s0 = 0) → ah_At mt_M_cut d A h0 o h2 16 [] [] h) : ah_At mt_M_cut d A h0 o h2 13 [(0, .ref x0), (1, .long x1)] [.int s0] h := by
  refine s_ifne (t := 18) d_M_cut_13 (by decide) (fun z => ?_) (fun z => ?_)
  · exact (kt z)
  · exact ah_At.sub [] rfl (kf z)
theorem b_M_cut_16 {d : Nat} {A : Nat → Prop} {h0 : ah_H} {h : ah_H}   : ah_At mt_M_cut d A h0 (.returned (some (.int 0))) h 16 [] [] h := by
  refine s_iconst (v := 0) d_M_cut_16 (by decide) ?_
  exact e_iret (ty := .boolean) d_M_cut_17 rfl (by decide +kernel)
theorem b_M_cut_18 {d : Nat} {A : Nat → Prop} {h0 : ah_H} {h : ah_H} {x0 : Nat} {x1 : Int64} (w1 : A x0) (e1 : (ah_sel h x0 7 16).isSome = true) (w2 : A x0) (e2 : (ah_sel (ah_sto h x0 16 (.long x1)) x0 7 17).isSome = true) : ah_At mt_M_cut d A h0 (.returned (some (.int 1))) (ah_sto (ah_sto h x0 16 (.long x1)) x0 17 (.int 0)) 18 [(0, .ref x0), (1, .long x1)] [] h := by
  refine s_aload_n d_M_cut_18 rfl rfl ?_
  refine s_lload_n d_M_cut_19 rfl rfl ?_
  refine s_putfield (k := 16) d_M_cut_20 kc7 (by decide) fl_M_53 (Or.inl rfl) w1 rfl e1 ?_
  refine s_aload_n d_M_cut_23 rfl rfl ?_
  refine s_iconst (v := 0) d_M_cut_24 (by decide) ?_
  refine s_putfield (k := 17) d_M_cut_25 kc7 (by decide) fl_M_85 (Or.inl rfl) w2 (by decide) e2 ?_
  refine s_iconst (v := 1) d_M_cut_28 (by decide) ?_
  exact e_iret (ty := .boolean) d_M_cut_29 rfl (by decide +kernel)
theorem b_M_out_0 {d : Nat} {A : Nat → Prop} {h2 : ah_H} {o : Outcome} {h0 : ah_H} {h : ah_H} {x0 : Nat} {x1 : Int32} {x2 : Int32} {d' : Nat} {A' : Nat → Prop} {o' : Outcome} {h' : ah_H} (w1 : A x0) (e1 : (ah_sel h x0 7 0).isSome = true) (hE : ah_Ev mt_M_isWagon d' A' [.ref x0, .int x1] (ah_sto h x0 0 (.int 0)) o' h') (hdd : d' + 1 ≤ d) (hAA : ∀ q, A' q → A q) (k : ah_aft mt_M_out d A h0 o h2 7 [(0, .ref x0), (1, .int x1), (2, .int x2)] [] h' o') (hb : (ah_len (ah_sto h x0 0 (.int 0)) x0 7).isSome = true) : ah_At mt_M_out d A h0 o h2 0 [(0, .ref x0), (1, .int x1), (2, .int x2)] [] h := by
  refine s_aload_n d_M_out_0 rfl rfl ?_
  refine s_iconst (v := 0) d_M_out_1 (by decide) ?_
  refine s_putfield (k := 0) d_M_out_2 kc7 (by decide) fl_M_63 (Or.inl rfl) w1 rfl e1 ?_
  refine s_aload_n d_M_out_5 rfl rfl ?_
  refine s_iload_n d_M_out_6 rfl rfl ?_
  exact ah_callV (av := [.int x1]) (st := []) d_M_out_7 ml_M_89 mi_M_isWagon mv_M_isWagon kc7 hb hE hdd hAA rfl (Nat.le_of_ble_eq_true rfl) k
theorem b_M_out_10 {d : Nat} {A : Nat → Prop} {h2 : ah_H} {o : Outcome} {h0 : ah_H} {h : ah_H} {x0 : Nat} {x1 : Int32} {x2 : Int32} {s0 : Int32} (kt : s0 = 0 → ah_At mt_M_out d A h0 o h2 23 [] [] h) (kf : ¬ (s0 = 0) → ah_At mt_M_out d A h0 o h2 13 [(0, .ref x0), (1, .int x1), (2, .int x2)] [] h) : ah_At mt_M_out d A h0 o h2 10 [(0, .ref x0), (1, .int x1), (2, .int x2)] [.int s0] h := by
  refine s_ifeq (t := 23) d_M_out_10 (by decide) (fun z => ?_) (fun z => ?_)
  · exact ah_At.sub [] rfl (kt z)
  · exact (kf z)
theorem b_M_out_13 {d : Nat} {A : Nat → Prop} {h2 : ah_H} {o : Outcome} {h0 : ah_H} {h : ah_H} {x0 : Nat} {x1 : Int32} {x2 : Int32} {v1 : Nat} {v2 : Int32} {j2 : Nat} (g1 : ah_sel h x0 7 7 = some (.ref v1)) (i2 : ah_ix x1 j2) (g2 : ah_sel h v1 103 j2 = some (.int v2)) (kt : ¬ v2 = x2 → ah_At mt_M_out d A h0 o h2 25 [(0, .ref x0), (1, .int x1), (2, .int x2)] [] h) (kf : ¬ (¬ v2 = x2) → ah_At mt_M_out d A h0 o h2 23 [] [] h) : ah_At mt_M_out d A h0 o h2 13 [(0, .ref x0), (1, .int x1), (2, .int x2)] [] h := by
  refine s_aload_n d_M_out_13 rfl rfl ?_
  refine s_getfield (k := 7) d_M_out_14 kc7 (by decide) fl_M_23 g1 ?_
  refine s_iload_n d_M_out_17 rfl rfl ?_
  refine s_zaload d_M_out_18 i2 g2 ?_
  refine s_iload_n d_M_out_19 rfl rfl ?_
  refine s_if_icmpne (t := 25) d_M_out_20 (by decide) (fun z => ?_) (fun z => ?_)
  · exact (kt z)
  · exact ah_At.sub [] rfl (kf z)
theorem b_M_out_23 {d : Nat} {A : Nat → Prop} {h0 : ah_H} {h : ah_H}   : ah_At mt_M_out d A h0 (.returned (some (.int 0))) h 23 [] [] h := by
  refine s_iconst (v := 0) d_M_out_23 (by decide) ?_
  exact e_iret (ty := .boolean) d_M_out_24 rfl (by decide +kernel)
theorem b_M_out_25 {d : Nat} {A : Nat → Prop} {h0 : ah_H} {h : ah_H} {x0 : Nat} {x1 : Int32} {x2 : Int32} {v1 : Nat} {j2 : Nat} (g1 : ah_sel h x0 7 7 = some (.ref v1)) (w2 : A v1) (i2 : ah_ix x1 j2) (e2 : (ah_sel h v1 103 j2).isSome = true) (f2 : ah_fit .boolean (.int x2) = true) (w3 : A x0) (e3 : (ah_sel (ah_sto h v1 j2 (.int x2)) x0 7 17).isSome = true) : ah_At mt_M_out d A h0 (.returned (some (.int 1))) (ah_sto (ah_sto h v1 j2 (.int x2)) x0 17 (.int 0)) 25 [(0, .ref x0), (1, .int x1), (2, .int x2)] [] h := by
  refine s_aload_n d_M_out_25 rfl rfl ?_
  refine s_getfield (k := 7) d_M_out_26 kc7 (by decide) fl_M_23 g1 ?_
  refine s_iload_n d_M_out_29 rfl rfl ?_
  refine s_iload_n d_M_out_30 rfl rfl ?_
  refine s_zastore d_M_out_31 w2 i2 e2 f2 ?_
  refine s_aload_n d_M_out_32 rfl rfl ?_
  refine s_iconst (v := 0) d_M_out_33 (by decide) ?_
  refine s_putfield (k := 17) d_M_out_34 kc7 (by decide) fl_M_85 (Or.inl rfl) w3 (by decide) e3 ?_
  refine s_iconst (v := 1) d_M_out_37 (by decide) ?_
  exact e_iret (ty := .boolean) d_M_out_38 rfl (by decide +kernel)
theorem b_M_rulesOf_0 {d : Nat} {A : Nat → Prop} {h0 : ah_H} {h : ah_H} {x0 : Nat} {x1 : Int32} {x2 : Int32} {v1 : Nat} {v2 : Nat} {v3 : Int32} {j3 : Nat} {v4 : Nat} {v5 : Int32} {j5 : Nat} {v6 : Int32} {j6 : Nat} (g1 : ah_sel h x0 7 15 = some (.ref v1)) (g2 : ah_sel h x0 7 13 = some (.ref v2)) (i3 : ah_ix x1 j3) (g3 : ah_sel h v2 100 j3 = some (.int v3)) (g4 : ah_sel h x0 7 13 = some (.ref v4)) (i5 : ah_ix x2 j5) (g5 : ah_sel h v4 100 j5 = some (.int v5)) (i6 : ah_ix ((4 * v3) + v5) j6) (g6 : ah_sel h v1 100 j6 = some (.int v6)) : ah_At mt_M_rulesOf d A h0 (.returned (some (.int v6))) h 0 [(0, .ref x0), (1, .int x1), (2, .int x2)] [] h := by
  refine s_aload_n d_M_rulesOf_0 rfl rfl ?_
  refine s_getfield (k := 15) d_M_rulesOf_1 kc7 (by decide) fl_M_48 g1 ?_
  refine s_iconst (v := 4) d_M_rulesOf_4 (by decide) ?_
  refine s_aload_n d_M_rulesOf_5 rfl rfl ?_
  refine s_getfield (k := 13) d_M_rulesOf_6 kc7 (by decide) fl_M_42 g2 ?_
  refine s_iload_n d_M_rulesOf_9 rfl rfl ?_
  refine s_iaload d_M_rulesOf_10 i3 g3 ?_
  refine s_imul d_M_rulesOf_11 ?_
  refine s_aload_n d_M_rulesOf_12 rfl rfl ?_
  refine s_getfield (k := 13) d_M_rulesOf_13 kc7 (by decide) fl_M_42 g4 ?_
  refine s_iload_n d_M_rulesOf_16 rfl rfl ?_
  refine s_iaload d_M_rulesOf_17 i5 g5 ?_
  refine s_iadd d_M_rulesOf_18 ?_
  refine s_iaload d_M_rulesOf_19 i6 g6 ?_
  exact e_iret (ty := .int) d_M_rulesOf_20 rfl rfl
theorem b_M_placesOf_0 {d : Nat} {A : Nat → Prop} {h2 : ah_H} {o : Outcome} {h0 : ah_H} {h : ah_H} {x0 : Int32} {x1 : Int32} (k : ah_At mt_M_placesOf d A h0 o h2 4 [(1, .int x1), (2, .int 0), (3, .int x0)] [] h) : ah_At mt_M_placesOf d A h0 o h2 0 [(0, .int x0), (1, .int x1)] [] h := by
  refine s_iconst (v := 0) d_M_placesOf_0 (by decide) ?_
  refine s_istore_n (lv' := [(0, .int x0), (1, .int x1), (2, .int 0)]) d_M_placesOf_1 rfl (by decide) rfl ?_
  refine s_iload_n d_M_placesOf_2 rfl rfl ?_
  refine s_istore_n (lv' := [(0, .int x0), (1, .int x1), (2, .int 0), (3, .int x0)]) d_M_placesOf_3 rfl (by decide) rfl ?_
  exact ah_At.sub [1, 2, 3] rfl k
theorem b_M_placesOf_4 {d : Nat} {A : Nat → Prop} {h2 : ah_H} {o : Outcome} {h0 : ah_H} {h : ah_H} {x1 : Int32} {x2 : Int32} {x3 : Int32} (kt : x3 ≤ 0 → ah_At mt_M_placesOf d A h0 o h2 32 [(2, .int x2)] [] h) (kf : ¬ (x3 ≤ 0) → ah_At mt_M_placesOf d A h0 o h2 8 [(1, .int x1), (2, .int x2), (3, .int x3)] [] h) : ah_At mt_M_placesOf d A h0 o h2 4 [(1, .int x1), (2, .int x2), (3, .int x3)] [] h := by
  refine s_iload_n d_M_placesOf_4 rfl rfl ?_
  refine s_ifle (t := 32) d_M_placesOf_5 (by decide) (fun z => ?_) (fun z => ?_)
  · exact ah_At.sub [1] rfl (kt z)
  · exact (kf z)
theorem b_M_placesOf_8 {d : Nat} {A : Nat → Prop} {h2 : ah_H} {o : Outcome} {h0 : ah_H} {h : ah_H} {x1 : Int32} {x2 : Int32} {x3 : Int32} (kt : ¬ (x3 - x3 / 10 * 10) = x1 → ah_At mt_M_placesOf d A h0 o h2 21 [(1, .int x1), (3, .int x3)] [.int x2] h) (kf : ¬ (¬ (x3 - x3 / 10 * 10) = x1) → ah_At mt_M_placesOf d A h0 o h2 17 [(1, .int x1), (3, .int x3)] [.int x2] h) : ah_At mt_M_placesOf d A h0 o h2 8 [(1, .int x1), (2, .int x2), (3, .int x3)] [] h := by
  refine s_iload_n d_M_placesOf_8 rfl rfl ?_
  refine s_iload_n d_M_placesOf_9 rfl rfl ?_
  refine s_bipush (v := 10) d_M_placesOf_10 (by decide) ?_
  refine s_irem d_M_placesOf_12 (by decide) ?_
  refine s_iload_n d_M_placesOf_13 rfl rfl ?_
  refine s_if_icmpne (t := 21) d_M_placesOf_14 (by decide) (fun z => ?_) (fun z => ?_)
  · exact ah_At.sub [0, 2] rfl (kt z)
  · exact ah_At.sub [0, 2] rfl (kf z)
theorem b_M_placesOf_17 {d : Nat} {A : Nat → Prop} {h2 : ah_H} {o : Outcome} {h0 : ah_H} {h : ah_H} {x1 : Int32} {x3 : Int32} {s0 : Int32} (k : ah_At mt_M_placesOf d A h0 o h2 22 [(1, .int x1), (3, .int x3)] [.int 1, .int s0] h) : ah_At mt_M_placesOf d A h0 o h2 17 [(1, .int x1), (3, .int x3)] [.int s0] h := by
  refine s_iconst (v := 1) d_M_placesOf_17 (by decide) ?_
  refine s_goto (t := 22) d_M_placesOf_18 (by decide) ?_
  exact k
theorem b_M_placesOf_21 {d : Nat} {A : Nat → Prop} {h2 : ah_H} {o : Outcome} {h0 : ah_H} {h : ah_H} {x1 : Int32} {x3 : Int32} {s0 : Int32} (k : ah_At mt_M_placesOf d A h0 o h2 22 [(1, .int x1), (3, .int x3)] [.int 0, .int s0] h) : ah_At mt_M_placesOf d A h0 o h2 21 [(1, .int x1), (3, .int x3)] [.int s0] h := by
  refine s_iconst (v := 0) d_M_placesOf_21 (by decide) ?_
  exact k
theorem b_M_placesOf_22 {d : Nat} {A : Nat → Prop} {h2 : ah_H} {o : Outcome} {h0 : ah_H} {h : ah_H} {x1 : Int32} {x3 : Int32} {s0 : Int32} {s1 : Int32} (k : ah_At mt_M_placesOf d A h0 o h2 4 [(1, .int x1), (2, .int (s1 + s0)), (3, .int (x3 / 10))] [] h) : ah_At mt_M_placesOf d A h0 o h2 22 [(1, .int x1), (3, .int x3)] [.int s0, .int s1] h := by
  refine s_iadd d_M_placesOf_22 ?_
  refine s_istore_n (lv' := [(1, .int x1), (3, .int x3), (2, .int (s1 + s0))]) d_M_placesOf_23 rfl (by decide) rfl ?_
  refine s_iload_n d_M_placesOf_24 rfl rfl ?_
  refine s_bipush (v := 10) d_M_placesOf_25 (by decide) ?_
  refine s_idiv d_M_placesOf_27 (by decide) ?_
  refine s_istore_n (lv' := [(1, .int x1), (3, .int (x3 / 10)), (2, .int (s1 + s0))]) d_M_placesOf_28 rfl (by decide) rfl ?_
  refine s_goto (t := 4) d_M_placesOf_29 (by decide) ?_
  exact ah_At.sub [0, 2, 1] rfl k
theorem b_M_placesOf_32 {d : Nat} {A : Nat → Prop} {h0 : ah_H} {h : ah_H} {x2 : Int32}  : ah_At mt_M_placesOf d A h0 (.returned (some (.int x2))) h 32 [(2, .int x2)] [] h := by
  refine s_iload_n d_M_placesOf_32 rfl rfl ?_
  exact e_iret (ty := .int) d_M_placesOf_33 rfl rfl
theorem b_M_patternFor_0 {d : Nat} {A : Nat → Prop} {h2 : ah_H} {o : Outcome} {h0 : ah_H} {h : ah_H} {x0 : Nat} {x1 : Int32} {x2 : Int32} {x3 : Int32} {x4 : Int32} (k : ah_At mt_M_patternFor d A h0 o h2 3 [(0, .ref x0), (1, .int x1), (2, .int x2), (3, .int x3), (4, .int x4), (5, .int 0)] [] h) : ah_At mt_M_patternFor d A h0 o h2 0 [(0, .ref x0), (1, .int x1), (2, .int x2), (3, .int x3), (4, .int x4)] [] h := by
  refine s_iconst (v := 0) d_M_patternFor_0 (by decide) ?_
  refine s_istore (lv' := [(0, .ref x0), (1, .int x1), (2, .int x2), (3, .int x3), (4, .int x4), (5, .int 0)]) d_M_patternFor_1 (by decide) rfl ?_
  exact k
theorem b_M_patternFor_3 {d : Nat} {A : Nat → Prop} {h2 : ah_H} {o : Outcome} {h0 : ah_H} {h : ah_H} {x0 : Nat} {x1 : Int32} {x2 : Int32} {x3 : Int32} {x4 : Int32} {x5 : Int32} {v1 : Nat} {v2 : Int32} {j2 : Nat} (g1 : ah_sel h x0 7 8 = some (.ref v1)) (i2 : ah_ix x1 j2) (g2 : ah_sel h v1 100 j2 = some (.int v2)) (kt : v2 ≤ x5 → ah_At mt_M_patternFor d A h0 o h2 78 [(0, .ref x0), (1, .int x1), (5, .int x5)] [] h) (kf : ¬ (v2 ≤ x5) → ah_At mt_M_patternFor d A h0 o h2 14 [(0, .ref x0), (1, .int x1), (2, .int x2), (3, .int x3), (4, .int x4), (5, .int x5)] [] h) : ah_At mt_M_patternFor d A h0 o h2 3 [(0, .ref x0), (1, .int x1), (2, .int x2), (3, .int x3), (4, .int x4), (5, .int x5)] [] h := by
  refine s_iload d_M_patternFor_3 rfl ?_
  refine s_aload_n d_M_patternFor_5 rfl rfl ?_
  refine s_getfield (k := 8) d_M_patternFor_6 kc7 (by decide) fl_M_27 g1 ?_
  refine s_iload_n d_M_patternFor_9 rfl rfl ?_
  refine s_iaload d_M_patternFor_10 i2 g2 ?_
  refine s_if_icmpge (t := 78) d_M_patternFor_11 (by decide) (fun z => ?_) (fun z => ?_)
  · exact ah_At.sub [0, 1, 5] rfl (kt z)
  · exact (kf z)
theorem b_M_patternFor_14 {d : Nat} {A : Nat → Prop} {h2 : ah_H} {o : Outcome} {h0 : ah_H} {h : ah_H} {x0 : Nat} {x1 : Int32} {x2 : Int32} {x3 : Int32} {x4 : Int32} {x5 : Int32} {v1 : Nat} {v2 : Int32} {j2 : Nat} {d' : Nat} {A' : Nat → Prop} {o' : Outcome} {h' : ah_H} (g1 : ah_sel h x0 7 9 = some (.ref v1)) (i2 : ah_ix ((4 * x1) + x5) j2) (g2 : ah_sel h v1 100 j2 = some (.int v2)) (hE : ah_Ev mt_M_placesOf d' A' [.int v2, .int 1] h o' h') (hdd : d' + 1 ≤ d) (hAA : ∀ q, A' q → A q) (k : ah_aft mt_M_patternFor d A h0 o h2 26 [(0, .ref x0), (1, .int x1), (2, .int x2), (3, .int x3), (4, .int x4), (5, .int x5)] [] h' o') : ah_At mt_M_patternFor d A h0 o h2 14 [(0, .ref x0), (1, .int x1), (2, .int x2), (3, .int x3), (4, .int x4), (5, .int x5)] [] h := by
  refine s_aload_n d_M_patternFor_14 rfl rfl ?_
  refine s_getfield (k := 9) d_M_patternFor_15 kc7 (by decide) fl_M_30 g1 ?_
  refine s_iconst (v := 4) d_M_patternFor_18 (by decide) ?_
  refine s_iload_n d_M_patternFor_19 rfl rfl ?_
  refine s_imul d_M_patternFor_20 ?_
  refine s_iload d_M_patternFor_21 rfl ?_
  refine s_iadd d_M_patternFor_23 ?_
  refine s_iaload d_M_patternFor_24 i2 g2 ?_
  refine s_iconst (v := 1) d_M_patternFor_25 (by decide) ?_
  exact ah_callS (av := [.int v2, .int 1]) (st := []) d_M_patternFor_26 ml_M_103 ms_M_placesOf hE hdd hAA rfl (Nat.le_of_ble_eq_true rfl) k
theorem b_M_patternFor_29 {d : Nat} {A : Nat → Prop} {h2 : ah_H} {o : Outcome} {h0 : ah_H} {h : ah_H} {x0 : Nat} {x1 : Int32} {x2 : Int32} {x3 : Int32} {x4 : Int32} {x5 : Int32} {s0 : Int32} (kt : s0 < x2 → ah_At mt_M_patternFor d A h0 o h2 72 [(0, .ref x0), (1, .int x1), (2, .int x2), (3, .int x3), (4, .int x4), (5, .int x5)] [] h) (kf : ¬ (s0 < x2) → ah_At mt_M_patternFor d A h0 o h2 33 [(0, .ref x0), (1, .int x1), (2, .int x2), (3, .int x3), (4, .int x4), (5, .int x5)] [] h) : ah_At mt_M_patternFor d A h0 o h2 29 [(0, .ref x0), (1, .int x1), (2, .int x2), (3, .int x3), (4, .int x4), (5, .int x5)] [.int s0] h := by
  refine s_iload_n d_M_patternFor_29 rfl rfl ?_
  refine s_if_icmplt (t := 72) d_M_patternFor_30 (by decide) (fun z => ?_) (fun z => ?_)
  · exact (kt z)
  · exact (kf z)
theorem b_M_patternFor_33 {d : Nat} {A : Nat → Prop} {h2 : ah_H} {o : Outcome} {h0 : ah_H} {h : ah_H} {x0 : Nat} {x1 : Int32} {x2 : Int32} {x3 : Int32} {x4 : Int32} {x5 : Int32} {v1 : Nat} {v2 : Int32} {j2 : Nat} {d' : Nat} {A' : Nat → Prop} {o' : Outcome} {h' : ah_H} (g1 : ah_sel h x0 7 9 = some (.ref v1)) (i2 : ah_ix ((4 * x1) + x5) j2) (g2 : ah_sel h v1 100 j2 = some (.int v2)) (hE : ah_Ev mt_M_placesOf d' A' [.int v2, .int 2] h o' h') (hdd : d' + 1 ≤ d) (hAA : ∀ q, A' q → A q) (k : ah_aft mt_M_patternFor d A h0 o h2 45 [(0, .ref x0), (1, .int x1), (2, .int x2), (3, .int x3), (4, .int x4), (5, .int x5)] [] h' o') : ah_At mt_M_patternFor d A h0 o h2 33 [(0, .ref x0), (1, .int x1), (2, .int x2), (3, .int x3), (4, .int x4), (5, .int x5)] [] h := by
  refine s_aload_n d_M_patternFor_33 rfl rfl ?_
  refine s_getfield (k := 9) d_M_patternFor_34 kc7 (by decide) fl_M_30 g1 ?_
  refine s_iconst (v := 4) d_M_patternFor_37 (by decide) ?_
  refine s_iload_n d_M_patternFor_38 rfl rfl ?_
  refine s_imul d_M_patternFor_39 ?_
  refine s_iload d_M_patternFor_40 rfl ?_
  refine s_iadd d_M_patternFor_42 ?_
  refine s_iaload d_M_patternFor_43 i2 g2 ?_
  refine s_iconst (v := 2) d_M_patternFor_44 (by decide) ?_
  exact ah_callS (av := [.int v2, .int 2]) (st := []) d_M_patternFor_45 ml_M_103 ms_M_placesOf hE hdd hAA rfl (Nat.le_of_ble_eq_true rfl) k
theorem b_M_patternFor_48 {d : Nat} {A : Nat → Prop} {h2 : ah_H} {o : Outcome} {h0 : ah_H} {h : ah_H} {x0 : Nat} {x1 : Int32} {x2 : Int32} {x3 : Int32} {x4 : Int32} {x5 : Int32} {s0 : Int32} (kt : s0 < x3 → ah_At mt_M_patternFor d A h0 o h2 72 [(0, .ref x0), (1, .int x1), (2, .int x2), (3, .int x3), (4, .int x4), (5, .int x5)] [] h) (kf : ¬ (s0 < x3) → ah_At mt_M_patternFor d A h0 o h2 52 [(0, .ref x0), (1, .int x1), (2, .int x2), (3, .int x3), (4, .int x4), (5, .int x5)] [] h) : ah_At mt_M_patternFor d A h0 o h2 48 [(0, .ref x0), (1, .int x1), (2, .int x2), (3, .int x3), (4, .int x4), (5, .int x5)] [.int s0] h := by
  refine s_iload_n d_M_patternFor_48 rfl rfl ?_
  refine s_if_icmplt (t := 72) d_M_patternFor_49 (by decide) (fun z => ?_) (fun z => ?_)
  · exact (kt z)
  · exact (kf z)
theorem b_M_patternFor_52 {d : Nat} {A : Nat → Prop} {h2 : ah_H} {o : Outcome} {h0 : ah_H} {h : ah_H} {x0 : Nat} {x1 : Int32} {x2 : Int32} {x3 : Int32} {x4 : Int32} {x5 : Int32} {v1 : Nat} {v2 : Int32} {j2 : Nat} {d' : Nat} {A' : Nat → Prop} {o' : Outcome} {h' : ah_H} (g1 : ah_sel h x0 7 9 = some (.ref v1)) (i2 : ah_ix ((4 * x1) + x5) j2) (g2 : ah_sel h v1 100 j2 = some (.int v2)) (hE : ah_Ev mt_M_placesOf d' A' [.int v2, .int 3] h o' h') (hdd : d' + 1 ≤ d) (hAA : ∀ q, A' q → A q) (k : ah_aft mt_M_patternFor d A h0 o h2 64 [(0, .ref x0), (1, .int x1), (2, .int x2), (3, .int x3), (4, .int x4), (5, .int x5)] [] h' o') : ah_At mt_M_patternFor d A h0 o h2 52 [(0, .ref x0), (1, .int x1), (2, .int x2), (3, .int x3), (4, .int x4), (5, .int x5)] [] h := by
  refine s_aload_n d_M_patternFor_52 rfl rfl ?_
  refine s_getfield (k := 9) d_M_patternFor_53 kc7 (by decide) fl_M_30 g1 ?_
  refine s_iconst (v := 4) d_M_patternFor_56 (by decide) ?_
  refine s_iload_n d_M_patternFor_57 rfl rfl ?_
  refine s_imul d_M_patternFor_58 ?_
  refine s_iload d_M_patternFor_59 rfl ?_
  refine s_iadd d_M_patternFor_61 ?_
  refine s_iaload d_M_patternFor_62 i2 g2 ?_
  refine s_iconst (v := 3) d_M_patternFor_63 (by decide) ?_
  exact ah_callS (av := [.int v2, .int 3]) (st := []) d_M_patternFor_64 ml_M_103 ms_M_placesOf hE hdd hAA rfl (Nat.le_of_ble_eq_true rfl) k
theorem b_M_patternFor_67 {d : Nat} {A : Nat → Prop} {h2 : ah_H} {o : Outcome} {h0 : ah_H} {h : ah_H} {x0 : Nat} {x1 : Int32} {x2 : Int32} {x3 : Int32} {x4 : Int32} {x5 : Int32} {s0 : Int32} (kt : x4 ≤ s0 → ah_At mt_M_patternFor d A h0 o h2 78 [(0, .ref x0), (1, .int x1), (5, .int x5)] [] h) (kf : ¬ (x4 ≤ s0) → ah_At mt_M_patternFor d A h0 o h2 72 [(0, .ref x0), (1, .int x1), (2, .int x2), (3, .int x3), (4, .int x4), (5, .int x5)] [] h) : ah_At mt_M_patternFor d A h0 o h2 67 [(0, .ref x0), (1, .int x1), (2, .int x2), (3, .int x3), (4, .int x4), (5, .int x5)] [.int s0] h := by
  refine s_iload d_M_patternFor_67 rfl ?_
  refine s_if_icmpge (t := 78) d_M_patternFor_69 (by decide) (fun z => ?_) (fun z => ?_)
  · exact ah_At.sub [0, 1, 5] rfl (kt z)
  · exact (kf z)
theorem b_M_patternFor_72 {d : Nat} {A : Nat → Prop} {h2 : ah_H} {o : Outcome} {h0 : ah_H} {h : ah_H} {x0 : Nat} {x1 : Int32} {x2 : Int32} {x3 : Int32} {x4 : Int32} {x5 : Int32} (k : ah_At mt_M_patternFor d A h0 o h2 3 [(0, .ref x0), (1, .int x1), (2, .int x2), (3, .int x3), (4, .int x4), (5, .int (x5 + 1))] [] h) : ah_At mt_M_patternFor d A h0 o h2 72 [(0, .ref x0), (1, .int x1), (2, .int x2), (3, .int x3), (4, .int x4), (5, .int x5)] [] h := by
  refine s_iinc (v := x5 + 1) (lv' := [(0, .ref x0), (1, .int x1), (2, .int x2), (3, .int x3), (4, .int x4), (5, .int (x5 + 1))]) d_M_patternFor_72 rfl rfl (by decide) rfl ?_
  refine s_goto (t := 3) d_M_patternFor_75 (by decide) ?_
  exact k
theorem b_M_patternFor_78 {d : Nat} {A : Nat → Prop} {h2 : ah_H} {o : Outcome} {h0 : ah_H} {h : ah_H} {x0 : Nat} {x1 : Int32} {x5 : Int32} {v1 : Nat} {v2 : Int32} {j2 : Nat} (g1 : ah_sel h x0 7 8 = some (.ref v1)) (i2 : ah_ix x1 j2) (g2 : ah_sel h v1 100 j2 = some (.int v2)) (kt : v2 ≤ x5 → ah_At mt_M_patternFor d A h0 o h2 94 [] [] h) (kf : ¬ (v2 ≤ x5) → ah_At mt_M_patternFor d A h0 o h2 89 [(5, .int x5)] [] h) : ah_At mt_M_patternFor d A h0 o h2 78 [(0, .ref x0), (1, .int x1), (5, .int x5)] [] h := by
  refine s_iload d_M_patternFor_78 rfl ?_
  refine s_aload_n d_M_patternFor_80 rfl rfl ?_
  refine s_getfield (k := 8) d_M_patternFor_81 kc7 (by decide) fl_M_27 g1 ?_
  refine s_iload_n d_M_patternFor_84 rfl rfl ?_
  refine s_iaload d_M_patternFor_85 i2 g2 ?_
  refine s_if_icmpge (t := 94) d_M_patternFor_86 (by decide) (fun z => ?_) (fun z => ?_)
  · exact ah_At.sub [] rfl (kt z)
  · exact ah_At.sub [2] rfl (kf z)
theorem b_M_patternFor_89 {d : Nat} {A : Nat → Prop} {h2 : ah_H} {o : Outcome} {h0 : ah_H} {h : ah_H} {x5 : Int32} (k : ah_At mt_M_patternFor d A h0 o h2 95 [] [.int x5] h) : ah_At mt_M_patternFor d A h0 o h2 89 [(5, .int x5)] [] h := by
  refine s_iload d_M_patternFor_89 rfl ?_
  refine s_goto (t := 95) d_M_patternFor_91 (by decide) ?_
  exact ah_At.sub [] rfl k
theorem b_M_patternFor_94 {d : Nat} {A : Nat → Prop} {h2 : ah_H} {o : Outcome} {h0 : ah_H} {h : ah_H}  (k : ah_At mt_M_patternFor d A h0 o h2 95 [] [.int (-1)] h) : ah_At mt_M_patternFor d A h0 o h2 94 [] [] h := by
  refine s_iconst (v := -1) d_M_patternFor_94 (by decide) ?_
  exact k
theorem b_M_patternFor_95 {d : Nat} {A : Nat → Prop} {h0 : ah_H} {h : ah_H} {s0 : Int32}  : ah_At mt_M_patternFor d A h0 (.returned (some (.int s0))) h 95 [] [.int s0] h := by
  exact e_iret (ty := .int) d_M_patternFor_95 rfl rfl
theorem b_M_countOf_0 {d : Nat} {A : Nat → Prop} {h2 : ah_H} {o : Outcome} {h0 : ah_H} {h : ah_H} {x0 : Nat} {x1 : Nat} {x2 : Int32} {x3 : Int32} (k : ah_At mt_M_countOf d A h0 o h2 6 [(0, .ref x0), (1, .ref x1), (2, .int x2), (3, .int x3), (4, .int 0), (5, .int 0)] [] h) : ah_At mt_M_countOf d A h0 o h2 0 [(0, .ref x0), (1, .ref x1), (2, .int x2), (3, .int x3)] [] h := by
  refine s_iconst (v := 0) d_M_countOf_0 (by decide) ?_
  refine s_istore (lv' := [(0, .ref x0), (1, .ref x1), (2, .int x2), (3, .int x3), (4, .int 0)]) d_M_countOf_1 (by decide) rfl ?_
  refine s_iconst (v := 0) d_M_countOf_3 (by decide) ?_
  refine s_istore (lv' := [(0, .ref x0), (1, .ref x1), (2, .int x2), (3, .int x3), (4, .int 0), (5, .int 0)]) d_M_countOf_4 (by decide) rfl ?_
  exact k
theorem b_M_countOf_6 {d : Nat} {A : Nat → Prop} {h2 : ah_H} {o : Outcome} {h0 : ah_H} {h : ah_H} {x0 : Nat} {x1 : Nat} {x2 : Int32} {x3 : Int32} {x4 : Int32} {x5 : Int32} {v1 : Int32} (g1 : ah_sel h x0 7 2 = some (.int v1)) (kt : v1 ≤ x5 → ah_At mt_M_countOf d A h0 o h2 56 [(4, .int x4)] [] h) (kf : ¬ (v1 ≤ x5) → ah_At mt_M_countOf d A h0 o h2 15 [(0, .ref x0), (1, .ref x1), (2, .int x2), (3, .int x3), (4, .int x4), (5, .int x5)] [] h) : ah_At mt_M_countOf d A h0 o h2 6 [(0, .ref x0), (1, .ref x1), (2, .int x2), (3, .int x3), (4, .int x4), (5, .int x5)] [] h := by
  refine s_iload d_M_countOf_6 rfl ?_
  refine s_aload_n d_M_countOf_8 rfl rfl ?_
  refine s_getfield (k := 2) d_M_countOf_9 kc7 (by decide) fl_M_70 g1 ?_
  refine s_if_icmpge (t := 56) d_M_countOf_12 (by decide) (fun z => ?_) (fun z => ?_)
  · exact ah_At.sub [4] rfl (kt z)
  · exact (kf z)
theorem b_M_countOf_15 {d : Nat} {A : Nat → Prop} {h2 : ah_H} {o : Outcome} {h0 : ah_H} {h : ah_H} {x0 : Nat} {x1 : Nat} {x2 : Int32} {x3 : Int32} {x4 : Int32} {x5 : Int32} {v1 : Int32} {j1 : Nat} (i1 : ah_ix x5 j1) (g1 : ah_sel h x1 100 j1 = some (.int v1)) (kt : ¬ v1 = (x2 + 1) → ah_At mt_M_countOf d A h0 o h2 46 [(0, .ref x0), (1, .ref x1), (2, .int x2), (3, .int x3), (5, .int x5)] [.int x4] h) (kf : ¬ (¬ v1 = (x2 + 1)) → ah_At mt_M_countOf d A h0 o h2 27 [(0, .ref x0), (1, .ref x1), (2, .int x2), (3, .int x3), (5, .int x5)] [.int x4] h) : ah_At mt_M_countOf d A h0 o h2 15 [(0, .ref x0), (1, .ref x1), (2, .int x2), (3, .int x3), (4, .int x4), (5, .int x5)] [] h := by
  refine s_iload d_M_countOf_15 rfl ?_
  refine s_aload_n d_M_countOf_17 rfl rfl ?_
  refine s_iload d_M_countOf_18 rfl ?_
  refine s_iaload d_M_countOf_20 i1 g1 ?_
  refine s_iload_n d_M_countOf_21 rfl rfl ?_
  refine s_iconst (v := 1) d_M_countOf_22 (by decide) ?_
  refine s_iadd d_M_countOf_23 ?_
  refine s_if_icmpne (t := 46) d_M_countOf_24 (by decide) (fun z => ?_) (fun z => ?_)
  · exact ah_At.sub [0, 1, 2, 3, 5] rfl (kt z)
  · exact ah_At.sub [0, 1, 2, 3, 5] rfl (kf z)
theorem b_M_countOf_27 {d : Nat} {A : Nat → Prop} {h2 : ah_H} {o : Outcome} {h0 : ah_H} {h : ah_H} {x0 : Nat} {x1 : Nat} {x2 : Int32} {x3 : Int32} {x5 : Int32} {s0 : Int32} (kt : x3 = 0 → ah_At mt_M_countOf d A h0 o h2 42 [(0, .ref x0), (1, .ref x1), (2, .int x2), (3, .int x3), (5, .int x5)] [.int s0] h) (kf : ¬ (x3 = 0) → ah_At mt_M_countOf d A h0 o h2 31 [(0, .ref x0), (1, .ref x1), (2, .int x2), (3, .int x3), (5, .int x5)] [.int s0] h) : ah_At mt_M_countOf d A h0 o h2 27 [(0, .ref x0), (1, .ref x1), (2, .int x2), (3, .int x3), (5, .int x5)] [.int s0] h := by
  refine s_iload_n d_M_countOf_27 rfl rfl ?_
  refine s_ifeq (t := 42) d_M_countOf_28 (by decide) (fun z => ?_) (fun z => ?_)
  · exact (kt z)
  · exact (kf z)
theorem b_M_countOf_31 {d : Nat} {A : Nat → Prop} {h2 : ah_H} {o : Outcome} {h0 : ah_H} {h : ah_H} {x0 : Nat} {x1 : Nat} {x2 : Int32} {x3 : Int32} {x5 : Int32} {s0 : Int32} {v1 : Nat} {v2 : Int32} {j2 : Nat} (g1 : ah_sel h x0 7 10 = some (.ref v1)) (i2 : ah_ix x5 j2) (g2 : ah_sel h v1 100 j2 = some (.int v2)) (kt : ¬ v2 = x3 → ah_At mt_M_countOf d A h0 o h2 46 [(0, .ref x0), (1, .ref x1), (2, .int x2), (3, .int x3), (5, .int x5)] [.int s0] h) (kf : ¬ (¬ v2 = x3) → ah_At mt_M_countOf d A h0 o h2 42 [(0, .ref x0), (1, .ref x1), (2, .int x2), (3, .int x3), (5, .int x5)] [.int s0] h) : ah_At mt_M_countOf d A h0 o h2 31 [(0, .ref x0), (1, .ref x1), (2, .int x2), (3, .int x3), (5, .int x5)] [.int s0] h := by
  refine s_aload_n d_M_countOf_31 rfl rfl ?_
  refine s_getfield (k := 10) d_M_countOf_32 kc7 (by decide) fl_M_33 g1 ?_
  refine s_iload d_M_countOf_35 rfl ?_
  refine s_iaload d_M_countOf_37 i2 g2 ?_
  refine s_iload_n d_M_countOf_38 rfl rfl ?_
  refine s_if_icmpne (t := 46) d_M_countOf_39 (by decide) (fun z => ?_) (fun z => ?_)
  · exact (kt z)
  · exact (kf z)
theorem b_M_countOf_42 {d : Nat} {A : Nat → Prop} {h2 : ah_H} {o : Outcome} {h0 : ah_H} {h : ah_H} {x0 : Nat} {x1 : Nat} {x2 : Int32} {x3 : Int32} {x5 : Int32} {s0 : Int32} (k : ah_At mt_M_countOf d A h0 o h2 47 [(0, .ref x0), (1, .ref x1), (2, .int x2), (3, .int x3), (5, .int x5)] [.int 1, .int s0] h) : ah_At mt_M_countOf d A h0 o h2 42 [(0, .ref x0), (1, .ref x1), (2, .int x2), (3, .int x3), (5, .int x5)] [.int s0] h := by
  refine s_iconst (v := 1) d_M_countOf_42 (by decide) ?_
  refine s_goto (t := 47) d_M_countOf_43 (by decide) ?_
  exact k
theorem b_M_countOf_46 {d : Nat} {A : Nat → Prop} {h2 : ah_H} {o : Outcome} {h0 : ah_H} {h : ah_H} {x0 : Nat} {x1 : Nat} {x2 : Int32} {x3 : Int32} {x5 : Int32} {s0 : Int32} (k : ah_At mt_M_countOf d A h0 o h2 47 [(0, .ref x0), (1, .ref x1), (2, .int x2), (3, .int x3), (5, .int x5)] [.int 0, .int s0] h) : ah_At mt_M_countOf d A h0 o h2 46 [(0, .ref x0), (1, .ref x1), (2, .int x2), (3, .int x3), (5, .int x5)] [.int s0] h := by
  refine s_iconst (v := 0) d_M_countOf_46 (by decide) ?_
  exact k
theorem b_M_countOf_47 {d : Nat} {A : Nat → Prop} {h2 : ah_H} {o : Outcome} {h0 : ah_H} {h : ah_H} {x0 : Nat} {x1 : Nat} {x2 : Int32} {x3 : Int32} {x5 : Int32} {s0 : Int32} {s1 : Int32} (k : ah_At mt_M_countOf d A h0 o h2 6 [(0, .ref x0), (1, .ref x1), (2, .int x2), (3, .int x3), (4, .int (s1 + s0)), (5, .int (x5 + 1))] [] h) : ah_At mt_M_countOf d A h0 o h2 47 [(0, .ref x0), (1, .ref x1), (2, .int x2), (3, .int x3), (5, .int x5)] [.int s0, .int s1] h := by
  refine s_iadd d_M_countOf_47 ?_
  refine s_istore (lv' := [(0, .ref x0), (1, .ref x1), (2, .int x2), (3, .int x3), (5, .int x5), (4, .int (s1 + s0))]) d_M_countOf_48 (by decide) rfl ?_
  refine s_iinc (v := x5 + 1) (lv' := [(0, .ref x0), (1, .ref x1), (2, .int x2), (3, .int x3), (5, .int (x5 + 1)), (4, .int (s1 + s0))]) d_M_countOf_50 rfl rfl (by decide) rfl ?_
  refine s_goto (t := 6) d_M_countOf_53 (by decide) ?_
  exact ah_At.sub [0, 1, 2, 3, 5, 4] rfl k
theorem b_M_countOf_56 {d : Nat} {A : Nat → Prop} {h0 : ah_H} {h : ah_H} {x4 : Int32}  : ah_At mt_M_countOf d A h0 (.returned (some (.int x4))) h 56 [(4, .int x4)] [] h := by
  refine s_iload d_M_countOf_56 rfl ?_
  exact e_iret (ty := .int) d_M_countOf_58 rfl rfl
theorem b_M_isGood_0 {d : Nat} {A : Nat → Prop} {h2 : ah_H} {o : Outcome} {h0 : ah_H} {h : ah_H} {x0 : Nat} {x1 : Int32} {v1 : Nat} {d' : Nat} {A' : Nat → Prop} {o' : Outcome} {h' : ah_H} (g1 : ah_sel h x0 7 18 = some (.ref v1)) (hE : ah_Ev mt_M_countOf d' A' [.ref x0, .ref v1, .int x1, .int 0] h o' h') (hdd : d' + 1 ≤ d) (hAA : ∀ q, A' q → A q) (k : ah_aft mt_M_isGood d A h0 o h2 7 [(0, .ref x0), (1, .int x1)] [] h' o') (hb : (ah_len h x0 7).isSome = true) : ah_At mt_M_isGood d A h0 o h2 0 [(0, .ref x0), (1, .int x1)] [] h := by
  refine s_aload_n d_M_isGood_0 rfl rfl ?_
  refine s_aload_n d_M_isGood_1 rfl rfl ?_
  refine s_getfield (k := 18) d_M_isGood_2 kc7 (by decide) fl_M_57 g1 ?_
  refine s_iload_n d_M_isGood_5 rfl rfl ?_
  refine s_iconst (v := 0) d_M_isGood_6 (by decide) ?_
  exact ah_callV (av := [.ref v1, .int x1, .int 0]) (st := []) d_M_isGood_7 ml_M_107 mi_M_countOf mv_M_countOf kc7 hb hE hdd hAA rfl (Nat.le_of_ble_eq_true rfl) k
theorem b_M_isGood_10 {d : Nat} {A : Nat → Prop} {h2 : ah_H} {o : Outcome} {h0 : ah_H} {h : ah_H} {x0 : Nat} {x1 : Int32} {s0 : Int32} (kt : ¬ s0 = 0 → ah_At mt_M_isGood d A h0 o h2 15 [(0, .ref x0), (1, .int x1)] [] h) (kf : ¬ (¬ s0 = 0) → ah_At mt_M_isGood d A h0 o h2 13 [] [] h) : ah_At mt_M_isGood d A h0 o h2 10 [(0, .ref x0), (1, .int x1)] [.int s0] h := by
  refine s_ifne (t := 15) d_M_isGood_10 (by decide) (fun z => ?_) (fun z => ?_)
  · exact (kt z)
  · exact ah_At.sub [] rfl (kf z)
theorem b_M_isGood_13 {d : Nat} {A : Nat → Prop} {h0 : ah_H} {h : ah_H}   : ah_At mt_M_isGood d A h0 (.returned (some (.int 1))) h 13 [] [] h := by
  refine s_iconst (v := 1) d_M_isGood_13 (by decide) ?_
  exact e_iret (ty := .boolean) d_M_isGood_14 rfl (by decide +kernel)
theorem b_M_isGood_15 {d : Nat} {A : Nat → Prop} {h2 : ah_H} {o : Outcome} {h0 : ah_H} {h : ah_H} {x0 : Nat} {x1 : Int32} {v1 : Nat} {v2 : Int32} {j2 : Nat} (g1 : ah_sel h x0 7 7 = some (.ref v1)) (i2 : ah_ix x1 j2) (g2 : ah_sel h v1 103 j2 = some (.int v2)) (kt : ¬ v2 = 0 → ah_At mt_M_isGood d A h0 o h2 62 [] [] h) (kf : ¬ (¬ v2 = 0) → ah_At mt_M_isGood d A h0 o h2 24 [(0, .ref x0), (1, .int x1)] [] h) : ah_At mt_M_isGood d A h0 o h2 15 [(0, .ref x0), (1, .int x1)] [] h := by
  refine s_aload_n d_M_isGood_15 rfl rfl ?_
  refine s_getfield (k := 7) d_M_isGood_16 kc7 (by decide) fl_M_23 g1 ?_
  refine s_iload_n d_M_isGood_19 rfl rfl ?_
  refine s_zaload d_M_isGood_20 i2 g2 ?_
  refine s_ifne (t := 62) d_M_isGood_21 (by decide) (fun z => ?_) (fun z => ?_)
  · exact ah_At.sub [] rfl (kt z)
  · exact (kf z)
theorem b_M_isGood_24 {d : Nat} {A : Nat → Prop} {h2 : ah_H} {o : Outcome} {h0 : ah_H} {h : ah_H} {x0 : Nat} {x1 : Int32} {v1 : Nat} {d' : Nat} {A' : Nat → Prop} {o' : Outcome} {h' : ah_H} (g1 : ah_sel h x0 7 18 = some (.ref v1)) (hE : ah_Ev mt_M_countOf d' A' [.ref x0, .ref v1, .int x1, .int 1] h o' h') (hdd : d' + 1 ≤ d) (hAA : ∀ q, A' q → A q) (k : ah_aft mt_M_isGood d A h0 o h2 33 [(0, .ref x0), (1, .int x1)] [.int x1, .ref x0] h' o') (hb : (ah_len h x0 7).isSome = true) : ah_At mt_M_isGood d A h0 o h2 24 [(0, .ref x0), (1, .int x1)] [] h := by
  refine s_aload_n d_M_isGood_24 rfl rfl ?_
  refine s_iload_n d_M_isGood_25 rfl rfl ?_
  refine s_aload_n d_M_isGood_26 rfl rfl ?_
  refine s_aload_n d_M_isGood_27 rfl rfl ?_
  refine s_getfield (k := 18) d_M_isGood_28 kc7 (by decide) fl_M_57 g1 ?_
  refine s_iload_n d_M_isGood_31 rfl rfl ?_
  refine s_iconst (v := 1) d_M_isGood_32 (by decide) ?_
  exact ah_callV (av := [.ref v1, .int x1, .int 1]) (st := [.int x1, .ref x0]) d_M_isGood_33 ml_M_107 mi_M_countOf mv_M_countOf kc7 hb hE hdd hAA rfl (Nat.le_of_ble_eq_true rfl) k
theorem b_M_isGood_36 {d : Nat} {A : Nat → Prop} {h2 : ah_H} {o : Outcome} {h0 : ah_H} {h : ah_H} {x0 : Nat} {x1 : Int32} {s0 : Int32} {s1 : Int32} {s2 : Nat} {v1 : Nat} {d' : Nat} {A' : Nat → Prop} {o' : Outcome} {h' : ah_H} (g1 : ah_sel h x0 7 18 = some (.ref v1)) (hE : ah_Ev mt_M_countOf d' A' [.ref x0, .ref v1, .int x1, .int 2] h o' h') (hdd : d' + 1 ≤ d) (hAA : ∀ q, A' q → A q) (k : ah_aft mt_M_isGood d A h0 o h2 43 [(0, .ref x0), (1, .int x1)] [.int s0, .int s1, .ref s2] h' o') (hb : (ah_len h x0 7).isSome = true) : ah_At mt_M_isGood d A h0 o h2 36 [(0, .ref x0), (1, .int x1)] [.int s0, .int s1, .ref s2] h := by
  refine s_aload_n d_M_isGood_36 rfl rfl ?_
  refine s_aload_n d_M_isGood_37 rfl rfl ?_
  refine s_getfield (k := 18) d_M_isGood_38 kc7 (by decide) fl_M_57 g1 ?_
  refine s_iload_n d_M_isGood_41 rfl rfl ?_
  refine s_iconst (v := 2) d_M_isGood_42 (by decide) ?_
  exact ah_callV (av := [.ref v1, .int x1, .int 2]) (st := [.int s0, .int s1, .ref s2]) d_M_isGood_43 ml_M_107 mi_M_countOf mv_M_countOf kc7 hb hE hdd hAA rfl (Nat.le_of_ble_eq_true rfl) k
theorem b_M_isGood_46 {d : Nat} {A : Nat → Prop} {h2 : ah_H} {o : Outcome} {h0 : ah_H} {h : ah_H} {x0 : Nat} {x1 : Int32} {s0 : Int32} {s1 : Int32} {s2 : Int32} {s3 : Nat} {v1 : Nat} {d' : Nat} {A' : Nat → Prop} {o' : Outcome} {h' : ah_H} (g1 : ah_sel h x0 7 18 = some (.ref v1)) (hE : ah_Ev mt_M_countOf d' A' [.ref x0, .ref v1, .int x1, .int 3] h o' h') (hdd : d' + 1 ≤ d) (hAA : ∀ q, A' q → A q) (k : ah_aft mt_M_isGood d A h0 o h2 53 [(0, .ref x0), (1, .int x1)] [.int s0, .int s1, .int s2, .ref s3] h' o') (hb : (ah_len h x0 7).isSome = true) : ah_At mt_M_isGood d A h0 o h2 46 [(0, .ref x0), (1, .int x1)] [.int s0, .int s1, .int s2, .ref s3] h := by
  refine s_aload_n d_M_isGood_46 rfl rfl ?_
  refine s_aload_n d_M_isGood_47 rfl rfl ?_
  refine s_getfield (k := 18) d_M_isGood_48 kc7 (by decide) fl_M_57 g1 ?_
  refine s_iload_n d_M_isGood_51 rfl rfl ?_
  refine s_iconst (v := 3) d_M_isGood_52 (by decide) ?_
  exact ah_callV (av := [.ref v1, .int x1, .int 3]) (st := [.int s0, .int s1, .int s2, .ref s3]) d_M_isGood_53 ml_M_107 mi_M_countOf mv_M_countOf kc7 hb hE hdd hAA rfl (Nat.le_of_ble_eq_true rfl) k
theorem b_M_isGood_56 {d : Nat} {A : Nat → Prop} {h2 : ah_H} {o : Outcome} {h0 : ah_H} {h : ah_H} {x0 : Nat} {x1 : Int32} {s0 : Int32} {s1 : Int32} {s2 : Int32} {s3 : Int32} {s4 : Nat} {d' : Nat} {A' : Nat → Prop} {o' : Outcome} {h' : ah_H} (hE : ah_Ev mt_M_patternFor d' A' [.ref s4, .int s3, .int s2, .int s1, .int s0] h o' h') (hdd : d' + 1 ≤ d) (hAA : ∀ q, A' q → A q) (k : ah_aft mt_M_isGood d A h0 o h2 56 [(0, .ref x0), (1, .int x1)] [] h' o') (hb : (ah_len h s4 7).isSome = true) : ah_At mt_M_isGood d A h0 o h2 56 [(0, .ref x0), (1, .int x1)] [.int s0, .int s1, .int s2, .int s3, .ref s4] h := by
  exact ah_callV (av := [.int s3, .int s2, .int s1, .int s0]) (st := []) d_M_isGood_56 ml_M_111 mi_M_patternFor mv_M_patternFor kc7 hb hE hdd hAA rfl (Nat.le_of_ble_eq_true rfl) k
theorem b_M_isGood_59 {d : Nat} {A : Nat → Prop} {h2 : ah_H} {o : Outcome} {h0 : ah_H} {h : ah_H} {x0 : Nat} {x1 : Int32} {s0 : Int32} (kt : 0 ≤ s0 → ah_At mt_M_isGood d A h0 o h2 64 [(0, .ref x0), (1, .int x1)] [] h) (kf : ¬ (0 ≤ s0) → ah_At mt_M_isGood d A h0 o h2 62 [] [] h) : ah_At mt_M_isGood d A h0 o h2 59 [(0, .ref x0), (1, .int x1)] [.int s0] h := by
  refine s_ifge (t := 64) d_M_isGood_59 (by decide) (fun z => ?_) (fun z => ?_)
  · exact (kt z)
  · exact ah_At.sub [] rfl (kf z)
theorem b_M_isGood_62 {d : Nat} {A : Nat → Prop} {h0 : ah_H} {h : ah_H}   : ah_At mt_M_isGood d A h0 (.returned (some (.int 0))) h 62 [] [] h := by
  refine s_iconst (v := 0) d_M_isGood_62 (by decide) ?_
  exact e_iret (ty := .boolean) d_M_isGood_63 rfl (by decide +kernel)
theorem b_M_isGood_64 {d : Nat} {A : Nat → Prop} {h2 : ah_H} {o : Outcome} {h0 : ah_H} {h : ah_H} {x0 : Nat} {x1 : Int32} (k : ah_At mt_M_isGood d A h0 o h2 72 [(0, .ref x0), (1, .int x1), (2, .long 0), (4, .int 1), (5, .int 0)] [] h) : ah_At mt_M_isGood d A h0 o h2 64 [(0, .ref x0), (1, .int x1)] [] h := by
  refine s_lconst (v := 0) d_M_isGood_64 (by decide) ?_
  refine s_lstore_n (lv' := [(0, .ref x0), (1, .int x1), (2, .long 0)]) d_M_isGood_65 rfl (by decide) rfl ?_
  refine s_iconst (v := 1) d_M_isGood_66 (by decide) ?_
  refine s_istore (lv' := [(0, .ref x0), (1, .int x1), (2, .long 0), (4, .int 1)]) d_M_isGood_67 (by decide) rfl ?_
  refine s_iconst (v := 0) d_M_isGood_69 (by decide) ?_
  refine s_istore (lv' := [(0, .ref x0), (1, .int x1), (2, .long 0), (4, .int 1), (5, .int 0)]) d_M_isGood_70 (by decide) rfl ?_
  exact k
theorem b_M_isGood_72 {d : Nat} {A : Nat → Prop} {h2 : ah_H} {o : Outcome} {h0 : ah_H} {h : ah_H} {x0 : Nat} {x1 : Int32} {x2 : Int64} {x4 : Int32} {x5 : Int32} {v1 : Int32} (g1 : ah_sel h x0 7 2 = some (.int v1)) (kt : v1 ≤ x5 → ah_At mt_M_isGood d A h0 o h2 155 [(0, .ref x0), (1, .int x1), (2, .long x2), (4, .int x4)] [] h) (kf : ¬ (v1 ≤ x5) → ah_At mt_M_isGood d A h0 o h2 81 [(0, .ref x0), (1, .int x1), (2, .long x2), (4, .int x4), (5, .int x5)] [] h) : ah_At mt_M_isGood d A h0 o h2 72 [(0, .ref x0), (1, .int x1), (2, .long x2), (4, .int x4), (5, .int x5)] [] h := by
  refine s_iload d_M_isGood_72 rfl ?_
  refine s_aload_n d_M_isGood_74 rfl rfl ?_
  refine s_getfield (k := 2) d_M_isGood_75 kc7 (by decide) fl_M_70 g1 ?_
  refine s_if_icmpge (t := 155) d_M_isGood_78 (by decide) (fun z => ?_) (fun z => ?_)
  · exact ah_At.sub [0, 1, 2, 3] rfl (kt z)
  · exact (kf z)
theorem b_M_isGood_81 {d : Nat} {A : Nat → Prop} {h2 : ah_H} {o : Outcome} {h0 : ah_H} {h : ah_H} {x0 : Nat} {x1 : Int32} {x2 : Int64} {x4 : Int32} {x5 : Int32} {v1 : Nat} {v2 : Int32} {j2 : Nat} (g1 : ah_sel h x0 7 18 = some (.ref v1)) (i2 : ah_ix x5 j2) (g2 : ah_sel h v1 100 j2 = some (.int v2)) (kt : ¬ v2 = (x1 + 1) → ah_At mt_M_isGood d A h0 o h2 105 [(0, .ref x0), (1, .int x1), (4, .int x4), (5, .int x5)] [.long x2] h) (kf : ¬ (¬ v2 = (x1 + 1)) → ah_At mt_M_isGood d A h0 o h2 95 [(0, .ref x0), (1, .int x1), (4, .int x4), (5, .int x5)] [.long x2] h) : ah_At mt_M_isGood d A h0 o h2 81 [(0, .ref x0), (1, .int x1), (2, .long x2), (4, .int x4), (5, .int x5)] [] h := by
  refine s_lload_n d_M_isGood_81 rfl rfl ?_
  refine s_aload_n d_M_isGood_82 rfl rfl ?_
  refine s_getfield (k := 18) d_M_isGood_83 kc7 (by decide) fl_M_57 g1 ?_
  refine s_iload d_M_isGood_86 rfl ?_
  refine s_iaload d_M_isGood_88 i2 g2 ?_
  refine s_iload_n d_M_isGood_89 rfl rfl ?_
  refine s_iconst (v := 1) d_M_isGood_90 (by decide) ?_
  refine s_iadd d_M_isGood_91 ?_
  refine s_if_icmpne (t := 105) d_M_isGood_92 (by decide) (fun z => ?_) (fun z => ?_)
  · exact ah_At.sub [0, 1, 3, 4] rfl (kt z)
  · exact ah_At.sub [0, 1, 3, 4] rfl (kf z)
theorem b_M_isGood_95 {d : Nat} {A : Nat → Prop} {h2 : ah_H} {o : Outcome} {h0 : ah_H} {h : ah_H} {x0 : Nat} {x1 : Int32} {x4 : Int32} {x5 : Int32} {s0 : Int64} {v1 : Nat} {v2 : Int64} {j2 : Nat} (g1 : ah_sel h x0 7 11 = some (.ref v1)) (i2 : ah_ix x5 j2) (g2 : ah_sel h v1 101 j2 = some (.long v2)) (k : ah_At mt_M_isGood d A h0 o h2 106 [(0, .ref x0), (1, .int x1), (4, .int x4), (5, .int x5)] [.long v2, .long s0] h) : ah_At mt_M_isGood d A h0 o h2 95 [(0, .ref x0), (1, .int x1), (4, .int x4), (5, .int x5)] [.long s0] h := by
  refine s_aload_n d_M_isGood_95 rfl rfl ?_
  refine s_getfield (k := 11) d_M_isGood_96 kc7 (by decide) fl_M_36 g1 ?_
  refine s_iload d_M_isGood_99 rfl ?_
  refine s_laload d_M_isGood_101 i2 g2 ?_
  refine s_goto (t := 106) d_M_isGood_102 (by decide) ?_
  exact k
theorem b_M_isGood_105 {d : Nat} {A : Nat → Prop} {h2 : ah_H} {o : Outcome} {h0 : ah_H} {h : ah_H} {x0 : Nat} {x1 : Int32} {x4 : Int32} {x5 : Int32} {s0 : Int64} (k : ah_At mt_M_isGood d A h0 o h2 106 [(0, .ref x0), (1, .int x1), (4, .int x4), (5, .int x5)] [.long 0, .long s0] h) : ah_At mt_M_isGood d A h0 o h2 105 [(0, .ref x0), (1, .int x1), (4, .int x4), (5, .int x5)] [.long s0] h := by
  refine s_lconst (v := 0) d_M_isGood_105 (by decide) ?_
  exact k
theorem b_M_isGood_106 {d : Nat} {A : Nat → Prop} {h2 : ah_H} {o : Outcome} {h0 : ah_H} {h : ah_H} {x0 : Nat} {x1 : Int32} {x4 : Int32} {x5 : Int32} {s0 : Int64} {s1 : Int64} (kt : x4 = 0 → ah_At mt_M_isGood d A h0 o h2 146 [(0, .ref x0), (1, .int x1), (2, .long (s1 + s0)), (5, .int x5)] [] h) (kf : ¬ (x4 = 0) → ah_At mt_M_isGood d A h0 o h2 113 [(0, .ref x0), (1, .int x1), (2, .long (s1 + s0)), (5, .int x5)] [] h) : ah_At mt_M_isGood d A h0 o h2 106 [(0, .ref x0), (1, .int x1), (4, .int x4), (5, .int x5)] [.long s0, .long s1] h := by
  refine s_ladd d_M_isGood_106 ?_
  refine s_lstore_n (lv' := [(0, .ref x0), (1, .int x1), (4, .int x4), (5, .int x5), (2, .long (s1 + s0))]) d_M_isGood_107 rfl (by decide) rfl ?_
  refine s_iload d_M_isGood_108 rfl ?_
  refine s_ifeq (t := 146) d_M_isGood_110 (by decide) (fun z => ?_) (fun z => ?_)
  · exact ah_At.sub [0, 1, 4, 3] rfl (kt z)
  · exact ah_At.sub [0, 1, 4, 3] rfl (kf z)
theorem b_M_isGood_113 {d : Nat} {A : Nat → Prop} {h2 : ah_H} {o : Outcome} {h0 : ah_H} {h : ah_H} {x0 : Nat} {x1 : Int32} {x2 : Int64} {x5 : Int32} {v1 : Nat} {v2 : Int32} {j2 : Nat} (g1 : ah_sel h x0 7 18 = some (.ref v1)) (i2 : ah_ix x5 j2) (g2 : ah_sel h v1 100 j2 = some (.int v2)) (kt : ¬ v2 = (x1 + 1) → ah_At mt_M_isGood d A h0 o h2 142 [(0, .ref x0), (1, .int x1), (2, .long x2), (5, .int x5)] [] h) (kf : ¬ (¬ v2 = (x1 + 1)) → ah_At mt_M_isGood d A h0 o h2 126 [(0, .ref x0), (1, .int x1), (2, .long x2), (5, .int x5)] [] h) : ah_At mt_M_isGood d A h0 o h2 113 [(0, .ref x0), (1, .int x1), (2, .long x2), (5, .int x5)] [] h := by
  refine s_aload_n d_M_isGood_113 rfl rfl ?_
  refine s_getfield (k := 18) d_M_isGood_114 kc7 (by decide) fl_M_57 g1 ?_
  refine s_iload d_M_isGood_117 rfl ?_
  refine s_iaload d_M_isGood_119 i2 g2 ?_
  refine s_iload_n d_M_isGood_120 rfl rfl ?_
  refine s_iconst (v := 1) d_M_isGood_121 (by decide) ?_
  refine s_iadd d_M_isGood_122 ?_
  refine s_if_icmpne (t := 142) d_M_isGood_123 (by decide) (fun z => ?_) (fun z => ?_)
  · exact (kt z)
  · exact (kf z)
theorem b_M_isGood_126 {d : Nat} {A : Nat → Prop} {h2 : ah_H} {o : Outcome} {h0 : ah_H} {h : ah_H} {x0 : Nat} {x1 : Int32} {x2 : Int64} {x5 : Int32} {v1 : Nat} {v2 : Int32} {j2 : Nat} {v3 : Nat} {v4 : Int32} {j4 : Nat} (g1 : ah_sel h x0 7 12 = some (.ref v1)) (i2 : ah_ix x5 j2) (g2 : ah_sel h v1 100 j2 = some (.int v2)) (g3 : ah_sel h x0 7 6 = some (.ref v3)) (i4 : ah_ix x1 j4) (g4 : ah_sel h v3 100 j4 = some (.int v4)) (kt : v4 < v2 → ah_At mt_M_isGood d A h0 o h2 146 [(0, .ref x0), (1, .int x1), (2, .long x2), (5, .int x5)] [] h) (kf : ¬ (v4 < v2) → ah_At mt_M_isGood d A h0 o h2 142 [(0, .ref x0), (1, .int x1), (2, .long x2), (5, .int x5)] [] h) : ah_At mt_M_isGood d A h0 o h2 126 [(0, .ref x0), (1, .int x1), (2, .long x2), (5, .int x5)] [] h := by
  refine s_aload_n d_M_isGood_126 rfl rfl ?_
  refine s_getfield (k := 12) d_M_isGood_127 kc7 (by decide) fl_M_39 g1 ?_
  refine s_iload d_M_isGood_130 rfl ?_
  refine s_iaload d_M_isGood_132 i2 g2 ?_
  refine s_aload_n d_M_isGood_133 rfl rfl ?_
  refine s_getfield (k := 6) d_M_isGood_134 kc7 (by decide) fl_M_20 g3 ?_
  refine s_iload_n d_M_isGood_137 rfl rfl ?_
  refine s_iaload d_M_isGood_138 i4 g4 ?_
  refine s_if_icmpgt (t := 146) d_M_isGood_139 (by decide) (fun z => ?_) (fun z => ?_)
  · exact (kt z)
  · exact (kf z)
theorem b_M_isGood_142 {d : Nat} {A : Nat → Prop} {h2 : ah_H} {o : Outcome} {h0 : ah_H} {h : ah_H} {x0 : Nat} {x1 : Int32} {x2 : Int64} {x5 : Int32} (k : ah_At mt_M_isGood d A h0 o h2 147 [(0, .ref x0), (1, .int x1), (2, .long x2), (5, .int x5)] [.int 1] h) : ah_At mt_M_isGood d A h0 o h2 142 [(0, .ref x0), (1, .int x1), (2, .long x2), (5, .int x5)] [] h := by
  refine s_iconst (v := 1) d_M_isGood_142 (by decide) ?_
  refine s_goto (t := 147) d_M_isGood_143 (by decide) ?_
  exact k
