/-! BLOCKS. Printed by wip/make.py. -/
theorem b_P_init_0 {d : Nat} {A : Nat → Prop} {h0 : ah_H} {h : ah_H} {x0 : Nat} {h_1 : ah_H} {h_2 : ah_H} {h_3 : ah_H} {h_4 : ah_H} {h_5 : ah_H} (hd1 : 1 ≤ d) (q1 : ah_new h (100, List.replicate 4 (.int 0)) = h_1) (w1 : A x0) (e1 : (ah_sel h_1 x0 2 0).isSome = true) (q2 : ah_sto h_1 x0 0 (.ref h.1) = h_2) (q3 : ah_new h_2 (100, List.replicate 4 (.int 0)) = h_3) (w2 : A x0) (e2 : (ah_sel h_3 x0 2 1).isSome = true) (q4 : ah_sto h_3 x0 1 (.ref h_2.1) = h_4) (w3 : A x0) (e3 : (ah_sel h_4 x0 2 2).isSome = true) (q5 : ah_sto h_4 x0 2 (.int 0) = h_5) : ah_At mt_P_init d A h0 (.returned none) h_5 0 [(0, .ref x0)] [] h := by
  refine s_aload_n d_P_init_0 rfl rfl ?_
  refine s_objinit d_P_init_1 mo_P_3 hd1 ?_
  refine s_aload_n d_P_init_4 rfl rfl ?_
  refine s_iconst (v := 4) d_P_init_5 (by decide) ?_
  refine s_newarrayE (t := 100) (j := 4) ⟨rfl, by decide, rfl⟩ rfl ac_int d_P_init_6 ⟨by decide, by decide⟩ (by decide) q1 ?_
  refine s_putfieldE (k := 0) d_P_init_8 kc2 (by decide) fl_P_9 (Or.inr ⟨rfl, rfl, rfl, flk_P_9⟩) w1 rfl e1 q2 ?_
  refine s_aload_n d_P_init_11 rfl rfl ?_
  refine s_iconst (v := 4) d_P_init_12 (by decide) ?_
  refine s_newarrayE (t := 100) (j := 4) ⟨rfl, by decide, rfl⟩ rfl ac_int d_P_init_13 ⟨by decide, by decide⟩ (by decide) q3 ?_
  refine s_putfieldE (k := 1) d_P_init_15 kc2 (by decide) fl_P_15 (Or.inr ⟨rfl, rfl, rfl, flk_P_15⟩) w2 rfl e2 q4 ?_
  refine s_aload_n d_P_init_18 rfl rfl ?_
  refine s_iconst (v := 0) d_P_init_19 (by decide) ?_
  refine s_putfieldE (k := 2) d_P_init_20 kc2 (by decide) fl_P_18 (Or.inl rfl) w3 rfl e3 q5 ?_
  exact e_vret d_P_init_23 rfl
theorem b_P_addPlaces_0 {d : Nat} {A : Nat → Prop} {h2 : ah_H} {o : Outcome} {h0 : ah_H} {h : ah_H} {x0 : Nat} {x1 : Int32} (k : ah_At mt_P_addPlaces d A h0 o h2 4 [(0, .ref x0), (1, .int x1), (2, .int 1000)] [] h) : ah_At mt_P_addPlaces d A h0 o h2 0 [(0, .ref x0), (1, .int x1)] [] h := by
  refine s_sipush (v := 1000) d_P_addPlaces_0 (by decide) ?_
  refine s_istore_n (lv' := [(0, .ref x0), (1, .int x1), (2, .int 1000)]) d_P_addPlaces_3 rfl (by decide) rfl ?_
  exact k
theorem b_P_addPlaces_4 {d : Nat} {A : Nat → Prop} {h2 : ah_H} {o : Outcome} {h0 : ah_H} {h : ah_H} {x0 : Nat} {x1 : Int32} {x2 : Int32} (kt : x2 ≤ 0 → ah_At mt_P_addPlaces d A h0 o h2 73 [] [] h) (kf : ¬ (x2 ≤ 0) → ah_At mt_P_addPlaces d A h0 o h2 8 [(0, .ref x0), (1, .int x1), (2, .int x2)] [] h) : ah_At mt_P_addPlaces d A h0 o h2 4 [(0, .ref x0), (1, .int x1), (2, .int x2)] [] h := by
  refine s_iload_n d_P_addPlaces_4 rfl rfl ?_
  refine s_ifle (t := 73) d_P_addPlaces_5 (by decide) (fun z => ?_) (fun z => ?_)
  · exact ah_At.sub [] rfl (kt z)
  · exact (kf z)
theorem b_P_addPlaces_8 {d : Nat} {A : Nat → Prop} {h2 : ah_H} {o : Outcome} {h0 : ah_H} {h : ah_H} {x0 : Nat} {x1 : Int32} {x2 : Int32} {d' : Nat} {A' : Nat → Prop} {o' : Outcome} {h' : ah_H} (z1 : ¬ x2 = 0) (hE : ah_Ev mt_X_isBetween d' A' [.long (Int32.toInt64 ((x1 / x2) - (x1 / x2) / 10 * 10)), .long 1, .long 3] h o' h') (hdd : d' + 1 ≤ d) (hAA : ∀ q, A' q → A q) (k : ah_aft mt_P_addPlaces d A h0 o h2 21 [(0, .ref x0), (1, .int x1), (2, .int x2), (3, .int ((x1 / x2) - (x1 / x2) / 10 * 10))] [] h' o') : ah_At mt_P_addPlaces d A h0 o h2 8 [(0, .ref x0), (1, .int x1), (2, .int x2)] [] h := by
  refine s_iload_n d_P_addPlaces_8 rfl rfl ?_
  refine s_iload_n d_P_addPlaces_9 rfl rfl ?_
  refine s_idiv d_P_addPlaces_10 z1 ?_
  refine s_bipush (v := 10) d_P_addPlaces_11 (by decide) ?_
  refine s_irem d_P_addPlaces_13 (by decide) ?_
  refine s_istore_n (lv' := [(0, .ref x0), (1, .int x1), (2, .int x2), (3, .int ((x1 / x2) - (x1 / x2) / 10 * 10))]) d_P_addPlaces_14 rfl (by decide) rfl ?_
  refine s_iload_n d_P_addPlaces_15 rfl rfl ?_
  refine s_i2l d_P_addPlaces_16 ?_
  refine s_lconst (v := 1) d_P_addPlaces_17 (by decide) ?_
  refine s_ldc2_w (v := 3) d_P_addPlaces_18 lc_P_22 ?_
  exact ah_callS (av := [.long (Int32.toInt64 ((x1 / x2) - (x1 / x2) / 10 * 10)), .long 1, .long 3]) (st := []) d_P_addPlaces_21 ml_P_24 ms_X_isBetween hE hdd hAA rfl (Nat.le_of_ble_eq_true rfl) k
theorem b_P_addPlaces_24 {d : Nat} {A : Nat → Prop} {h2 : ah_H} {o : Outcome} {h0 : ah_H} {h : ah_H} {x0 : Nat} {x1 : Int32} {x2 : Int32} {x3 : Int32} {s0 : Int32} (kt : s0 = 0 → ah_At mt_P_addPlaces d A h0 o h2 65 [(0, .ref x0), (1, .int x1), (2, .int x2)] [] h) (kf : ¬ (s0 = 0) → ah_At mt_P_addPlaces d A h0 o h2 27 [(0, .ref x0), (1, .int x1), (2, .int x2), (3, .int x3)] [] h) : ah_At mt_P_addPlaces d A h0 o h2 24 [(0, .ref x0), (1, .int x1), (2, .int x2), (3, .int x3)] [.int s0] h := by
  refine s_ifeq (t := 65) d_P_addPlaces_24 (by decide) (fun z => ?_) (fun z => ?_)
  · exact ah_At.sub [0, 1, 2] rfl (kt z)
  · exact (kf z)
theorem b_P_addPlaces_27 {d : Nat} {A : Nat → Prop} {h2 : ah_H} {o : Outcome} {h0 : ah_H} {h : ah_H} {x0 : Nat} {x1 : Int32} {x2 : Int32} {x3 : Int32} {v1 : Int32} (g1 : ah_sel h x0 2 2 = some (.int v1)) (kt : 4 ≤ v1 → ah_At mt_P_addPlaces d A h0 o h2 65 [(0, .ref x0), (1, .int x1), (2, .int x2)] [] h) (kf : ¬ (4 ≤ v1) → ah_At mt_P_addPlaces d A h0 o h2 35 [(0, .ref x0), (1, .int x1), (2, .int x2), (3, .int x3)] [] h) : ah_At mt_P_addPlaces d A h0 o h2 27 [(0, .ref x0), (1, .int x1), (2, .int x2), (3, .int x3)] [] h := by
  refine s_aload_n d_P_addPlaces_27 rfl rfl ?_
  refine s_getfield (k := 2) d_P_addPlaces_28 kc2 (by decide) fl_P_18 g1 ?_
  refine s_iconst (v := 4) d_P_addPlaces_31 (by decide) ?_
  refine s_if_icmpge (t := 65) d_P_addPlaces_32 (by decide) (fun z => ?_) (fun z => ?_)
  · exact ah_At.sub [0, 1, 2] rfl (kt z)
  · exact (kf z)
theorem b_P_addPlaces_35 {d : Nat} {A : Nat → Prop} {h2 : ah_H} {o : Outcome} {h0 : ah_H} {h : ah_H} {x0 : Nat} {x1 : Int32} {x2 : Int32} {x3 : Int32} {v1 : Nat} {v2 : Int32} {j3 : Nat} {v4 : Nat} {v5 : Int32} {j5 : Nat} {j6 : Nat} {v7 : Int32} (g1 : ah_sel h x0 2 0 = some (.ref v1)) (g2 : ah_sel h x0 2 2 = some (.int v2)) (w3 : A v1) (i3 : ah_ix v2 j3) (e3 : (ah_sel h v1 100 j3).isSome = true) (g4 : ah_sel (ah_sto h v1 j3 (.int x3)) x0 2 1 = some (.ref v4)) (i5 : ah_ix x3 j5) (g5 : ah_sel (ah_sto h v1 j3 (.int x3)) v4 100 j5 = some (.int v5)) (w6 : A v4) (i6 : ah_ix x3 j6) (e6 : (ah_sel (ah_sto h v1 j3 (.int x3)) v4 100 j6).isSome = true) (g7 : ah_sel (ah_sto (ah_sto h v1 j3 (.int x3)) v4 j6 (.int (v5 + 1))) x0 2 2 = some (.int v7)) (w8 : A x0) (e8 : (ah_sel (ah_sto (ah_sto h v1 j3 (.int x3)) v4 j6 (.int (v5 + 1))) x0 2 2).isSome = true) (k : ah_At mt_P_addPlaces d A h0 o h2 65 [(0, .ref x0), (1, .int x1), (2, .int x2)] [] (ah_sto (ah_sto (ah_sto h v1 j3 (.int x3)) v4 j6 (.int (v5 + 1))) x0 2 (.int (v7 + 1)))) : ah_At mt_P_addPlaces d A h0 o h2 35 [(0, .ref x0), (1, .int x1), (2, .int x2), (3, .int x3)] [] h := by
  refine s_aload_n d_P_addPlaces_35 rfl rfl ?_
  refine s_getfield (k := 0) d_P_addPlaces_36 kc2 (by decide) fl_P_9 g1 ?_
  refine s_aload_n d_P_addPlaces_39 rfl rfl ?_
  refine s_getfield (k := 2) d_P_addPlaces_40 kc2 (by decide) fl_P_18 g2 ?_
  refine s_iload_n d_P_addPlaces_43 rfl rfl ?_
  refine s_iastore d_P_addPlaces_44 w3 i3 e3 ?_
  refine s_aload_n d_P_addPlaces_45 rfl rfl ?_
  refine s_getfield (k := 1) d_P_addPlaces_46 kc2 (by decide) fl_P_15 g4 ?_
  refine s_iload_n d_P_addPlaces_49 rfl rfl ?_
  refine s_dup2 d_P_addPlaces_50 rfl rfl ?_
  refine s_iaload d_P_addPlaces_51 i5 g5 ?_
  refine s_iconst (v := 1) d_P_addPlaces_52 (by decide) ?_
  refine s_iadd d_P_addPlaces_53 ?_
  refine s_iastore d_P_addPlaces_54 w6 i6 e6 ?_
  refine s_aload_n d_P_addPlaces_55 rfl rfl ?_
  refine s_dup d_P_addPlaces_56 rfl ?_
  refine s_getfield (k := 2) d_P_addPlaces_57 kc2 (by decide) fl_P_18 g7 ?_
  refine s_iconst (v := 1) d_P_addPlaces_60 (by decide) ?_
  refine s_iadd d_P_addPlaces_61 ?_
  refine s_putfield (k := 2) d_P_addPlaces_62 kc2 (by decide) fl_P_18 (Or.inl rfl) w8 rfl e8 ?_
  exact ah_At.sub [0, 1, 2] rfl k
theorem b_P_addPlaces_65 {d : Nat} {A : Nat → Prop} {h2 : ah_H} {o : Outcome} {h0 : ah_H} {h : ah_H} {x0 : Nat} {x1 : Int32} {x2 : Int32} (k : ah_At mt_P_addPlaces d A h0 o h2 4 [(0, .ref x0), (1, .int x1), (2, .int (x2 / 10))] [] h) : ah_At mt_P_addPlaces d A h0 o h2 65 [(0, .ref x0), (1, .int x1), (2, .int x2)] [] h := by
  refine s_iload_n d_P_addPlaces_65 rfl rfl ?_
  refine s_bipush (v := 10) d_P_addPlaces_66 (by decide) ?_
  refine s_idiv d_P_addPlaces_68 (by decide) ?_
  refine s_istore_n (lv' := [(0, .ref x0), (1, .int x1), (2, .int (x2 / 10))]) d_P_addPlaces_69 rfl (by decide) rfl ?_
  refine s_goto (t := 4) d_P_addPlaces_70 (by decide) ?_
  exact k
theorem b_P_addPlaces_73 {d : Nat} {A : Nat → Prop} {h0 : ah_H} {h : ah_H}   : ah_At mt_P_addPlaces d A h0 (.returned none) h 73 [] [] h := by
  exact e_vret d_P_addPlaces_73 rfl
theorem b_P_holds_0 {d : Nat} {A : Nat → Prop} {h2 : ah_H} {o : Outcome} {h0 : ah_H} {h : ah_H} {x0 : Nat} {x1 : Nat} {x2 : Int32} (k : ah_At mt_P_holds d A h0 o h2 2 [(0, .ref x0), (1, .ref x1), (2, .int x2), (3, .int 1)] [] h) : ah_At mt_P_holds d A h0 o h2 0 [(0, .ref x0), (1, .ref x1), (2, .int x2)] [] h := by
  refine s_iconst (v := 1) d_P_holds_0 (by decide) ?_
  refine s_istore_n (lv' := [(0, .ref x0), (1, .ref x1), (2, .int x2), (3, .int 1)]) d_P_holds_1 rfl (by decide) rfl ?_
  exact k
theorem b_P_holds_2 {d : Nat} {A : Nat → Prop} {h2 : ah_H} {o : Outcome} {h0 : ah_H} {h : ah_H} {x0 : Nat} {x1 : Nat} {x2 : Int32} {x3 : Int32} (kt : 3 < x3 → ah_At mt_P_holds d A h0 o h2 45 [] [] h) (kf : ¬ (3 < x3) → ah_At mt_P_holds d A h0 o h2 7 [(0, .ref x0), (1, .ref x1), (2, .int x2), (3, .int x3)] [] h) : ah_At mt_P_holds d A h0 o h2 2 [(0, .ref x0), (1, .ref x1), (2, .int x2), (3, .int x3)] [] h := by
  refine s_iload_n d_P_holds_2 rfl rfl ?_
  refine s_iconst (v := 3) d_P_holds_3 (by decide) ?_
  refine s_if_icmpgt (t := 45) d_P_holds_4 (by decide) (fun z => ?_) (fun z => ?_)
  · exact ah_At.sub [] rfl (kt z)
  · exact (kf z)
theorem b_P_holds_7 {d : Nat} {A : Nat → Prop} {h2 : ah_H} {o : Outcome} {h0 : ah_H} {h : ah_H} {x0 : Nat} {x1 : Nat} {x2 : Int32} {x3 : Int32} {v1 : Nat} {v2 : Int32} {j2 : Nat} (g1 : ah_sel h x1 1 0 = some (.ref v1)) (i2 : ah_ix x3 j2) (g2 : ah_sel h v1 100 j2 = some (.int v2)) (kt : ¬ x3 = x2 → ah_At mt_P_holds d A h0 o h2 22 [(0, .ref x0), (1, .ref x1), (2, .int x2), (3, .int x3)] [.int v2] h) (kf : ¬ (¬ x3 = x2) → ah_At mt_P_holds d A h0 o h2 18 [(0, .ref x0), (1, .ref x1), (2, .int x2), (3, .int x3)] [.int v2] h) : ah_At mt_P_holds d A h0 o h2 7 [(0, .ref x0), (1, .ref x1), (2, .int x2), (3, .int x3)] [] h := by
  refine s_aload_n d_P_holds_7 rfl rfl ?_
  refine s_getfield (k := 0) d_P_holds_8 kc1 (by decide) fl_P_28 g1 ?_
  refine s_iload_n d_P_holds_11 rfl rfl ?_
  refine s_iaload d_P_holds_12 i2 g2 ?_
  refine s_iload_n d_P_holds_13 rfl rfl ?_
  refine s_iload_n d_P_holds_14 rfl rfl ?_
  refine s_if_icmpne (t := 22) d_P_holds_15 (by decide) (fun z => ?_) (fun z => ?_)
  · exact (kt z)
  · exact (kf z)
theorem b_P_holds_18 {d : Nat} {A : Nat → Prop} {h2 : ah_H} {o : Outcome} {h0 : ah_H} {h : ah_H} {x0 : Nat} {x1 : Nat} {x2 : Int32} {x3 : Int32} {s0 : Int32} (k : ah_At mt_P_holds d A h0 o h2 23 [(0, .ref x0), (1, .ref x1), (2, .int x2), (3, .int x3)] [.int 1, .int s0] h) : ah_At mt_P_holds d A h0 o h2 18 [(0, .ref x0), (1, .ref x1), (2, .int x2), (3, .int x3)] [.int s0] h := by
  refine s_iconst (v := 1) d_P_holds_18 (by decide) ?_
  refine s_goto (t := 23) d_P_holds_19 (by decide) ?_
  exact k
theorem b_P_holds_22 {d : Nat} {A : Nat → Prop} {h2 : ah_H} {o : Outcome} {h0 : ah_H} {h : ah_H} {x0 : Nat} {x1 : Nat} {x2 : Int32} {x3 : Int32} {s0 : Int32} (k : ah_At mt_P_holds d A h0 o h2 23 [(0, .ref x0), (1, .ref x1), (2, .int x2), (3, .int x3)] [.int 0, .int s0] h) : ah_At mt_P_holds d A h0 o h2 22 [(0, .ref x0), (1, .ref x1), (2, .int x2), (3, .int x3)] [.int s0] h := by
  refine s_iconst (v := 0) d_P_holds_22 (by decide) ?_
  exact k
theorem b_P_holds_23 {d : Nat} {A : Nat → Prop} {h2 : ah_H} {o : Outcome} {h0 : ah_H} {h : ah_H} {x0 : Nat} {x1 : Nat} {x2 : Int32} {x3 : Int32} {s0 : Int32} {s1 : Int32} {v1 : Nat} {v2 : Int32} {j2 : Nat} (g1 : ah_sel h x0 2 1 = some (.ref v1)) (i2 : ah_ix x3 j2) (g2 : ah_sel h v1 100 j2 = some (.int v2)) (kt : (s1 + s0) ≤ v2 → ah_At mt_P_holds d A h0 o h2 39 [(0, .ref x0), (1, .ref x1), (2, .int x2), (3, .int x3)] [] h) (kf : ¬ ((s1 + s0) ≤ v2) → ah_At mt_P_holds d A h0 o h2 37 [] [] h) : ah_At mt_P_holds d A h0 o h2 23 [(0, .ref x0), (1, .ref x1), (2, .int x2), (3, .int x3)] [.int s0, .int s1] h := by
  refine s_iadd d_P_holds_23 ?_
  refine s_istore (lv' := [(0, .ref x0), (1, .ref x1), (2, .int x2), (3, .int x3), (4, .int (s1 + s0))]) d_P_holds_24 (by decide) rfl ?_
  refine s_iload d_P_holds_26 rfl ?_
  refine s_aload_n d_P_holds_28 rfl rfl ?_
  refine s_getfield (k := 1) d_P_holds_29 kc2 (by decide) fl_P_15 g1 ?_
  refine s_iload_n d_P_holds_32 rfl rfl ?_
  refine s_iaload d_P_holds_33 i2 g2 ?_
  refine s_if_icmple (t := 39) d_P_holds_34 (by decide) (fun z => ?_) (fun z => ?_)
  · exact ah_At.sub [0, 1, 2, 3] rfl (kt z)
  · exact ah_At.sub [] rfl (kf z)
theorem b_P_holds_37 {d : Nat} {A : Nat → Prop} {h0 : ah_H} {h : ah_H}   : ah_At mt_P_holds d A h0 (.returned (some (.int 0))) h 37 [] [] h := by
  refine s_iconst (v := 0) d_P_holds_37 (by decide) ?_
  exact e_iret (ty := .boolean) d_P_holds_38 rfl (by decide +kernel)
theorem b_P_holds_39 {d : Nat} {A : Nat → Prop} {h2 : ah_H} {o : Outcome} {h0 : ah_H} {h : ah_H} {x0 : Nat} {x1 : Nat} {x2 : Int32} {x3 : Int32} (k : ah_At mt_P_holds d A h0 o h2 2 [(0, .ref x0), (1, .ref x1), (2, .int x2), (3, .int (x3 + 1))] [] h) : ah_At mt_P_holds d A h0 o h2 39 [(0, .ref x0), (1, .ref x1), (2, .int x2), (3, .int x3)] [] h := by
  refine s_iinc (v := x3 + 1) (lv' := [(0, .ref x0), (1, .ref x1), (2, .int x2), (3, .int (x3 + 1))]) d_P_holds_39 rfl rfl (by decide) rfl ?_
  refine s_goto (t := 2) d_P_holds_42 (by decide) ?_
  exact k
theorem b_P_holds_45 {d : Nat} {A : Nat → Prop} {h0 : ah_H} {h : ah_H}   : ah_At mt_P_holds d A h0 (.returned (some (.int 1))) h 45 [] [] h := by
  refine s_iconst (v := 1) d_P_holds_45 (by decide) ?_
  exact e_iret (ty := .boolean) d_P_holds_46 rfl (by decide +kernel)
theorem b_P_placeBehind_0 {d : Nat} {A : Nat → Prop} {h2 : ah_H} {o : Outcome} {h0 : ah_H} {h : ah_H} {x0 : Nat} {x1 : Int32} {x2 : Int32} (k : ah_At mt_P_placeBehind d A h0 o h2 5 [(0, .ref x0), (1, .int x1), (2, .int x2), (3, .int 0), (4, .int 0)] [] h) : ah_At mt_P_placeBehind d A h0 o h2 0 [(0, .ref x0), (1, .int x1), (2, .int x2)] [] h := by
  refine s_iconst (v := 0) d_P_placeBehind_0 (by decide) ?_
  refine s_istore_n (lv' := [(0, .ref x0), (1, .int x1), (2, .int x2), (3, .int 0)]) d_P_placeBehind_1 rfl (by decide) rfl ?_
  refine s_iconst (v := 0) d_P_placeBehind_2 (by decide) ?_
  refine s_istore (lv' := [(0, .ref x0), (1, .int x1), (2, .int x2), (3, .int 0), (4, .int 0)]) d_P_placeBehind_3 (by decide) rfl ?_
  exact k
theorem b_P_placeBehind_5 {d : Nat} {A : Nat → Prop} {h2 : ah_H} {o : Outcome} {h0 : ah_H} {h : ah_H} {x0 : Nat} {x1 : Int32} {x2 : Int32} {x3 : Int32} {x4 : Int32} {v1 : Int32} (g1 : ah_sel h x0 2 2 = some (.int v1)) (kt : v1 ≤ x4 → ah_At mt_P_placeBehind d A h0 o h2 42 [] [] h) (kf : ¬ (v1 ≤ x4) → ah_At mt_P_placeBehind d A h0 o h2 14 [(0, .ref x0), (1, .int x1), (2, .int x2), (3, .int x3), (4, .int x4)] [] h) : ah_At mt_P_placeBehind d A h0 o h2 5 [(0, .ref x0), (1, .int x1), (2, .int x2), (3, .int x3), (4, .int x4)] [] h := by
  refine s_iload d_P_placeBehind_5 rfl ?_
  refine s_aload_n d_P_placeBehind_7 rfl rfl ?_
  refine s_getfield (k := 2) d_P_placeBehind_8 kc2 (by decide) fl_P_18 g1 ?_
  refine s_if_icmpge (t := 42) d_P_placeBehind_11 (by decide) (fun z => ?_) (fun z => ?_)
  · exact ah_At.sub [] rfl (kt z)
  · exact (kf z)
theorem b_P_placeBehind_14 {d : Nat} {A : Nat → Prop} {h2 : ah_H} {o : Outcome} {h0 : ah_H} {h : ah_H} {x0 : Nat} {x1 : Int32} {x2 : Int32} {x3 : Int32} {x4 : Int32} {v1 : Nat} {v2 : Int32} {j2 : Nat} (g1 : ah_sel h x0 2 0 = some (.ref v1)) (i2 : ah_ix x4 j2) (g2 : ah_sel h v1 100 j2 = some (.int v2)) (kt : ¬ v2 = x1 → ah_At mt_P_placeBehind d A h0 o h2 36 [(0, .ref x0), (1, .int x1), (2, .int x2), (3, .int x3), (4, .int x4)] [] h) (kf : ¬ (¬ v2 = x1) → ah_At mt_P_placeBehind d A h0 o h2 25 [(0, .ref x0), (1, .int x1), (2, .int x2), (3, .int x3), (4, .int x4)] [] h) : ah_At mt_P_placeBehind d A h0 o h2 14 [(0, .ref x0), (1, .int x1), (2, .int x2), (3, .int x3), (4, .int x4)] [] h := by
  refine s_aload_n d_P_placeBehind_14 rfl rfl ?_
  refine s_getfield (k := 0) d_P_placeBehind_15 kc2 (by decide) fl_P_9 g1 ?_
  refine s_iload d_P_placeBehind_18 rfl ?_
  refine s_iaload d_P_placeBehind_20 i2 g2 ?_
  refine s_iload_n d_P_placeBehind_21 rfl rfl ?_
  refine s_if_icmpne (t := 36) d_P_placeBehind_22 (by decide) (fun z => ?_) (fun z => ?_)
  · exact (kt z)
  · exact (kf z)
theorem b_P_placeBehind_25 {d : Nat} {A : Nat → Prop} {h2 : ah_H} {o : Outcome} {h0 : ah_H} {h : ah_H} {x0 : Nat} {x1 : Int32} {x2 : Int32} {x3 : Int32} {x4 : Int32} (kt : ¬ x3 = x2 → ah_At mt_P_placeBehind d A h0 o h2 33 [(0, .ref x0), (1, .int x1), (2, .int x2), (3, .int x3), (4, .int x4)] [] h) (kf : ¬ (¬ x3 = x2) → ah_At mt_P_placeBehind d A h0 o h2 30 [(4, .int x4)] [] h) : ah_At mt_P_placeBehind d A h0 o h2 25 [(0, .ref x0), (1, .int x1), (2, .int x2), (3, .int x3), (4, .int x4)] [] h := by
  refine s_iload_n d_P_placeBehind_25 rfl rfl ?_
  refine s_iload_n d_P_placeBehind_26 rfl rfl ?_
  refine s_if_icmpne (t := 33) d_P_placeBehind_27 (by decide) (fun z => ?_) (fun z => ?_)
  · exact (kt z)
  · exact ah_At.sub [4] rfl (kf z)
theorem b_P_placeBehind_30 {d : Nat} {A : Nat → Prop} {h0 : ah_H} {h : ah_H} {x4 : Int32}  : ah_At mt_P_placeBehind d A h0 (.returned (some (.int x4))) h 30 [(4, .int x4)] [] h := by
  refine s_iload d_P_placeBehind_30 rfl ?_
  exact e_iret (ty := .int) d_P_placeBehind_32 rfl rfl
theorem b_P_placeBehind_33 {d : Nat} {A : Nat → Prop} {h2 : ah_H} {o : Outcome} {h0 : ah_H} {h : ah_H} {x0 : Nat} {x1 : Int32} {x2 : Int32} {x3 : Int32} {x4 : Int32} (k : ah_At mt_P_placeBehind d A h0 o h2 36 [(0, .ref x0), (1, .int x1), (2, .int x2), (3, .int (x3 + 1)), (4, .int x4)] [] h) : ah_At mt_P_placeBehind d A h0 o h2 33 [(0, .ref x0), (1, .int x1), (2, .int x2), (3, .int x3), (4, .int x4)] [] h := by
  refine s_iinc (v := x3 + 1) (lv' := [(0, .ref x0), (1, .int x1), (2, .int x2), (3, .int (x3 + 1)), (4, .int x4)]) d_P_placeBehind_33 rfl rfl (by decide) rfl ?_
  exact k
theorem b_P_placeBehind_36 {d : Nat} {A : Nat → Prop} {h2 : ah_H} {o : Outcome} {h0 : ah_H} {h : ah_H} {x0 : Nat} {x1 : Int32} {x2 : Int32} {x3 : Int32} {x4 : Int32} (k : ah_At mt_P_placeBehind d A h0 o h2 5 [(0, .ref x0), (1, .int x1), (2, .int x2), (3, .int x3), (4, .int (x4 + 1))] [] h) : ah_At mt_P_placeBehind d A h0 o h2 36 [(0, .ref x0), (1, .int x1), (2, .int x2), (3, .int x3), (4, .int x4)] [] h := by
  refine s_iinc (v := x4 + 1) (lv' := [(0, .ref x0), (1, .int x1), (2, .int x2), (3, .int x3), (4, .int (x4 + 1))]) d_P_placeBehind_36 rfl rfl (by decide) rfl ?_
  refine s_goto (t := 5) d_P_placeBehind_39 (by decide) ?_
  exact k
theorem b_P_placeBehind_42 {d : Nat} {A : Nat → Prop} {h0 : ah_H} {h : ah_H}   : ah_At mt_P_placeBehind d A h0 (.returned (some (.int (-1)))) h 42 [] [] h := by
  refine s_iconst (v := -1) d_P_placeBehind_42 (by decide) ?_
  exact e_iret (ty := .int) d_P_placeBehind_43 rfl rfl
