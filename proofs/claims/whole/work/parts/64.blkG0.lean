/-! BLOCKS. Printed by wip/make.py. -/
theorem b_G_init_0 {d : Nat} {A : Nat → Prop} {h2 : ah_H} {o : Outcome} {h0 : ah_H} {h : ah_H} {x0 : Nat} {h_1 : ah_H} {h_2 : ah_H} {h_3 : ah_H} {h_4 : ah_H} {h_5 : ah_H} {h_6 : ah_H} {h_7 : ah_H} {h_8 : ah_H} (hd1 : 1 ≤ d) (q1 : ah_new h (112, List.replicate 4 .null) = h_1) (w1 : A x0) (e1 : (ah_sel h_1 x0 5 0).isSome = true) (q2 : ah_sto h_1 x0 0 (.ref h.1) = h_2) (w2 : A x0) (e2 : (ah_sel h_2 x0 5 1).isSome = true) (q3 : ah_sto h_2 x0 1 (.int 0) = h_3) (w3 : A x0) (e3 : (ah_sel h_3 x0 5 2).isSome = true) (q4 : ah_sto h_3 x0 2 (.int 0) = h_4) (w4 : A x0) (e4 : (ah_sel h_4 x0 5 3).isSome = true) (q5 : ah_sto h_4 x0 3 (.long 0) = h_5) (w5 : A x0) (e5 : (ah_sel h_5 x0 5 4).isSome = true) (q6 : ah_sto h_5 x0 4 (.int 0) = h_6) (w6 : A x0) (e6 : (ah_sel h_6 x0 5 5).isSome = true) (q7 : ah_sto h_6 x0 5 (.int 0) = h_7) (w7 : A x0) (e7 : (ah_sel h_7 x0 5 6).isSome = true) (q8 : ah_sto h_7 x0 6 (.int 0) = h_8) (k : ah_At mt_G_init d A h0 o h2 44 [(0, .ref x0), (1, .int 0)] [] h_8) : ah_At mt_G_init d A h0 o h2 0 [(0, .ref x0)] [] h := by
  refine s_aload_n d_G_init_0 rfl rfl ?_
  refine s_objinit d_G_init_1 mo_G_3 hd1 ?_
  refine s_aload_n d_G_init_4 rfl rfl ?_
  refine s_iconst (v := 4) d_G_init_5 (by decide) ?_
  refine s_anewarrayE (ci := 2) (j := 4) kc2 ⟨rfl, by decide, rfl⟩ cl_G_9 ao2 d_G_init_6 ⟨by decide, by decide⟩ (by decide) q1 ?_
  refine s_putfieldE (k := 0) d_G_init_9 kc5 (by decide) fl_G_11 (Or.inr ⟨rfl, rfl, rfl, flk_G_11⟩) w1 rfl e1 q2 ?_
  refine s_aload_n d_G_init_12 rfl rfl ?_
  refine s_iconst (v := 0) d_G_init_13 (by decide) ?_
  refine s_putfieldE (k := 1) d_G_init_14 kc5 (by decide) fl_G_17 (Or.inl rfl) w2 rfl e2 q3 ?_
  refine s_aload_n d_G_init_17 rfl rfl ?_
  refine s_iconst (v := 0) d_G_init_18 (by decide) ?_
  refine s_putfieldE (k := 2) d_G_init_19 kc5 (by decide) fl_G_21 (Or.inl rfl) w3 rfl e3 q4 ?_
  refine s_aload_n d_G_init_22 rfl rfl ?_
  refine s_lconst (v := 0) d_G_init_23 (by decide) ?_
  refine s_putfieldE (k := 3) d_G_init_24 kc5 (by decide) fl_G_24 (Or.inl rfl) w4 rfl e4 q5 ?_
  refine s_aload_n d_G_init_27 rfl rfl ?_
  refine s_iconst (v := 0) d_G_init_28 (by decide) ?_
  refine s_putfieldE (k := 4) d_G_init_29 kc5 (by decide) fl_G_28 (Or.inl rfl) w5 rfl e5 q6 ?_
  refine s_aload_n d_G_init_32 rfl rfl ?_
  refine s_iconst (v := 0) d_G_init_33 (by decide) ?_
  refine s_putfieldE (k := 5) d_G_init_34 kc5 (by decide) fl_G_31 (Or.inl rfl) w6 rfl e6 q7 ?_
  refine s_aload_n d_G_init_37 rfl rfl ?_
  refine s_iconst (v := 0) d_G_init_38 (by decide) ?_
  refine s_putfieldE (k := 6) d_G_init_39 kc5 (by decide) fl_G_34 (Or.inl rfl) w7 (by decide) e7 q8 ?_
  refine s_iconst (v := 0) d_G_init_42 (by decide) ?_
  refine s_istore_n (lv' := [(0, .ref x0), (1, .int 0)]) d_G_init_43 rfl (by decide) rfl ?_
  exact k
theorem b_G_init_44 {d : Nat} {A : Nat → Prop} {h2 : ah_H} {o : Outcome} {h0 : ah_H} {h : ah_H} {x0 : Nat} {x1 : Int32} (kt : 4 ≤ x1 → ah_At mt_G_init d A h0 o h2 68 [] [] h) (kf : ¬ (4 ≤ x1) → ah_At mt_G_init d A h0 o h2 49 [(0, .ref x0), (1, .int x1)] [] h) : ah_At mt_G_init d A h0 o h2 44 [(0, .ref x0), (1, .int x1)] [] h := by
  refine s_iload_n d_G_init_44 rfl rfl ?_
  refine s_iconst (v := 4) d_G_init_45 (by decide) ?_
  refine s_if_icmpge (t := 68) d_G_init_46 (by decide) (fun z => ?_) (fun z => ?_)
  · exact ah_At.sub [] rfl (kt z)
  · exact (kf z)
theorem b_G_init_49 {d : Nat} {A : Nat → Prop} {h2 : ah_H} {o : Outcome} {h0 : ah_H} {h : ah_H} {x0 : Nat} {x1 : Int32} {v1 : Nat} {h_1 : ah_H} {d' : Nat} {A' : Nat → Prop} {o' : Outcome} {h' : ah_H} (g1 : ah_sel h x0 5 0 = some (.ref v1)) (q1 : ah_new h (2, [.null, .null, .int 0]) = h_1) (hE : ah_Ev mt_P_init d' A' [.ref h.1] h_1 o' h') (hdd : d' + 1 ≤ d) (hAA : ∀ q, A' q → A q) (k : ah_aft mt_G_init d A h0 o h2 58 [(0, .ref x0), (1, .int x1)] [.ref h.1, .int x1, .ref v1] h' o') : ah_At mt_G_init d A h0 o h2 49 [(0, .ref x0), (1, .int x1)] [] h := by
  refine s_aload_n d_G_init_49 rfl rfl ?_
  refine s_getfield (k := 0) d_G_init_50 kc5 (by decide) fl_G_11 g1 ?_
  refine s_iload_n d_G_init_53 rfl rfl ?_
  refine s_newE (fs := [.null, .null, .int 0]) d_G_init_54 kc2 cl_G_9 kn2 ki2 rfl kd2 q1 ?_
  refine s_dup d_G_init_57 rfl ?_
  exact ah_callI (av := []) (st := [.ref h.1, .int x1, .ref v1]) d_G_init_58 ml_G_38 mi_P_init rfl rfl hE hdd hAA rfl (Nat.le_of_ble_eq_true rfl) k
theorem b_G_init_61 {d : Nat} {A : Nat → Prop} {h2 : ah_H} {o : Outcome} {h0 : ah_H} {h : ah_H} {x0 : Nat} {x1 : Int32} {s0 : Nat} {s1 : Int32} {s2 : Nat} {j1 : Nat} {h_1 : ah_H} (w1 : A s2) (i1 : ah_ix s1 j1) (e1 : (ah_sel h s2 112 j1).isSome = true) (t1 : (ah_len h s0 2).isSome = true) (q1 : ah_sto h s2 j1 (.ref s0) = h_1) (k : ah_At mt_G_init d A h0 o h2 44 [(0, .ref x0), (1, .int (x1 + 1))] [] h_1) : ah_At mt_G_init d A h0 o h2 61 [(0, .ref x0), (1, .int x1)] [.ref s0, .int s1, .ref s2] h := by
  refine s_aastoreE (ci := 2) kc2 ⟨rfl, by decide, rfl⟩ d_G_init_61 w1 i1 e1 t1 q1 ?_
  refine s_iinc (v := x1 + 1) (lv' := [(0, .ref x0), (1, .int (x1 + 1))]) d_G_init_62 rfl rfl (by decide) rfl ?_
  refine s_goto (t := 44) d_G_init_65 (by decide) ?_
  exact k
theorem b_G_init_68 {d : Nat} {A : Nat → Prop} {h0 : ah_H} {h : ah_H}   : ah_At mt_G_init d A h0 (.returned none) h 68 [] [] h := by
  exact e_vret d_G_init_68 rfl
theorem b_G_addPattern_0 {d : Nat} {A : Nat → Prop} {h2 : ah_H} {o : Outcome} {h0 : ah_H} {h : ah_H} {x0 : Nat} {x1 : Int32} {v1 : Int32} (g1 : ah_sel h x0 5 1 = some (.int v1)) (kt : v1 < 4 → ah_At mt_G_addPattern d A h0 o h2 10 [(0, .ref x0), (1, .int x1)] [] h) (kf : ¬ (v1 < 4) → ah_At mt_G_addPattern d A h0 o h2 8 [] [] h) : ah_At mt_G_addPattern d A h0 o h2 0 [(0, .ref x0), (1, .int x1)] [] h := by
  refine s_aload_n d_G_addPattern_0 rfl rfl ?_
  refine s_getfield (k := 1) d_G_addPattern_1 kc5 (by decide) fl_G_17 g1 ?_
  refine s_iconst (v := 4) d_G_addPattern_4 (by decide) ?_
  refine s_if_icmplt (t := 10) d_G_addPattern_5 (by decide) (fun z => ?_) (fun z => ?_)
  · exact (kt z)
  · exact ah_At.sub [] rfl (kf z)
theorem b_G_addPattern_8 {d : Nat} {A : Nat → Prop} {h0 : ah_H} {h : ah_H}   : ah_At mt_G_addPattern d A h0 (.returned (some (.int (-1)))) h 8 [] [] h := by
  refine s_iconst (v := -1) d_G_addPattern_8 (by decide) ?_
  exact e_iret (ty := .int) d_G_addPattern_9 rfl rfl
theorem b_G_addPattern_10 {d : Nat} {A : Nat → Prop} {h2 : ah_H} {o : Outcome} {h0 : ah_H} {h : ah_H} {x0 : Nat} {x1 : Int32} {v1 : Nat} {v2 : Int32} {v3 : Nat} {j3 : Nat} {d' : Nat} {A' : Nat → Prop} {o' : Outcome} {h' : ah_H} (g1 : ah_sel h x0 5 0 = some (.ref v1)) (g2 : ah_sel h x0 5 1 = some (.int v2)) (i3 : ah_ix v2 j3) (g3 : ah_sel h v1 112 j3 = some (.ref v3)) (hE : ah_Ev mt_P_addPlaces d' A' [.ref v3, .int x1] h o' h') (hdd : d' + 1 ≤ d) (hAA : ∀ q, A' q → A q) (k : ah_aft mt_G_addPattern d A h0 o h2 20 [(0, .ref x0)] [] h' o') (hb : (ah_len h v3 2).isSome = true) : ah_At mt_G_addPattern d A h0 o h2 10 [(0, .ref x0), (1, .int x1)] [] h := by
  refine s_aload_n d_G_addPattern_10 rfl rfl ?_
  refine s_getfield (k := 0) d_G_addPattern_11 kc5 (by decide) fl_G_11 g1 ?_
  refine s_aload_n d_G_addPattern_14 rfl rfl ?_
  refine s_getfield (k := 1) d_G_addPattern_15 kc5 (by decide) fl_G_17 g2 ?_
  refine s_aaload (t := 112) ⟨rfl, by decide, rfl⟩ rfl d_G_addPattern_18 i3 g3 ?_
  refine s_iload_n d_G_addPattern_19 rfl rfl ?_
  refine ah_At.sub [0] rfl ?_
  exact ah_callV (av := [.int x1]) (st := []) d_G_addPattern_20 ml_G_39 mi_P_addPlaces mv_P_addPlaces kc2 hb hE hdd hAA rfl (Nat.le_of_ble_eq_true rfl) k
theorem b_G_addPattern_23 {d : Nat} {A : Nat → Prop} {h0 : ah_H} {h : ah_H} {x0 : Nat} {v1 : Int32} {v3 : Int32} (g1 : ah_sel h x0 5 1 = some (.int v1)) (w2 : A x0) (e2 : (ah_sel h x0 5 1).isSome = true) (g3 : ah_sel (ah_sto h x0 1 (.int (v1 + 1))) x0 5 1 = some (.int v3)) : ah_At mt_G_addPattern d A h0 (.returned (some (.int (v3 - 1)))) (ah_sto h x0 1 (.int (v1 + 1))) 23 [(0, .ref x0)] [] h := by
  refine s_aload_n d_G_addPattern_23 rfl rfl ?_
  refine s_dup d_G_addPattern_24 rfl ?_
  refine s_getfield (k := 1) d_G_addPattern_25 kc5 (by decide) fl_G_17 g1 ?_
  refine s_iconst (v := 1) d_G_addPattern_28 (by decide) ?_
  refine s_iadd d_G_addPattern_29 ?_
  refine s_putfield (k := 1) d_G_addPattern_30 kc5 (by decide) fl_G_17 (Or.inl rfl) w2 rfl e2 ?_
  refine s_aload_n d_G_addPattern_33 rfl rfl ?_
  refine s_getfield (k := 1) d_G_addPattern_34 kc5 (by decide) fl_G_17 g3 ?_
  refine s_iconst (v := 1) d_G_addPattern_37 (by decide) ?_
  refine s_isub d_G_addPattern_38 ?_
  exact e_iret (ty := .int) d_G_addPattern_39 rfl rfl
theorem b_G_hasPlaceFor_0 {d : Nat} {A : Nat → Prop} {h2 : ah_H} {o : Outcome} {h0 : ah_H} {h : ah_H} {x0 : Nat} {x1 : Int32} (k : ah_At mt_G_hasPlaceFor d A h0 o h2 2 [(0, .ref x0), (1, .int x1), (2, .int 0)] [] h) : ah_At mt_G_hasPlaceFor d A h0 o h2 0 [(0, .ref x0), (1, .int x1)] [] h := by
  refine s_iconst (v := 0) d_G_hasPlaceFor_0 (by decide) ?_
  refine s_istore_n (lv' := [(0, .ref x0), (1, .int x1), (2, .int 0)]) d_G_hasPlaceFor_1 rfl (by decide) rfl ?_
  exact k
theorem b_G_hasPlaceFor_2 {d : Nat} {A : Nat → Prop} {h2 : ah_H} {o : Outcome} {h0 : ah_H} {h : ah_H} {x0 : Nat} {x1 : Int32} {x2 : Int32} {v1 : Int32} (g1 : ah_sel h x0 5 1 = some (.int v1)) (kt : v1 ≤ x2 → ah_At mt_G_hasPlaceFor d A h0 o h2 32 [] [] h) (kf : ¬ (v1 ≤ x2) → ah_At mt_G_hasPlaceFor d A h0 o h2 10 [(0, .ref x0), (1, .int x1), (2, .int x2)] [] h) : ah_At mt_G_hasPlaceFor d A h0 o h2 2 [(0, .ref x0), (1, .int x1), (2, .int x2)] [] h := by
  refine s_iload_n d_G_hasPlaceFor_2 rfl rfl ?_
  refine s_aload_n d_G_hasPlaceFor_3 rfl rfl ?_
  refine s_getfield (k := 1) d_G_hasPlaceFor_4 kc5 (by decide) fl_G_17 g1 ?_
  refine s_if_icmpge (t := 32) d_G_hasPlaceFor_7 (by decide) (fun z => ?_) (fun z => ?_)
  · exact ah_At.sub [] rfl (kt z)
  · exact (kf z)
theorem b_G_hasPlaceFor_10 {d : Nat} {A : Nat → Prop} {h2 : ah_H} {o : Outcome} {h0 : ah_H} {h : ah_H} {x0 : Nat} {x1 : Int32} {x2 : Int32} {v1 : Nat} {v2 : Nat} {j2 : Nat} {v3 : Nat} {v4 : Int32} {j4 : Nat} (g1 : ah_sel h x0 5 0 = some (.ref v1)) (i2 : ah_ix x2 j2) (g2 : ah_sel h v1 112 j2 = some (.ref v2)) (g3 : ah_sel h v2 2 1 = some (.ref v3)) (i4 : ah_ix x1 j4) (g4 : ah_sel h v3 100 j4 = some (.int v4)) (kt : v4 ≤ 0 → ah_At mt_G_hasPlaceFor d A h0 o h2 26 [(0, .ref x0), (1, .int x1), (2, .int x2)] [] h) (kf : ¬ (v4 ≤ 0) → ah_At mt_G_hasPlaceFor d A h0 o h2 24 [] [] h) : ah_At mt_G_hasPlaceFor d A h0 o h2 10 [(0, .ref x0), (1, .int x1), (2, .int x2)] [] h := by
  refine s_aload_n d_G_hasPlaceFor_10 rfl rfl ?_
  refine s_getfield (k := 0) d_G_hasPlaceFor_11 kc5 (by decide) fl_G_11 g1 ?_
  refine s_iload_n d_G_hasPlaceFor_14 rfl rfl ?_
  refine s_aaload (t := 112) ⟨rfl, by decide, rfl⟩ rfl d_G_hasPlaceFor_15 i2 g2 ?_
  refine s_getfield (k := 1) d_G_hasPlaceFor_16 kc2 (by decide) fl_G_43 g3 ?_
  refine s_iload_n d_G_hasPlaceFor_19 rfl rfl ?_
  refine s_iaload d_G_hasPlaceFor_20 i4 g4 ?_
  refine s_ifle (t := 26) d_G_hasPlaceFor_21 (by decide) (fun z => ?_) (fun z => ?_)
  · exact (kt z)
  · exact ah_At.sub [] rfl (kf z)
theorem b_G_hasPlaceFor_24 {d : Nat} {A : Nat → Prop} {h0 : ah_H} {h : ah_H}   : ah_At mt_G_hasPlaceFor d A h0 (.returned (some (.int 1))) h 24 [] [] h := by
  refine s_iconst (v := 1) d_G_hasPlaceFor_24 (by decide) ?_
  exact e_iret (ty := .boolean) d_G_hasPlaceFor_25 rfl (by decide +kernel)
theorem b_G_hasPlaceFor_26 {d : Nat} {A : Nat → Prop} {h2 : ah_H} {o : Outcome} {h0 : ah_H} {h : ah_H} {x0 : Nat} {x1 : Int32} {x2 : Int32} (k : ah_At mt_G_hasPlaceFor d A h0 o h2 2 [(0, .ref x0), (1, .int x1), (2, .int (x2 + 1))] [] h) : ah_At mt_G_hasPlaceFor d A h0 o h2 26 [(0, .ref x0), (1, .int x1), (2, .int x2)] [] h := by
  refine s_iinc (v := x2 + 1) (lv' := [(0, .ref x0), (1, .int x1), (2, .int (x2 + 1))]) d_G_hasPlaceFor_26 rfl rfl (by decide) rfl ?_
  refine s_goto (t := 2) d_G_hasPlaceFor_29 (by decide) ?_
  exact k
theorem b_G_hasPlaceFor_32 {d : Nat} {A : Nat → Prop} {h0 : ah_H} {h : ah_H}   : ah_At mt_G_hasPlaceFor d A h0 (.returned (some (.int 0))) h 32 [] [] h := by
  refine s_iconst (v := 0) d_G_hasPlaceFor_32 (by decide) ?_
  exact e_iret (ty := .boolean) d_G_hasPlaceFor_33 rfl (by decide +kernel)
theorem b_G_leastPattern_0 {d : Nat} {A : Nat → Prop} {h2 : ah_H} {o : Outcome} {h0 : ah_H} {h : ah_H} {x0 : Nat} {x1 : Nat} {x2 : Int32} (k : ah_At mt_G_leastPattern d A h0 o h2 2 [(0, .ref x0), (1, .ref x1), (2, .int x2), (3, .int 0)] [] h) : ah_At mt_G_leastPattern d A h0 o h2 0 [(0, .ref x0), (1, .ref x1), (2, .int x2)] [] h := by
  refine s_iconst (v := 0) d_G_leastPattern_0 (by decide) ?_
  refine s_istore_n (lv' := [(0, .ref x0), (1, .ref x1), (2, .int x2), (3, .int 0)]) d_G_leastPattern_1 rfl (by decide) rfl ?_
  exact k
theorem b_G_leastPattern_2 {d : Nat} {A : Nat → Prop} {h2 : ah_H} {o : Outcome} {h0 : ah_H} {h : ah_H} {x0 : Nat} {x1 : Nat} {x2 : Int32} {x3 : Int32} {v1 : Int32} (g1 : ah_sel h x0 5 1 = some (.int v1)) (kt : v1 ≤ x3 → ah_At mt_G_leastPattern d A h0 o h2 32 [] [] h) (kf : ¬ (v1 ≤ x3) → ah_At mt_G_leastPattern d A h0 o h2 10 [(0, .ref x0), (1, .ref x1), (2, .int x2), (3, .int x3)] [] h) : ah_At mt_G_leastPattern d A h0 o h2 2 [(0, .ref x0), (1, .ref x1), (2, .int x2), (3, .int x3)] [] h := by
  refine s_iload_n d_G_leastPattern_2 rfl rfl ?_
  refine s_aload_n d_G_leastPattern_3 rfl rfl ?_
  refine s_getfield (k := 1) d_G_leastPattern_4 kc5 (by decide) fl_G_17 g1 ?_
  refine s_if_icmpge (t := 32) d_G_leastPattern_7 (by decide) (fun z => ?_) (fun z => ?_)
  · exact ah_At.sub [] rfl (kt z)
  · exact (kf z)
theorem b_G_leastPattern_10 {d : Nat} {A : Nat → Prop} {h2 : ah_H} {o : Outcome} {h0 : ah_H} {h : ah_H} {x0 : Nat} {x1 : Nat} {x2 : Int32} {x3 : Int32} {v1 : Nat} {v2 : Nat} {j2 : Nat} {d' : Nat} {A' : Nat → Prop} {o' : Outcome} {h' : ah_H} (g1 : ah_sel h x0 5 0 = some (.ref v1)) (i2 : ah_ix x3 j2) (g2 : ah_sel h v1 112 j2 = some (.ref v2)) (hE : ah_Ev mt_P_holds d' A' [.ref v2, .ref x1, .int x2] h o' h') (hdd : d' + 1 ≤ d) (hAA : ∀ q, A' q → A q) (k : ah_aft mt_G_leastPattern d A h0 o h2 18 [(0, .ref x0), (1, .ref x1), (2, .int x2), (3, .int x3)] [] h' o') (hb : (ah_len h v2 2).isSome = true) : ah_At mt_G_leastPattern d A h0 o h2 10 [(0, .ref x0), (1, .ref x1), (2, .int x2), (3, .int x3)] [] h := by
  refine s_aload_n d_G_leastPattern_10 rfl rfl ?_
  refine s_getfield (k := 0) d_G_leastPattern_11 kc5 (by decide) fl_G_11 g1 ?_
  refine s_iload_n d_G_leastPattern_14 rfl rfl ?_
  refine s_aaload (t := 112) ⟨rfl, by decide, rfl⟩ rfl d_G_leastPattern_15 i2 g2 ?_
  refine s_aload_n d_G_leastPattern_16 rfl rfl ?_
  refine s_iload_n d_G_leastPattern_17 rfl rfl ?_
  exact ah_callV (av := [.ref x1, .int x2]) (st := []) d_G_leastPattern_18 ml_G_47 mi_P_holds mv_P_holds kc2 hb hE hdd hAA rfl (Nat.le_of_ble_eq_true rfl) k
theorem b_G_leastPattern_21 {d : Nat} {A : Nat → Prop} {h2 : ah_H} {o : Outcome} {h0 : ah_H} {h : ah_H} {x0 : Nat} {x1 : Nat} {x2 : Int32} {x3 : Int32} {s0 : Int32} (kt : s0 = 0 → ah_At mt_G_leastPattern d A h0 o h2 26 [(0, .ref x0), (1, .ref x1), (2, .int x2), (3, .int x3)] [] h) (kf : ¬ (s0 = 0) → ah_At mt_G_leastPattern d A h0 o h2 24 [(3, .int x3)] [] h) : ah_At mt_G_leastPattern d A h0 o h2 21 [(0, .ref x0), (1, .ref x1), (2, .int x2), (3, .int x3)] [.int s0] h := by
  refine s_ifeq (t := 26) d_G_leastPattern_21 (by decide) (fun z => ?_) (fun z => ?_)
  · exact (kt z)
  · exact ah_At.sub [3] rfl (kf z)
theorem b_G_leastPattern_24 {d : Nat} {A : Nat → Prop} {h0 : ah_H} {h : ah_H} {x3 : Int32}  : ah_At mt_G_leastPattern d A h0 (.returned (some (.int x3))) h 24 [(3, .int x3)] [] h := by
  refine s_iload_n d_G_leastPattern_24 rfl rfl ?_
  exact e_iret (ty := .int) d_G_leastPattern_25 rfl rfl
theorem b_G_leastPattern_26 {d : Nat} {A : Nat → Prop} {h2 : ah_H} {o : Outcome} {h0 : ah_H} {h : ah_H} {x0 : Nat} {x1 : Nat} {x2 : Int32} {x3 : Int32} (k : ah_At mt_G_leastPattern d A h0 o h2 2 [(0, .ref x0), (1, .ref x1), (2, .int x2), (3, .int (x3 + 1))] [] h) : ah_At mt_G_leastPattern d A h0 o h2 26 [(0, .ref x0), (1, .ref x1), (2, .int x2), (3, .int x3)] [] h := by
  refine s_iinc (v := x3 + 1) (lv' := [(0, .ref x0), (1, .ref x1), (2, .int x2), (3, .int (x3 + 1))]) d_G_leastPattern_26 rfl rfl (by decide) rfl ?_
  refine s_goto (t := 2) d_G_leastPattern_29 (by decide) ?_
  exact k
theorem b_G_leastPattern_32 {d : Nat} {A : Nat → Prop} {h0 : ah_H} {h : ah_H}   : ah_At mt_G_leastPattern d A h0 (.returned (some (.int (-1)))) h 32 [] [] h := by
  refine s_iconst (v := -1) d_G_leastPattern_32 (by decide) ?_
  exact e_iret (ty := .int) d_G_leastPattern_33 rfl rfl
theorem b_G_reasonAgainst_0 {d : Nat} {A : Nat → Prop} {h2 : ah_H} {o : Outcome} {h0 : ah_H} {h : ah_H} {x0 : Nat} {x1 : Nat} {v1 : Int32} {d' : Nat} {A' : Nat → Prop} {o' : Outcome} {h' : ah_H} (g1 : ah_sel h x1 0 0 = some (.int v1)) (hE : ah_Ev mt_G_hasPlaceFor d' A' [.ref x0, .int v1] h o' h') (hdd : d' + 1 ≤ d) (hAA : ∀ q, A' q → A q) (k : ah_aft mt_G_reasonAgainst d A h0 o h2 5 [(0, .ref x0), (1, .ref x1)] [] h' o') (hb : (ah_len h x0 5).isSome = true) : ah_At mt_G_reasonAgainst d A h0 o h2 0 [(0, .ref x0), (1, .ref x1)] [] h := by
  refine s_aload_n d_G_reasonAgainst_0 rfl rfl ?_
  refine s_aload_n d_G_reasonAgainst_1 rfl rfl ?_
  refine s_getfield (k := 0) d_G_reasonAgainst_2 kc0 (by decide) fl_G_51 g1 ?_
  exact ah_callV (av := [.int v1]) (st := []) d_G_reasonAgainst_5 ml_G_56 mi_G_hasPlaceFor mv_G_hasPlaceFor kc5 hb hE hdd hAA rfl (Nat.le_of_ble_eq_true rfl) k
theorem b_G_reasonAgainst_8 {d : Nat} {A : Nat → Prop} {h2 : ah_H} {o : Outcome} {h0 : ah_H} {h : ah_H} {x0 : Nat} {x1 : Nat} {s0 : Int32} (kt : ¬ s0 = 0 → ah_At mt_G_reasonAgainst d A h0 o h2 13 [(0, .ref x0), (1, .ref x1)] [] h) (kf : ¬ (¬ s0 = 0) → ah_At mt_G_reasonAgainst d A h0 o h2 11 [] [] h) : ah_At mt_G_reasonAgainst d A h0 o h2 8 [(0, .ref x0), (1, .ref x1)] [.int s0] h := by
  refine s_ifne (t := 13) d_G_reasonAgainst_8 (by decide) (fun z => ?_) (fun z => ?_)
  · exact (kt z)
  · exact ah_At.sub [] rfl (kf z)
theorem b_G_reasonAgainst_11 {d : Nat} {A : Nat → Prop} {h0 : ah_H} {h : ah_H}   : ah_At mt_G_reasonAgainst d A h0 (.returned (some (.int 1))) h 11 [] [] h := by
  refine s_iconst (v := 1) d_G_reasonAgainst_11 (by decide) ?_
  exact e_iret (ty := .int) d_G_reasonAgainst_12 rfl rfl
theorem b_G_reasonAgainst_13 {d : Nat} {A : Nat → Prop} {h2 : ah_H} {o : Outcome} {h0 : ah_H} {h : ah_H} {x0 : Nat} {x1 : Nat} {v1 : Int32} {v2 : Int32} (g1 : ah_sel h x1 0 2 = some (.int v1)) (g2 : ah_sel h x0 5 5 = some (.int v2)) (kt : v1 ≤ v2 → ah_At mt_G_reasonAgainst d A h0 o h2 26 [(0, .ref x0), (1, .ref x1)] [] h) (kf : ¬ (v1 ≤ v2) → ah_At mt_G_reasonAgainst d A h0 o h2 24 [] [] h) : ah_At mt_G_reasonAgainst d A h0 o h2 13 [(0, .ref x0), (1, .ref x1)] [] h := by
  refine s_aload_n d_G_reasonAgainst_13 rfl rfl ?_
  refine s_getfield (k := 2) d_G_reasonAgainst_14 kc0 (by decide) fl_G_60 g1 ?_
  refine s_aload_n d_G_reasonAgainst_17 rfl rfl ?_
  refine s_getfield (k := 5) d_G_reasonAgainst_18 kc5 (by decide) fl_G_31 g2 ?_
  refine s_if_icmple (t := 26) d_G_reasonAgainst_21 (by decide) (fun z => ?_) (fun z => ?_)
  · exact (kt z)
  · exact ah_At.sub [] rfl (kf z)
theorem b_G_reasonAgainst_24 {d : Nat} {A : Nat → Prop} {h0 : ah_H} {h : ah_H}   : ah_At mt_G_reasonAgainst d A h0 (.returned (some (.int 2))) h 24 [] [] h := by
  refine s_iconst (v := 2) d_G_reasonAgainst_24 (by decide) ?_
  exact e_iret (ty := .int) d_G_reasonAgainst_25 rfl rfl
theorem b_G_reasonAgainst_26 {d : Nat} {A : Nat → Prop} {h2 : ah_H} {o : Outcome} {h0 : ah_H} {h : ah_H} {x0 : Nat} {x1 : Nat} {v1 : Int64} {v2 : Int64} (g1 : ah_sel h x1 0 1 = some (.long v1)) (g2 : ah_sel h x0 5 3 = some (.long v2)) (kt : (lg_cmp v1 v2) ≤ 0 → ah_At mt_G_reasonAgainst d A h0 o h2 42 [] [] h) (kf : ¬ ((lg_cmp v1 v2) ≤ 0) → ah_At mt_G_reasonAgainst d A h0 o h2 38 [] [] h) : ah_At mt_G_reasonAgainst d A h0 o h2 26 [(0, .ref x0), (1, .ref x1)] [] h := by
  refine s_aload_n d_G_reasonAgainst_26 rfl rfl ?_
  refine s_getfield (k := 1) d_G_reasonAgainst_27 kc0 (by decide) fl_G_63 g1 ?_
  refine s_aload_n d_G_reasonAgainst_30 rfl rfl ?_
  refine s_getfield (k := 3) d_G_reasonAgainst_31 kc5 (by decide) fl_G_24 g2 ?_
  refine s_lcmp d_G_reasonAgainst_34 ?_
  refine s_ifle (t := 42) d_G_reasonAgainst_35 (by decide) (fun z => ?_) (fun z => ?_)
  · exact ah_At.sub [] rfl (kt z)
  · exact ah_At.sub [] rfl (kf z)
theorem b_G_reasonAgainst_38 {d : Nat} {A : Nat → Prop} {h2 : ah_H} {o : Outcome} {h0 : ah_H} {h : ah_H}  (k : ah_At mt_G_reasonAgainst d A h0 o h2 43 [] [.int 3] h) : ah_At mt_G_reasonAgainst d A h0 o h2 38 [] [] h := by
  refine s_iconst (v := 3) d_G_reasonAgainst_38 (by decide) ?_
  refine s_goto (t := 43) d_G_reasonAgainst_39 (by decide) ?_
  exact k
theorem b_G_reasonAgainst_42 {d : Nat} {A : Nat → Prop} {h2 : ah_H} {o : Outcome} {h0 : ah_H} {h : ah_H}  (k : ah_At mt_G_reasonAgainst d A h0 o h2 43 [] [.int 0] h) : ah_At mt_G_reasonAgainst d A h0 o h2 42 [] [] h := by
  refine s_iconst (v := 0) d_G_reasonAgainst_42 (by decide) ?_
  exact k
theorem b_G_reasonAgainst_43 {d : Nat} {A : Nat → Prop} {h0 : ah_H} {h : ah_H} {s0 : Int32}  : ah_At mt_G_reasonAgainst d A h0 (.returned (some (.int s0))) h 43 [] [.int s0] h := by
  exact e_iret (ty := .int) d_G_reasonAgainst_43 rfl rfl
