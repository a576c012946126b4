/-! BLOCKS. Printed by wip/make.py. -/
theorem b_N_init_0 {d : Nat} {A : Nat → Prop} {h2 : ah_H} {o : Outcome} {h0 : ah_H} {h : ah_H} {x0 : Nat} {x1 : Nat} {h_1 : ah_H} {h_2 : ah_H} {h_3 : ah_H} {h_4 : ah_H} {h_5 : ah_H} {h_6 : ah_H} {h_7 : ah_H} {h_8 : ah_H} {h_9 : ah_H} {h_10 : ah_H} {h_11 : ah_H} {h_12 : ah_H} {h_13 : ah_H} {h_14 : ah_H} {h_15 : ah_H} (hd1 : 1 ≤ d) (q1 : ah_new h (111, List.replicate 3 .null) = h_1) (w1 : A x0) (e1 : (ah_sel h_1 x0 3 1).isSome = true) (q2 : ah_sto h_1 x0 1 (.ref h.1) = h_2) (q3 : ah_new h_2 (100, List.replicate 8 (.int 0)) = h_3) (w2 : A x0) (e2 : (ah_sel h_3 x0 3 2).isSome = true) (q4 : ah_sto h_3 x0 2 (.ref h_2.1) = h_4) (q5 : ah_new h_4 (100, List.replicate 8 (.int 0)) = h_5) (w3 : A x0) (e3 : (ah_sel h_5 x0 3 3).isSome = true) (q6 : ah_sto h_5 x0 3 (.ref h_4.1) = h_6) (q7 : ah_new h_6 (100, List.replicate 9 (.int 0)) = h_7) (w4 : A x0) (e4 : (ah_sel h_7 x0 3 4).isSome = true) (q8 : ah_sto h_7 x0 4 (.ref h_6.1) = h_8) (q9 : ah_new h_8 (100, List.replicate 8 (.int 0)) = h_9) (w5 : A x0) (e5 : (ah_sel h_9 x0 3 5).isSome = true) (q10 : ah_sto h_9 x0 5 (.ref h_8.1) = h_10) (q11 : ah_new h_10 (100, List.replicate 8 (.int 0)) = h_11) (w6 : A x0) (e6 : (ah_sel h_11 x0 3 6).isSome = true) (q12 : ah_sto h_11 x0 6 (.ref h_10.1) = h_12) (w7 : A x0) (e7 : (ah_sel h_12 x0 3 7).isSome = true) (q13 : ah_sto h_12 x0 7 (.int 0) = h_13) (w8 : A x0) (e8 : (ah_sel h_13 x0 3 8).isSome = true) (q14 : ah_sto h_13 x0 8 (.int 0) = h_14) (w9 : A x0) (e9 : (ah_sel h_14 x0 3 0).isSome = true) (q15 : ah_sto h_14 x0 0 (.ref x1) = h_15) (k : ah_At mt_N_init d A h0 o h2 69 [(0, .ref x0), (2, .int 0)] [] h_15) : ah_At mt_N_init d A h0 o h2 0 [(0, .ref x0), (1, .ref x1)] [] h := by
  refine s_aload_n d_N_init_0 rfl rfl ?_
  refine s_objinit d_N_init_1 mo_N_3 hd1 ?_
  refine s_aload_n d_N_init_4 rfl rfl ?_
  refine s_iconst (v := 3) d_N_init_5 (by decide) ?_
  refine s_anewarrayE (ci := 1) (j := 3) kc1 ⟨rfl, by decide, rfl⟩ cl_N_9 ao1 d_N_init_6 ⟨by decide, by decide⟩ (by decide) q1 ?_
  refine s_putfieldE (k := 1) d_N_init_9 kc3 (by decide) fl_N_11 (Or.inr ⟨rfl, rfl, rfl, flk_N_11⟩) w1 rfl e1 q2 ?_
  refine s_aload_n d_N_init_12 rfl rfl ?_
  refine s_bipush (v := 8) d_N_init_13 (by decide) ?_
  refine s_newarrayE (t := 100) (j := 8) ⟨rfl, by decide, rfl⟩ rfl ac_int d_N_init_15 ⟨by decide, by decide⟩ (by decide) q3 ?_
  refine s_putfieldE (k := 2) d_N_init_17 kc3 (by decide) fl_N_17 (Or.inr ⟨rfl, rfl, rfl, flk_N_17⟩) w2 rfl e2 q4 ?_
  refine s_aload_n d_N_init_20 rfl rfl ?_
  refine s_bipush (v := 8) d_N_init_21 (by decide) ?_
  refine s_newarrayE (t := 100) (j := 8) ⟨rfl, by decide, rfl⟩ rfl ac_int d_N_init_23 ⟨by decide, by decide⟩ (by decide) q5 ?_
  refine s_putfieldE (k := 3) d_N_init_25 kc3 (by decide) fl_N_21 (Or.inr ⟨rfl, rfl, rfl, flk_N_21⟩) w3 rfl e3 q6 ?_
  refine s_aload_n d_N_init_28 rfl rfl ?_
  refine s_bipush (v := 9) d_N_init_29 (by decide) ?_
  refine s_newarrayE (t := 100) (j := 9) ⟨rfl, by decide, rfl⟩ rfl ac_int d_N_init_31 ⟨by decide, by decide⟩ (by decide) q7 ?_
  refine s_putfieldE (k := 4) d_N_init_33 kc3 (by decide) fl_N_24 (Or.inr ⟨rfl, rfl, rfl, flk_N_24⟩) w4 rfl e4 q8 ?_
  refine s_aload_n d_N_init_36 rfl rfl ?_
  refine s_bipush (v := 8) d_N_init_37 (by decide) ?_
  refine s_newarrayE (t := 100) (j := 8) ⟨rfl, by decide, rfl⟩ rfl ac_int d_N_init_39 ⟨by decide, by decide⟩ (by decide) q9 ?_
  refine s_putfieldE (k := 5) d_N_init_41 kc3 (by decide) fl_N_27 (Or.inr ⟨rfl, rfl, rfl, flk_N_27⟩) w5 rfl e5 q10 ?_
  refine s_aload_n d_N_init_44 rfl rfl ?_
  refine s_bipush (v := 8) d_N_init_45 (by decide) ?_
  refine s_newarrayE (t := 100) (j := 8) ⟨rfl, by decide, rfl⟩ rfl ac_int d_N_init_47 ⟨by decide, by decide⟩ (by decide) q11 ?_
  refine s_putfieldE (k := 6) d_N_init_49 kc3 (by decide) fl_N_30 (Or.inr ⟨rfl, rfl, rfl, flk_N_30⟩) w6 rfl e6 q12 ?_
  refine s_aload_n d_N_init_52 rfl rfl ?_
  refine s_iconst (v := 0) d_N_init_53 (by decide) ?_
  refine s_putfieldE (k := 7) d_N_init_54 kc3 (by decide) fl_N_33 (Or.inl rfl) w7 rfl e7 q13 ?_
  refine s_aload_n d_N_init_57 rfl rfl ?_
  refine s_iconst (v := 0) d_N_init_58 (by decide) ?_
  refine s_putfieldE (k := 8) d_N_init_59 kc3 (by decide) fl_N_37 (Or.inl rfl) w8 rfl e8 q14 ?_
  refine s_aload_n d_N_init_62 rfl rfl ?_
  refine s_aload_n d_N_init_63 rfl rfl ?_
  refine s_putfieldE (k := 0) d_N_init_64 kc3 (by decide) fl_N_40 (Or.inr ⟨rfl, rfl, rfl, flk_N_40⟩) w9 rfl e9 q15 ?_
  refine s_iconst (v := 0) d_N_init_67 (by decide) ?_
  refine s_istore_n (lv' := [(0, .ref x0), (1, .ref x1), (2, .int 0)]) d_N_init_68 rfl (by decide) rfl ?_
  exact ah_At.sub [0, 2] rfl k
theorem b_N_init_69 {d : Nat} {A : Nat → Prop} {h2 : ah_H} {o : Outcome} {h0 : ah_H} {h : ah_H} {x0 : Nat} {x2 : Int32} (kt : 3 ≤ x2 → ah_At mt_N_init d A h0 o h2 93 [] [] h) (kf : ¬ (3 ≤ x2) → ah_At mt_N_init d A h0 o h2 74 [(0, .ref x0), (2, .int x2)] [] h) : ah_At mt_N_init d A h0 o h2 69 [(0, .ref x0), (2, .int x2)] [] h := by
  refine s_iload_n d_N_init_69 rfl rfl ?_
  refine s_iconst (v := 3) d_N_init_70 (by decide) ?_
  refine s_if_icmpge (t := 93) d_N_init_71 (by decide) (fun z => ?_) (fun z => ?_)
  · exact ah_At.sub [] rfl (kt z)
  · exact (kf z)
theorem b_N_init_74 {d : Nat} {A : Nat → Prop} {h2 : ah_H} {o : Outcome} {h0 : ah_H} {h : ah_H} {x0 : Nat} {x2 : Int32} {v1 : Nat} {h_1 : ah_H} {d' : Nat} {A' : Nat → Prop} {o' : Outcome} {h' : ah_H} (g1 : ah_sel h x0 3 1 = some (.ref v1)) (q1 : ah_new h (1, [.null, .null, .int 0, .int 0, .long 0]) = h_1) (hE : ah_Ev mt_L_init d' A' [.ref h.1] h_1 o' h') (hdd : d' + 1 ≤ d) (hAA : ∀ q, A' q → A q) (k : ah_aft mt_N_init d A h0 o h2 83 [(0, .ref x0), (2, .int x2)] [.ref h.1, .int x2, .ref v1] h' o') : ah_At mt_N_init d A h0 o h2 74 [(0, .ref x0), (2, .int x2)] [] h := by
  refine s_aload_n d_N_init_74 rfl rfl ?_
  refine s_getfield (k := 1) d_N_init_75 kc3 (by decide) fl_N_11 g1 ?_
  refine s_iload_n d_N_init_78 rfl rfl ?_
  refine s_newE (fs := [.null, .null, .int 0, .int 0, .long 0]) d_N_init_79 kc1 cl_N_9 kn1 ki1 rfl kd1 q1 ?_
  refine s_dup d_N_init_82 rfl ?_
  exact ah_callI (av := []) (st := [.ref h.1, .int x2, .ref v1]) d_N_init_83 ml_N_44 mi_L_init rfl rfl hE hdd hAA rfl (Nat.le_of_ble_eq_true rfl) k
theorem b_N_init_86 {d : Nat} {A : Nat → Prop} {h2 : ah_H} {o : Outcome} {h0 : ah_H} {h : ah_H} {x0 : Nat} {x2 : Int32} {s0 : Nat} {s1 : Int32} {s2 : Nat} {j1 : Nat} {h_1 : ah_H} (w1 : A s2) (i1 : ah_ix s1 j1) (e1 : (ah_sel h s2 111 j1).isSome = true) (t1 : (ah_len h s0 1).isSome = true) (q1 : ah_sto h s2 j1 (.ref s0) = h_1) (k : ah_At mt_N_init d A h0 o h2 69 [(0, .ref x0), (2, .int (x2 + 1))] [] h_1) : ah_At mt_N_init d A h0 o h2 86 [(0, .ref x0), (2, .int x2)] [.ref s0, .int s1, .ref s2] h := by
  refine s_aastoreE (ci := 1) kc1 ⟨rfl, by decide, rfl⟩ d_N_init_86 w1 i1 e1 t1 q1 ?_
  refine s_iinc (v := x2 + 1) (lv' := [(0, .ref x0), (2, .int (x2 + 1))]) d_N_init_87 rfl rfl (by decide) rfl ?_
  refine s_goto (t := 69) d_N_init_90 (by decide) ?_
  exact k
theorem b_N_init_93 {d : Nat} {A : Nat → Prop} {h0 : ah_H} {h : ah_H}   : ah_At mt_N_init d A h0 (.returned none) h 93 [] [] h := by
  exact e_vret d_N_init_93 rfl
theorem b_N_makePlan_0 {d : Nat} {A : Nat → Prop} {h2 : ah_H} {o : Outcome} {h0 : ah_H} {h : ah_H} {x0 : Nat} {d' : Nat} {A' : Nat → Prop} {o' : Outcome} {h' : ah_H} (hE : ah_Ev mt_N_clearLoads d' A' [.ref x0] h o' h') (hdd : d' + 1 ≤ d) (hAA : ∀ q, A' q → A q) (k : ah_aft mt_N_makePlan d A h0 o h2 1 [(0, .ref x0)] [] h' o') (hb : (ah_len h x0 3).isSome = true) : ah_At mt_N_makePlan d A h0 o h2 0 [(0, .ref x0)] [] h := by
  refine s_aload_n d_N_makePlan_0 rfl rfl ?_
  exact ah_callV (av := []) (st := []) d_N_makePlan_1 ml_N_45 mi_N_clearLoads mv_N_clearLoads kc3 hb hE hdd hAA rfl (Nat.le_of_ble_eq_true rfl) k
theorem b_N_makePlan_4 {d : Nat} {A : Nat → Prop} {h2 : ah_H} {o : Outcome} {h0 : ah_H} {h : ah_H} {x0 : Nat} {d' : Nat} {A' : Nat → Prop} {o' : Outcome} {h' : ah_H} (hE : ah_Ev mt_N_weighBoxes d' A' [.ref x0] h o' h') (hdd : d' + 1 ≤ d) (hAA : ∀ q, A' q → A q) (k : ah_aft mt_N_makePlan d A h0 o h2 5 [(0, .ref x0)] [] h' o') (hb : (ah_len h x0 3).isSome = true) : ah_At mt_N_makePlan d A h0 o h2 4 [(0, .ref x0)] [] h := by
  refine s_aload_n d_N_makePlan_4 rfl rfl ?_
  exact ah_callV (av := []) (st := []) d_N_makePlan_5 ml_N_48 mi_N_weighBoxes mv_N_weighBoxes kc3 hb hE hdd hAA rfl (Nat.le_of_ble_eq_true rfl) k
theorem b_N_makePlan_8 {d : Nat} {A : Nat → Prop} {h2 : ah_H} {o : Outcome} {h0 : ah_H} {h : ah_H} {x0 : Nat} {v1 : Nat} {d' : Nat} {A' : Nat → Prop} {o' : Outcome} {h' : ah_H} (g1 : ah_sel h x0 3 5 = some (.ref v1)) (hE : ah_Ev mt_J_fill d' A' [.ref v1, .int (-1)] h o' h') (hdd : d' + 1 ≤ d) (hAA : ∀ q, A' q → A q) (k : ah_aft mt_N_makePlan d A h0 o h2 13 [(0, .ref x0)] [] h' o') : ah_At mt_N_makePlan d A h0 o h2 8 [(0, .ref x0)] [] h := by
  refine s_aload_n d_N_makePlan_8 rfl rfl ?_
  refine s_getfield (k := 5) d_N_makePlan_9 kc3 (by decide) fl_N_27 g1 ?_
  refine s_iconst (v := -1) d_N_makePlan_12 (by decide) ?_
  exact ah_callS (av := [.ref v1, .int (-1)]) (st := []) d_N_makePlan_13 ml_N_51 ms_J_fill hE hdd hAA rfl (Nat.le_of_ble_eq_true rfl) k
theorem b_N_makePlan_16 {d : Nat} {A : Nat → Prop} {h2 : ah_H} {o : Outcome} {h0 : ah_H} {h : ah_H} {x0 : Nat} {d' : Nat} {A' : Nat → Prop} {o' : Outcome} {h' : ah_H} (w1 : A x0) (e1 : (ah_sel h x0 3 7).isSome = true) (w2 : A x0) (e2 : (ah_sel (ah_sto h x0 7 (.int 0)) x0 3 8).isSome = true) (hE : ah_Ev mt_N_tryFrom d' A' [.ref x0, .int 0] (ah_sto (ah_sto h x0 7 (.int 0)) x0 8 (.int (-1))) o' h') (hdd : d' + 1 ≤ d) (hAA : ∀ q, A' q → A q) (k : ah_aft mt_N_makePlan d A h0 o h2 28 [(0, .ref x0)] [] h' o') (hb : (ah_len (ah_sto (ah_sto h x0 7 (.int 0)) x0 8 (.int (-1))) x0 3).isSome = true) : ah_At mt_N_makePlan d A h0 o h2 16 [(0, .ref x0)] [] h := by
  refine s_aload_n d_N_makePlan_16 rfl rfl ?_
  refine s_iconst (v := 0) d_N_makePlan_17 (by decide) ?_
  refine s_putfield (k := 7) d_N_makePlan_18 kc3 (by decide) fl_N_33 (Or.inl rfl) w1 rfl e1 ?_
  refine s_aload_n d_N_makePlan_21 rfl rfl ?_
  refine s_iconst (v := -1) d_N_makePlan_22 (by decide) ?_
  refine s_putfield (k := 8) d_N_makePlan_23 kc3 (by decide) fl_N_37 (Or.inl rfl) w2 rfl e2 ?_
  refine s_aload_n d_N_makePlan_26 rfl rfl ?_
  refine s_iconst (v := 0) d_N_makePlan_27 (by decide) ?_
  exact ah_callV (av := [.int 0]) (st := []) d_N_makePlan_28 ml_N_57 mi_N_tryFrom mv_N_tryFrom kc3 hb hE hdd hAA rfl (Nat.le_of_ble_eq_true rfl) k
theorem b_N_makePlan_31 {d : Nat} {A : Nat → Prop} {h2 : ah_H} {o : Outcome} {h0 : ah_H} {h : ah_H} {x0 : Nat} {d' : Nat} {A' : Nat → Prop} {o' : Outcome} {h' : ah_H} (hE : ah_Ev mt_N_putBestOn d' A' [.ref x0] h o' h') (hdd : d' + 1 ≤ d) (hAA : ∀ q, A' q → A q) (k : ah_aft mt_N_makePlan d A h0 o h2 32 [] [] h' o') (hb : (ah_len h x0 3).isSome = true) : ah_At mt_N_makePlan d A h0 o h2 31 [(0, .ref x0)] [] h := by
  refine s_aload_n d_N_makePlan_31 rfl rfl ?_
  refine ah_At.sub [] rfl ?_
  exact ah_callV (av := []) (st := []) d_N_makePlan_32 ml_N_61 mi_N_putBestOn mv_N_putBestOn kc3 hb hE hdd hAA rfl (Nat.le_of_ble_eq_true rfl) k
theorem b_N_makePlan_35 {d : Nat} {A : Nat → Prop} {h0 : ah_H} {h : ah_H}   : ah_At mt_N_makePlan d A h0 (.returned none) h 35 [] [] h := by
  exact e_vret d_N_makePlan_35 rfl
theorem b_N_lengthUsed_0 {d : Nat} {A : Nat → Prop} {h2 : ah_H} {o : Outcome} {h0 : ah_H} {h : ah_H} {x0 : Nat} (k : ah_At mt_N_lengthUsed d A h0 o h2 4 [(0, .ref x0), (1, .int 0), (2, .int 0)] [] h) : ah_At mt_N_lengthUsed d A h0 o h2 0 [(0, .ref x0)] [] h := by
  refine s_iconst (v := 0) d_N_lengthUsed_0 (by decide) ?_
  refine s_istore_n (lv' := [(0, .ref x0), (1, .int 0)]) d_N_lengthUsed_1 rfl (by decide) rfl ?_
  refine s_iconst (v := 0) d_N_lengthUsed_2 (by decide) ?_
  refine s_istore_n (lv' := [(0, .ref x0), (1, .int 0), (2, .int 0)]) d_N_lengthUsed_3 rfl (by decide) rfl ?_
  exact k
theorem b_N_lengthUsed_4 {d : Nat} {A : Nat → Prop} {h2 : ah_H} {o : Outcome} {h0 : ah_H} {h : ah_H} {x0 : Nat} {x1 : Int32} {x2 : Int32} {v1 : Nat} {v2 : Int32} (g1 : ah_sel h x0 3 0 = some (.ref v1)) (g2 : ah_sel h v1 4 1 = some (.int v2)) (kt : v2 ≤ x2 → ah_At mt_N_lengthUsed d A h0 o h2 33 [(1, .int x1)] [] h) (kf : ¬ (v2 ≤ x2) → ah_At mt_N_lengthUsed d A h0 o h2 15 [(0, .ref x0), (1, .int x1), (2, .int x2)] [] h) : ah_At mt_N_lengthUsed d A h0 o h2 4 [(0, .ref x0), (1, .int x1), (2, .int x2)] [] h := by
  refine s_iload_n d_N_lengthUsed_4 rfl rfl ?_
  refine s_aload_n d_N_lengthUsed_5 rfl rfl ?_
  refine s_getfield (k := 0) d_N_lengthUsed_6 kc3 (by decide) fl_N_40 g1 ?_
  refine s_getfield (k := 1) d_N_lengthUsed_9 kc4 (by decide) fl_N_64 g2 ?_
  refine s_if_icmpge (t := 33) d_N_lengthUsed_12 (by decide) (fun z => ?_) (fun z => ?_)
  · exact ah_At.sub [1] rfl (kt z)
  · exact (kf z)
theorem b_N_lengthUsed_15 {d : Nat} {A : Nat → Prop} {h2 : ah_H} {o : Outcome} {h0 : ah_H} {h : ah_H} {x0 : Nat} {x1 : Int32} {x2 : Int32} {v1 : Nat} {v2 : Nat} {j2 : Nat} {v3 : Int32} (g1 : ah_sel h x0 3 1 = some (.ref v1)) (i2 : ah_ix x2 j2) (g2 : ah_sel h v1 111 j2 = some (.ref v2)) (g3 : ah_sel h v2 1 3 = some (.int v3)) (k : ah_At mt_N_lengthUsed d A h0 o h2 4 [(0, .ref x0), (1, .int (x1 + v3)), (2, .int (x2 + 1))] [] h) : ah_At mt_N_lengthUsed d A h0 o h2 15 [(0, .ref x0), (1, .int x1), (2, .int x2)] [] h := by
  refine s_iload_n d_N_lengthUsed_15 rfl rfl ?_
  refine s_aload_n d_N_lengthUsed_16 rfl rfl ?_
  refine s_getfield (k := 1) d_N_lengthUsed_17 kc3 (by decide) fl_N_11 g1 ?_
  refine s_iload_n d_N_lengthUsed_20 rfl rfl ?_
  refine s_aaload (t := 111) ⟨rfl, by decide, rfl⟩ rfl d_N_lengthUsed_21 i2 g2 ?_
  refine s_getfield (k := 3) d_N_lengthUsed_22 kc1 (by decide) fl_N_69 g3 ?_
  refine s_iadd d_N_lengthUsed_25 ?_
  refine s_istore_n (lv' := [(0, .ref x0), (1, .int (x1 + v3)), (2, .int x2)]) d_N_lengthUsed_26 rfl (by decide) rfl ?_
  refine s_iinc (v := x2 + 1) (lv' := [(0, .ref x0), (1, .int (x1 + v3)), (2, .int (x2 + 1))]) d_N_lengthUsed_27 rfl rfl (by decide) rfl ?_
  refine s_goto (t := 4) d_N_lengthUsed_30 (by decide) ?_
  exact k
theorem b_N_lengthUsed_33 {d : Nat} {A : Nat → Prop} {h0 : ah_H} {h : ah_H} {x1 : Int32}  : ah_At mt_N_lengthUsed d A h0 (.returned (some (.int x1))) h 33 [(1, .int x1)] [] h := by
  refine s_iload_n d_N_lengthUsed_33 rfl rfl ?_
  exact e_iret (ty := .int) d_N_lengthUsed_34 rfl rfl
theorem b_N_boxesLoaded_0 {d : Nat} {A : Nat → Prop} {h2 : ah_H} {o : Outcome} {h0 : ah_H} {h : ah_H} {x0 : Nat} (k : ah_At mt_N_boxesLoaded d A h0 o h2 4 [(0, .ref x0), (1, .int 0), (2, .int 0)] [] h) : ah_At mt_N_boxesLoaded d A h0 o h2 0 [(0, .ref x0)] [] h := by
  refine s_iconst (v := 0) d_N_boxesLoaded_0 (by decide) ?_
  refine s_istore_n (lv' := [(0, .ref x0), (1, .int 0)]) d_N_boxesLoaded_1 rfl (by decide) rfl ?_
  refine s_iconst (v := 0) d_N_boxesLoaded_2 (by decide) ?_
  refine s_istore_n (lv' := [(0, .ref x0), (1, .int 0), (2, .int 0)]) d_N_boxesLoaded_3 rfl (by decide) rfl ?_
  exact k
theorem b_N_boxesLoaded_4 {d : Nat} {A : Nat → Prop} {h2 : ah_H} {o : Outcome} {h0 : ah_H} {h : ah_H} {x0 : Nat} {x1 : Int32} {x2 : Int32} {v1 : Nat} {v2 : Int32} (g1 : ah_sel h x0 3 0 = some (.ref v1)) (g2 : ah_sel h v1 4 1 = some (.int v2)) (kt : v2 ≤ x2 → ah_At mt_N_boxesLoaded d A h0 o h2 33 [(1, .int x1)] [] h) (kf : ¬ (v2 ≤ x2) → ah_At mt_N_boxesLoaded d A h0 o h2 15 [(0, .ref x0), (1, .int x1), (2, .int x2)] [] h) : ah_At mt_N_boxesLoaded d A h0 o h2 4 [(0, .ref x0), (1, .int x1), (2, .int x2)] [] h := by
  refine s_iload_n d_N_boxesLoaded_4 rfl rfl ?_
  refine s_aload_n d_N_boxesLoaded_5 rfl rfl ?_
  refine s_getfield (k := 0) d_N_boxesLoaded_6 kc3 (by decide) fl_N_40 g1 ?_
  refine s_getfield (k := 1) d_N_boxesLoaded_9 kc4 (by decide) fl_N_64 g2 ?_
  refine s_if_icmpge (t := 33) d_N_boxesLoaded_12 (by decide) (fun z => ?_) (fun z => ?_)
  · exact ah_At.sub [1] rfl (kt z)
  · exact (kf z)
theorem b_N_boxesLoaded_15 {d : Nat} {A : Nat → Prop} {h2 : ah_H} {o : Outcome} {h0 : ah_H} {h : ah_H} {x0 : Nat} {x1 : Int32} {x2 : Int32} {v1 : Nat} {v2 : Nat} {j2 : Nat} {v3 : Int32} (g1 : ah_sel h x0 3 1 = some (.ref v1)) (i2 : ah_ix x2 j2) (g2 : ah_sel h v1 111 j2 = some (.ref v2)) (g3 : ah_sel h v2 1 2 = some (.int v3)) (k : ah_At mt_N_boxesLoaded d A h0 o h2 4 [(0, .ref x0), (1, .int (x1 + v3)), (2, .int (x2 + 1))] [] h) : ah_At mt_N_boxesLoaded d A h0 o h2 15 [(0, .ref x0), (1, .int x1), (2, .int x2)] [] h := by
  refine s_iload_n d_N_boxesLoaded_15 rfl rfl ?_
  refine s_aload_n d_N_boxesLoaded_16 rfl rfl ?_
  refine s_getfield (k := 1) d_N_boxesLoaded_17 kc3 (by decide) fl_N_11 g1 ?_
  refine s_iload_n d_N_boxesLoaded_20 rfl rfl ?_
  refine s_aaload (t := 111) ⟨rfl, by decide, rfl⟩ rfl d_N_boxesLoaded_21 i2 g2 ?_
  refine s_getfield (k := 2) d_N_boxesLoaded_22 kc1 (by decide) fl_N_72 g3 ?_
  refine s_iadd d_N_boxesLoaded_25 ?_
  refine s_istore_n (lv' := [(0, .ref x0), (1, .int (x1 + v3)), (2, .int x2)]) d_N_boxesLoaded_26 rfl (by decide) rfl ?_
  refine s_iinc (v := x2 + 1) (lv' := [(0, .ref x0), (1, .int (x1 + v3)), (2, .int (x2 + 1))]) d_N_boxesLoaded_27 rfl rfl (by decide) rfl ?_
  refine s_goto (t := 4) d_N_boxesLoaded_30 (by decide) ?_
  exact k
theorem b_N_boxesLoaded_33 {d : Nat} {A : Nat → Prop} {h0 : ah_H} {h : ah_H} {x1 : Int32}  : ah_At mt_N_boxesLoaded d A h0 (.returned (some (.int x1))) h 33 [(1, .int x1)] [] h := by
  refine s_iload_n d_N_boxesLoaded_33 rfl rfl ?_
  exact e_iret (ty := .int) d_N_boxesLoaded_34 rfl rfl
theorem b_N_wagonOf_0 {d : Nat} {A : Nat → Prop} {h2 : ah_H} {o : Outcome} {h0 : ah_H} {h : ah_H} {x0 : Nat} {x1 : Int32} {v1 : Nat} {d' : Nat} {A' : Nat → Prop} {o' : Outcome} {h' : ah_H} (g1 : ah_sel h x0 3 0 = some (.ref v1)) (hE : ah_Ev mt_T_hasBox d' A' [.ref v1, .int x1] h o' h') (hdd : d' + 1 ≤ d) (hAA : ∀ q, A' q → A q) (k : ah_aft mt_N_wagonOf d A h0 o h2 5 [(0, .ref x0), (1, .int x1)] [] h' o') (hb : (ah_len h v1 4).isSome = true) : ah_At mt_N_wagonOf d A h0 o h2 0 [(0, .ref x0), (1, .int x1)] [] h := by
  refine s_aload_n d_N_wagonOf_0 rfl rfl ?_
  refine s_getfield (k := 0) d_N_wagonOf_1 kc3 (by decide) fl_N_40 g1 ?_
  refine s_iload_n d_N_wagonOf_4 rfl rfl ?_
  exact ah_callV (av := [.int x1]) (st := []) d_N_wagonOf_5 ml_N_75 mi_T_hasBox mv_T_hasBox kc4 hb hE hdd hAA rfl (Nat.le_of_ble_eq_true rfl) k
theorem b_N_wagonOf_8 {d : Nat} {A : Nat → Prop} {h2 : ah_H} {o : Outcome} {h0 : ah_H} {h : ah_H} {x0 : Nat} {x1 : Int32} {s0 : Int32} (kt : s0 = 0 → ah_At mt_N_wagonOf d A h0 o h2 20 [] [] h) (kf : ¬ (s0 = 0) → ah_At mt_N_wagonOf d A h0 o h2 11 [(0, .ref x0), (1, .int x1)] [] h) : ah_At mt_N_wagonOf d A h0 o h2 8 [(0, .ref x0), (1, .int x1)] [.int s0] h := by
  refine s_ifeq (t := 20) d_N_wagonOf_8 (by decide) (fun z => ?_) (fun z => ?_)
  · exact ah_At.sub [] rfl (kt z)
  · exact (kf z)
theorem b_N_wagonOf_11 {d : Nat} {A : Nat → Prop} {h2 : ah_H} {o : Outcome} {h0 : ah_H} {h : ah_H} {x0 : Nat} {x1 : Int32} {v1 : Nat} {v2 : Int32} {j2 : Nat} (g1 : ah_sel h x0 3 6 = some (.ref v1)) (i2 : ah_ix x1 j2) (g2 : ah_sel h v1 100 j2 = some (.int v2)) (k : ah_At mt_N_wagonOf d A h0 o h2 21 [] [.int v2] h) : ah_At mt_N_wagonOf d A h0 o h2 11 [(0, .ref x0), (1, .int x1)] [] h := by
  refine s_aload_n d_N_wagonOf_11 rfl rfl ?_
  refine s_getfield (k := 6) d_N_wagonOf_12 kc3 (by decide) fl_N_30 g1 ?_
  refine s_iload_n d_N_wagonOf_15 rfl rfl ?_
  refine s_iaload d_N_wagonOf_16 i2 g2 ?_
  refine s_goto (t := 21) d_N_wagonOf_17 (by decide) ?_
  exact ah_At.sub [] rfl k
theorem b_N_wagonOf_20 {d : Nat} {A : Nat → Prop} {h2 : ah_H} {o : Outcome} {h0 : ah_H} {h : ah_H}  (k : ah_At mt_N_wagonOf d A h0 o h2 21 [] [.int (-1)] h) : ah_At mt_N_wagonOf d A h0 o h2 20 [] [] h := by
  refine s_iconst (v := -1) d_N_wagonOf_20 (by decide) ?_
  exact k
theorem b_N_wagonOf_21 {d : Nat} {A : Nat → Prop} {h0 : ah_H} {h : ah_H} {s0 : Int32}  : ah_At mt_N_wagonOf d A h0 (.returned (some (.int s0))) h 21 [] [.int s0] h := by
  exact e_iret (ty := .int) d_N_wagonOf_21 rfl rfl
theorem b_N_patternOf_0 {d : Nat} {A : Nat → Prop} {h2 : ah_H} {o : Outcome} {h0 : ah_H} {h : ah_H} {x0 : Nat} {x1 : Int32} {v1 : Nat} {d' : Nat} {A' : Nat → Prop} {o' : Outcome} {h' : ah_H} (g1 : ah_sel h x0 3 0 = some (.ref v1)) (hE : ah_Ev mt_T_hasWagon d' A' [.ref v1, .int x1] h o' h') (hdd : d' + 1 ≤ d) (hAA : ∀ q, A' q → A q) (k : ah_aft mt_N_patternOf d A h0 o h2 5 [(0, .ref x0), (1, .int x1)] [] h' o') (hb : (ah_len h v1 4).isSome = true) : ah_At mt_N_patternOf d A h0 o h2 0 [(0, .ref x0), (1, .int x1)] [] h := by
  refine s_aload_n d_N_patternOf_0 rfl rfl ?_
  refine s_getfield (k := 0) d_N_patternOf_1 kc3 (by decide) fl_N_40 g1 ?_
  refine s_iload_n d_N_patternOf_4 rfl rfl ?_
  exact ah_callV (av := [.int x1]) (st := []) d_N_patternOf_5 ml_N_79 mi_T_hasWagon mv_T_hasWagon kc4 hb hE hdd hAA rfl (Nat.le_of_ble_eq_true rfl) k
theorem b_N_patternOf_8 {d : Nat} {A : Nat → Prop} {h2 : ah_H} {o : Outcome} {h0 : ah_H} {h : ah_H} {x0 : Nat} {x1 : Int32} {s0 : Int32} (kt : s0 = 0 → ah_At mt_N_patternOf d A h0 o h2 23 [] [] h) (kf : ¬ (s0 = 0) → ah_At mt_N_patternOf d A h0 o h2 11 [(0, .ref x0), (1, .int x1)] [] h) : ah_At mt_N_patternOf d A h0 o h2 8 [(0, .ref x0), (1, .int x1)] [.int s0] h := by
  refine s_ifeq (t := 23) d_N_patternOf_8 (by decide) (fun z => ?_) (fun z => ?_)
  · exact ah_At.sub [] rfl (kt z)
  · exact (kf z)
theorem b_N_patternOf_11 {d : Nat} {A : Nat → Prop} {h2 : ah_H} {o : Outcome} {h0 : ah_H} {h : ah_H} {x0 : Nat} {x1 : Int32} {v1 : Nat} {v2 : Nat} {j2 : Nat} {v3 : Int32} (g1 : ah_sel h x0 3 1 = some (.ref v1)) (i2 : ah_ix x1 j2) (g2 : ah_sel h v1 111 j2 = some (.ref v2)) (g3 : ah_sel h v2 1 2 = some (.int v3)) (kt : ¬ v3 = 0 → ah_At mt_N_patternOf d A h0 o h2 25 [(0, .ref x0), (1, .int x1)] [] h) (kf : ¬ (¬ v3 = 0) → ah_At mt_N_patternOf d A h0 o h2 23 [] [] h) : ah_At mt_N_patternOf d A h0 o h2 11 [(0, .ref x0), (1, .int x1)] [] h := by
  refine s_aload_n d_N_patternOf_11 rfl rfl ?_
  refine s_getfield (k := 1) d_N_patternOf_12 kc3 (by decide) fl_N_11 g1 ?_
  refine s_iload_n d_N_patternOf_15 rfl rfl ?_
  refine s_aaload (t := 111) ⟨rfl, by decide, rfl⟩ rfl d_N_patternOf_16 i2 g2 ?_
  refine s_getfield (k := 2) d_N_patternOf_17 kc1 (by decide) fl_N_72 g3 ?_
  refine s_ifne (t := 25) d_N_patternOf_20 (by decide) (fun z => ?_) (fun z => ?_)
  · exact (kt z)
  · exact ah_At.sub [] rfl (kf z)
theorem b_N_patternOf_23 {d : Nat} {A : Nat → Prop} {h0 : ah_H} {h : ah_H}   : ah_At mt_N_patternOf d A h0 (.returned (some (.int (-1)))) h 23 [] [] h := by
  refine s_iconst (v := -1) d_N_patternOf_23 (by decide) ?_
  exact e_iret (ty := .int) d_N_patternOf_24 rfl rfl
theorem b_N_patternOf_25 {d : Nat} {A : Nat → Prop} {h2 : ah_H} {o : Outcome} {h0 : ah_H} {h : ah_H} {x0 : Nat} {x1 : Int32} {v1 : Nat} {v2 : Nat} {v3 : Nat} {j3 : Nat} {v4 : Nat} {v5 : Nat} {j5 : Nat} {d' : Nat} {A' : Nat → Prop} {o' : Outcome} {h' : ah_H} (g1 : ah_sel h x0 3 0 = some (.ref v1)) (g2 : ah_sel h v1 4 0 = some (.ref v2)) (i3 : ah_ix x1 j3) (g3 : ah_sel h v2 115 j3 = some (.ref v3)) (g4 : ah_sel h x0 3 1 = some (.ref v4)) (i5 : ah_ix x1 j5) (g5 : ah_sel h v4 111 j5 = some (.ref v5)) (hE : ah_Ev mt_G_leastPattern d' A' [.ref v3, .ref v5, .int 0] h o' h') (hdd : d' + 1 ≤ d) (hAA : ∀ q, A' q → A q) (k : ah_aft mt_N_patternOf d A h0 o h2 41 [] [] h' o') (hb : (ah_len h v3 5).isSome = true) : ah_At mt_N_patternOf d A h0 o h2 25 [(0, .ref x0), (1, .int x1)] [] h := by
  refine s_aload_n d_N_patternOf_25 rfl rfl ?_
  refine s_getfield (k := 0) d_N_patternOf_26 kc3 (by decide) fl_N_40 g1 ?_
  refine s_getfield (k := 0) d_N_patternOf_29 kc4 (by decide) fl_N_82 g2 ?_
  refine s_iload_n d_N_patternOf_32 rfl rfl ?_
  refine s_aaload (t := 115) ⟨rfl, by decide, rfl⟩ rfl d_N_patternOf_33 i3 g3 ?_
  refine s_aload_n d_N_patternOf_34 rfl rfl ?_
  refine s_getfield (k := 1) d_N_patternOf_35 kc3 (by decide) fl_N_11 g4 ?_
  refine s_iload_n d_N_patternOf_38 rfl rfl ?_
  refine s_aaload (t := 111) ⟨rfl, by decide, rfl⟩ rfl d_N_patternOf_39 i5 g5 ?_
  refine s_iconst (v := 0) d_N_patternOf_40 (by decide) ?_
  refine ah_At.sub [] rfl ?_
  exact ah_callV (av := [.ref v5, .int 0]) (st := []) d_N_patternOf_41 ml_N_86 mi_G_leastPattern mv_G_leastPattern kc5 hb hE hdd hAA rfl (Nat.le_of_ble_eq_true rfl) k
theorem b_N_patternOf_44 {d : Nat} {A : Nat → Prop} {h0 : ah_H} {h : ah_H} {s0 : Int32}  : ah_At mt_N_patternOf d A h0 (.returned (some (.int s0))) h 44 [] [.int s0] h := by
  exact e_iret (ty := .int) d_N_patternOf_44 rfl rfl
theorem b_N_placeOf_0 {d : Nat} {A : Nat → Prop} {h2 : ah_H} {o : Outcome} {h0 : ah_H} {h : ah_H} {x0 : Nat} {x1 : Int32} {d' : Nat} {A' : Nat → Prop} {o' : Outcome} {h' : ah_H} (hE : ah_Ev mt_N_wagonOf d' A' [.ref x0, .int x1] h o' h') (hdd : d' + 1 ≤ d) (hAA : ∀ q, A' q → A q) (k : ah_aft mt_N_placeOf d A h0 o h2 2 [(0, .ref x0), (1, .int x1)] [] h' o') (hb : (ah_len h x0 3).isSome = true) : ah_At mt_N_placeOf d A h0 o h2 0 [(0, .ref x0), (1, .int x1)] [] h := by
  refine s_aload_n d_N_placeOf_0 rfl rfl ?_
  refine s_iload_n d_N_placeOf_1 rfl rfl ?_
  exact ah_callV (av := [.int x1]) (st := []) d_N_placeOf_2 ml_N_92 mi_N_wagonOf mv_N_wagonOf kc3 hb hE hdd hAA rfl (Nat.le_of_ble_eq_true rfl) k
theorem b_N_placeOf_5 {d : Nat} {A : Nat → Prop} {h2 : ah_H} {o : Outcome} {h0 : ah_H} {h : ah_H} {x0 : Nat} {x1 : Int32} {s0 : Int32} {d' : Nat} {A' : Nat → Prop} {o' : Outcome} {h' : ah_H} (hE : ah_Ev mt_N_patternOf d' A' [.ref x0, .int s0] h o' h') (hdd : d' + 1 ≤ d) (hAA : ∀ q, A' q → A q) (k : ah_aft mt_N_placeOf d A h0 o h2 8 [(0, .ref x0), (1, .int x1), (2, .int s0)] [] h' o') (hb : (ah_len h x0 3).isSome = true) : ah_At mt_N_placeOf d A h0 o h2 5 [(0, .ref x0), (1, .int x1)] [.int s0] h := by
  refine s_istore_n (lv' := [(0, .ref x0), (1, .int x1), (2, .int s0)]) d_N_placeOf_5 rfl (by decide) rfl ?_
  refine s_aload_n d_N_placeOf_6 rfl rfl ?_
  refine s_iload_n d_N_placeOf_7 rfl rfl ?_
  exact ah_callV (av := [.int s0]) (st := []) d_N_placeOf_8 ml_N_96 mi_N_patternOf mv_N_patternOf kc3 hb hE hdd hAA rfl (Nat.le_of_ble_eq_true rfl) k
theorem b_N_placeOf_11 {d : Nat} {A : Nat → Prop} {h2 : ah_H} {o : Outcome} {h0 : ah_H} {h : ah_H} {x0 : Nat} {x1 : Int32} {x2 : Int32} {s0 : Int32} (kt : ¬ s0 = (-1) → ah_At mt_N_placeOf d A h0 o h2 19 [(0, .ref x0), (1, .int x1), (2, .int x2), (3, .int s0)] [] h) (kf : ¬ (¬ s0 = (-1)) → ah_At mt_N_placeOf d A h0 o h2 17 [] [] h) : ah_At mt_N_placeOf d A h0 o h2 11 [(0, .ref x0), (1, .int x1), (2, .int x2)] [.int s0] h := by
  refine s_istore_n (lv' := [(0, .ref x0), (1, .int x1), (2, .int x2), (3, .int s0)]) d_N_placeOf_11 rfl (by decide) rfl ?_
  refine s_iload_n d_N_placeOf_12 rfl rfl ?_
  refine s_iconst (v := -1) d_N_placeOf_13 (by decide) ?_
  refine s_if_icmpne (t := 19) d_N_placeOf_14 (by decide) (fun z => ?_) (fun z => ?_)
  · exact (kt z)
  · exact ah_At.sub [] rfl (kf z)
theorem b_N_placeOf_17 {d : Nat} {A : Nat → Prop} {h0 : ah_H} {h : ah_H}   : ah_At mt_N_placeOf d A h0 (.returned (some (.int (-1)))) h 17 [] [] h := by
  refine s_iconst (v := -1) d_N_placeOf_17 (by decide) ?_
  exact e_iret (ty := .int) d_N_placeOf_18 rfl rfl
theorem b_N_placeOf_19 {d : Nat} {A : Nat → Prop} {h2 : ah_H} {o : Outcome} {h0 : ah_H} {h : ah_H} {x0 : Nat} {x1 : Int32} {x2 : Int32} {x3 : Int32} {v1 : Nat} {v2 : Nat} {v3 : Nat} {j3 : Nat} {v4 : Int32} (g1 : ah_sel h x0 3 0 = some (.ref v1)) (g2 : ah_sel h v1 4 2 = some (.ref v2)) (i3 : ah_ix x1 j3) (g3 : ah_sel h v2 110 j3 = some (.ref v3)) (g4 : ah_sel h v3 0 0 = some (.int v4)) (k : ah_At mt_N_placeOf d A h0 o h2 39 [(0, .ref x0), (1, .int x1), (2, .int x2), (3, .int x3), (4, .int v4), (5, .int 0), (6, .int 0)] [] h) : ah_At mt_N_placeOf d A h0 o h2 19 [(0, .ref x0), (1, .int x1), (2, .int x2), (3, .int x3)] [] h := by
  refine s_aload_n d_N_placeOf_19 rfl rfl ?_
  refine s_getfield (k := 0) d_N_placeOf_20 kc3 (by decide) fl_N_40 g1 ?_
  refine s_getfield (k := 2) d_N_placeOf_23 kc4 (by decide) fl_N_99 g2 ?_
  refine s_iload_n d_N_placeOf_26 rfl rfl ?_
  refine s_aaload (t := 110) ⟨rfl, by decide, rfl⟩ rfl d_N_placeOf_27 i3 g3 ?_
  refine s_getfield (k := 0) d_N_placeOf_28 kc0 (by decide) fl_N_103 g4 ?_
  refine s_istore (lv' := [(0, .ref x0), (1, .int x1), (2, .int x2), (3, .int x3), (4, .int v4)]) d_N_placeOf_31 (by decide) rfl ?_
  refine s_iconst (v := 0) d_N_placeOf_33 (by decide) ?_
  refine s_istore (lv' := [(0, .ref x0), (1, .int x1), (2, .int x2), (3, .int x3), (4, .int v4), (5, .int 0)]) d_N_placeOf_34 (by decide) rfl ?_
  refine s_iconst (v := 0) d_N_placeOf_36 (by decide) ?_
  refine s_istore (lv' := [(0, .ref x0), (1, .int x1), (2, .int x2), (3, .int x3), (4, .int v4), (5, .int 0), (6, .int 0)]) d_N_placeOf_37 (by decide) rfl ?_
  exact k
theorem b_N_placeOf_39 {d : Nat} {A : Nat → Prop} {h2 : ah_H} {o : Outcome} {h0 : ah_H} {h : ah_H} {x0 : Nat} {x1 : Int32} {x2 : Int32} {x3 : Int32} {x4 : Int32} {x5 : Int32} {x6 : Int32} (kt : x1 ≤ x6 → ah_At mt_N_placeOf d A h0 o h2 83 [(0, .ref x0), (2, .int x2), (3, .int x3), (4, .int x4), (5, .int x5)] [] h) (kf : ¬ (x1 ≤ x6) → ah_At mt_N_placeOf d A h0 o h2 45 [(0, .ref x0), (1, .int x1), (2, .int x2), (3, .int x3), (4, .int x4), (5, .int x5), (6, .int x6)] [] h) : ah_At mt_N_placeOf d A h0 o h2 39 [(0, .ref x0), (1, .int x1), (2, .int x2), (3, .int x3), (4, .int x4), (5, .int x5), (6, .int x6)] [] h := by
  refine s_iload d_N_placeOf_39 rfl ?_
  refine s_iload_n d_N_placeOf_41 rfl rfl ?_
  refine s_if_icmpge (t := 83) d_N_placeOf_42 (by decide) (fun z => ?_) (fun z => ?_)
  · exact ah_At.sub [0, 2, 3, 4, 5] rfl (kt z)
  · exact (kf z)
theorem b_N_placeOf_45 {d : Nat} {A : Nat → Prop} {h2 : ah_H} {o : Outcome} {h0 : ah_H} {h : ah_H} {x0 : Nat} {x1 : Int32} {x2 : Int32} {x3 : Int32} {x4 : Int32} {x5 : Int32} {x6 : Int32} {v1 : Nat} {v2 : Int32} {j2 : Nat} (g1 : ah_sel h x0 3 6 = some (.ref v1)) (i2 : ah_ix x6 j2) (g2 : ah_sel h v1 100 j2 = some (.int v2)) (kt : ¬ v2 = x2 → ah_At mt_N_placeOf d A h0 o h2 77 [(0, .ref x0), (1, .int x1), (2, .int x2), (3, .int x3), (4, .int x4), (5, .int x5), (6, .int x6)] [] h) (kf : ¬ (¬ v2 = x2) → ah_At mt_N_placeOf d A h0 o h2 56 [(0, .ref x0), (1, .int x1), (2, .int x2), (3, .int x3), (4, .int x4), (5, .int x5), (6, .int x6)] [] h) : ah_At mt_N_placeOf d A h0 o h2 45 [(0, .ref x0), (1, .int x1), (2, .int x2), (3, .int x3), (4, .int x4), (5, .int x5), (6, .int x6)] [] h := by
  refine s_aload_n d_N_placeOf_45 rfl rfl ?_
  refine s_getfield (k := 6) d_N_placeOf_46 kc3 (by decide) fl_N_30 g1 ?_
  refine s_iload d_N_placeOf_49 rfl ?_
  refine s_iaload d_N_placeOf_51 i2 g2 ?_
  refine s_iload_n d_N_placeOf_52 rfl rfl ?_
  refine s_if_icmpne (t := 77) d_N_placeOf_53 (by decide) (fun z => ?_) (fun z => ?_)
  · exact (kt z)
  · exact (kf z)
theorem b_N_placeOf_56 {d : Nat} {A : Nat → Prop} {h2 : ah_H} {o : Outcome} {h0 : ah_H} {h : ah_H} {x0 : Nat} {x1 : Int32} {x2 : Int32} {x3 : Int32} {x4 : Int32} {x5 : Int32} {x6 : Int32} {v1 : Nat} {v2 : Nat} {v3 : Nat} {j3 : Nat} {v4 : Int32} (g1 : ah_sel h x0 3 0 = some (.ref v1)) (g2 : ah_sel h v1 4 2 = some (.ref v2)) (i3 : ah_ix x6 j3) (g3 : ah_sel h v2 110 j3 = some (.ref v3)) (g4 : ah_sel h v3 0 0 = some (.int v4)) (kt : ¬ v4 = x4 → ah_At mt_N_placeOf d A h0 o h2 77 [(0, .ref x0), (1, .int x1), (2, .int x2), (3, .int x3), (4, .int x4), (5, .int x5), (6, .int x6)] [] h) (kf : ¬ (¬ v4 = x4) → ah_At mt_N_placeOf d A h0 o h2 74 [(0, .ref x0), (1, .int x1), (2, .int x2), (3, .int x3), (4, .int x4), (5, .int x5), (6, .int x6)] [] h) : ah_At mt_N_placeOf d A h0 o h2 56 [(0, .ref x0), (1, .int x1), (2, .int x2), (3, .int x3), (4, .int x4), (5, .int x5), (6, .int x6)] [] h := by
  refine s_aload_n d_N_placeOf_56 rfl rfl ?_
  refine s_getfield (k := 0) d_N_placeOf_57 kc3 (by decide) fl_N_40 g1 ?_
  refine s_getfield (k := 2) d_N_placeOf_60 kc4 (by decide) fl_N_99 g2 ?_
  refine s_iload d_N_placeOf_63 rfl ?_
  refine s_aaload (t := 110) ⟨rfl, by decide, rfl⟩ rfl d_N_placeOf_65 i3 g3 ?_
  refine s_getfield (k := 0) d_N_placeOf_66 kc0 (by decide) fl_N_103 g4 ?_
  refine s_iload d_N_placeOf_69 rfl ?_
  refine s_if_icmpne (t := 77) d_N_placeOf_71 (by decide) (fun z => ?_) (fun z => ?_)
  · exact (kt z)
  · exact (kf z)
theorem b_N_placeOf_74 {d : Nat} {A : Nat → Prop} {h2 : ah_H} {o : Outcome} {h0 : ah_H} {h : ah_H} {x0 : Nat} {x1 : Int32} {x2 : Int32} {x3 : Int32} {x4 : Int32} {x5 : Int32} {x6 : Int32} (k : ah_At mt_N_placeOf d A h0 o h2 77 [(0, .ref x0), (1, .int x1), (2, .int x2), (3, .int x3), (4, .int x4), (5, .int (x5 + 1)), (6, .int x6)] [] h) : ah_At mt_N_placeOf d A h0 o h2 74 [(0, .ref x0), (1, .int x1), (2, .int x2), (3, .int x3), (4, .int x4), (5, .int x5), (6, .int x6)] [] h := by
  refine s_iinc (v := x5 + 1) (lv' := [(0, .ref x0), (1, .int x1), (2, .int x2), (3, .int x3), (4, .int x4), (5, .int (x5 + 1)), (6, .int x6)]) d_N_placeOf_74 rfl rfl (by decide) rfl ?_
  exact k
theorem b_N_placeOf_77 {d : Nat} {A : Nat → Prop} {h2 : ah_H} {o : Outcome} {h0 : ah_H} {h : ah_H} {x0 : Nat} {x1 : Int32} {x2 : Int32} {x3 : Int32} {x4 : Int32} {x5 : Int32} {x6 : Int32} (k : ah_At mt_N_placeOf d A h0 o h2 39 [(0, .ref x0), (1, .int x1), (2, .int x2), (3, .int x3), (4, .int x4), (5, .int x5), (6, .int (x6 + 1))] [] h) : ah_At mt_N_placeOf d A h0 o h2 77 [(0, .ref x0), (1, .int x1), (2, .int x2), (3, .int x3), (4, .int x4), (5, .int x5), (6, .int x6)] [] h := by
  refine s_iinc (v := x6 + 1) (lv' := [(0, .ref x0), (1, .int x1), (2, .int x2), (3, .int x3), (4, .int x4), (5, .int x5), (6, .int (x6 + 1))]) d_N_placeOf_77 rfl rfl (by decide) rfl ?_
  refine s_goto (t := 39) d_N_placeOf_80 (by decide) ?_
  exact k
theorem b_N_placeOf_83 {d : Nat} {A : Nat → Prop} {h2 : ah_H} {o : Outcome} {h0 : ah_H} {h : ah_H} {x0 : Nat} {x2 : Int32} {x3 : Int32} {x4 : Int32} {x5 : Int32} {v1 : Nat} {v2 : Nat} {v3 : Nat} {j3 : Nat} {v4 : Nat} {v5 : Nat} {j5 : Nat} {d' : Nat} {A' : Nat → Prop} {o' : Outcome} {h' : ah_H} (g1 : ah_sel h x0 3 0 = some (.ref v1)) (g2 : ah_sel h v1 4 0 = some (.ref v2)) (i3 : ah_ix x2 j3) (g3 : ah_sel h v2 115 j3 = some (.ref v3)) (g4 : ah_sel h v3 5 0 = some (.ref v4)) (i5 : ah_ix x3 j5) (g5 : ah_sel h v4 112 j5 = some (.ref v5)) (hE : ah_Ev mt_P_placeBehind d' A' [.ref v5, .int x4, .int x5] h o' h') (hdd : d' + 1 ≤ d) (hAA : ∀ q, A' q → A q) (k : ah_aft mt_N_placeOf d A h0 o h2 101 [] [] h' o') (hb : (ah_len h v5 2).isSome = true) : ah_At mt_N_placeOf d A h0 o h2 83 [(0, .ref x0), (2, .int x2), (3, .int x3), (4, .int x4), (5, .int x5)] [] h := by
  refine s_aload_n d_N_placeOf_83 rfl rfl ?_
  refine s_getfield (k := 0) d_N_placeOf_84 kc3 (by decide) fl_N_40 g1 ?_
  refine s_getfield (k := 0) d_N_placeOf_87 kc4 (by decide) fl_N_82 g2 ?_
  refine s_iload_n d_N_placeOf_90 rfl rfl ?_
  refine s_aaload (t := 115) ⟨rfl, by decide, rfl⟩ rfl d_N_placeOf_91 i3 g3 ?_
  refine s_getfield (k := 0) d_N_placeOf_92 kc5 (by decide) fl_N_108 g4 ?_
  refine s_iload_n d_N_placeOf_95 rfl rfl ?_
  refine s_aaload (t := 112) ⟨rfl, by decide, rfl⟩ rfl d_N_placeOf_96 i5 g5 ?_
  refine s_iload d_N_placeOf_97 rfl ?_
  refine s_iload d_N_placeOf_99 rfl ?_
  refine ah_At.sub [] rfl ?_
  exact ah_callV (av := [.int x4, .int x5]) (st := []) d_N_placeOf_101 ml_N_112 mi_P_placeBehind mv_P_placeBehind kc2 hb hE hdd hAA rfl (Nat.le_of_ble_eq_true rfl) k
theorem b_N_placeOf_104 {d : Nat} {A : Nat → Prop} {h0 : ah_H} {h : ah_H} {s0 : Int32}  : ah_At mt_N_placeOf d A h0 (.returned (some (.int s0))) h 104 [] [.int s0] h := by
  exact e_iret (ty := .int) d_N_placeOf_104 rfl rfl
theorem b_N_leftBehind_0 {d : Nat} {A : Nat → Prop} {h2 : ah_H} {o : Outcome} {h0 : ah_H} {h : ah_H} {x0 : Nat} {x1 : Int32} (k : ah_At mt_N_leftBehind d A h0 o h2 4 [(0, .ref x0), (1, .int x1), (2, .int 0), (3, .int 0)] [] h) : ah_At mt_N_leftBehind d A h0 o h2 0 [(0, .ref x0), (1, .int x1)] [] h := by
  refine s_iconst (v := 0) d_N_leftBehind_0 (by decide) ?_
  refine s_istore_n (lv' := [(0, .ref x0), (1, .int x1), (2, .int 0)]) d_N_leftBehind_1 rfl (by decide) rfl ?_
  refine s_iconst (v := 0) d_N_leftBehind_2 (by decide) ?_
  refine s_istore_n (lv' := [(0, .ref x0), (1, .int x1), (2, .int 0), (3, .int 0)]) d_N_leftBehind_3 rfl (by decide) rfl ?_
  exact k
theorem b_N_leftBehind_4 {d : Nat} {A : Nat → Prop} {h2 : ah_H} {o : Outcome} {h0 : ah_H} {h : ah_H} {x0 : Nat} {x1 : Int32} {x2 : Int32} {x3 : Int32} {v1 : Nat} {v2 : Int32} (g1 : ah_sel h x0 3 0 = some (.ref v1)) (g2 : ah_sel h v1 4 3 = some (.int v2)) (kt : v2 ≤ x3 → ah_At mt_N_leftBehind d A h0 o h2 51 [] [] h) (kf : ¬ (v2 ≤ x3) → ah_At mt_N_leftBehind d A h0 o h2 15 [(0, .ref x0), (1, .int x1), (2, .int x2), (3, .int x3)] [] h) : ah_At mt_N_leftBehind d A h0 o h2 4 [(0, .ref x0), (1, .int x1), (2, .int x2), (3, .int x3)] [] h := by
  refine s_iload_n d_N_leftBehind_4 rfl rfl ?_
  refine s_aload_n d_N_leftBehind_5 rfl rfl ?_
  refine s_getfield (k := 0) d_N_leftBehind_6 kc3 (by decide) fl_N_40 g1 ?_
  refine s_getfield (k := 3) d_N_leftBehind_9 kc4 (by decide) fl_N_118 g2 ?_
  refine s_if_icmpge (t := 51) d_N_leftBehind_12 (by decide) (fun z => ?_) (fun z => ?_)
  · exact ah_At.sub [] rfl (kt z)
  · exact (kf z)
theorem b_N_leftBehind_15 {d : Nat} {A : Nat → Prop} {h2 : ah_H} {o : Outcome} {h0 : ah_H} {h : ah_H} {x0 : Nat} {x1 : Int32} {x2 : Int32} {x3 : Int32} {v1 : Nat} {v2 : Int32} {j2 : Nat} {v3 : Nat} {v4 : Int32} {j4 : Nat} (g1 : ah_sel h x0 3 2 = some (.ref v1)) (i2 : ah_ix x3 j2) (g2 : ah_sel h v1 100 j2 = some (.int v2)) (g3 : ah_sel h x0 3 6 = some (.ref v3)) (i4 : ah_ix v2 j4) (g4 : ah_sel h v3 100 j4 = some (.int v4)) (kt : ¬ v4 = (-1) → ah_At mt_N_leftBehind d A h0 o h2 45 [(0, .ref x0), (1, .int x1), (2, .int x2), (3, .int x3)] [] h) (kf : ¬ (¬ v4 = (-1)) → ah_At mt_N_leftBehind d A h0 o h2 34 [(0, .ref x0), (1, .int x1), (2, .int x2), (3, .int x3), (4, .int v2)] [] h) : ah_At mt_N_leftBehind d A h0 o h2 15 [(0, .ref x0), (1, .int x1), (2, .int x2), (3, .int x3)] [] h := by
  refine s_aload_n d_N_leftBehind_15 rfl rfl ?_
  refine s_getfield (k := 2) d_N_leftBehind_16 kc3 (by decide) fl_N_17 g1 ?_
  refine s_iload_n d_N_leftBehind_19 rfl rfl ?_
  refine s_iaload d_N_leftBehind_20 i2 g2 ?_
  refine s_istore (lv' := [(0, .ref x0), (1, .int x1), (2, .int x2), (3, .int x3), (4, .int v2)]) d_N_leftBehind_21 (by decide) rfl ?_
  refine s_aload_n d_N_leftBehind_23 rfl rfl ?_
  refine s_getfield (k := 6) d_N_leftBehind_24 kc3 (by decide) fl_N_30 g3 ?_
  refine s_iload d_N_leftBehind_27 rfl ?_
  refine s_iaload d_N_leftBehind_29 i4 g4 ?_
  refine s_iconst (v := -1) d_N_leftBehind_30 (by decide) ?_
  refine s_if_icmpne (t := 45) d_N_leftBehind_31 (by decide) (fun z => ?_) (fun z => ?_)
  · exact ah_At.sub [0, 1, 2, 3] rfl (kt z)
  · exact (kf z)
theorem b_N_leftBehind_34 {d : Nat} {A : Nat → Prop} {h2 : ah_H} {o : Outcome} {h0 : ah_H} {h : ah_H} {x0 : Nat} {x1 : Int32} {x2 : Int32} {x3 : Int32} {x4 : Int32} (kt : ¬ x2 = x1 → ah_At mt_N_leftBehind d A h0 o h2 42 [(0, .ref x0), (1, .int x1), (2, .int x2), (3, .int x3)] [] h) (kf : ¬ (¬ x2 = x1) → ah_At mt_N_leftBehind d A h0 o h2 39 [(4, .int x4)] [] h) : ah_At mt_N_leftBehind d A h0 o h2 34 [(0, .ref x0), (1, .int x1), (2, .int x2), (3, .int x3), (4, .int x4)] [] h := by
  refine s_iload_n d_N_leftBehind_34 rfl rfl ?_
  refine s_iload_n d_N_leftBehind_35 rfl rfl ?_
  refine s_if_icmpne (t := 42) d_N_leftBehind_36 (by decide) (fun z => ?_) (fun z => ?_)
  · exact ah_At.sub [0, 1, 2, 3] rfl (kt z)
  · exact ah_At.sub [4] rfl (kf z)
theorem b_N_leftBehind_39 {d : Nat} {A : Nat → Prop} {h0 : ah_H} {h : ah_H} {x4 : Int32}  : ah_At mt_N_leftBehind d A h0 (.returned (some (.int x4))) h 39 [(4, .int x4)] [] h := by
  refine s_iload d_N_leftBehind_39 rfl ?_
  exact e_iret (ty := .int) d_N_leftBehind_41 rfl rfl
theorem b_N_leftBehind_42 {d : Nat} {A : Nat → Prop} {h2 : ah_H} {o : Outcome} {h0 : ah_H} {h : ah_H} {x0 : Nat} {x1 : Int32} {x2 : Int32} {x3 : Int32} (k : ah_At mt_N_leftBehind d A h0 o h2 45 [(0, .ref x0), (1, .int x1), (2, .int (x2 + 1)), (3, .int x3)] [] h) : ah_At mt_N_leftBehind d A h0 o h2 42 [(0, .ref x0), (1, .int x1), (2, .int x2), (3, .int x3)] [] h := by
  refine s_iinc (v := x2 + 1) (lv' := [(0, .ref x0), (1, .int x1), (2, .int (x2 + 1)), (3, .int x3)]) d_N_leftBehind_42 rfl rfl (by decide) rfl ?_
  exact k
theorem b_N_leftBehind_45 {d : Nat} {A : Nat → Prop} {h2 : ah_H} {o : Outcome} {h0 : ah_H} {h : ah_H} {x0 : Nat} {x1 : Int32} {x2 : Int32} {x3 : Int32} (k : ah_At mt_N_leftBehind d A h0 o h2 4 [(0, .ref x0), (1, .int x1), (2, .int x2), (3, .int (x3 + 1))] [] h) : ah_At mt_N_leftBehind d A h0 o h2 45 [(0, .ref x0), (1, .int x1), (2, .int x2), (3, .int x3)] [] h := by
  refine s_iinc (v := x3 + 1) (lv' := [(0, .ref x0), (1, .int x1), (2, .int x2), (3, .int (x3 + 1))]) d_N_leftBehind_45 rfl rfl (by decide) rfl ?_
  refine s_goto (t := 4) d_N_leftBehind_48 (by decide) ?_
  exact k
theorem b_N_leftBehind_51 {d : Nat} {A : Nat → Prop} {h0 : ah_H} {h : ah_H}   : ah_At mt_N_leftBehind d A h0 (.returned (some (.int (-1)))) h 51 [] [] h := by
  refine s_iconst (v := -1) d_N_leftBehind_51 (by decide) ?_
  exact e_iret (ty := .int) d_N_leftBehind_52 rfl rfl
theorem b_N_clearLoads_0 {d : Nat} {A : Nat → Prop} {h2 : ah_H} {o : Outcome} {h0 : ah_H} {h : ah_H} {x0 : Nat} (k : ah_At mt_N_clearLoads d A h0 o h2 2 [(0, .ref x0), (1, .int 0)] [] h) : ah_At mt_N_clearLoads d A h0 o h2 0 [(0, .ref x0)] [] h := by
  refine s_iconst (v := 0) d_N_clearLoads_0 (by decide) ?_
  refine s_istore_n (lv' := [(0, .ref x0), (1, .int 0)]) d_N_clearLoads_1 rfl (by decide) rfl ?_
  exact k
theorem b_N_clearLoads_2 {d : Nat} {A : Nat → Prop} {h2 : ah_H} {o : Outcome} {h0 : ah_H} {h : ah_H} {x0 : Nat} {x1 : Int32} (kt : 3 ≤ x1 → ah_At mt_N_clearLoads d A h0 o h2 22 [] [] h) (kf : ¬ (3 ≤ x1) → ah_At mt_N_clearLoads d A h0 o h2 7 [(0, .ref x0), (1, .int x1)] [] h) : ah_At mt_N_clearLoads d A h0 o h2 2 [(0, .ref x0), (1, .int x1)] [] h := by
  refine s_iload_n d_N_clearLoads_2 rfl rfl ?_
  refine s_iconst (v := 3) d_N_clearLoads_3 (by decide) ?_
  refine s_if_icmpge (t := 22) d_N_clearLoads_4 (by decide) (fun z => ?_) (fun z => ?_)
  · exact ah_At.sub [] rfl (kt z)
  · exact (kf z)
theorem b_N_clearLoads_7 {d : Nat} {A : Nat → Prop} {h2 : ah_H} {o : Outcome} {h0 : ah_H} {h : ah_H} {x0 : Nat} {x1 : Int32} {v1 : Nat} {v2 : Nat} {j2 : Nat} {d' : Nat} {A' : Nat → Prop} {o' : Outcome} {h' : ah_H} (g1 : ah_sel h x0 3 1 = some (.ref v1)) (i2 : ah_ix x1 j2) (g2 : ah_sel h v1 111 j2 = some (.ref v2)) (hE : ah_Ev mt_L_clear d' A' [.ref v2] h o' h') (hdd : d' + 1 ≤ d) (hAA : ∀ q, A' q → A q) (k : ah_aft mt_N_clearLoads d A h0 o h2 13 [(0, .ref x0), (1, .int x1)] [] h' o') (hb : (ah_len h v2 1).isSome = true) : ah_At mt_N_clearLoads d A h0 o h2 7 [(0, .ref x0), (1, .int x1)] [] h := by
  refine s_aload_n d_N_clearLoads_7 rfl rfl ?_
  refine s_getfield (k := 1) d_N_clearLoads_8 kc3 (by decide) fl_N_11 g1 ?_
  refine s_iload_n d_N_clearLoads_11 rfl rfl ?_
  refine s_aaload (t := 111) ⟨rfl, by decide, rfl⟩ rfl d_N_clearLoads_12 i2 g2 ?_
  exact ah_callV (av := []) (st := []) d_N_clearLoads_13 ml_N_119 mi_L_clear mv_L_clear kc1 hb hE hdd hAA rfl (Nat.le_of_ble_eq_true rfl) k
theorem b_N_clearLoads_16 {d : Nat} {A : Nat → Prop} {h2 : ah_H} {o : Outcome} {h0 : ah_H} {h : ah_H} {x0 : Nat} {x1 : Int32} (k : ah_At mt_N_clearLoads d A h0 o h2 2 [(0, .ref x0), (1, .int (x1 + 1))] [] h) : ah_At mt_N_clearLoads d A h0 o h2 16 [(0, .ref x0), (1, .int x1)] [] h := by
  refine s_iinc (v := x1 + 1) (lv' := [(0, .ref x0), (1, .int (x1 + 1))]) d_N_clearLoads_16 rfl rfl (by decide) rfl ?_
  refine s_goto (t := 2) d_N_clearLoads_19 (by decide) ?_
  exact k
theorem b_N_clearLoads_22 {d : Nat} {A : Nat → Prop} {h0 : ah_H} {h : ah_H}   : ah_At mt_N_clearLoads d A h0 (.returned none) h 22 [] [] h := by
  exact e_vret d_N_clearLoads_22 rfl
theorem b_N_weighBoxes_0 {d : Nat} {A : Nat → Prop} {h2 : ah_H} {o : Outcome} {h0 : ah_H} {h : ah_H} {x0 : Nat} {v1 : Nat} {v2 : Nat} {v3 : Int32} {j4 : Nat} {v5 : Nat} {v6 : Int32} (g1 : ah_sel h x0 3 4 = some (.ref v1)) (g2 : ah_sel h x0 3 0 = some (.ref v2)) (g3 : ah_sel h v2 4 3 = some (.int v3)) (w4 : A v1) (i4 : ah_ix v3 j4) (e4 : (ah_sel h v1 100 j4).isSome = true) (g5 : ah_sel (ah_sto h v1 j4 (.int 0)) x0 3 0 = some (.ref v5)) (g6 : ah_sel (ah_sto h v1 j4 (.int 0)) v5 4 3 = some (.int v6)) (k : ah_At mt_N_weighBoxes d A h0 o h2 23 [(0, .ref x0), (1, .int (v6 - 1))] [] (ah_sto h v1 j4 (.int 0))) : ah_At mt_N_weighBoxes d A h0 o h2 0 [(0, .ref x0)] [] h := by
  refine s_aload_n d_N_weighBoxes_0 rfl rfl ?_
  refine s_getfield (k := 4) d_N_weighBoxes_1 kc3 (by decide) fl_N_24 g1 ?_
  refine s_aload_n d_N_weighBoxes_4 rfl rfl ?_
  refine s_getfield (k := 0) d_N_weighBoxes_5 kc3 (by decide) fl_N_40 g2 ?_
  refine s_getfield (k := 3) d_N_weighBoxes_8 kc4 (by decide) fl_N_118 g3 ?_
  refine s_iconst (v := 0) d_N_weighBoxes_11 (by decide) ?_
  refine s_iastore d_N_weighBoxes_12 w4 i4 e4 ?_
  refine s_aload_n d_N_weighBoxes_13 rfl rfl ?_
  refine s_getfield (k := 0) d_N_weighBoxes_14 kc3 (by decide) fl_N_40 g5 ?_
  refine s_getfield (k := 3) d_N_weighBoxes_17 kc4 (by decide) fl_N_118 g6 ?_
  refine s_iconst (v := 1) d_N_weighBoxes_20 (by decide) ?_
  refine s_isub d_N_weighBoxes_21 ?_
  refine s_istore_n (lv' := [(0, .ref x0), (1, .int (v6 - 1))]) d_N_weighBoxes_22 rfl (by decide) rfl ?_
  exact k
theorem b_N_weighBoxes_23 {d : Nat} {A : Nat → Prop} {h2 : ah_H} {o : Outcome} {h0 : ah_H} {h : ah_H} {x0 : Nat} {x1 : Int32} (kt : x1 < 0 → ah_At mt_N_weighBoxes d A h0 o h2 115 [] [] h) (kf : ¬ (x1 < 0) → ah_At mt_N_weighBoxes d A h0 o h2 27 [(0, .ref x0), (1, .int x1)] [] h) : ah_At mt_N_weighBoxes d A h0 o h2 23 [(0, .ref x0), (1, .int x1)] [] h := by
  refine s_iload_n d_N_weighBoxes_23 rfl rfl ?_
  refine s_iflt (t := 115) d_N_weighBoxes_24 (by decide) (fun z => ?_) (fun z => ?_)
  · exact ah_At.sub [] rfl (kt z)
  · exact (kf z)
theorem b_N_weighBoxes_27 {d : Nat} {A : Nat → Prop} {h2 : ah_H} {o : Outcome} {h0 : ah_H} {h : ah_H} {x0 : Nat} {x1 : Int32} {v1 : Nat} {d' : Nat} {A' : Nat → Prop} {o' : Outcome} {h' : ah_H} (g1 : ah_sel h x0 3 0 = some (.ref v1)) (hE : ah_Ev mt_T_rankOf d' A' [.ref v1, .int x1] h o' h') (hdd : d' + 1 ≤ d) (hAA : ∀ q, A' q → A q) (k : ah_aft mt_N_weighBoxes d A h0 o h2 32 [(0, .ref x0), (1, .int x1)] [] h' o') (hb : (ah_len h v1 4).isSome = true) : ah_At mt_N_weighBoxes d A h0 o h2 27 [(0, .ref x0), (1, .int x1)] [] h := by
  refine s_aload_n d_N_weighBoxes_27 rfl rfl ?_
  refine s_getfield (k := 0) d_N_weighBoxes_28 kc3 (by decide) fl_N_40 g1 ?_
  refine s_iload_n d_N_weighBoxes_31 rfl rfl ?_
  exact ah_callV (av := [.int x1]) (st := []) d_N_weighBoxes_32 ml_N_122 mi_T_rankOf mv_T_rankOf kc4 hb hE hdd hAA rfl (Nat.le_of_ble_eq_true rfl) k
theorem b_N_weighBoxes_35 {d : Nat} {A : Nat → Prop} {h2 : ah_H} {o : Outcome} {h0 : ah_H} {h : ah_H} {x0 : Nat} {x1 : Int32} {s0 : Int32} {v1 : Nat} {j2 : Nat} {v3 : Nat} {v4 : Nat} {v5 : Nat} {v6 : Nat} {j6 : Nat} {v7 : Int32} {d' : Nat} {A' : Nat → Prop} {o' : Outcome} {h' : ah_H} (g1 : ah_sel h x0 3 2 = some (.ref v1)) (w2 : A v1) (i2 : ah_ix s0 j2) (e2 : (ah_sel h v1 100 j2).isSome = true) (g3 : ah_sel (ah_sto h v1 j2 (.int x1)) x0 3 3 = some (.ref v3)) (g4 : ah_sel (ah_sto h v1 j2 (.int x1)) x0 3 0 = some (.ref v4)) (g5 : ah_sel (ah_sto h v1 j2 (.int x1)) v4 4 2 = some (.ref v5)) (i6 : ah_ix x1 j6) (g6 : ah_sel (ah_sto h v1 j2 (.int x1)) v5 110 j6 = some (.ref v6)) (g7 : ah_sel (ah_sto h v1 j2 (.int x1)) v6 0 0 = some (.int v7)) (hE : ah_Ev mt_X_lengthOfSize d' A' [.int v7] (ah_sto h v1 j2 (.int x1)) o' h') (hdd : d' + 1 ≤ d) (hAA : ∀ q, A' q → A q) (k : ah_aft mt_N_weighBoxes d A h0 o h2 60 [(0, .ref x0), (1, .int x1), (2, .int s0)] [.int x1, .ref v3] h' o') : ah_At mt_N_weighBoxes d A h0 o h2 35 [(0, .ref x0), (1, .int x1)] [.int s0] h := by
  refine s_istore_n (lv' := [(0, .ref x0), (1, .int x1), (2, .int s0)]) d_N_weighBoxes_35 rfl (by decide) rfl ?_
  refine s_aload_n d_N_weighBoxes_36 rfl rfl ?_
  refine s_getfield (k := 2) d_N_weighBoxes_37 kc3 (by decide) fl_N_17 g1 ?_
  refine s_iload_n d_N_weighBoxes_40 rfl rfl ?_
  refine s_iload_n d_N_weighBoxes_41 rfl rfl ?_
  refine s_iastore d_N_weighBoxes_42 w2 i2 e2 ?_
  refine s_aload_n d_N_weighBoxes_43 rfl rfl ?_
  refine s_getfield (k := 3) d_N_weighBoxes_44 kc3 (by decide) fl_N_21 g3 ?_
  refine s_iload_n d_N_weighBoxes_47 rfl rfl ?_
  refine s_aload_n d_N_weighBoxes_48 rfl rfl ?_
  refine s_getfield (k := 0) d_N_weighBoxes_49 kc3 (by decide) fl_N_40 g4 ?_
  refine s_getfield (k := 2) d_N_weighBoxes_52 kc4 (by decide) fl_N_99 g5 ?_
  refine s_iload_n d_N_weighBoxes_55 rfl rfl ?_
  refine s_aaload (t := 110) ⟨rfl, by decide, rfl⟩ rfl d_N_weighBoxes_56 i6 g6 ?_
  refine s_getfield (k := 0) d_N_weighBoxes_57 kc0 (by decide) fl_N_103 g7 ?_
  exact ah_callS (av := [.int v7]) (st := [.int x1, .ref v3]) d_N_weighBoxes_60 ml_N_125 ms_X_lengthOfSize hE hdd hAA rfl (Nat.le_of_ble_eq_true rfl) k
theorem b_N_weighBoxes_63 {d : Nat} {A : Nat → Prop} {h2 : ah_H} {o : Outcome} {h0 : ah_H} {h : ah_H} {x0 : Nat} {x1 : Int32} {x2 : Int32} {s0 : Int32} {s1 : Int32} {s2 : Nat} {j1 : Nat} {v2 : Nat} {v3 : Nat} {v4 : Int32} {j4 : Nat} {d' : Nat} {A' : Nat → Prop} {o' : Outcome} {h' : ah_H} (w1 : A s2) (i1 : ah_ix s1 j1) (e1 : (ah_sel h s2 100 j1).isSome = true) (g2 : ah_sel (ah_sto h s2 j1 (.int ((s0 * 256) + ((256 : Int32) >>> ((x2 + 1) &&& 31))))) x0 3 4 = some (.ref v2)) (g3 : ah_sel (ah_sto h s2 j1 (.int ((s0 * 256) + ((256 : Int32) >>> ((x2 + 1) &&& 31))))) x0 3 4 = some (.ref v3)) (i4 : ah_ix (x1 + 1) j4) (g4 : ah_sel (ah_sto h s2 j1 (.int ((s0 * 256) + ((256 : Int32) >>> ((x2 + 1) &&& 31))))) v3 100 j4 = some (.int v4)) (hE : ah_Ev mt_N_someWagonTakes d' A' [.ref x0, .int x1] (ah_sto h s2 j1 (.int ((s0 * 256) + ((256 : Int32) >>> ((x2 + 1) &&& 31))))) o' h') (hdd : d' + 1 ≤ d) (hAA : ∀ q, A' q → A q) (k : ah_aft mt_N_weighBoxes d A h0 o h2 91 [(0, .ref x0), (1, .int x1)] [.int v4, .int x1, .ref v2] h' o') (hb : (ah_len (ah_sto h s2 j1 (.int ((s0 * 256) + ((256 : Int32) >>> ((x2 + 1) &&& 31))))) x0 3).isSome = true) : ah_At mt_N_weighBoxes d A h0 o h2 63 [(0, .ref x0), (1, .int x1), (2, .int x2)] [.int s0, .int s1, .ref s2] h := by
  refine s_sipush (v := 256) d_N_weighBoxes_63 (by decide) ?_
  refine s_imul d_N_weighBoxes_66 ?_
  refine s_sipush (v := 256) d_N_weighBoxes_67 (by decide) ?_
  refine s_iload_n d_N_weighBoxes_70 rfl rfl ?_
  refine s_iconst (v := 1) d_N_weighBoxes_71 (by decide) ?_
  refine s_iadd d_N_weighBoxes_72 ?_
  refine s_ishr d_N_weighBoxes_73 ?_
  refine s_iadd d_N_weighBoxes_74 ?_
  refine s_iastore d_N_weighBoxes_75 w1 i1 e1 ?_
  refine s_aload_n d_N_weighBoxes_76 rfl rfl ?_
  refine s_getfield (k := 4) d_N_weighBoxes_77 kc3 (by decide) fl_N_24 g2 ?_
  refine s_iload_n d_N_weighBoxes_80 rfl rfl ?_
  refine s_aload_n d_N_weighBoxes_81 rfl rfl ?_
  refine s_getfield (k := 4) d_N_weighBoxes_82 kc3 (by decide) fl_N_24 g3 ?_
  refine s_iload_n d_N_weighBoxes_85 rfl rfl ?_
  refine s_iconst (v := 1) d_N_weighBoxes_86 (by decide) ?_
  refine s_iadd d_N_weighBoxes_87 ?_
  refine s_iaload d_N_weighBoxes_88 i4 g4 ?_
  refine s_aload_n d_N_weighBoxes_89 rfl rfl ?_
  refine s_iload_n d_N_weighBoxes_90 rfl rfl ?_
  refine ah_At.sub [0, 1] rfl ?_
  exact ah_callV (av := [.int x1]) (st := [.int v4, .int x1, .ref v2]) d_N_weighBoxes_91 ml_N_128 mi_N_someWagonTakes mv_N_someWagonTakes kc3 hb hE hdd hAA rfl (Nat.le_of_ble_eq_true rfl) k
theorem b_N_weighBoxes_94 {d : Nat} {A : Nat → Prop} {h2 : ah_H} {o : Outcome} {h0 : ah_H} {h : ah_H} {x0 : Nat} {x1 : Int32} {s0 : Int32} {s1 : Int32} {s2 : Int32} {s3 : Nat} (kt : s0 = 0 → ah_At mt_N_weighBoxes d A h0 o h2 106 [(0, .ref x0), (1, .int x1)] [.int s1, .int s2, .ref s3] h) (kf : ¬ (s0 = 0) → ah_At mt_N_weighBoxes d A h0 o h2 97 [(0, .ref x0), (1, .int x1)] [.int s1, .int s2, .ref s3] h) : ah_At mt_N_weighBoxes d A h0 o h2 94 [(0, .ref x0), (1, .int x1)] [.int s0, .int s1, .int s2, .ref s3] h := by
  refine s_ifeq (t := 106) d_N_weighBoxes_94 (by decide) (fun z => ?_) (fun z => ?_)
  · exact (kt z)
  · exact (kf z)
theorem b_N_weighBoxes_97 {d : Nat} {A : Nat → Prop} {h2 : ah_H} {o : Outcome} {h0 : ah_H} {h : ah_H} {x0 : Nat} {x1 : Int32} {s0 : Int32} {s1 : Int32} {s2 : Nat} {v1 : Nat} {v2 : Int32} {j2 : Nat} (g1 : ah_sel h x0 3 3 = some (.ref v1)) (i2 : ah_ix x1 j2) (g2 : ah_sel h v1 100 j2 = some (.int v2)) (k : ah_At mt_N_weighBoxes d A h0 o h2 107 [(0, .ref x0), (1, .int x1)] [.int v2, .int s0, .int s1, .ref s2] h) : ah_At mt_N_weighBoxes d A h0 o h2 97 [(0, .ref x0), (1, .int x1)] [.int s0, .int s1, .ref s2] h := by
  refine s_aload_n d_N_weighBoxes_97 rfl rfl ?_
  refine s_getfield (k := 3) d_N_weighBoxes_98 kc3 (by decide) fl_N_21 g1 ?_
  refine s_iload_n d_N_weighBoxes_101 rfl rfl ?_
  refine s_iaload d_N_weighBoxes_102 i2 g2 ?_
  refine s_goto (t := 107) d_N_weighBoxes_103 (by decide) ?_
  exact k
theorem b_N_weighBoxes_106 {d : Nat} {A : Nat → Prop} {h2 : ah_H} {o : Outcome} {h0 : ah_H} {h : ah_H} {x0 : Nat} {x1 : Int32} {s0 : Int32} {s1 : Int32} {s2 : Nat} (k : ah_At mt_N_weighBoxes d A h0 o h2 107 [(0, .ref x0), (1, .int x1)] [.int 0, .int s0, .int s1, .ref s2] h) : ah_At mt_N_weighBoxes d A h0 o h2 106 [(0, .ref x0), (1, .int x1)] [.int s0, .int s1, .ref s2] h := by
  refine s_iconst (v := 0) d_N_weighBoxes_106 (by decide) ?_
  exact k
theorem b_N_weighBoxes_107 {d : Nat} {A : Nat → Prop} {h2 : ah_H} {o : Outcome} {h0 : ah_H} {h : ah_H} {x0 : Nat} {x1 : Int32} {s0 : Int32} {s1 : Int32} {s2 : Int32} {s3 : Nat} {j1 : Nat} (w1 : A s3) (i1 : ah_ix s2 j1) (e1 : (ah_sel h s3 100 j1).isSome = true) (k : ah_At mt_N_weighBoxes d A h0 o h2 23 [(0, .ref x0), (1, .int (x1 + (-1)))] [] (ah_sto h s3 j1 (.int (s1 + s0)))) : ah_At mt_N_weighBoxes d A h0 o h2 107 [(0, .ref x0), (1, .int x1)] [.int s0, .int s1, .int s2, .ref s3] h := by
  refine s_iadd d_N_weighBoxes_107 ?_
  refine s_iastore d_N_weighBoxes_108 w1 i1 e1 ?_
  refine s_iinc (v := x1 + (-1)) (lv' := [(0, .ref x0), (1, .int (x1 + (-1)))]) d_N_weighBoxes_109 rfl rfl (by decide) rfl ?_
  refine s_goto (t := 23) d_N_weighBoxes_112 (by decide) ?_
  exact k
theorem b_N_weighBoxes_115 {d : Nat} {A : Nat → Prop} {h0 : ah_H} {h : ah_H}   : ah_At mt_N_weighBoxes d A h0 (.returned none) h 115 [] [] h := by
  exact e_vret d_N_weighBoxes_115 rfl
theorem b_N_someWagonTakes_0 {d : Nat} {A : Nat → Prop} {h2 : ah_H} {o : Outcome} {h0 : ah_H} {h : ah_H} {x0 : Nat} {x1 : Int32} (k : ah_At mt_N_someWagonTakes d A h0 o h2 2 [(0, .ref x0), (1, .int x1), (2, .int 0)] [] h) : ah_At mt_N_someWagonTakes d A h0 o h2 0 [(0, .ref x0), (1, .int x1)] [] h := by
  refine s_iconst (v := 0) d_N_someWagonTakes_0 (by decide) ?_
  refine s_istore_n (lv' := [(0, .ref x0), (1, .int x1), (2, .int 0)]) d_N_someWagonTakes_1 rfl (by decide) rfl ?_
  exact k
theorem b_N_someWagonTakes_2 {d : Nat} {A : Nat → Prop} {h2 : ah_H} {o : Outcome} {h0 : ah_H} {h : ah_H} {x0 : Nat} {x1 : Int32} {x2 : Int32} {v1 : Nat} {v2 : Int32} (g1 : ah_sel h x0 3 0 = some (.ref v1)) (g2 : ah_sel h v1 4 1 = some (.int v2)) (kt : v2 ≤ x2 → ah_At mt_N_someWagonTakes d A h0 o h2 30 [] [] h) (kf : ¬ (v2 ≤ x2) → ah_At mt_N_someWagonTakes d A h0 o h2 13 [(0, .ref x0), (1, .int x1), (2, .int x2)] [] h) : ah_At mt_N_someWagonTakes d A h0 o h2 2 [(0, .ref x0), (1, .int x1), (2, .int x2)] [] h := by
  refine s_iload_n d_N_someWagonTakes_2 rfl rfl ?_
  refine s_aload_n d_N_someWagonTakes_3 rfl rfl ?_
  refine s_getfield (k := 0) d_N_someWagonTakes_4 kc3 (by decide) fl_N_40 g1 ?_
  refine s_getfield (k := 1) d_N_someWagonTakes_7 kc4 (by decide) fl_N_64 g2 ?_
  refine s_if_icmpge (t := 30) d_N_someWagonTakes_10 (by decide) (fun z => ?_) (fun z => ?_)
  · exact ah_At.sub [] rfl (kt z)
  · exact (kf z)
theorem b_N_someWagonTakes_13 {d : Nat} {A : Nat → Prop} {h2 : ah_H} {o : Outcome} {h0 : ah_H} {h : ah_H} {x0 : Nat} {x1 : Int32} {x2 : Int32} {d' : Nat} {A' : Nat → Prop} {o' : Outcome} {h' : ah_H} (hE : ah_Ev mt_N_mayPutOn d' A' [.ref x0, .int x1, .int x2] h o' h') (hdd : d' + 1 ≤ d) (hAA : ∀ q, A' q → A q) (k : ah_aft mt_N_someWagonTakes d A h0 o h2 16 [(0, .ref x0), (1, .int x1), (2, .int x2)] [] h' o') (hb : (ah_len h x0 3).isSome = true) : ah_At mt_N_someWagonTakes d A h0 o h2 13 [(0, .ref x0), (1, .int x1), (2, .int x2)] [] h := by
  refine s_aload_n d_N_someWagonTakes_13 rfl rfl ?_
  refine s_iload_n d_N_someWagonTakes_14 rfl rfl ?_
  refine s_iload_n d_N_someWagonTakes_15 rfl rfl ?_
  exact ah_callV (av := [.int x1, .int x2]) (st := []) d_N_someWagonTakes_16 ml_N_131 mi_N_mayPutOn mv_N_mayPutOn kc3 hb hE hdd hAA rfl (Nat.le_of_ble_eq_true rfl) k
theorem b_N_someWagonTakes_19 {d : Nat} {A : Nat → Prop} {h2 : ah_H} {o : Outcome} {h0 : ah_H} {h : ah_H} {x0 : Nat} {x1 : Int32} {x2 : Int32} {s0 : Int32} (kt : s0 = 0 → ah_At mt_N_someWagonTakes d A h0 o h2 24 [(0, .ref x0), (1, .int x1), (2, .int x2)] [] h) (kf : ¬ (s0 = 0) → ah_At mt_N_someWagonTakes d A h0 o h2 22 [] [] h) : ah_At mt_N_someWagonTakes d A h0 o h2 19 [(0, .ref x0), (1, .int x1), (2, .int x2)] [.int s0] h := by
  refine s_ifeq (t := 24) d_N_someWagonTakes_19 (by decide) (fun z => ?_) (fun z => ?_)
  · exact (kt z)
  · exact ah_At.sub [] rfl (kf z)
theorem b_N_someWagonTakes_22 {d : Nat} {A : Nat → Prop} {h0 : ah_H} {h : ah_H}   : ah_At mt_N_someWagonTakes d A h0 (.returned (some (.int 1))) h 22 [] [] h := by
  refine s_iconst (v := 1) d_N_someWagonTakes_22 (by decide) ?_
  exact e_iret (ty := .boolean) d_N_someWagonTakes_23 rfl (by decide +kernel)
theorem b_N_someWagonTakes_24 {d : Nat} {A : Nat → Prop} {h2 : ah_H} {o : Outcome} {h0 : ah_H} {h : ah_H} {x0 : Nat} {x1 : Int32} {x2 : Int32} (k : ah_At mt_N_someWagonTakes d A h0 o h2 2 [(0, .ref x0), (1, .int x1), (2, .int (x2 + 1))] [] h) : ah_At mt_N_someWagonTakes d A h0 o h2 24 [(0, .ref x0), (1, .int x1), (2, .int x2)] [] h := by
  refine s_iinc (v := x2 + 1) (lv' := [(0, .ref x0), (1, .int x1), (2, .int (x2 + 1))]) d_N_someWagonTakes_24 rfl rfl (by decide) rfl ?_
  refine s_goto (t := 2) d_N_someWagonTakes_27 (by decide) ?_
  exact k
theorem b_N_someWagonTakes_30 {d : Nat} {A : Nat → Prop} {h0 : ah_H} {h : ah_H}   : ah_At mt_N_someWagonTakes d A h0 (.returned (some (.int 0))) h 30 [] [] h := by
  refine s_iconst (v := 0) d_N_someWagonTakes_30 (by decide) ?_
  exact e_iret (ty := .boolean) d_N_someWagonTakes_31 rfl (by decide +kernel)
theorem b_N_tryFrom_0 {d : Nat} {A : Nat → Prop} {h2 : ah_H} {o : Outcome} {h0 : ah_H} {h : ah_H} {x0 : Nat} {x1 : Int32} {v1 : Nat} {v2 : Int32} (g1 : ah_sel h x0 3 0 = some (.ref v1)) (g2 : ah_sel h v1 4 3 = some (.int v2)) (kt : v2 < x1 → ah_At mt_N_tryFrom d A h0 o h2 29 [] [] h) (kf : ¬ (v2 < x1) → ah_At mt_N_tryFrom d A h0 o h2 11 [(0, .ref x0), (1, .int x1)] [] h) : ah_At mt_N_tryFrom d A h0 o h2 0 [(0, .ref x0), (1, .int x1)] [] h := by
  refine s_iload_n d_N_tryFrom_0 rfl rfl ?_
  refine s_aload_n d_N_tryFrom_1 rfl rfl ?_
  refine s_getfield (k := 0) d_N_tryFrom_2 kc3 (by decide) fl_N_40 g1 ?_
  refine s_getfield (k := 3) d_N_tryFrom_5 kc4 (by decide) fl_N_118 g2 ?_
  refine s_if_icmpgt (t := 29) d_N_tryFrom_8 (by decide) (fun z => ?_) (fun z => ?_)
  · exact ah_At.sub [] rfl (kt z)
  · exact (kf z)
theorem b_N_tryFrom_11 {d : Nat} {A : Nat → Prop} {h2 : ah_H} {o : Outcome} {h0 : ah_H} {h : ah_H} {x0 : Nat} {x1 : Int32} {v1 : Int32} {v2 : Nat} {v3 : Int32} {j3 : Nat} {v4 : Int32} (g1 : ah_sel h x0 3 7 = some (.int v1)) (g2 : ah_sel h x0 3 4 = some (.ref v2)) (i3 : ah_ix x1 j3) (g3 : ah_sel h v2 100 j3 = some (.int v3)) (g4 : ah_sel h x0 3 8 = some (.int v4)) (kt : v4 < (v1 + v3) → ah_At mt_N_tryFrom d A h0 o h2 30 [(0, .ref x0), (1, .int x1)] [] h) (kf : ¬ (v4 < (v1 + v3)) → ah_At mt_N_tryFrom d A h0 o h2 29 [] [] h) : ah_At mt_N_tryFrom d A h0 o h2 11 [(0, .ref x0), (1, .int x1)] [] h := by
  refine s_aload_n d_N_tryFrom_11 rfl rfl ?_
  refine s_getfield (k := 7) d_N_tryFrom_12 kc3 (by decide) fl_N_33 g1 ?_
  refine s_aload_n d_N_tryFrom_15 rfl rfl ?_
  refine s_getfield (k := 4) d_N_tryFrom_16 kc3 (by decide) fl_N_24 g2 ?_
  refine s_iload_n d_N_tryFrom_19 rfl rfl ?_
  refine s_iaload d_N_tryFrom_20 i3 g3 ?_
  refine s_iadd d_N_tryFrom_21 ?_
  refine s_aload_n d_N_tryFrom_22 rfl rfl ?_
  refine s_getfield (k := 8) d_N_tryFrom_23 kc3 (by decide) fl_N_37 g4 ?_
  refine s_if_icmpgt (t := 30) d_N_tryFrom_26 (by decide) (fun z => ?_) (fun z => ?_)
  · exact (kt z)
  · exact ah_At.sub [] rfl (kf z)
theorem b_N_tryFrom_29 {d : Nat} {A : Nat → Prop} {h0 : ah_H} {h : ah_H}   : ah_At mt_N_tryFrom d A h0 (.returned none) h 29 [] [] h := by
  exact e_vret d_N_tryFrom_29 rfl
theorem b_N_tryFrom_30 {d : Nat} {A : Nat → Prop} {h2 : ah_H} {o : Outcome} {h0 : ah_H} {h : ah_H} {x0 : Nat} {x1 : Int32} {v1 : Nat} {v2 : Int32} (g1 : ah_sel h x0 3 0 = some (.ref v1)) (g2 : ah_sel h v1 4 3 = some (.int v2)) (kt : ¬ x1 = v2 → ah_At mt_N_tryFrom d A h0 o h2 65 [(0, .ref x0), (1, .int x1)] [] h) (kf : ¬ (¬ x1 = v2) → ah_At mt_N_tryFrom d A h0 o h2 41 [(0, .ref x0)] [] h) : ah_At mt_N_tryFrom d A h0 o h2 30 [(0, .ref x0), (1, .int x1)] [] h := by
  refine s_iload_n d_N_tryFrom_30 rfl rfl ?_
  refine s_aload_n d_N_tryFrom_31 rfl rfl ?_
  refine s_getfield (k := 0) d_N_tryFrom_32 kc3 (by decide) fl_N_40 g1 ?_
  refine s_getfield (k := 3) d_N_tryFrom_35 kc4 (by decide) fl_N_118 g2 ?_
  refine s_if_icmpne (t := 65) d_N_tryFrom_38 (by decide) (fun z => ?_) (fun z => ?_)
  · exact (kt z)
  · exact ah_At.sub [0] rfl (kf z)
theorem b_N_tryFrom_41 {d : Nat} {A : Nat → Prop} {h0 : ah_H} {h : ah_H} {x0 : Nat} {v1 : Int32} {v3 : Nat} {v4 : Nat} {f5 : Nat → Int32} {r5 : Nat → Int32} (g1 : ah_sel h x0 3 7 = some (.int v1)) (w2 : A x0) (e2 : (ah_sel h x0 3 8).isSome = true) (g3 : ah_sel (ah_sto h x0 8 (.int v1)) x0 3 5 = some (.ref v3)) (g4 : ah_sel (ah_sto h x0 8 (.int v1)) x0 3 6 = some (.ref v4)) (hd2 : 2 ≤ d) (w5 : A v4) (u5 : v3 ≠ v4) (g5 : (ah_sto h x0 8 (.int v1)).2.2 v3 = some (100, ah_i8 f5)) (e5 : (ah_sto h x0 8 (.int v1)).2.2 v4 = some (100, ah_i8 r5)) : ah_At mt_N_tryFrom d A h0 (.returned none) (ah_copy8 (ah_sto h x0 8 (.int v1)) v3 v4) 41 [(0, .ref x0)] [] h := by
  refine s_aload_n d_N_tryFrom_41 rfl rfl ?_
  refine s_aload_n d_N_tryFrom_42 rfl rfl ?_
  refine s_getfield (k := 7) d_N_tryFrom_43 kc3 (by decide) fl_N_33 g1 ?_
  refine s_putfield (k := 8) d_N_tryFrom_46 kc3 (by decide) fl_N_37 (Or.inl rfl) w2 rfl e2 ?_
  refine s_aload_n d_N_tryFrom_49 rfl rfl ?_
  refine s_getfield (k := 5) d_N_tryFrom_50 kc3 (by decide) fl_N_27 g3 ?_
  refine s_iconst (v := 0) d_N_tryFrom_53 (by decide) ?_
  refine s_aload_n d_N_tryFrom_54 rfl rfl ?_
  refine s_getfield (k := 6) d_N_tryFrom_55 kc3 (by decide) fl_N_30 g4 ?_
  refine s_iconst (v := 0) d_N_tryFrom_58 (by decide) ?_
  refine s_bipush (v := 8) d_N_tryFrom_59 (by decide) ?_
  refine s_copy8 d_N_tryFrom_61 my_N_135 hd2 w5 u5 g5 e5 ?_
  exact e_vret d_N_tryFrom_64 rfl
theorem b_N_tryFrom_65 {d : Nat} {A : Nat → Prop} {h2 : ah_H} {o : Outcome} {h0 : ah_H} {h : ah_H} {x0 : Nat} {x1 : Int32} (k : ah_At mt_N_tryFrom d A h0 o h2 67 [(0, .ref x0), (1, .int x1), (2, .int 0)] [] h) : ah_At mt_N_tryFrom d A h0 o h2 65 [(0, .ref x0), (1, .int x1)] [] h := by
  refine s_iconst (v := 0) d_N_tryFrom_65 (by decide) ?_
  refine s_istore_n (lv' := [(0, .ref x0), (1, .int x1), (2, .int 0)]) d_N_tryFrom_66 rfl (by decide) rfl ?_
  exact k
theorem b_N_tryFrom_67 {d : Nat} {A : Nat → Prop} {h2 : ah_H} {o : Outcome} {h0 : ah_H} {h : ah_H} {x0 : Nat} {x1 : Int32} {x2 : Int32} {v1 : Nat} {v2 : Int32} (g1 : ah_sel h x0 3 0 = some (.ref v1)) (g2 : ah_sel h v1 4 1 = some (.int v2)) (kt : v2 ≤ x2 → ah_At mt_N_tryFrom d A h0 o h2 99 [(0, .ref x0), (1, .int x1)] [] h) (kf : ¬ (v2 ≤ x2) → ah_At mt_N_tryFrom d A h0 o h2 78 [(0, .ref x0), (1, .int x1), (2, .int x2)] [] h) : ah_At mt_N_tryFrom d A h0 o h2 67 [(0, .ref x0), (1, .int x1), (2, .int x2)] [] h := by
  refine s_iload_n d_N_tryFrom_67 rfl rfl ?_
  refine s_aload_n d_N_tryFrom_68 rfl rfl ?_
  refine s_getfield (k := 0) d_N_tryFrom_69 kc3 (by decide) fl_N_40 g1 ?_
  refine s_getfield (k := 1) d_N_tryFrom_72 kc4 (by decide) fl_N_64 g2 ?_
  refine s_if_icmpge (t := 99) d_N_tryFrom_75 (by decide) (fun z => ?_) (fun z => ?_)
  · exact ah_At.sub [0, 1] rfl (kt z)
  · exact (kf z)
theorem b_N_tryFrom_78 {d : Nat} {A : Nat → Prop} {h2 : ah_H} {o : Outcome} {h0 : ah_H} {h : ah_H} {x0 : Nat} {x1 : Int32} {x2 : Int32} {d' : Nat} {A' : Nat → Prop} {o' : Outcome} {h' : ah_H} (hE : ah_Ev mt_N_mayPutOn d' A' [.ref x0, .int x1, .int x2] h o' h') (hdd : d' + 1 ≤ d) (hAA : ∀ q, A' q → A q) (k : ah_aft mt_N_tryFrom d A h0 o h2 81 [(0, .ref x0), (1, .int x1), (2, .int x2)] [] h' o') (hb : (ah_len h x0 3).isSome = true) : ah_At mt_N_tryFrom d A h0 o h2 78 [(0, .ref x0), (1, .int x1), (2, .int x2)] [] h := by
  refine s_aload_n d_N_tryFrom_78 rfl rfl ?_
  refine s_iload_n d_N_tryFrom_79 rfl rfl ?_
  refine s_iload_n d_N_tryFrom_80 rfl rfl ?_
  exact ah_callV (av := [.int x1, .int x2]) (st := []) d_N_tryFrom_81 ml_N_131 mi_N_mayPutOn mv_N_mayPutOn kc3 hb hE hdd hAA rfl (Nat.le_of_ble_eq_true rfl) k
theorem b_N_tryFrom_84 {d : Nat} {A : Nat → Prop} {h2 : ah_H} {o : Outcome} {h0 : ah_H} {h : ah_H} {x0 : Nat} {x1 : Int32} {x2 : Int32} {s0 : Int32} (kt : s0 = 0 → ah_At mt_N_tryFrom d A h0 o h2 93 [(0, .ref x0), (1, .int x1), (2, .int x2)] [] h) (kf : ¬ (s0 = 0) → ah_At mt_N_tryFrom d A h0 o h2 87 [(0, .ref x0), (1, .int x1), (2, .int x2)] [] h) : ah_At mt_N_tryFrom d A h0 o h2 84 [(0, .ref x0), (1, .int x1), (2, .int x2)] [.int s0] h := by
  refine s_ifeq (t := 93) d_N_tryFrom_84 (by decide) (fun z => ?_) (fun z => ?_)
  · exact (kt z)
  · exact (kf z)
theorem b_N_tryFrom_87 {d : Nat} {A : Nat → Prop} {h2 : ah_H} {o : Outcome} {h0 : ah_H} {h : ah_H} {x0 : Nat} {x1 : Int32} {x2 : Int32} {d' : Nat} {A' : Nat → Prop} {o' : Outcome} {h' : ah_H} (hE : ah_Ev mt_N_tryOn d' A' [.ref x0, .int x1, .int x2] h o' h') (hdd : d' + 1 ≤ d) (hAA : ∀ q, A' q → A q) (k : ah_aft mt_N_tryFrom d A h0 o h2 90 [(0, .ref x0), (1, .int x1), (2, .int x2)] [] h' o') (hb : (ah_len h x0 3).isSome = true) : ah_At mt_N_tryFrom d A h0 o h2 87 [(0, .ref x0), (1, .int x1), (2, .int x2)] [] h := by
  refine s_aload_n d_N_tryFrom_87 rfl rfl ?_
  refine s_iload_n d_N_tryFrom_88 rfl rfl ?_
  refine s_iload_n d_N_tryFrom_89 rfl rfl ?_
  exact ah_callV (av := [.int x1, .int x2]) (st := []) d_N_tryFrom_90 ml_N_141 mi_N_tryOn mv_N_tryOn kc3 hb hE hdd hAA rfl (Nat.le_of_ble_eq_true rfl) k
theorem b_N_tryFrom_93 {d : Nat} {A : Nat → Prop} {h2 : ah_H} {o : Outcome} {h0 : ah_H} {h : ah_H} {x0 : Nat} {x1 : Int32} {x2 : Int32} (k : ah_At mt_N_tryFrom d A h0 o h2 67 [(0, .ref x0), (1, .int x1), (2, .int (x2 + 1))] [] h) : ah_At mt_N_tryFrom d A h0 o h2 93 [(0, .ref x0), (1, .int x1), (2, .int x2)] [] h := by
  refine s_iinc (v := x2 + 1) (lv' := [(0, .ref x0), (1, .int x1), (2, .int (x2 + 1))]) d_N_tryFrom_93 rfl rfl (by decide) rfl ?_
  refine s_goto (t := 67) d_N_tryFrom_96 (by decide) ?_
  exact k
theorem b_N_tryFrom_99 {d : Nat} {A : Nat → Prop} {h2 : ah_H} {o : Outcome} {h0 : ah_H} {h : ah_H} {x0 : Nat} {x1 : Int32} {d' : Nat} {A' : Nat → Prop} {o' : Outcome} {h' : ah_H} (hE : ah_Ev mt_N_tryFrom d' A' [.ref x0, .int (x1 + 1)] h o' h') (hdd : d' + 1 ≤ d) (hAA : ∀ q, A' q → A q) (k : ah_aft mt_N_tryFrom d A h0 o h2 103 [] [] h' o') (hb : (ah_len h x0 3).isSome = true) : ah_At mt_N_tryFrom d A h0 o h2 99 [(0, .ref x0), (1, .int x1)] [] h := by
  refine s_aload_n d_N_tryFrom_99 rfl rfl ?_
  refine s_iload_n d_N_tryFrom_100 rfl rfl ?_
  refine s_iconst (v := 1) d_N_tryFrom_101 (by decide) ?_
  refine s_iadd d_N_tryFrom_102 ?_
  refine ah_At.sub [] rfl ?_
  exact ah_callV (av := [.int (x1 + 1)]) (st := []) d_N_tryFrom_103 ml_N_57 mi_N_tryFrom mv_N_tryFrom kc3 hb hE hdd hAA rfl (Nat.le_of_ble_eq_true rfl) k
theorem b_N_tryFrom_106 {d : Nat} {A : Nat → Prop} {h0 : ah_H} {h : ah_H}   : ah_At mt_N_tryFrom d A h0 (.returned none) h 106 [] [] h := by
  exact e_vret d_N_tryFrom_106 rfl
theorem b_N_tryOn_0 {d : Nat} {A : Nat → Prop} {h2 : ah_H} {o : Outcome} {h0 : ah_H} {h : ah_H} {x0 : Nat} {x1 : Int32} {x2 : Int32} {v1 : Nat} {v2 : Nat} {j2 : Nat} {v3 : Nat} {v4 : Nat} {v5 : Nat} {j5 : Nat} {d' : Nat} {A' : Nat → Prop} {o' : Outcome} {h' : ah_H} (g1 : ah_sel h x0 3 1 = some (.ref v1)) (i2 : ah_ix x2 j2) (g2 : ah_sel h v1 111 j2 = some (.ref v2)) (g3 : ah_sel h x0 3 0 = some (.ref v3)) (g4 : ah_sel h v3 4 2 = some (.ref v4)) (i5 : ah_ix x1 j5) (g5 : ah_sel h v4 110 j5 = some (.ref v5)) (hE : ah_Ev mt_L_putOn d' A' [.ref v2, .ref v5] h o' h') (hdd : d' + 1 ≤ d) (hAA : ∀ q, A' q → A q) (k : ah_aft mt_N_tryOn d A h0 o h2 15 [(0, .ref x0), (1, .int x1), (2, .int x2)] [] h' o') (hb : (ah_len h v2 1).isSome = true) : ah_At mt_N_tryOn d A h0 o h2 0 [(0, .ref x0), (1, .int x1), (2, .int x2)] [] h := by
  refine s_aload_n d_N_tryOn_0 rfl rfl ?_
  refine s_getfield (k := 1) d_N_tryOn_1 kc3 (by decide) fl_N_11 g1 ?_
  refine s_iload_n d_N_tryOn_4 rfl rfl ?_
  refine s_aaload (t := 111) ⟨rfl, by decide, rfl⟩ rfl d_N_tryOn_5 i2 g2 ?_
  refine s_aload_n d_N_tryOn_6 rfl rfl ?_
  refine s_getfield (k := 0) d_N_tryOn_7 kc3 (by decide) fl_N_40 g3 ?_
  refine s_getfield (k := 2) d_N_tryOn_10 kc4 (by decide) fl_N_99 g4 ?_
  refine s_iload_n d_N_tryOn_13 rfl rfl ?_
  refine s_aaload (t := 110) ⟨rfl, by decide, rfl⟩ rfl d_N_tryOn_14 i5 g5 ?_
  exact ah_callV (av := [.ref v5]) (st := []) d_N_tryOn_15 ml_N_145 mi_L_putOn mv_L_putOn kc1 hb hE hdd hAA rfl (Nat.le_of_ble_eq_true rfl) k
theorem b_N_tryOn_18 {d : Nat} {A : Nat → Prop} {h2 : ah_H} {o : Outcome} {h0 : ah_H} {h : ah_H} {x0 : Nat} {x1 : Int32} {x2 : Int32} {v1 : Int32} {v2 : Nat} {v3 : Int32} {j3 : Nat} {v5 : Nat} {j6 : Nat} {d' : Nat} {A' : Nat → Prop} {o' : Outcome} {h' : ah_H} (g1 : ah_sel h x0 3 7 = some (.int v1)) (g2 : ah_sel h x0 3 3 = some (.ref v2)) (i3 : ah_ix x1 j3) (g3 : ah_sel h v2 100 j3 = some (.int v3)) (w4 : A x0) (e4 : (ah_sel h x0 3 7).isSome = true) (g5 : ah_sel (ah_sto h x0 7 (.int (v1 + v3))) x0 3 5 = some (.ref v5)) (w6 : A v5) (i6 : ah_ix x1 j6) (e6 : (ah_sel (ah_sto h x0 7 (.int (v1 + v3))) v5 100 j6).isSome = true) (hE : ah_Ev mt_N_tryFrom d' A' [.ref x0, .int (x1 + 1)] (ah_sto (ah_sto h x0 7 (.int (v1 + v3))) v5 j6 (.int x2)) o' h') (hdd : d' + 1 ≤ d) (hAA : ∀ q, A' q → A q) (k : ah_aft mt_N_tryOn d A h0 o h2 44 [(0, .ref x0), (1, .int x1), (2, .int x2)] [] h' o') (hb : (ah_len (ah_sto (ah_sto h x0 7 (.int (v1 + v3))) v5 j6 (.int x2)) x0 3).isSome = true) : ah_At mt_N_tryOn d A h0 o h2 18 [(0, .ref x0), (1, .int x1), (2, .int x2)] [] h := by
  refine s_aload_n d_N_tryOn_18 rfl rfl ?_
  refine s_dup d_N_tryOn_19 rfl ?_
  refine s_getfield (k := 7) d_N_tryOn_20 kc3 (by decide) fl_N_33 g1 ?_
  refine s_aload_n d_N_tryOn_23 rfl rfl ?_
  refine s_getfield (k := 3) d_N_tryOn_24 kc3 (by decide) fl_N_21 g2 ?_
  refine s_iload_n d_N_tryOn_27 rfl rfl ?_
  refine s_iaload d_N_tryOn_28 i3 g3 ?_
  refine s_iadd d_N_tryOn_29 ?_
  refine s_putfield (k := 7) d_N_tryOn_30 kc3 (by decide) fl_N_33 (Or.inl rfl) w4 rfl e4 ?_
  refine s_aload_n d_N_tryOn_33 rfl rfl ?_
  refine s_getfield (k := 5) d_N_tryOn_34 kc3 (by decide) fl_N_27 g5 ?_
  refine s_iload_n d_N_tryOn_37 rfl rfl ?_
  refine s_iload_n d_N_tryOn_38 rfl rfl ?_
  refine s_iastore d_N_tryOn_39 w6 i6 e6 ?_
  refine s_aload_n d_N_tryOn_40 rfl rfl ?_
  refine s_iload_n d_N_tryOn_41 rfl rfl ?_
  refine s_iconst (v := 1) d_N_tryOn_42 (by decide) ?_
  refine s_iadd d_N_tryOn_43 ?_
  exact ah_callV (av := [.int (x1 + 1)]) (st := []) d_N_tryOn_44 ml_N_57 mi_N_tryFrom mv_N_tryFrom kc3 hb hE hdd hAA rfl (Nat.le_of_ble_eq_true rfl) k
theorem b_N_tryOn_47 {d : Nat} {A : Nat → Prop} {h2 : ah_H} {o : Outcome} {h0 : ah_H} {h : ah_H} {x0 : Nat} {x1 : Int32} {x2 : Int32} {v1 : Nat} {j2 : Nat} {v3 : Int32} {v4 : Nat} {v5 : Int32} {j5 : Nat} {v7 : Nat} {v8 : Nat} {j8 : Nat} {v9 : Nat} {v10 : Nat} {v11 : Nat} {j11 : Nat} {d' : Nat} {A' : Nat → Prop} {o' : Outcome} {h' : ah_H} (g1 : ah_sel h x0 3 5 = some (.ref v1)) (w2 : A v1) (i2 : ah_ix x1 j2) (e2 : (ah_sel h v1 100 j2).isSome = true) (g3 : ah_sel (ah_sto h v1 j2 (.int (-1))) x0 3 7 = some (.int v3)) (g4 : ah_sel (ah_sto h v1 j2 (.int (-1))) x0 3 3 = some (.ref v4)) (i5 : ah_ix x1 j5) (g5 : ah_sel (ah_sto h v1 j2 (.int (-1))) v4 100 j5 = some (.int v5)) (w6 : A x0) (e6 : (ah_sel (ah_sto h v1 j2 (.int (-1))) x0 3 7).isSome = true) (g7 : ah_sel (ah_sto (ah_sto h v1 j2 (.int (-1))) x0 7 (.int (v3 - v5))) x0 3 1 = some (.ref v7)) (i8 : ah_ix x2 j8) (g8 : ah_sel (ah_sto (ah_sto h v1 j2 (.int (-1))) x0 7 (.int (v3 - v5))) v7 111 j8 = some (.ref v8)) (g9 : ah_sel (ah_sto (ah_sto h v1 j2 (.int (-1))) x0 7 (.int (v3 - v5))) x0 3 0 = some (.ref v9)) (g10 : ah_sel (ah_sto (ah_sto h v1 j2 (.int (-1))) x0 7 (.int (v3 - v5))) v9 4 2 = some (.ref v10)) (i11 : ah_ix x1 j11) (g11 : ah_sel (ah_sto (ah_sto h v1 j2 (.int (-1))) x0 7 (.int (v3 - v5))) v10 110 j11 = some (.ref v11)) (hE : ah_Ev mt_L_takeOff d' A' [.ref v8, .ref v11] (ah_sto (ah_sto h v1 j2 (.int (-1))) x0 7 (.int (v3 - v5))) o' h') (hdd : d' + 1 ≤ d) (hAA : ∀ q, A' q → A q) (k : ah_aft mt_N_tryOn d A h0 o h2 84 [] [] h' o') (hb : (ah_len (ah_sto (ah_sto h v1 j2 (.int (-1))) x0 7 (.int (v3 - v5))) v8 1).isSome = true) : ah_At mt_N_tryOn d A h0 o h2 47 [(0, .ref x0), (1, .int x1), (2, .int x2)] [] h := by
  refine s_aload_n d_N_tryOn_47 rfl rfl ?_
  refine s_getfield (k := 5) d_N_tryOn_48 kc3 (by decide) fl_N_27 g1 ?_
  refine s_iload_n d_N_tryOn_51 rfl rfl ?_
  refine s_iconst (v := -1) d_N_tryOn_52 (by decide) ?_
  refine s_iastore d_N_tryOn_53 w2 i2 e2 ?_
  refine s_aload_n d_N_tryOn_54 rfl rfl ?_
  refine s_dup d_N_tryOn_55 rfl ?_
  refine s_getfield (k := 7) d_N_tryOn_56 kc3 (by decide) fl_N_33 g3 ?_
  refine s_aload_n d_N_tryOn_59 rfl rfl ?_
  refine s_getfield (k := 3) d_N_tryOn_60 kc3 (by decide) fl_N_21 g4 ?_
  refine s_iload_n d_N_tryOn_63 rfl rfl ?_
  refine s_iaload d_N_tryOn_64 i5 g5 ?_
  refine s_isub d_N_tryOn_65 ?_
  refine s_putfield (k := 7) d_N_tryOn_66 kc3 (by decide) fl_N_33 (Or.inl rfl) w6 rfl e6 ?_
  refine s_aload_n d_N_tryOn_69 rfl rfl ?_
  refine s_getfield (k := 1) d_N_tryOn_70 kc3 (by decide) fl_N_11 g7 ?_
  refine s_iload_n d_N_tryOn_73 rfl rfl ?_
  refine s_aaload (t := 111) ⟨rfl, by decide, rfl⟩ rfl d_N_tryOn_74 i8 g8 ?_
  refine s_aload_n d_N_tryOn_75 rfl rfl ?_
  refine s_getfield (k := 0) d_N_tryOn_76 kc3 (by decide) fl_N_40 g9 ?_
  refine s_getfield (k := 2) d_N_tryOn_79 kc4 (by decide) fl_N_99 g10 ?_
  refine s_iload_n d_N_tryOn_82 rfl rfl ?_
  refine s_aaload (t := 110) ⟨rfl, by decide, rfl⟩ rfl d_N_tryOn_83 i11 g11 ?_
  refine ah_At.sub [] rfl ?_
  exact ah_callV (av := [.ref v11]) (st := []) d_N_tryOn_84 ml_N_149 mi_L_takeOff mv_L_takeOff kc1 hb hE hdd hAA rfl (Nat.le_of_ble_eq_true rfl) k
theorem b_N_tryOn_87 {d : Nat} {A : Nat → Prop} {h0 : ah_H} {h : ah_H}   : ah_At mt_N_tryOn d A h0 (.returned none) h 87 [] [] h := by
  exact e_vret d_N_tryOn_87 rfl
theorem b_N_putBestOn_0 {d : Nat} {A : Nat → Prop} {h2 : ah_H} {o : Outcome} {h0 : ah_H} {h : ah_H} {x0 : Nat} (k : ah_At mt_N_putBestOn d A h0 o h2 2 [(0, .ref x0), (1, .int 0)] [] h) : ah_At mt_N_putBestOn d A h0 o h2 0 [(0, .ref x0)] [] h := by
  refine s_iconst (v := 0) d_N_putBestOn_0 (by decide) ?_
  refine s_istore_n (lv' := [(0, .ref x0), (1, .int 0)]) d_N_putBestOn_1 rfl (by decide) rfl ?_
  exact k
theorem b_N_putBestOn_2 {d : Nat} {A : Nat → Prop} {h2 : ah_H} {o : Outcome} {h0 : ah_H} {h : ah_H} {x0 : Nat} {x1 : Int32} {v1 : Nat} {v2 : Int32} (g1 : ah_sel h x0 3 0 = some (.ref v1)) (g2 : ah_sel h v1 4 3 = some (.int v2)) (kt : v2 ≤ x1 → ah_At mt_N_putBestOn d A h0 o h2 58 [] [] h) (kf : ¬ (v2 ≤ x1) → ah_At mt_N_putBestOn d A h0 o h2 13 [(0, .ref x0), (1, .int x1)] [] h) : ah_At mt_N_putBestOn d A h0 o h2 2 [(0, .ref x0), (1, .int x1)] [] h := by
  refine s_iload_n d_N_putBestOn_2 rfl rfl ?_
  refine s_aload_n d_N_putBestOn_3 rfl rfl ?_
  refine s_getfield (k := 0) d_N_putBestOn_4 kc3 (by decide) fl_N_40 g1 ?_
  refine s_getfield (k := 3) d_N_putBestOn_7 kc4 (by decide) fl_N_118 g2 ?_
  refine s_if_icmpge (t := 58) d_N_putBestOn_10 (by decide) (fun z => ?_) (fun z => ?_)
  · exact ah_At.sub [] rfl (kt z)
  · exact (kf z)
theorem b_N_putBestOn_13 {d : Nat} {A : Nat → Prop} {h2 : ah_H} {o : Outcome} {h0 : ah_H} {h : ah_H} {x0 : Nat} {x1 : Int32} {v1 : Nat} {v2 : Nat} {v3 : Int32} {j3 : Nat} {d' : Nat} {A' : Nat → Prop} {o' : Outcome} {h' : ah_H} (g1 : ah_sel h x0 3 0 = some (.ref v1)) (g2 : ah_sel h x0 3 6 = some (.ref v2)) (i3 : ah_ix x1 j3) (g3 : ah_sel h v2 100 j3 = some (.int v3)) (hE : ah_Ev mt_T_hasWagon d' A' [.ref v1, .int v3] h o' h') (hdd : d' + 1 ≤ d) (hAA : ∀ q, A' q → A q) (k : ah_aft mt_N_putBestOn d A h0 o h2 23 [(0, .ref x0), (1, .int x1)] [] h' o') (hb : (ah_len h v1 4).isSome = true) : ah_At mt_N_putBestOn d A h0 o h2 13 [(0, .ref x0), (1, .int x1)] [] h := by
  refine s_aload_n d_N_putBestOn_13 rfl rfl ?_
  refine s_getfield (k := 0) d_N_putBestOn_14 kc3 (by decide) fl_N_40 g1 ?_
  refine s_aload_n d_N_putBestOn_17 rfl rfl ?_
  refine s_getfield (k := 6) d_N_putBestOn_18 kc3 (by decide) fl_N_30 g2 ?_
  refine s_iload_n d_N_putBestOn_21 rfl rfl ?_
  refine s_iaload d_N_putBestOn_22 i3 g3 ?_
  exact ah_callV (av := [.int v3]) (st := []) d_N_putBestOn_23 ml_N_79 mi_T_hasWagon mv_T_hasWagon kc4 hb hE hdd hAA rfl (Nat.le_of_ble_eq_true rfl) k
theorem b_N_putBestOn_26 {d : Nat} {A : Nat → Prop} {h2 : ah_H} {o : Outcome} {h0 : ah_H} {h : ah_H} {x0 : Nat} {x1 : Int32} {s0 : Int32} (kt : s0 = 0 → ah_At mt_N_putBestOn d A h0 o h2 52 [(0, .ref x0), (1, .int x1)] [] h) (kf : ¬ (s0 = 0) → ah_At mt_N_putBestOn d A h0 o h2 29 [(0, .ref x0), (1, .int x1)] [] h) : ah_At mt_N_putBestOn d A h0 o h2 26 [(0, .ref x0), (1, .int x1)] [.int s0] h := by
  refine s_ifeq (t := 52) d_N_putBestOn_26 (by decide) (fun z => ?_) (fun z => ?_)
  · exact (kt z)
  · exact (kf z)
theorem b_N_putBestOn_29 {d : Nat} {A : Nat → Prop} {h2 : ah_H} {o : Outcome} {h0 : ah_H} {h : ah_H} {x0 : Nat} {x1 : Int32} {v1 : Nat} {v2 : Nat} {v3 : Int32} {j3 : Nat} {v4 : Nat} {j4 : Nat} {v5 : Nat} {v6 : Nat} {v7 : Nat} {j7 : Nat} {d' : Nat} {A' : Nat → Prop} {o' : Outcome} {h' : ah_H} (g1 : ah_sel h x0 3 1 = some (.ref v1)) (g2 : ah_sel h x0 3 6 = some (.ref v2)) (i3 : ah_ix x1 j3) (g3 : ah_sel h v2 100 j3 = some (.int v3)) (i4 : ah_ix v3 j4) (g4 : ah_sel h v1 111 j4 = some (.ref v4)) (g5 : ah_sel h x0 3 0 = some (.ref v5)) (g6 : ah_sel h v5 4 2 = some (.ref v6)) (i7 : ah_ix x1 j7) (g7 : ah_sel h v6 110 j7 = some (.ref v7)) (hE : ah_Ev mt_L_putOn d' A' [.ref v4, .ref v7] h o' h') (hdd : d' + 1 ≤ d) (hAA : ∀ q, A' q → A q) (k : ah_aft mt_N_putBestOn d A h0 o h2 49 [(0, .ref x0), (1, .int x1)] [] h' o') (hb : (ah_len h v4 1).isSome = true) : ah_At mt_N_putBestOn d A h0 o h2 29 [(0, .ref x0), (1, .int x1)] [] h := by
  refine s_aload_n d_N_putBestOn_29 rfl rfl ?_
  refine s_getfield (k := 1) d_N_putBestOn_30 kc3 (by decide) fl_N_11 g1 ?_
  refine s_aload_n d_N_putBestOn_33 rfl rfl ?_
  refine s_getfield (k := 6) d_N_putBestOn_34 kc3 (by decide) fl_N_30 g2 ?_
  refine s_iload_n d_N_putBestOn_37 rfl rfl ?_
  refine s_iaload d_N_putBestOn_38 i3 g3 ?_
  refine s_aaload (t := 111) ⟨rfl, by decide, rfl⟩ rfl d_N_putBestOn_39 i4 g4 ?_
  refine s_aload_n d_N_putBestOn_40 rfl rfl ?_
  refine s_getfield (k := 0) d_N_putBestOn_41 kc3 (by decide) fl_N_40 g5 ?_
  refine s_getfield (k := 2) d_N_putBestOn_44 kc4 (by decide) fl_N_99 g6 ?_
  refine s_iload_n d_N_putBestOn_47 rfl rfl ?_
  refine s_aaload (t := 110) ⟨rfl, by decide, rfl⟩ rfl d_N_putBestOn_48 i7 g7 ?_
  exact ah_callV (av := [.ref v7]) (st := []) d_N_putBestOn_49 ml_N_145 mi_L_putOn mv_L_putOn kc1 hb hE hdd hAA rfl (Nat.le_of_ble_eq_true rfl) k
theorem b_N_putBestOn_52 {d : Nat} {A : Nat → Prop} {h2 : ah_H} {o : Outcome} {h0 : ah_H} {h : ah_H} {x0 : Nat} {x1 : Int32} (k : ah_At mt_N_putBestOn d A h0 o h2 2 [(0, .ref x0), (1, .int (x1 + 1))] [] h) : ah_At mt_N_putBestOn d A h0 o h2 52 [(0, .ref x0), (1, .int x1)] [] h := by
  refine s_iinc (v := x1 + 1) (lv' := [(0, .ref x0), (1, .int (x1 + 1))]) d_N_putBestOn_52 rfl rfl (by decide) rfl ?_
  refine s_goto (t := 2) d_N_putBestOn_55 (by decide) ?_
  exact k
theorem b_N_putBestOn_58 {d : Nat} {A : Nat → Prop} {h0 : ah_H} {h : ah_H}   : ah_At mt_N_putBestOn d A h0 (.returned none) h 58 [] [] h := by
  exact e_vret d_N_putBestOn_58 rfl
theorem b_N_mayPutOn_0 {d : Nat} {A : Nat → Prop} {h2 : ah_H} {o : Outcome} {h0 : ah_H} {h : ah_H} {x0 : Nat} {x1 : Int32} {x2 : Int32} {v1 : Nat} {v2 : Nat} {v3 : Nat} {j3 : Nat} {v4 : Nat} {v5 : Nat} {v6 : Nat} {j6 : Nat} {v7 : Nat} {v8 : Nat} {j8 : Nat} {v9 : Int32} (g1 : ah_sel h x0 3 0 = some (.ref v1)) (g2 : ah_sel h v1 4 2 = some (.ref v2)) (i3 : ah_ix x1 j3) (g3 : ah_sel h v2 110 j3 = some (.ref v3)) (g4 : ah_sel h x0 3 0 = some (.ref v4)) (g5 : ah_sel h v4 4 0 = some (.ref v5)) (i6 : ah_ix x2 j6) (g6 : ah_sel h v5 115 j6 = some (.ref v6)) (g7 : ah_sel h x0 3 1 = some (.ref v7)) (i8 : ah_ix x2 j8) (g8 : ah_sel h v7 111 j8 = some (.ref v8)) (g9 : ah_sel h v6 5 6 = some (.int v9)) (kt : ¬ v9 = 0 → ah_At mt_N_mayPutOn d A h0 o h2 114 [] [] h) (kf : ¬ (¬ v9 = 0) → ah_At mt_N_mayPutOn d A h0 o h2 37 [(0, .ref x0), (2, .int x2), (3, .ref v3), (4, .ref v6), (5, .ref v8)] [] h) : ah_At mt_N_mayPutOn d A h0 o h2 0 [(0, .ref x0), (1, .int x1), (2, .int x2)] [] h := by
  refine s_aload_n d_N_mayPutOn_0 rfl rfl ?_
  refine s_getfield (k := 0) d_N_mayPutOn_1 kc3 (by decide) fl_N_40 g1 ?_
  refine s_getfield (k := 2) d_N_mayPutOn_4 kc4 (by decide) fl_N_99 g2 ?_
  refine s_iload_n d_N_mayPutOn_7 rfl rfl ?_
  refine s_aaload (t := 110) ⟨rfl, by decide, rfl⟩ rfl d_N_mayPutOn_8 i3 g3 ?_
  refine s_astore_n (lv' := [(0, .ref x0), (1, .int x1), (2, .int x2), (3, .ref v3)]) d_N_mayPutOn_9 rfl (by decide) rfl ?_
  refine s_aload_n d_N_mayPutOn_10 rfl rfl ?_
  refine s_getfield (k := 0) d_N_mayPutOn_11 kc3 (by decide) fl_N_40 g4 ?_
  refine s_getfield (k := 0) d_N_mayPutOn_14 kc4 (by decide) fl_N_82 g5 ?_
  refine s_iload_n d_N_mayPutOn_17 rfl rfl ?_
  refine s_aaload (t := 115) ⟨rfl, by decide, rfl⟩ rfl d_N_mayPutOn_18 i6 g6 ?_
  refine s_astore (lv' := [(0, .ref x0), (1, .int x1), (2, .int x2), (3, .ref v3), (4, .ref v6)]) d_N_mayPutOn_19 (by decide) rfl ?_
  refine s_aload_n d_N_mayPutOn_21 rfl rfl ?_
  refine s_getfield (k := 1) d_N_mayPutOn_22 kc3 (by decide) fl_N_11 g7 ?_
  refine s_iload_n d_N_mayPutOn_25 rfl rfl ?_
  refine s_aaload (t := 111) ⟨rfl, by decide, rfl⟩ rfl d_N_mayPutOn_26 i8 g8 ?_
  refine s_astore (lv' := [(0, .ref x0), (1, .int x1), (2, .int x2), (3, .ref v3), (4, .ref v6), (5, .ref v8)]) d_N_mayPutOn_27 (by decide) rfl ?_
  refine s_aload d_N_mayPutOn_29 rfl ?_
  refine s_getfield (k := 6) d_N_mayPutOn_31 kc5 (by decide) fl_N_152 g9 ?_
  refine s_ifne (t := 114) d_N_mayPutOn_34 (by decide) (fun z => ?_) (fun z => ?_)
  · exact ah_At.sub [] rfl (kt z)
  · exact ah_At.sub [0, 2, 3, 4, 5] rfl (kf z)
theorem b_N_mayPutOn_37 {d : Nat} {A : Nat → Prop} {h2 : ah_H} {o : Outcome} {h0 : ah_H} {h : ah_H} {x0 : Nat} {x2 : Int32} {x3 : Nat} {x4 : Nat} {x5 : Nat} {v1 : Int64} {v2 : Nat} {v3 : Int64} (g1 : ah_sel h x3 0 4 = some (.long v1)) (g2 : ah_sel h x0 3 0 = some (.ref v2)) (g3 : ah_sel h v2 4 5 = some (.long v3)) (kt : 0 < (lg_cmp v1 v3) → ah_At mt_N_mayPutOn d A h0 o h2 114 [] [] h) (kf : ¬ (0 < (lg_cmp v1 v3)) → ah_At mt_N_mayPutOn d A h0 o h2 52 [(0, .ref x0), (2, .int x2), (3, .ref x3), (4, .ref x4), (5, .ref x5)] [] h) : ah_At mt_N_mayPutOn d A h0 o h2 37 [(0, .ref x0), (2, .int x2), (3, .ref x3), (4, .ref x4), (5, .ref x5)] [] h := by
  refine s_aload_n d_N_mayPutOn_37 rfl rfl ?_
  refine s_getfield (k := 4) d_N_mayPutOn_38 kc0 (by decide) fl_N_156 g1 ?_
  refine s_aload_n d_N_mayPutOn_41 rfl rfl ?_
  refine s_getfield (k := 0) d_N_mayPutOn_42 kc3 (by decide) fl_N_40 g2 ?_
  refine s_getfield (k := 5) d_N_mayPutOn_45 kc4 (by decide) fl_N_160 g3 ?_
  refine s_lcmp d_N_mayPutOn_48 ?_
  refine s_ifgt (t := 114) d_N_mayPutOn_49 (by decide) (fun z => ?_) (fun z => ?_)
  · exact ah_At.sub [] rfl (kt z)
  · exact (kf z)
theorem b_N_mayPutOn_52 {d : Nat} {A : Nat → Prop} {h2 : ah_H} {o : Outcome} {h0 : ah_H} {h : ah_H} {x0 : Nat} {x2 : Int32} {x3 : Nat} {x4 : Nat} {x5 : Nat} {v1 : Int32} {v2 : Int32} (g1 : ah_sel h x3 0 2 = some (.int v1)) (g2 : ah_sel h x4 5 5 = some (.int v2)) (kt : v2 < v1 → ah_At mt_N_mayPutOn d A h0 o h2 114 [] [] h) (kf : ¬ (v2 < v1) → ah_At mt_N_mayPutOn d A h0 o h2 64 [(0, .ref x0), (2, .int x2), (3, .ref x3), (4, .ref x4), (5, .ref x5)] [] h) : ah_At mt_N_mayPutOn d A h0 o h2 52 [(0, .ref x0), (2, .int x2), (3, .ref x3), (4, .ref x4), (5, .ref x5)] [] h := by
  refine s_aload_n d_N_mayPutOn_52 rfl rfl ?_
  refine s_getfield (k := 2) d_N_mayPutOn_53 kc0 (by decide) fl_N_163 g1 ?_
  refine s_aload d_N_mayPutOn_56 rfl ?_
  refine s_getfield (k := 5) d_N_mayPutOn_58 kc5 (by decide) fl_N_166 g2 ?_
  refine s_if_icmpgt (t := 114) d_N_mayPutOn_61 (by decide) (fun z => ?_) (fun z => ?_)
  · exact ah_At.sub [] rfl (kt z)
  · exact (kf z)
theorem b_N_mayPutOn_64 {d : Nat} {A : Nat → Prop} {h2 : ah_H} {o : Outcome} {h0 : ah_H} {h : ah_H} {x0 : Nat} {x2 : Int32} {x3 : Nat} {x4 : Nat} {x5 : Nat} {v1 : Int64} {v2 : Int64} {v3 : Int64} (g1 : ah_sel h x5 1 4 = some (.long v1)) (g2 : ah_sel h x3 0 1 = some (.long v2)) (g3 : ah_sel h x4 5 3 = some (.long v3)) (kt : 0 < (lg_cmp (v1 + v2) v3) → ah_At mt_N_mayPutOn d A h0 o h2 114 [] [] h) (kf : ¬ (0 < (lg_cmp (v1 + v2) v3)) → ah_At mt_N_mayPutOn d A h0 o h2 83 [(0, .ref x0), (2, .int x2), (3, .ref x3), (4, .ref x4), (5, .ref x5)] [] h) : ah_At mt_N_mayPutOn d A h0 o h2 64 [(0, .ref x0), (2, .int x2), (3, .ref x3), (4, .ref x4), (5, .ref x5)] [] h := by
  refine s_aload d_N_mayPutOn_64 rfl ?_
  refine s_getfield (k := 4) d_N_mayPutOn_66 kc1 (by decide) fl_N_169 g1 ?_
  refine s_aload_n d_N_mayPutOn_69 rfl rfl ?_
  refine s_getfield (k := 1) d_N_mayPutOn_70 kc0 (by decide) fl_N_172 g2 ?_
  refine s_ladd d_N_mayPutOn_73 ?_
  refine s_aload d_N_mayPutOn_74 rfl ?_
  refine s_getfield (k := 3) d_N_mayPutOn_76 kc5 (by decide) fl_N_173 g3 ?_
  refine s_lcmp d_N_mayPutOn_79 ?_
  refine s_ifgt (t := 114) d_N_mayPutOn_80 (by decide) (fun z => ?_) (fun z => ?_)
  · exact ah_At.sub [] rfl (kt z)
  · exact (kf z)
theorem b_N_mayPutOn_83 {d : Nat} {A : Nat → Prop} {h2 : ah_H} {o : Outcome} {h0 : ah_H} {h : ah_H} {x0 : Nat} {x2 : Int32} {x3 : Nat} {x4 : Nat} {x5 : Nat} {v1 : Int32} {d' : Nat} {A' : Nat → Prop} {o' : Outcome} {h' : ah_H} (g1 : ah_sel h x3 0 0 = some (.int v1)) (hE : ah_Ev mt_G_leastPattern d' A' [.ref x4, .ref x5, .int v1] h o' h') (hdd : d' + 1 ≤ d) (hAA : ∀ q, A' q → A q) (k : ah_aft mt_N_mayPutOn d A h0 o h2 91 [(0, .ref x0), (2, .int x2), (3, .ref x3)] [] h' o') (hb : (ah_len h x4 5).isSome = true) : ah_At mt_N_mayPutOn d A h0 o h2 83 [(0, .ref x0), (2, .int x2), (3, .ref x3), (4, .ref x4), (5, .ref x5)] [] h := by
  refine s_aload d_N_mayPutOn_83 rfl ?_
  refine s_aload d_N_mayPutOn_85 rfl ?_
  refine s_aload_n d_N_mayPutOn_87 rfl rfl ?_
  refine s_getfield (k := 0) d_N_mayPutOn_88 kc0 (by decide) fl_N_103 g1 ?_
  refine ah_At.sub [0, 1, 2] rfl ?_
  exact ah_callV (av := [.ref x5, .int v1]) (st := []) d_N_mayPutOn_91 ml_N_86 mi_G_leastPattern mv_G_leastPattern kc5 hb hE hdd hAA rfl (Nat.le_of_ble_eq_true rfl) k
theorem b_N_mayPutOn_94 {d : Nat} {A : Nat → Prop} {h2 : ah_H} {o : Outcome} {h0 : ah_H} {h : ah_H} {x0 : Nat} {x2 : Int32} {x3 : Nat} {s0 : Int32} (kt : s0 = (-1) → ah_At mt_N_mayPutOn d A h0 o h2 114 [] [] h) (kf : ¬ (s0 = (-1)) → ah_At mt_N_mayPutOn d A h0 o h2 98 [(0, .ref x0), (2, .int x2), (3, .ref x3)] [] h) : ah_At mt_N_mayPutOn d A h0 o h2 94 [(0, .ref x0), (2, .int x2), (3, .ref x3)] [.int s0] h := by
  refine s_iconst (v := -1) d_N_mayPutOn_94 (by decide) ?_
  refine s_if_icmpeq (t := 114) d_N_mayPutOn_95 (by decide) (fun z => ?_) (fun z => ?_)
  · exact ah_At.sub [] rfl (kt z)
  · exact (kf z)
theorem b_N_mayPutOn_98 {d : Nat} {A : Nat → Prop} {h2 : ah_H} {o : Outcome} {h0 : ah_H} {h : ah_H} {x0 : Nat} {x2 : Int32} {x3 : Nat} {v1 : Int32} {d' : Nat} {A' : Nat → Prop} {o' : Outcome} {h' : ah_H} (g1 : ah_sel h x3 0 3 = some (.int v1)) (hE : ah_Ev mt_N_rulesAllow d' A' [.ref x0, .int v1, .int x2] h o' h') (hdd : d' + 1 ≤ d) (hAA : ∀ q, A' q → A q) (k : ah_aft mt_N_mayPutOn d A h0 o h2 104 [] [] h' o') (hb : (ah_len h x0 3).isSome = true) : ah_At mt_N_mayPutOn d A h0 o h2 98 [(0, .ref x0), (2, .int x2), (3, .ref x3)] [] h := by
  refine s_aload_n d_N_mayPutOn_98 rfl rfl ?_
  refine s_aload_n d_N_mayPutOn_99 rfl rfl ?_
  refine s_getfield (k := 3) d_N_mayPutOn_100 kc0 (by decide) fl_N_176 g1 ?_
  refine s_iload_n d_N_mayPutOn_103 rfl rfl ?_
  refine ah_At.sub [] rfl ?_
  exact ah_callV (av := [.int v1, .int x2]) (st := []) d_N_mayPutOn_104 ml_N_179 mi_N_rulesAllow mv_N_rulesAllow kc3 hb hE hdd hAA rfl (Nat.le_of_ble_eq_true rfl) k
theorem b_N_mayPutOn_107 {d : Nat} {A : Nat → Prop} {h2 : ah_H} {o : Outcome} {h0 : ah_H} {h : ah_H} {s0 : Int32} (kt : s0 = 0 → ah_At mt_N_mayPutOn d A h0 o h2 114 [] [] h) (kf : ¬ (s0 = 0) → ah_At mt_N_mayPutOn d A h0 o h2 110 [] [] h) : ah_At mt_N_mayPutOn d A h0 o h2 107 [] [.int s0] h := by
  refine s_ifeq (t := 114) d_N_mayPutOn_107 (by decide) (fun z => ?_) (fun z => ?_)
  · exact (kt z)
  · exact (kf z)
theorem b_N_mayPutOn_110 {d : Nat} {A : Nat → Prop} {h2 : ah_H} {o : Outcome} {h0 : ah_H} {h : ah_H}  (k : ah_At mt_N_mayPutOn d A h0 o h2 115 [] [.int 1] h) : ah_At mt_N_mayPutOn d A h0 o h2 110 [] [] h := by
  refine s_iconst (v := 1) d_N_mayPutOn_110 (by decide) ?_
  refine s_goto (t := 115) d_N_mayPutOn_111 (by decide) ?_
  exact k
theorem b_N_mayPutOn_114 {d : Nat} {A : Nat → Prop} {h2 : ah_H} {o : Outcome} {h0 : ah_H} {h : ah_H}  (k : ah_At mt_N_mayPutOn d A h0 o h2 115 [] [.int 0] h) : ah_At mt_N_mayPutOn d A h0 o h2 114 [] [] h := by
  refine s_iconst (v := 0) d_N_mayPutOn_114 (by decide) ?_
  exact k
theorem b_N_mayPutOn_115 {d : Nat} {A : Nat → Prop} {h0 : ah_H} {h : ah_H} {s0 : Int32} (hz : narrow .boolean (.int s0) = .int s0) : ah_At mt_N_mayPutOn d A h0 (.returned (some (.int s0))) h 115 [] [.int s0] h := by
  exact e_iret (ty := .boolean) d_N_mayPutOn_115 rfl hz
theorem b_N_rulesAllow_0 {d : Nat} {A : Nat → Prop} {h2 : ah_H} {o : Outcome} {h0 : ah_H} {h : ah_H} {x0 : Nat} {x1 : Int32} {x2 : Int32} (k : ah_At mt_N_rulesAllow d A h0 o h2 4 [(0, .ref x0), (1, .int x1), (2, .int x2), (3, .int (x2 - 1))] [] h) : ah_At mt_N_rulesAllow d A h0 o h2 0 [(0, .ref x0), (1, .int x1), (2, .int x2)] [] h := by
  refine s_iload_n d_N_rulesAllow_0 rfl rfl ?_
  refine s_iconst (v := 1) d_N_rulesAllow_1 (by decide) ?_
  refine s_isub d_N_rulesAllow_2 ?_
  refine s_istore_n (lv' := [(0, .ref x0), (1, .int x1), (2, .int x2), (3, .int (x2 - 1))]) d_N_rulesAllow_3 rfl (by decide) rfl ?_
  exact k
theorem b_N_rulesAllow_4 {d : Nat} {A : Nat → Prop} {h2 : ah_H} {o : Outcome} {h0 : ah_H} {h : ah_H} {x0 : Nat} {x1 : Int32} {x2 : Int32} {x3 : Int32} (kt : (x2 + 1) < x3 → ah_At mt_N_rulesAllow d A h0 o h2 58 [] [] h) (kf : ¬ ((x2 + 1) < x3) → ah_At mt_N_rulesAllow d A h0 o h2 11 [(0, .ref x0), (1, .int x1), (2, .int x2), (3, .int x3)] [] h) : ah_At mt_N_rulesAllow d A h0 o h2 4 [(0, .ref x0), (1, .int x1), (2, .int x2), (3, .int x3)] [] h := by
  refine s_iload_n d_N_rulesAllow_4 rfl rfl ?_
  refine s_iload_n d_N_rulesAllow_5 rfl rfl ?_
  refine s_iconst (v := 1) d_N_rulesAllow_6 (by decide) ?_
  refine s_iadd d_N_rulesAllow_7 ?_
  refine s_if_icmpgt (t := 58) d_N_rulesAllow_8 (by decide) (fun z => ?_) (fun z => ?_)
  · exact ah_At.sub [] rfl (kt z)
  · exact (kf z)
theorem b_N_rulesAllow_11 {d : Nat} {A : Nat → Prop} {h2 : ah_H} {o : Outcome} {h0 : ah_H} {h : ah_H} {x0 : Nat} {x1 : Int32} {x2 : Int32} {x3 : Int32} (kt : ¬ x3 = x2 → ah_At mt_N_rulesAllow d A h0 o h2 20 [(0, .ref x0), (1, .int x1), (2, .int x2), (3, .int x3)] [] h) (kf : ¬ (¬ x3 = x2) → ah_At mt_N_rulesAllow d A h0 o h2 16 [(0, .ref x0), (1, .int x1), (2, .int x2), (3, .int x3)] [] h) : ah_At mt_N_rulesAllow d A h0 o h2 11 [(0, .ref x0), (1, .int x1), (2, .int x2), (3, .int x3)] [] h := by
  refine s_iload_n d_N_rulesAllow_11 rfl rfl ?_
  refine s_iload_n d_N_rulesAllow_12 rfl rfl ?_
  refine s_if_icmpne (t := 20) d_N_rulesAllow_13 (by decide) (fun z => ?_) (fun z => ?_)
  · exact (kt z)
  · exact (kf z)
theorem b_N_rulesAllow_16 {d : Nat} {A : Nat → Prop} {h2 : ah_H} {o : Outcome} {h0 : ah_H} {h : ah_H} {x0 : Nat} {x1 : Int32} {x2 : Int32} {x3 : Int32} (k : ah_At mt_N_rulesAllow d A h0 o h2 21 [(0, .ref x0), (1, .int x1), (2, .int x2), (3, .int x3)] [.int 1] h) : ah_At mt_N_rulesAllow d A h0 o h2 16 [(0, .ref x0), (1, .int x1), (2, .int x2), (3, .int x3)] [] h := by
  refine s_iconst (v := 1) d_N_rulesAllow_16 (by decide) ?_
  refine s_goto (t := 21) d_N_rulesAllow_17 (by decide) ?_
  exact k
theorem b_N_rulesAllow_20 {d : Nat} {A : Nat → Prop} {h2 : ah_H} {o : Outcome} {h0 : ah_H} {h : ah_H} {x0 : Nat} {x1 : Int32} {x2 : Int32} {x3 : Int32} (k : ah_At mt_N_rulesAllow d A h0 o h2 21 [(0, .ref x0), (1, .int x1), (2, .int x2), (3, .int x3)] [.int 2] h) : ah_At mt_N_rulesAllow d A h0 o h2 20 [(0, .ref x0), (1, .int x1), (2, .int x2), (3, .int x3)] [] h := by
  refine s_iconst (v := 2) d_N_rulesAllow_20 (by decide) ?_
  exact k
theorem b_N_rulesAllow_21 {d : Nat} {A : Nat → Prop} {h2 : ah_H} {o : Outcome} {h0 : ah_H} {h : ah_H} {x0 : Nat} {x1 : Int32} {x2 : Int32} {x3 : Int32} {s0 : Int32} {v1 : Nat} {d' : Nat} {A' : Nat → Prop} {o' : Outcome} {h' : ah_H} (g1 : ah_sel h x0 3 0 = some (.ref v1)) (hE : ah_Ev mt_T_hasWagon d' A' [.ref v1, .int x3] h o' h') (hdd : d' + 1 ≤ d) (hAA : ∀ q, A' q → A q) (k : ah_aft mt_N_rulesAllow d A h0 o h2 28 [(0, .ref x0), (1, .int x1), (2, .int x2), (3, .int x3), (4, .int s0)] [] h' o') (hb : (ah_len h v1 4).isSome = true) : ah_At mt_N_rulesAllow d A h0 o h2 21 [(0, .ref x0), (1, .int x1), (2, .int x2), (3, .int x3)] [.int s0] h := by
  refine s_istore (lv' := [(0, .ref x0), (1, .int x1), (2, .int x2), (3, .int x3), (4, .int s0)]) d_N_rulesAllow_21 (by decide) rfl ?_
  refine s_aload_n d_N_rulesAllow_23 rfl rfl ?_
  refine s_getfield (k := 0) d_N_rulesAllow_24 kc3 (by decide) fl_N_40 g1 ?_
  refine s_iload_n d_N_rulesAllow_27 rfl rfl ?_
  exact ah_callV (av := [.int x3]) (st := []) d_N_rulesAllow_28 ml_N_79 mi_T_hasWagon mv_T_hasWagon kc4 hb hE hdd hAA rfl (Nat.le_of_ble_eq_true rfl) k
theorem b_N_rulesAllow_31 {d : Nat} {A : Nat → Prop} {h2 : ah_H} {o : Outcome} {h0 : ah_H} {h : ah_H} {x0 : Nat} {x1 : Int32} {x2 : Int32} {x3 : Int32} {x4 : Int32} {s0 : Int32} (kt : s0 = 0 → ah_At mt_N_rulesAllow d A h0 o h2 52 [(0, .ref x0), (1, .int x1), (2, .int x2), (3, .int x3)] [] h) (kf : ¬ (s0 = 0) → ah_At mt_N_rulesAllow d A h0 o h2 34 [(0, .ref x0), (1, .int x1), (2, .int x2), (3, .int x3), (4, .int x4)] [] h) : ah_At mt_N_rulesAllow d A h0 o h2 31 [(0, .ref x0), (1, .int x1), (2, .int x2), (3, .int x3), (4, .int x4)] [.int s0] h := by
  refine s_ifeq (t := 52) d_N_rulesAllow_31 (by decide) (fun z => ?_) (fun z => ?_)
  · exact ah_At.sub [0, 1, 2, 3] rfl (kt z)
  · exact (kf z)
theorem b_N_rulesAllow_34 {d : Nat} {A : Nat → Prop} {h2 : ah_H} {o : Outcome} {h0 : ah_H} {h : ah_H} {x0 : Nat} {x1 : Int32} {x2 : Int32} {x3 : Int32} {x4 : Int32} {v1 : Nat} {v2 : Nat} {j2 : Nat} {d' : Nat} {A' : Nat → Prop} {o' : Outcome} {h' : ah_H} (g1 : ah_sel h x0 3 1 = some (.ref v1)) (i2 : ah_ix x3 j2) (g2 : ah_sel h v1 111 j2 = some (.ref v2)) (hE : ah_Ev mt_N_isBarred d' A' [.ref x0, .int x1, .ref v2, .int x4] h o' h') (hdd : d' + 1 ≤ d) (hAA : ∀ q, A' q → A q) (k : ah_aft mt_N_rulesAllow d A h0 o h2 44 [(0, .ref x0), (1, .int x1), (2, .int x2), (3, .int x3)] [] h' o') (hb : (ah_len h x0 3).isSome = true) : ah_At mt_N_rulesAllow d A h0 o h2 34 [(0, .ref x0), (1, .int x1), (2, .int x2), (3, .int x3), (4, .int x4)] [] h := by
  refine s_aload_n d_N_rulesAllow_34 rfl rfl ?_
  refine s_iload_n d_N_rulesAllow_35 rfl rfl ?_
  refine s_aload_n d_N_rulesAllow_36 rfl rfl ?_
  refine s_getfield (k := 1) d_N_rulesAllow_37 kc3 (by decide) fl_N_11 g1 ?_
  refine s_iload_n d_N_rulesAllow_40 rfl rfl ?_
  refine s_aaload (t := 111) ⟨rfl, by decide, rfl⟩ rfl d_N_rulesAllow_41 i2 g2 ?_
  refine s_iload d_N_rulesAllow_42 rfl ?_
  refine ah_At.sub [0, 1, 2, 3] rfl ?_
  exact ah_callV (av := [.int x1, .ref v2, .int x4]) (st := []) d_N_rulesAllow_44 ml_N_182 mi_N_isBarred mv_N_isBarred kc3 hb hE hdd hAA rfl (Nat.le_of_ble_eq_true rfl) k
theorem b_N_rulesAllow_47 {d : Nat} {A : Nat → Prop} {h2 : ah_H} {o : Outcome} {h0 : ah_H} {h : ah_H} {x0 : Nat} {x1 : Int32} {x2 : Int32} {x3 : Int32} {s0 : Int32} (kt : s0 = 0 → ah_At mt_N_rulesAllow d A h0 o h2 52 [(0, .ref x0), (1, .int x1), (2, .int x2), (3, .int x3)] [] h) (kf : ¬ (s0 = 0) → ah_At mt_N_rulesAllow d A h0 o h2 50 [] [] h) : ah_At mt_N_rulesAllow d A h0 o h2 47 [(0, .ref x0), (1, .int x1), (2, .int x2), (3, .int x3)] [.int s0] h := by
  refine s_ifeq (t := 52) d_N_rulesAllow_47 (by decide) (fun z => ?_) (fun z => ?_)
  · exact (kt z)
  · exact ah_At.sub [] rfl (kf z)
theorem b_N_rulesAllow_50 {d : Nat} {A : Nat → Prop} {h0 : ah_H} {h : ah_H}   : ah_At mt_N_rulesAllow d A h0 (.returned (some (.int 0))) h 50 [] [] h := by
  refine s_iconst (v := 0) d_N_rulesAllow_50 (by decide) ?_
  exact e_iret (ty := .boolean) d_N_rulesAllow_51 rfl (by decide +kernel)
theorem b_N_rulesAllow_52 {d : Nat} {A : Nat → Prop} {h2 : ah_H} {o : Outcome} {h0 : ah_H} {h : ah_H} {x0 : Nat} {x1 : Int32} {x2 : Int32} {x3 : Int32} (k : ah_At mt_N_rulesAllow d A h0 o h2 4 [(0, .ref x0), (1, .int x1), (2, .int x2), (3, .int (x3 + 1))] [] h) : ah_At mt_N_rulesAllow d A h0 o h2 52 [(0, .ref x0), (1, .int x1), (2, .int x2), (3, .int x3)] [] h := by
  refine s_iinc (v := x3 + 1) (lv' := [(0, .ref x0), (1, .int x1), (2, .int x2), (3, .int (x3 + 1))]) d_N_rulesAllow_52 rfl rfl (by decide) rfl ?_
  refine s_goto (t := 4) d_N_rulesAllow_55 (by decide) ?_
  exact k
theorem b_N_rulesAllow_58 {d : Nat} {A : Nat → Prop} {h0 : ah_H} {h : ah_H}   : ah_At mt_N_rulesAllow d A h0 (.returned (some (.int 1))) h 58 [] [] h := by
  refine s_iconst (v := 1) d_N_rulesAllow_58 (by decide) ?_
  exact e_iret (ty := .boolean) d_N_rulesAllow_59 rfl (by decide +kernel)
theorem b_N_isBarred_0 {d : Nat} {A : Nat → Prop} {h2 : ah_H} {o : Outcome} {h0 : ah_H} {h : ah_H} {x0 : Nat} {x1 : Int32} {x2 : Nat} {x3 : Int32} (k : ah_At mt_N_isBarred d A h0 o h2 3 [(0, .ref x0), (1, .int x1), (2, .ref x2), (3, .int x3), (4, .int 1)] [] h) : ah_At mt_N_isBarred d A h0 o h2 0 [(0, .ref x0), (1, .int x1), (2, .ref x2), (3, .int x3)] [] h := by
  refine s_iconst (v := 1) d_N_isBarred_0 (by decide) ?_
  refine s_istore (lv' := [(0, .ref x0), (1, .int x1), (2, .ref x2), (3, .int x3), (4, .int 1)]) d_N_isBarred_1 (by decide) rfl ?_
  exact k
theorem b_N_isBarred_3 {d : Nat} {A : Nat → Prop} {h2 : ah_H} {o : Outcome} {h0 : ah_H} {h : ah_H} {x0 : Nat} {x1 : Int32} {x2 : Nat} {x3 : Int32} {x4 : Int32} (kt : 3 < x4 → ah_At mt_N_isBarred d A h0 o h2 43 [] [] h) (kf : ¬ (3 < x4) → ah_At mt_N_isBarred d A h0 o h2 9 [(0, .ref x0), (1, .int x1), (2, .ref x2), (3, .int x3), (4, .int x4)] [] h) : ah_At mt_N_isBarred d A h0 o h2 3 [(0, .ref x0), (1, .int x1), (2, .ref x2), (3, .int x3), (4, .int x4)] [] h := by
  refine s_iload d_N_isBarred_3 rfl ?_
  refine s_iconst (v := 3) d_N_isBarred_5 (by decide) ?_
  refine s_if_icmpgt (t := 43) d_N_isBarred_6 (by decide) (fun z => ?_) (fun z => ?_)
  · exact ah_At.sub [] rfl (kt z)
  · exact (kf z)
theorem b_N_isBarred_9 {d : Nat} {A : Nat → Prop} {h2 : ah_H} {o : Outcome} {h0 : ah_H} {h : ah_H} {x0 : Nat} {x1 : Int32} {x2 : Nat} {x3 : Int32} {x4 : Int32} {v1 : Nat} {v2 : Int32} {j2 : Nat} (g1 : ah_sel h x2 1 1 = some (.ref v1)) (i2 : ah_ix x4 j2) (g2 : ah_sel h v1 100 j2 = some (.int v2)) (kt : v2 ≤ 0 → ah_At mt_N_isBarred d A h0 o h2 37 [(0, .ref x0), (1, .int x1), (2, .ref x2), (3, .int x3), (4, .int x4)] [] h) (kf : ¬ (v2 ≤ 0) → ah_At mt_N_isBarred d A h0 o h2 19 [(0, .ref x0), (1, .int x1), (2, .ref x2), (3, .int x3), (4, .int x4)] [] h) : ah_At mt_N_isBarred d A h0 o h2 9 [(0, .ref x0), (1, .int x1), (2, .ref x2), (3, .int x3), (4, .int x4)] [] h := by
  refine s_aload_n d_N_isBarred_9 rfl rfl ?_
  refine s_getfield (k := 1) d_N_isBarred_10 kc1 (by decide) fl_N_186 g1 ?_
  refine s_iload d_N_isBarred_13 rfl ?_
  refine s_iaload d_N_isBarred_15 i2 g2 ?_
  refine s_ifle (t := 37) d_N_isBarred_16 (by decide) (fun z => ?_) (fun z => ?_)
  · exact (kt z)
  · exact (kf z)
theorem b_N_isBarred_19 {d : Nat} {A : Nat → Prop} {h2 : ah_H} {o : Outcome} {h0 : ah_H} {h : ah_H} {x0 : Nat} {x1 : Int32} {x2 : Nat} {x3 : Int32} {x4 : Int32} {v1 : Nat} {v2 : Nat} {v3 : Nat} {j3 : Nat} {v4 : Int32} {j4 : Nat} (g1 : ah_sel h x0 3 0 = some (.ref v1)) (g2 : ah_sel h v1 4 4 = some (.ref v2)) (i3 : ah_ix x1 j3) (g3 : ah_sel h v2 102 j3 = some (.ref v3)) (i4 : ah_ix x4 j4) (g4 : ah_sel h v3 100 j4 = some (.int v4)) (kt : v4 < x3 → ah_At mt_N_isBarred d A h0 o h2 37 [(0, .ref x0), (1, .int x1), (2, .ref x2), (3, .int x3), (4, .int x4)] [] h) (kf : ¬ (v4 < x3) → ah_At mt_N_isBarred d A h0 o h2 35 [] [] h) : ah_At mt_N_isBarred d A h0 o h2 19 [(0, .ref x0), (1, .int x1), (2, .ref x2), (3, .int x3), (4, .int x4)] [] h := by
  refine s_aload_n d_N_isBarred_19 rfl rfl ?_
  refine s_getfield (k := 0) d_N_isBarred_20 kc3 (by decide) fl_N_40 g1 ?_
  refine s_getfield (k := 4) d_N_isBarred_23 kc4 (by decide) fl_N_189 g2 ?_
  refine s_iload_n d_N_isBarred_26 rfl rfl ?_
  refine s_aaload (t := 102) ⟨rfl, by decide, rfl⟩ rfl d_N_isBarred_27 i3 g3 ?_
  refine s_iload d_N_isBarred_28 rfl ?_
  refine s_iaload d_N_isBarred_30 i4 g4 ?_
  refine s_iload_n d_N_isBarred_31 rfl rfl ?_
  refine s_if_icmplt (t := 37) d_N_isBarred_32 (by decide) (fun z => ?_) (fun z => ?_)
  · exact (kt z)
  · exact ah_At.sub [] rfl (kf z)
theorem b_N_isBarred_35 {d : Nat} {A : Nat → Prop} {h0 : ah_H} {h : ah_H}   : ah_At mt_N_isBarred d A h0 (.returned (some (.int 1))) h 35 [] [] h := by
  refine s_iconst (v := 1) d_N_isBarred_35 (by decide) ?_
  exact e_iret (ty := .boolean) d_N_isBarred_36 rfl (by decide +kernel)
theorem b_N_isBarred_37 {d : Nat} {A : Nat → Prop} {h2 : ah_H} {o : Outcome} {h0 : ah_H} {h : ah_H} {x0 : Nat} {x1 : Int32} {x2 : Nat} {x3 : Int32} {x4 : Int32} (k : ah_At mt_N_isBarred d A h0 o h2 3 [(0, .ref x0), (1, .int x1), (2, .ref x2), (3, .int x3), (4, .int (x4 + 1))] [] h) : ah_At mt_N_isBarred d A h0 o h2 37 [(0, .ref x0), (1, .int x1), (2, .ref x2), (3, .int x3), (4, .int x4)] [] h := by
  refine s_iinc (v := x4 + 1) (lv' := [(0, .ref x0), (1, .int x1), (2, .ref x2), (3, .int x3), (4, .int (x4 + 1))]) d_N_isBarred_37 rfl rfl (by decide) rfl ?_
  refine s_goto (t := 3) d_N_isBarred_40 (by decide) ?_
  exact k
theorem b_N_isBarred_43 {d : Nat} {A : Nat → Prop} {h0 : ah_H} {h : ah_H}   : ah_At mt_N_isBarred d A h0 (.returned (some (.int 0))) h 43 [] [] h := by
  refine s_iconst (v := 0) d_N_isBarred_43 (by decide) ?_
  exact e_iret (ty := .boolean) d_N_isBarred_44 rfl (by decide +kernel)
