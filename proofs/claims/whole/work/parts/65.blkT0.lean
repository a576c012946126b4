/-! BLOCKS. Printed by wip/make.py. -/
theorem b_T_init_50 {d : Nat} {A : Nat → Prop} {h2 : ah_H} {o : Outcome} {h0 : ah_H} {h : ah_H} {x0 : Nat} {x1 : Int32} (kt : 3 ≤ x1 → ah_At mt_T_init d A h0 o h2 74 [(0, .ref x0)] [] h) (kf : ¬ (3 ≤ x1) → ah_At mt_T_init d A h0 o h2 55 [(0, .ref x0), (1, .int x1)] [] h) : ah_At mt_T_init d A h0 o h2 50 [(0, .ref x0), (1, .int x1)] [] h := by
  refine s_iload_n d_T_init_50 rfl rfl ?_
  refine s_iconst (v := 3) d_T_init_51 (by decide) ?_
  refine s_if_icmpge (t := 74) d_T_init_52 (by decide) (fun z => ?_) (fun z => ?_)
  · exact ah_At.sub [0] rfl (kt z)
  · exact (kf z)
theorem b_T_init_55 {d : Nat} {A : Nat → Prop} {h2 : ah_H} {o : Outcome} {h0 : ah_H} {h : ah_H} {x0 : Nat} {x1 : Int32} {v1 : Nat} {h_1 : ah_H} {d' : Nat} {A' : Nat → Prop} {o' : Outcome} {h' : ah_H} (g1 : ah_sel h x0 4 0 = some (.ref v1)) (q1 : ah_new h (5, [.null, .int 0, .int 0, .long 0, .int 0, .int 0, .int 0]) = h_1) (hE : ah_Ev mt_G_init d' A' [.ref h.1] h_1 o' h') (hdd : d' + 1 ≤ d) (hAA : ∀ q, A' q → A q) (k : ah_aft mt_T_init d A h0 o h2 64 [(0, .ref x0), (1, .int x1)] [.ref h.1, .int x1, .ref v1] h' o') : ah_At mt_T_init d A h0 o h2 55 [(0, .ref x0), (1, .int x1)] [] h := by
  refine s_aload_n d_T_init_55 rfl rfl ?_
  refine s_getfield (k := 0) d_T_init_56 kc4 (by decide) fl_T_11 g1 ?_
  refine s_iload_n d_T_init_59 rfl rfl ?_
  refine s_newE (fs := [.null, .int 0, .int 0, .long 0, .int 0, .int 0, .int 0]) d_T_init_60 kc5 cl_T_9 kn5 ki5 rfl kd5 q1 ?_
  refine s_dup d_T_init_63 rfl ?_
  exact ah_callI (av := []) (st := [.ref h.1, .int x1, .ref v1]) d_T_init_64 ml_T_41 mi_G_init rfl rfl hE hdd hAA rfl (Nat.le_of_ble_eq_true rfl) k
theorem b_T_init_67 {d : Nat} {A : Nat → Prop} {h2 : ah_H} {o : Outcome} {h0 : ah_H} {h : ah_H} {x0 : Nat} {x1 : Int32} {s0 : Nat} {s1 : Int32} {s2 : Nat} {j1 : Nat} {h_1 : ah_H} (w1 : A s2) (i1 : ah_ix s1 j1) (e1 : (ah_sel h s2 115 j1).isSome = true) (t1 : (ah_len h s0 5).isSome = true) (q1 : ah_sto h s2 j1 (.ref s0) = h_1) (k : ah_At mt_T_init d A h0 o h2 50 [(0, .ref x0), (1, .int (x1 + 1))] [] h_1) : ah_At mt_T_init d A h0 o h2 67 [(0, .ref x0), (1, .int x1)] [.ref s0, .int s1, .ref s2] h := by
  refine s_aastoreE (ci := 5) kc5 ⟨rfl, by decide, rfl⟩ d_T_init_67 w1 i1 e1 t1 q1 ?_
  refine s_iinc (v := x1 + 1) (lv' := [(0, .ref x0), (1, .int (x1 + 1))]) d_T_init_68 rfl rfl (by decide) rfl ?_
  refine s_goto (t := 50) d_T_init_71 (by decide) ?_
  exact k
theorem b_T_init_74 {d : Nat} {A : Nat → Prop} {h2 : ah_H} {o : Outcome} {h0 : ah_H} {h : ah_H} {x0 : Nat} (k : ah_At mt_T_init d A h0 o h2 76 [(0, .ref x0), (1, .int 0)] [] h) : ah_At mt_T_init d A h0 o h2 74 [(0, .ref x0)] [] h := by
  refine s_iconst (v := 0) d_T_init_74 (by decide) ?_
  refine s_istore_n (lv' := [(0, .ref x0), (1, .int 0)]) d_T_init_75 rfl (by decide) rfl ?_
  exact k
theorem b_T_init_76 {d : Nat} {A : Nat → Prop} {h2 : ah_H} {o : Outcome} {h0 : ah_H} {h : ah_H} {x0 : Nat} {x1 : Int32} (kt : 8 ≤ x1 → ah_At mt_T_init d A h0 o h2 101 [] [] h) (kf : ¬ (8 ≤ x1) → ah_At mt_T_init d A h0 o h2 82 [(0, .ref x0), (1, .int x1)] [] h) : ah_At mt_T_init d A h0 o h2 76 [(0, .ref x0), (1, .int x1)] [] h := by
  refine s_iload_n d_T_init_76 rfl rfl ?_
  refine s_bipush (v := 8) d_T_init_77 (by decide) ?_
  refine s_if_icmpge (t := 101) d_T_init_79 (by decide) (fun z => ?_) (fun z => ?_)
  · exact ah_At.sub [] rfl (kt z)
  · exact (kf z)
theorem b_T_init_82 {d : Nat} {A : Nat → Prop} {h2 : ah_H} {o : Outcome} {h0 : ah_H} {h : ah_H} {x0 : Nat} {x1 : Int32} {v1 : Nat} {h_1 : ah_H} {d' : Nat} {A' : Nat → Prop} {o' : Outcome} {h' : ah_H} (g1 : ah_sel h x0 4 2 = some (.ref v1)) (q1 : ah_new h (0, [.int 0, .long 0, .int 0, .int 0, .long 0]) = h_1) (hE : ah_Ev mt_B_init d' A' [.ref h.1] h_1 o' h') (hdd : d' + 1 ≤ d) (hAA : ∀ q, A' q → A q) (k : ah_aft mt_T_init d A h0 o h2 91 [(0, .ref x0), (1, .int x1)] [.ref h.1, .int x1, .ref v1] h' o') : ah_At mt_T_init d A h0 o h2 82 [(0, .ref x0), (1, .int x1)] [] h := by
  refine s_aload_n d_T_init_82 rfl rfl ?_
  refine s_getfield (k := 2) d_T_init_83 kc4 (by decide) fl_T_23 g1 ?_
  refine s_iload_n d_T_init_86 rfl rfl ?_
  refine s_newE (fs := [.int 0, .long 0, .int 0, .int 0, .long 0]) d_T_init_87 kc0 cl_T_21 kn0 ki0 rfl kd0 q1 ?_
  refine s_dup d_T_init_90 rfl ?_
  exact ah_callI (av := []) (st := [.ref h.1, .int x1, .ref v1]) d_T_init_91 ml_T_42 mi_B_init rfl rfl hE hdd hAA rfl (Nat.le_of_ble_eq_true rfl) k
theorem b_T_init_94 {d : Nat} {A : Nat → Prop} {h2 : ah_H} {o : Outcome} {h0 : ah_H} {h : ah_H} {x0 : Nat} {x1 : Int32} {s0 : Nat} {s1 : Int32} {s2 : Nat} {j1 : Nat} {h_1 : ah_H} (w1 : A s2) (i1 : ah_ix s1 j1) (e1 : (ah_sel h s2 110 j1).isSome = true) (t1 : (ah_len h s0 0).isSome = true) (q1 : ah_sto h s2 j1 (.ref s0) = h_1) (k : ah_At mt_T_init d A h0 o h2 76 [(0, .ref x0), (1, .int (x1 + 1))] [] h_1) : ah_At mt_T_init d A h0 o h2 94 [(0, .ref x0), (1, .int x1)] [.ref s0, .int s1, .ref s2] h := by
  refine s_aastoreE (ci := 0) kc0 ⟨rfl, by decide, rfl⟩ d_T_init_94 w1 i1 e1 t1 q1 ?_
  refine s_iinc (v := x1 + 1) (lv' := [(0, .ref x0), (1, .int (x1 + 1))]) d_T_init_95 rfl rfl (by decide) rfl ?_
  refine s_goto (t := 76) d_T_init_98 (by decide) ?_
  exact k
theorem b_T_init_101 {d : Nat} {A : Nat → Prop} {h0 : ah_H} {h : ah_H}   : ah_At mt_T_init d A h0 (.returned none) h 101 [] [] h := by
  exact e_vret d_T_init_101 rfl
theorem b_T_hasWagon_0 {d : Nat} {A : Nat → Prop} {h2 : ah_H} {o : Outcome} {h0 : ah_H} {h : ah_H} {x0 : Nat} {x1 : Int32} (kt : x1 < 0 → ah_At mt_T_hasWagon d A h0 o h2 17 [] [] h) (kf : ¬ (x1 < 0) → ah_At mt_T_hasWagon d A h0 o h2 5 [(0, .ref x0), (1, .int x1)] [] h) : ah_At mt_T_hasWagon d A h0 o h2 0 [(0, .ref x0), (1, .int x1)] [] h := by
  refine s_iconst (v := 0) d_T_hasWagon_0 (by decide) ?_
  refine s_iload_n d_T_hasWagon_1 rfl rfl ?_
  refine s_if_icmpgt (t := 17) d_T_hasWagon_2 (by decide) (fun z => ?_) (fun z => ?_)
  · exact ah_At.sub [] rfl (kt z)
  · exact (kf z)
theorem b_T_hasWagon_5 {d : Nat} {A : Nat → Prop} {h2 : ah_H} {o : Outcome} {h0 : ah_H} {h : ah_H} {x0 : Nat} {x1 : Int32} {v1 : Int32} (g1 : ah_sel h x0 4 1 = some (.int v1)) (kt : v1 ≤ x1 → ah_At mt_T_hasWagon d A h0 o h2 17 [] [] h) (kf : ¬ (v1 ≤ x1) → ah_At mt_T_hasWagon d A h0 o h2 13 [] [] h) : ah_At mt_T_hasWagon d A h0 o h2 5 [(0, .ref x0), (1, .int x1)] [] h := by
  refine s_iload_n d_T_hasWagon_5 rfl rfl ?_
  refine s_aload_n d_T_hasWagon_6 rfl rfl ?_
  refine s_getfield (k := 1) d_T_hasWagon_7 kc4 (by decide) fl_T_17 g1 ?_
  refine s_if_icmpge (t := 17) d_T_hasWagon_10 (by decide) (fun z => ?_) (fun z => ?_)
  · exact ah_At.sub [] rfl (kt z)
  · exact ah_At.sub [] rfl (kf z)
theorem b_T_hasWagon_13 {d : Nat} {A : Nat → Prop} {h2 : ah_H} {o : Outcome} {h0 : ah_H} {h : ah_H}  (k : ah_At mt_T_hasWagon d A h0 o h2 18 [] [.int 1] h) : ah_At mt_T_hasWagon d A h0 o h2 13 [] [] h := by
  refine s_iconst (v := 1) d_T_hasWagon_13 (by decide) ?_
  refine s_goto (t := 18) d_T_hasWagon_14 (by decide) ?_
  exact k
theorem b_T_hasWagon_17 {d : Nat} {A : Nat → Prop} {h2 : ah_H} {o : Outcome} {h0 : ah_H} {h : ah_H}  (k : ah_At mt_T_hasWagon d A h0 o h2 18 [] [.int 0] h) : ah_At mt_T_hasWagon d A h0 o h2 17 [] [] h := by
  refine s_iconst (v := 0) d_T_hasWagon_17 (by decide) ?_
  exact k
theorem b_T_hasWagon_18 {d : Nat} {A : Nat → Prop} {h0 : ah_H} {h : ah_H} {s0 : Int32} (hz : narrow .boolean (.int s0) = .int s0) : ah_At mt_T_hasWagon d A h0 (.returned (some (.int s0))) h 18 [] [.int s0] h := by
  exact e_iret (ty := .boolean) d_T_hasWagon_18 rfl hz
theorem b_T_hasBox_0 {d : Nat} {A : Nat → Prop} {h2 : ah_H} {o : Outcome} {h0 : ah_H} {h : ah_H} {x0 : Nat} {x1 : Int32} (kt : x1 < 0 → ah_At mt_T_hasBox d A h0 o h2 17 [] [] h) (kf : ¬ (x1 < 0) → ah_At mt_T_hasBox d A h0 o h2 5 [(0, .ref x0), (1, .int x1)] [] h) : ah_At mt_T_hasBox d A h0 o h2 0 [(0, .ref x0), (1, .int x1)] [] h := by
  refine s_iconst (v := 0) d_T_hasBox_0 (by decide) ?_
  refine s_iload_n d_T_hasBox_1 rfl rfl ?_
  refine s_if_icmpgt (t := 17) d_T_hasBox_2 (by decide) (fun z => ?_) (fun z => ?_)
  · exact ah_At.sub [] rfl (kt z)
  · exact (kf z)
theorem b_T_hasBox_5 {d : Nat} {A : Nat → Prop} {h2 : ah_H} {o : Outcome} {h0 : ah_H} {h : ah_H} {x0 : Nat} {x1 : Int32} {v1 : Int32} (g1 : ah_sel h x0 4 3 = some (.int v1)) (kt : v1 ≤ x1 → ah_At mt_T_hasBox d A h0 o h2 17 [] [] h) (kf : ¬ (v1 ≤ x1) → ah_At mt_T_hasBox d A h0 o h2 13 [] [] h) : ah_At mt_T_hasBox d A h0 o h2 5 [(0, .ref x0), (1, .int x1)] [] h := by
  refine s_iload_n d_T_hasBox_5 rfl rfl ?_
  refine s_aload_n d_T_hasBox_6 rfl rfl ?_
  refine s_getfield (k := 3) d_T_hasBox_7 kc4 (by decide) fl_T_27 g1 ?_
  refine s_if_icmpge (t := 17) d_T_hasBox_10 (by decide) (fun z => ?_) (fun z => ?_)
  · exact ah_At.sub [] rfl (kt z)
  · exact ah_At.sub [] rfl (kf z)
theorem b_T_hasBox_13 {d : Nat} {A : Nat → Prop} {h2 : ah_H} {o : Outcome} {h0 : ah_H} {h : ah_H}  (k : ah_At mt_T_hasBox d A h0 o h2 18 [] [.int 1] h) : ah_At mt_T_hasBox d A h0 o h2 13 [] [] h := by
  refine s_iconst (v := 1) d_T_hasBox_13 (by decide) ?_
  refine s_goto (t := 18) d_T_hasBox_14 (by decide) ?_
  exact k
theorem b_T_hasBox_17 {d : Nat} {A : Nat → Prop} {h2 : ah_H} {o : Outcome} {h0 : ah_H} {h : ah_H}  (k : ah_At mt_T_hasBox d A h0 o h2 18 [] [.int 0] h) : ah_At mt_T_hasBox d A h0 o h2 17 [] [] h := by
  refine s_iconst (v := 0) d_T_hasBox_17 (by decide) ?_
  exact k
theorem b_T_hasBox_18 {d : Nat} {A : Nat → Prop} {h0 : ah_H} {h : ah_H} {s0 : Int32} (hz : narrow .boolean (.int s0) = .int s0) : ah_At mt_T_hasBox d A h0 (.returned (some (.int s0))) h 18 [] [.int s0] h := by
  exact e_iret (ty := .boolean) d_T_hasBox_18 rfl hz
theorem b_T_addWagon_0 {d : Nat} {A : Nat → Prop} {h2 : ah_H} {o : Outcome} {h0 : ah_H} {h : ah_H} {x0 : Nat} {x1 : Int32} {x2 : Int64} {x4 : Int32} {x5 : Int32} {v1 : Int32} (g1 : ah_sel h x0 4 1 = some (.int v1)) (kt : v1 < 3 → ah_At mt_T_addWagon d A h0 o h2 10 [(0, .ref x0), (1, .int x1), (2, .long x2), (4, .int x4), (5, .int x5)] [] h) (kf : ¬ (v1 < 3) → ah_At mt_T_addWagon d A h0 o h2 8 [] [] h) : ah_At mt_T_addWagon d A h0 o h2 0 [(0, .ref x0), (1, .int x1), (2, .long x2), (4, .int x4), (5, .int x5)] [] h := by
  refine s_aload_n d_T_addWagon_0 rfl rfl ?_
  refine s_getfield (k := 1) d_T_addWagon_1 kc4 (by decide) fl_T_17 g1 ?_
  refine s_iconst (v := 3) d_T_addWagon_4 (by decide) ?_
  refine s_if_icmplt (t := 10) d_T_addWagon_5 (by decide) (fun z => ?_) (fun z => ?_)
  · exact (kt z)
  · exact ah_At.sub [] rfl (kf z)
theorem b_T_addWagon_8 {d : Nat} {A : Nat → Prop} {h0 : ah_H} {h : ah_H}   : ah_At mt_T_addWagon d A h0 (.returned (some (.int (-1)))) h 8 [] [] h := by
  refine s_iconst (v := -1) d_T_addWagon_8 (by decide) ?_
  exact e_iret (ty := .int) d_T_addWagon_9 rfl rfl
theorem b_T_addWagon_10 {d : Nat} {A : Nat → Prop} {h0 : ah_H} {h : ah_H} {x0 : Nat} {x1 : Int32} {x2 : Int64} {x4 : Int32} {x5 : Int32} {v1 : Nat} {v2 : Int32} {v3 : Nat} {j3 : Nat} {v8 : Int32} {v10 : Int32} (g1 : ah_sel h x0 4 0 = some (.ref v1)) (g2 : ah_sel h x0 4 1 = some (.int v2)) (i3 : ah_ix v2 j3) (g3 : ah_sel h v1 115 j3 = some (.ref v3)) (w4 : A v3) (e4 : (ah_sel h v3 5 2).isSome = true) (w5 : A v3) (e5 : (ah_sel (ah_sto h v3 2 (.int x1)) v3 5 3).isSome = true) (w6 : A v3) (e6 : (ah_sel (ah_sto (ah_sto h v3 2 (.int x1)) v3 3 (.long x2)) v3 5 4).isSome = true) (w7 : A v3) (e7 : (ah_sel (ah_sto (ah_sto (ah_sto h v3 2 (.int x1)) v3 3 (.long x2)) v3 4 (.int x4)) v3 5 5).isSome = true) (g8 : ah_sel (ah_sto (ah_sto (ah_sto (ah_sto h v3 2 (.int x1)) v3 3 (.long x2)) v3 4 (.int x4)) v3 5 (.int x5)) x0 4 1 = some (.int v8)) (w9 : A x0) (e9 : (ah_sel (ah_sto (ah_sto (ah_sto (ah_sto h v3 2 (.int x1)) v3 3 (.long x2)) v3 4 (.int x4)) v3 5 (.int x5)) x0 4 1).isSome = true) (g10 : ah_sel (ah_sto (ah_sto (ah_sto (ah_sto (ah_sto h v3 2 (.int x1)) v3 3 (.long x2)) v3 4 (.int x4)) v3 5 (.int x5)) x0 1 (.int (v8 + 1))) x0 4 1 = some (.int v10)) : ah_At mt_T_addWagon d A h0 (.returned (some (.int (v10 - 1)))) (ah_sto (ah_sto (ah_sto (ah_sto (ah_sto h v3 2 (.int x1)) v3 3 (.long x2)) v3 4 (.int x4)) v3 5 (.int x5)) x0 1 (.int (v8 + 1))) 10 [(0, .ref x0), (1, .int x1), (2, .long x2), (4, .int x4), (5, .int x5)] [] h := by
  refine s_aload_n d_T_addWagon_10 rfl rfl ?_
  refine s_getfield (k := 0) d_T_addWagon_11 kc4 (by decide) fl_T_11 g1 ?_
  refine s_aload_n d_T_addWagon_14 rfl rfl ?_
  refine s_getfield (k := 1) d_T_addWagon_15 kc4 (by decide) fl_T_17 g2 ?_
  refine s_aaload (t := 115) ⟨rfl, by decide, rfl⟩ rfl d_T_addWagon_18 i3 g3 ?_
  refine s_astore (lv' := [(0, .ref x0), (1, .int x1), (2, .long x2), (4, .int x4), (5, .int x5), (6, .ref v3)]) d_T_addWagon_19 (by decide) rfl ?_
  refine s_aload d_T_addWagon_21 rfl ?_
  refine s_iload_n d_T_addWagon_23 rfl rfl ?_
  refine s_putfield (k := 2) d_T_addWagon_24 kc5 (by decide) fl_T_43 (Or.inl rfl) w4 rfl e4 ?_
  refine s_aload d_T_addWagon_27 rfl ?_
  refine s_lload_n d_T_addWagon_29 rfl rfl ?_
  refine s_putfield (k := 3) d_T_addWagon_30 kc5 (by decide) fl_T_46 (Or.inl rfl) w5 rfl e5 ?_
  refine s_aload d_T_addWagon_33 rfl ?_
  refine s_iload d_T_addWagon_35 rfl ?_
  refine s_putfield (k := 4) d_T_addWagon_37 kc5 (by decide) fl_T_49 (Or.inl rfl) w6 rfl e6 ?_
  refine s_aload d_T_addWagon_40 rfl ?_
  refine s_iload d_T_addWagon_42 rfl ?_
  refine s_putfield (k := 5) d_T_addWagon_44 kc5 (by decide) fl_T_52 (Or.inl rfl) w7 rfl e7 ?_
  refine s_aload_n d_T_addWagon_47 rfl rfl ?_
  refine s_dup d_T_addWagon_48 rfl ?_
  refine s_getfield (k := 1) d_T_addWagon_49 kc4 (by decide) fl_T_17 g8 ?_
  refine s_iconst (v := 1) d_T_addWagon_52 (by decide) ?_
  refine s_iadd d_T_addWagon_53 ?_
  refine s_putfield (k := 1) d_T_addWagon_54 kc4 (by decide) fl_T_17 (Or.inl rfl) w9 rfl e9 ?_
  refine s_aload_n d_T_addWagon_57 rfl rfl ?_
  refine s_getfield (k := 1) d_T_addWagon_58 kc4 (by decide) fl_T_17 g10 ?_
  refine s_iconst (v := 1) d_T_addWagon_61 (by decide) ?_
  refine s_isub d_T_addWagon_62 ?_
  exact e_iret (ty := .int) d_T_addWagon_63 rfl rfl
theorem b_T_addBox_0 {d : Nat} {A : Nat → Prop} {h2 : ah_H} {o : Outcome} {h0 : ah_H} {h : ah_H} {x0 : Nat} {x1 : Int32} {x2 : Int64} {x4 : Int32} {x5 : Int32} {x6 : Int64} {v1 : Int32} (g1 : ah_sel h x0 4 3 = some (.int v1)) (kt : v1 < 8 → ah_At mt_T_addBox d A h0 o h2 11 [(0, .ref x0), (1, .int x1), (2, .long x2), (4, .int x4), (5, .int x5), (6, .long x6)] [] h) (kf : ¬ (v1 < 8) → ah_At mt_T_addBox d A h0 o h2 9 [] [] h) : ah_At mt_T_addBox d A h0 o h2 0 [(0, .ref x0), (1, .int x1), (2, .long x2), (4, .int x4), (5, .int x5), (6, .long x6)] [] h := by
  refine s_aload_n d_T_addBox_0 rfl rfl ?_
  refine s_getfield (k := 3) d_T_addBox_1 kc4 (by decide) fl_T_27 g1 ?_
  refine s_bipush (v := 8) d_T_addBox_4 (by decide) ?_
  refine s_if_icmplt (t := 11) d_T_addBox_6 (by decide) (fun z => ?_) (fun z => ?_)
  · exact (kt z)
  · exact ah_At.sub [] rfl (kf z)
theorem b_T_addBox_9 {d : Nat} {A : Nat → Prop} {h0 : ah_H} {h : ah_H}   : ah_At mt_T_addBox d A h0 (.returned (some (.int (-1)))) h 9 [] [] h := by
  refine s_iconst (v := -1) d_T_addBox_9 (by decide) ?_
  exact e_iret (ty := .int) d_T_addBox_10 rfl rfl
theorem b_T_addBox_11 {d : Nat} {A : Nat → Prop} {h0 : ah_H} {h : ah_H} {x0 : Nat} {x1 : Int32} {x2 : Int64} {x4 : Int32} {x5 : Int32} {x6 : Int64} {v1 : Nat} {v2 : Int32} {v3 : Nat} {j3 : Nat} {v9 : Int32} {v11 : Int32} (g1 : ah_sel h x0 4 2 = some (.ref v1)) (g2 : ah_sel h x0 4 3 = some (.int v2)) (i3 : ah_ix v2 j3) (g3 : ah_sel h v1 110 j3 = some (.ref v3)) (w4 : A v3) (e4 : (ah_sel h v3 0 0).isSome = true) (w5 : A v3) (e5 : (ah_sel (ah_sto h v3 0 (.int x1)) v3 0 1).isSome = true) (w6 : A v3) (e6 : (ah_sel (ah_sto (ah_sto h v3 0 (.int x1)) v3 1 (.long x2)) v3 0 2).isSome = true) (w7 : A v3) (e7 : (ah_sel (ah_sto (ah_sto (ah_sto h v3 0 (.int x1)) v3 1 (.long x2)) v3 2 (.int x4)) v3 0 3).isSome = true) (w8 : A v3) (e8 : (ah_sel (ah_sto (ah_sto (ah_sto (ah_sto h v3 0 (.int x1)) v3 1 (.long x2)) v3 2 (.int x4)) v3 3 (.int x5)) v3 0 4).isSome = true) (g9 : ah_sel (ah_sto (ah_sto (ah_sto (ah_sto (ah_sto h v3 0 (.int x1)) v3 1 (.long x2)) v3 2 (.int x4)) v3 3 (.int x5)) v3 4 (.long x6)) x0 4 3 = some (.int v9)) (w10 : A x0) (e10 : (ah_sel (ah_sto (ah_sto (ah_sto (ah_sto (ah_sto h v3 0 (.int x1)) v3 1 (.long x2)) v3 2 (.int x4)) v3 3 (.int x5)) v3 4 (.long x6)) x0 4 3).isSome = true) (g11 : ah_sel (ah_sto (ah_sto (ah_sto (ah_sto (ah_sto (ah_sto h v3 0 (.int x1)) v3 1 (.long x2)) v3 2 (.int x4)) v3 3 (.int x5)) v3 4 (.long x6)) x0 3 (.int (v9 + 1))) x0 4 3 = some (.int v11)) : ah_At mt_T_addBox d A h0 (.returned (some (.int (v11 - 1)))) (ah_sto (ah_sto (ah_sto (ah_sto (ah_sto (ah_sto h v3 0 (.int x1)) v3 1 (.long x2)) v3 2 (.int x4)) v3 3 (.int x5)) v3 4 (.long x6)) x0 3 (.int (v9 + 1))) 11 [(0, .ref x0), (1, .int x1), (2, .long x2), (4, .int x4), (5, .int x5), (6, .long x6)] [] h := by
  refine s_aload_n d_T_addBox_11 rfl rfl ?_
  refine s_getfield (k := 2) d_T_addBox_12 kc4 (by decide) fl_T_23 g1 ?_
  refine s_aload_n d_T_addBox_15 rfl rfl ?_
  refine s_getfield (k := 3) d_T_addBox_16 kc4 (by decide) fl_T_27 g2 ?_
  refine s_aaload (t := 110) ⟨rfl, by decide, rfl⟩ rfl d_T_addBox_19 i3 g3 ?_
  refine s_astore (lv' := [(0, .ref x0), (1, .int x1), (2, .long x2), (4, .int x4), (5, .int x5), (6, .long x6), (8, .ref v3)]) d_T_addBox_20 (by decide) rfl ?_
  refine s_aload d_T_addBox_22 rfl ?_
  refine s_iload_n d_T_addBox_24 rfl rfl ?_
  refine s_putfield (k := 0) d_T_addBox_25 kc0 (by decide) fl_T_55 (Or.inl rfl) w4 rfl e4 ?_
  refine s_aload d_T_addBox_28 rfl ?_
  refine s_lload_n d_T_addBox_30 rfl rfl ?_
  refine s_putfield (k := 1) d_T_addBox_31 kc0 (by decide) fl_T_58 (Or.inl rfl) w5 rfl e5 ?_
  refine s_aload d_T_addBox_34 rfl ?_
  refine s_iload d_T_addBox_36 rfl ?_
  refine s_putfield (k := 2) d_T_addBox_38 kc0 (by decide) fl_T_61 (Or.inl rfl) w6 rfl e6 ?_
  refine s_aload d_T_addBox_41 rfl ?_
  refine s_iload d_T_addBox_43 rfl ?_
  refine s_putfield (k := 3) d_T_addBox_45 kc0 (by decide) fl_T_64 (Or.inl rfl) w7 rfl e7 ?_
  refine s_aload d_T_addBox_48 rfl ?_
  refine s_lload d_T_addBox_50 rfl ?_
  refine s_putfield (k := 4) d_T_addBox_52 kc0 (by decide) fl_T_67 (Or.inl rfl) w8 rfl e8 ?_
  refine s_aload_n d_T_addBox_55 rfl rfl ?_
  refine s_dup d_T_addBox_56 rfl ?_
  refine s_getfield (k := 3) d_T_addBox_57 kc4 (by decide) fl_T_27 g9 ?_
  refine s_iconst (v := 1) d_T_addBox_60 (by decide) ?_
  refine s_iadd d_T_addBox_61 ?_
  refine s_putfield (k := 3) d_T_addBox_62 kc4 (by decide) fl_T_27 (Or.inl rfl) w10 rfl e10 ?_
  refine s_aload_n d_T_addBox_65 rfl rfl ?_
  refine s_getfield (k := 3) d_T_addBox_66 kc4 (by decide) fl_T_27 g11 ?_
  refine s_iconst (v := 1) d_T_addBox_69 (by decide) ?_
  refine s_isub d_T_addBox_70 ?_
  exact e_iret (ty := .int) d_T_addBox_71 rfl rfl
theorem b_T_rankOf_0 {d : Nat} {A : Nat → Prop} {h2 : ah_H} {o : Outcome} {h0 : ah_H} {h : ah_H} {x0 : Nat} {x1 : Int32} (k : ah_At mt_T_rankOf d A h0 o h2 4 [(0, .ref x0), (1, .int x1), (2, .int 0), (3, .int 0)] [] h) : ah_At mt_T_rankOf d A h0 o h2 0 [(0, .ref x0), (1, .int x1)] [] h := by
  refine s_iconst (v := 0) d_T_rankOf_0 (by decide) ?_
  refine s_istore_n (lv' := [(0, .ref x0), (1, .int x1), (2, .int 0)]) d_T_rankOf_1 rfl (by decide) rfl ?_
  refine s_iconst (v := 0) d_T_rankOf_2 (by decide) ?_
  refine s_istore_n (lv' := [(0, .ref x0), (1, .int x1), (2, .int 0), (3, .int 0)]) d_T_rankOf_3 rfl (by decide) rfl ?_
  exact k
theorem b_T_rankOf_4 {d : Nat} {A : Nat → Prop} {h2 : ah_H} {o : Outcome} {h0 : ah_H} {h : ah_H} {x0 : Nat} {x1 : Int32} {x2 : Int32} {x3 : Int32} {v1 : Int32} (g1 : ah_sel h x0 4 3 = some (.int v1)) (kt : v1 ≤ x3 → ah_At mt_T_rankOf d A h0 o h2 61 [(2, .int x2)] [] h) (kf : ¬ (v1 ≤ x3) → ah_At mt_T_rankOf d A h0 o h2 12 [(0, .ref x0), (1, .int x1), (2, .int x2), (3, .int x3)] [] h) : ah_At mt_T_rankOf d A h0 o h2 4 [(0, .ref x0), (1, .int x1), (2, .int x2), (3, .int x3)] [] h := by
  refine s_iload_n d_T_rankOf_4 rfl rfl ?_
  refine s_aload_n d_T_rankOf_5 rfl rfl ?_
  refine s_getfield (k := 3) d_T_rankOf_6 kc4 (by decide) fl_T_27 g1 ?_
  refine s_if_icmpge (t := 61) d_T_rankOf_9 (by decide) (fun z => ?_) (fun z => ?_)
  · exact ah_At.sub [2] rfl (kt z)
  · exact (kf z)
theorem b_T_rankOf_12 {d : Nat} {A : Nat → Prop} {h2 : ah_H} {o : Outcome} {h0 : ah_H} {h : ah_H} {x0 : Nat} {x1 : Int32} {x2 : Int32} {x3 : Int32} {v1 : Nat} {v2 : Nat} {j2 : Nat} {v3 : Int64} {v4 : Nat} {v5 : Nat} {j5 : Nat} {v6 : Int64} (g1 : ah_sel h x0 4 2 = some (.ref v1)) (i2 : ah_ix x1 j2) (g2 : ah_sel h v1 110 j2 = some (.ref v2)) (g3 : ah_sel h v2 0 4 = some (.long v3)) (g4 : ah_sel h x0 4 2 = some (.ref v4)) (i5 : ah_ix x3 j5) (g5 : ah_sel h v4 110 j5 = some (.ref v5)) (g6 : ah_sel h v5 0 4 = some (.long v6)) (kt : 0 < (lg_cmp (v3 - v6) 0) → ah_At mt_T_rankOf d A h0 o h2 52 [(0, .ref x0), (1, .int x1), (2, .int x2), (3, .int x3)] [] h) (kf : ¬ (0 < (lg_cmp (v3 - v6) 0)) → ah_At mt_T_rankOf d A h0 o h2 40 [(0, .ref x0), (1, .int x1), (2, .int x2), (3, .int x3), (4, .long (v3 - v6))] [] h) : ah_At mt_T_rankOf d A h0 o h2 12 [(0, .ref x0), (1, .int x1), (2, .int x2), (3, .int x3)] [] h := by
  refine s_aload_n d_T_rankOf_12 rfl rfl ?_
  refine s_getfield (k := 2) d_T_rankOf_13 kc4 (by decide) fl_T_23 g1 ?_
  refine s_iload_n d_T_rankOf_16 rfl rfl ?_
  refine s_aaload (t := 110) ⟨rfl, by decide, rfl⟩ rfl d_T_rankOf_17 i2 g2 ?_
  refine s_getfield (k := 4) d_T_rankOf_18 kc0 (by decide) fl_T_67 g3 ?_
  refine s_aload_n d_T_rankOf_21 rfl rfl ?_
  refine s_getfield (k := 2) d_T_rankOf_22 kc4 (by decide) fl_T_23 g4 ?_
  refine s_iload_n d_T_rankOf_25 rfl rfl ?_
  refine s_aaload (t := 110) ⟨rfl, by decide, rfl⟩ rfl d_T_rankOf_26 i5 g5 ?_
  refine s_getfield (k := 4) d_T_rankOf_27 kc0 (by decide) fl_T_67 g6 ?_
  refine s_lsub d_T_rankOf_30 ?_
  refine s_lstore (lv' := [(0, .ref x0), (1, .int x1), (2, .int x2), (3, .int x3), (4, .long (v3 - v6))]) d_T_rankOf_31 (by decide) rfl ?_
  refine s_lload d_T_rankOf_33 rfl ?_
  refine s_lconst (v := 0) d_T_rankOf_35 (by decide) ?_
  refine s_lcmp d_T_rankOf_36 ?_
  refine s_ifgt (t := 52) d_T_rankOf_37 (by decide) (fun z => ?_) (fun z => ?_)
  · exact ah_At.sub [0, 1, 2, 3] rfl (kt z)
  · exact (kf z)
theorem b_T_rankOf_40 {d : Nat} {A : Nat → Prop} {h2 : ah_H} {o : Outcome} {h0 : ah_H} {h : ah_H} {x0 : Nat} {x1 : Int32} {x2 : Int32} {x3 : Int32} {x4 : Int64} (kt : ¬ (lg_cmp x4 0) = 0 → ah_At mt_T_rankOf d A h0 o h2 55 [(0, .ref x0), (1, .int x1), (2, .int x2), (3, .int x3)] [] h) (kf : ¬ (¬ (lg_cmp x4 0) = 0) → ah_At mt_T_rankOf d A h0 o h2 47 [(0, .ref x0), (1, .int x1), (2, .int x2), (3, .int x3)] [] h) : ah_At mt_T_rankOf d A h0 o h2 40 [(0, .ref x0), (1, .int x1), (2, .int x2), (3, .int x3), (4, .long x4)] [] h := by
  refine s_lload d_T_rankOf_40 rfl ?_
  refine s_lconst (v := 0) d_T_rankOf_42 (by decide) ?_
  refine s_lcmp d_T_rankOf_43 ?_
  refine s_ifne (t := 55) d_T_rankOf_44 (by decide) (fun z => ?_) (fun z => ?_)
  · exact ah_At.sub [0, 1, 2, 3] rfl (kt z)
  · exact ah_At.sub [0, 1, 2, 3] rfl (kf z)
theorem b_T_rankOf_47 {d : Nat} {A : Nat → Prop} {h2 : ah_H} {o : Outcome} {h0 : ah_H} {h : ah_H} {x0 : Nat} {x1 : Int32} {x2 : Int32} {x3 : Int32} (kt : x1 ≤ x3 → ah_At mt_T_rankOf d A h0 o h2 55 [(0, .ref x0), (1, .int x1), (2, .int x2), (3, .int x3)] [] h) (kf : ¬ (x1 ≤ x3) → ah_At mt_T_rankOf d A h0 o h2 52 [(0, .ref x0), (1, .int x1), (2, .int x2), (3, .int x3)] [] h) : ah_At mt_T_rankOf d A h0 o h2 47 [(0, .ref x0), (1, .int x1), (2, .int x2), (3, .int x3)] [] h := by
  refine s_iload_n d_T_rankOf_47 rfl rfl ?_
  refine s_iload_n d_T_rankOf_48 rfl rfl ?_
  refine s_if_icmpge (t := 55) d_T_rankOf_49 (by decide) (fun z => ?_) (fun z => ?_)
  · exact (kt z)
  · exact (kf z)
theorem b_T_rankOf_52 {d : Nat} {A : Nat → Prop} {h2 : ah_H} {o : Outcome} {h0 : ah_H} {h : ah_H} {x0 : Nat} {x1 : Int32} {x2 : Int32} {x3 : Int32} (k : ah_At mt_T_rankOf d A h0 o h2 55 [(0, .ref x0), (1, .int x1), (2, .int (x2 + 1)), (3, .int x3)] [] h) : ah_At mt_T_rankOf d A h0 o h2 52 [(0, .ref x0), (1, .int x1), (2, .int x2), (3, .int x3)] [] h := by
  refine s_iinc (v := x2 + 1) (lv' := [(0, .ref x0), (1, .int x1), (2, .int (x2 + 1)), (3, .int x3)]) d_T_rankOf_52 rfl rfl (by decide) rfl ?_
  exact k
theorem b_T_rankOf_55 {d : Nat} {A : Nat → Prop} {h2 : ah_H} {o : Outcome} {h0 : ah_H} {h : ah_H} {x0 : Nat} {x1 : Int32} {x2 : Int32} {x3 : Int32} (k : ah_At mt_T_rankOf d A h0 o h2 4 [(0, .ref x0), (1, .int x1), (2, .int x2), (3, .int (x3 + 1))] [] h) : ah_At mt_T_rankOf d A h0 o h2 55 [(0, .ref x0), (1, .int x1), (2, .int x2), (3, .int x3)] [] h := by
  refine s_iinc (v := x3 + 1) (lv' := [(0, .ref x0), (1, .int x1), (2, .int x2), (3, .int (x3 + 1))]) d_T_rankOf_55 rfl rfl (by decide) rfl ?_
  refine s_goto (t := 4) d_T_rankOf_58 (by decide) ?_
  exact k
theorem b_T_rankOf_61 {d : Nat} {A : Nat → Prop} {h0 : ah_H} {h : ah_H} {x2 : Int32}  : ah_At mt_T_rankOf d A h0 (.returned (some (.int x2))) h 61 [(2, .int x2)] [] h := by
  refine s_iload_n d_T_rankOf_61 rfl rfl ?_
  exact e_iret (ty := .int) d_T_rankOf_62 rfl rfl
theorem b_T_reasonAgainst_0 {d : Nat} {A : Nat → Prop} {h2 : ah_H} {o : Outcome} {h0 : ah_H} {h : ah_H} {x0 : Nat} {x1 : Nat} {v1 : Int32} (g1 : ah_sel h x0 4 1 = some (.int v1)) (kt : ¬ v1 = 0 → ah_At mt_T_reasonAgainst d A h0 o h2 11 [(0, .ref x0), (1, .ref x1)] [] h) (kf : ¬ (¬ v1 = 0) → ah_At mt_T_reasonAgainst d A h0 o h2 7 [(0, .ref x0), (1, .ref x1)] [] h) : ah_At mt_T_reasonAgainst d A h0 o h2 0 [(0, .ref x0), (1, .ref x1)] [] h := by
  refine s_aload_n d_T_reasonAgainst_0 rfl rfl ?_
  refine s_getfield (k := 1) d_T_reasonAgainst_1 kc4 (by decide) fl_T_17 g1 ?_
  refine s_ifne (t := 11) d_T_reasonAgainst_4 (by decide) (fun z => ?_) (fun z => ?_)
  · exact (kt z)
  · exact (kf z)
theorem b_T_reasonAgainst_7 {d : Nat} {A : Nat → Prop} {h2 : ah_H} {o : Outcome} {h0 : ah_H} {h : ah_H} {x0 : Nat} {x1 : Nat} (k : ah_At mt_T_reasonAgainst d A h0 o h2 12 [(0, .ref x0), (1, .ref x1)] [.int 4] h) : ah_At mt_T_reasonAgainst d A h0 o h2 7 [(0, .ref x0), (1, .ref x1)] [] h := by
  refine s_iconst (v := 4) d_T_reasonAgainst_7 (by decide) ?_
  refine s_goto (t := 12) d_T_reasonAgainst_8 (by decide) ?_
  exact k
theorem b_T_reasonAgainst_11 {d : Nat} {A : Nat → Prop} {h2 : ah_H} {o : Outcome} {h0 : ah_H} {h : ah_H} {x0 : Nat} {x1 : Nat} (k : ah_At mt_T_reasonAgainst d A h0 o h2 12 [(0, .ref x0), (1, .ref x1)] [.int 0] h) : ah_At mt_T_reasonAgainst d A h0 o h2 11 [(0, .ref x0), (1, .ref x1)] [] h := by
  refine s_iconst (v := 0) d_T_reasonAgainst_11 (by decide) ?_
  exact k
theorem b_T_reasonAgainst_12 {d : Nat} {A : Nat → Prop} {h2 : ah_H} {o : Outcome} {h0 : ah_H} {h : ah_H} {x0 : Nat} {x1 : Nat} {s0 : Int32} (k : ah_At mt_T_reasonAgainst d A h0 o h2 15 [(0, .ref x0), (1, .ref x1), (2, .int s0), (3, .int 0)] [] h) : ah_At mt_T_reasonAgainst d A h0 o h2 12 [(0, .ref x0), (1, .ref x1)] [.int s0] h := by
  refine s_istore_n (lv' := [(0, .ref x0), (1, .ref x1), (2, .int s0)]) d_T_reasonAgainst_12 rfl (by decide) rfl ?_
  refine s_iconst (v := 0) d_T_reasonAgainst_13 (by decide) ?_
  refine s_istore_n (lv' := [(0, .ref x0), (1, .ref x1), (2, .int s0), (3, .int 0)]) d_T_reasonAgainst_14 rfl (by decide) rfl ?_
  exact k
theorem b_T_reasonAgainst_15 {d : Nat} {A : Nat → Prop} {h2 : ah_H} {o : Outcome} {h0 : ah_H} {h : ah_H} {x0 : Nat} {x1 : Nat} {x2 : Int32} {x3 : Int32} {v1 : Int32} (g1 : ah_sel h x0 4 1 = some (.int v1)) (kt : v1 ≤ x3 → ah_At mt_T_reasonAgainst d A h0 o h2 55 [(2, .int x2)] [] h) (kf : ¬ (v1 ≤ x3) → ah_At mt_T_reasonAgainst d A h0 o h2 23 [(0, .ref x0), (1, .ref x1), (2, .int x2), (3, .int x3)] [] h) : ah_At mt_T_reasonAgainst d A h0 o h2 15 [(0, .ref x0), (1, .ref x1), (2, .int x2), (3, .int x3)] [] h := by
  refine s_iload_n d_T_reasonAgainst_15 rfl rfl ?_
  refine s_aload_n d_T_reasonAgainst_16 rfl rfl ?_
  refine s_getfield (k := 1) d_T_reasonAgainst_17 kc4 (by decide) fl_T_17 g1 ?_
  refine s_if_icmpge (t := 55) d_T_reasonAgainst_20 (by decide) (fun z => ?_) (fun z => ?_)
  · exact ah_At.sub [2] rfl (kt z)
  · exact (kf z)
theorem b_T_reasonAgainst_23 {d : Nat} {A : Nat → Prop} {h2 : ah_H} {o : Outcome} {h0 : ah_H} {h : ah_H} {x0 : Nat} {x1 : Nat} {x2 : Int32} {x3 : Int32} {v1 : Nat} {v2 : Nat} {j2 : Nat} {d' : Nat} {A' : Nat → Prop} {o' : Outcome} {h' : ah_H} (g1 : ah_sel h x0 4 0 = some (.ref v1)) (i2 : ah_ix x3 j2) (g2 : ah_sel h v1 115 j2 = some (.ref v2)) (hE : ah_Ev mt_G_reasonAgainst d' A' [.ref v2, .ref x1] h o' h') (hdd : d' + 1 ≤ d) (hAA : ∀ q, A' q → A q) (k : ah_aft mt_T_reasonAgainst d A h0 o h2 30 [(0, .ref x0), (1, .ref x1), (2, .int x2), (3, .int x3)] [] h' o') (hb : (ah_len h v2 5).isSome = true) : ah_At mt_T_reasonAgainst d A h0 o h2 23 [(0, .ref x0), (1, .ref x1), (2, .int x2), (3, .int x3)] [] h := by
  refine s_aload_n d_T_reasonAgainst_23 rfl rfl ?_
  refine s_getfield (k := 0) d_T_reasonAgainst_24 kc4 (by decide) fl_T_11 g1 ?_
  refine s_iload_n d_T_reasonAgainst_27 rfl rfl ?_
  refine s_aaload (t := 115) ⟨rfl, by decide, rfl⟩ rfl d_T_reasonAgainst_28 i2 g2 ?_
  refine s_aload_n d_T_reasonAgainst_29 rfl rfl ?_
  exact ah_callV (av := [.ref x1]) (st := []) d_T_reasonAgainst_30 ml_T_70 mi_G_reasonAgainst mv_G_reasonAgainst kc5 hb hE hdd hAA rfl (Nat.le_of_ble_eq_true rfl) k
theorem b_T_reasonAgainst_33 {d : Nat} {A : Nat → Prop} {h2 : ah_H} {o : Outcome} {h0 : ah_H} {h : ah_H} {x0 : Nat} {x1 : Nat} {x2 : Int32} {x3 : Int32} {s0 : Int32} (kt : ¬ s0 = 0 → ah_At mt_T_reasonAgainst d A h0 o h2 42 [(0, .ref x0), (1, .ref x1), (2, .int x2), (3, .int x3), (4, .int s0)] [] h) (kf : ¬ (¬ s0 = 0) → ah_At mt_T_reasonAgainst d A h0 o h2 40 [] [] h) : ah_At mt_T_reasonAgainst d A h0 o h2 33 [(0, .ref x0), (1, .ref x1), (2, .int x2), (3, .int x3)] [.int s0] h := by
  refine s_istore (lv' := [(0, .ref x0), (1, .ref x1), (2, .int x2), (3, .int x3), (4, .int s0)]) d_T_reasonAgainst_33 (by decide) rfl ?_
  refine s_iload d_T_reasonAgainst_35 rfl ?_
  refine s_ifne (t := 42) d_T_reasonAgainst_37 (by decide) (fun z => ?_) (fun z => ?_)
  · exact (kt z)
  · exact ah_At.sub [] rfl (kf z)
theorem b_T_reasonAgainst_40 {d : Nat} {A : Nat → Prop} {h0 : ah_H} {h : ah_H}   : ah_At mt_T_reasonAgainst d A h0 (.returned (some (.int 0))) h 40 [] [] h := by
  refine s_iconst (v := 0) d_T_reasonAgainst_40 (by decide) ?_
  exact e_iret (ty := .int) d_T_reasonAgainst_41 rfl rfl
theorem b_T_reasonAgainst_42 {d : Nat} {A : Nat → Prop} {h2 : ah_H} {o : Outcome} {h0 : ah_H} {h : ah_H} {x0 : Nat} {x1 : Nat} {x2 : Int32} {x3 : Int32} {x4 : Int32} (hd1 : 1 ≤ d) (k : ah_At mt_T_reasonAgainst d A h0 o h2 15 [(0, .ref x0), (1, .ref x1), (2, .int (ah_max x2 x4)), (3, .int (x3 + 1))] [] h) : ah_At mt_T_reasonAgainst d A h0 o h2 42 [(0, .ref x0), (1, .ref x1), (2, .int x2), (3, .int x3), (4, .int x4)] [] h := by
  refine s_iload_n d_T_reasonAgainst_42 rfl rfl ?_
  refine s_iload d_T_reasonAgainst_43 rfl ?_
  refine s_max d_T_reasonAgainst_45 mx_T_74 hd1 ?_
  refine s_istore_n (lv' := [(0, .ref x0), (1, .ref x1), (2, .int (ah_max x2 x4)), (3, .int x3), (4, .int x4)]) d_T_reasonAgainst_48 rfl (by decide) rfl ?_
  refine s_iinc (v := x3 + 1) (lv' := [(0, .ref x0), (1, .ref x1), (2, .int (ah_max x2 x4)), (3, .int (x3 + 1)), (4, .int x4)]) d_T_reasonAgainst_49 rfl rfl (by decide) rfl ?_
  refine s_goto (t := 15) d_T_reasonAgainst_52 (by decide) ?_
  exact ah_At.sub [0, 1, 2, 3] rfl k
theorem b_T_reasonAgainst_55 {d : Nat} {A : Nat → Prop} {h0 : ah_H} {h : ah_H} {x2 : Int32}  : ah_At mt_T_reasonAgainst d A h0 (.returned (some (.int x2))) h 55 [(2, .int x2)] [] h := by
  refine s_iload_n d_T_reasonAgainst_55 rfl rfl ?_
  exact e_iret (ty := .int) d_T_reasonAgainst_56 rfl rfl
