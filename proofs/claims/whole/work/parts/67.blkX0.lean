/-! BLOCKS. Printed by wip/make.py. -/
theorem b_X_init_0 {d : Nat} {A : Nat → Prop} {h2 : ah_H} {o : Outcome} {h0 : ah_H} {h : ah_H} {x0 : Nat} {h_1 : ah_H} {d' : Nat} {A' : Nat → Prop} {o' : Outcome} {h' : ah_H} (hd1 : 1 ≤ d) (q1 : ah_new h (4, [.null, .int 0, .null, .int 0, .null, .long 0]) = h_1) (hE : ah_Ev mt_T_init d' A' [.ref h.1] h_1 o' h') (hdd : d' + 1 ≤ d) (hAA : ∀ q, A' q → A q) (k : ah_aft mt_X_init d A h0 o h2 9 [(0, .ref x0)] [.ref h.1, .ref x0] h' o') : ah_At mt_X_init d A h0 o h2 0 [(0, .ref x0)] [] h := by
  refine s_aload_n d_X_init_0 rfl rfl ?_
  refine s_objinit d_X_init_1 mo_X_1 hd1 ?_
  refine s_aload_n d_X_init_4 rfl rfl ?_
  refine s_newE (fs := [.null, .int 0, .null, .int 0, .null, .long 0]) d_X_init_5 kc4 cl_X_7 kn4 ki4 rfl kd4 q1 ?_
  refine s_dup d_X_init_8 rfl ?_
  exact ah_callI (av := []) (st := [.ref h.1, .ref x0]) d_X_init_9 ml_X_9 mi_T_init rfl rfl hE hdd hAA rfl (Nat.le_of_ble_eq_true rfl) k
theorem b_X_init_12 {d : Nat} {A : Nat → Prop} {h2 : ah_H} {o : Outcome} {h0 : ah_H} {h : ah_H} {x0 : Nat} {s0 : Nat} {s1 : Nat} {h_1 : ah_H} {h_2 : ah_H} {v2 : Nat} {d' : Nat} {A' : Nat → Prop} {o' : Outcome} {h' : ah_H} (w1 : A s1) (e1 : (ah_sel h s1 6 0).isSome = true) (q1 : ah_sto h s1 0 (.ref s0) = h_1) (q2 : ah_new h_1 (3, [.null, .null, .null, .null, .null, .null, .null, .int 0, .int 0]) = h_2) (g2 : ah_sel h_2 x0 6 0 = some (.ref v2)) (hE : ah_Ev mt_N_init d' A' [.ref h_1.1, .ref v2] h_2 o' h') (hdd : d' + 1 ≤ d) (hAA : ∀ q, A' q → A q) (k : ah_aft mt_X_init d A h0 o h2 24 [(0, .ref x0)] [.ref h_1.1, .ref x0] h' o') : ah_At mt_X_init d A h0 o h2 12 [(0, .ref x0)] [.ref s0, .ref s1] h := by
  refine s_putfieldE (k := 0) d_X_init_12 kc6 (by decide) fl_X_10 (Or.inr ⟨rfl, rfl, rfl, flk_X_10⟩) w1 rfl e1 q1 ?_
  refine s_aload_n d_X_init_15 rfl rfl ?_
  refine s_newE (fs := [.null, .null, .null, .null, .null, .null, .null, .int 0, .int 0]) d_X_init_16 kc3 cl_X_16 kn3 ki3 rfl kd3 q2 ?_
  refine s_dup d_X_init_19 rfl ?_
  refine s_aload_n d_X_init_20 rfl rfl ?_
  refine s_getfield (k := 0) d_X_init_21 kc6 (by decide) fl_X_10 g2 ?_
  exact ah_callI (av := [.ref v2]) (st := [.ref h_1.1, .ref x0]) d_X_init_24 ml_X_18 mi_N_init rfl rfl hE hdd hAA rfl (Nat.le_of_ble_eq_true rfl) k
theorem b_X_init_27 {d : Nat} {A : Nat → Prop} {h0 : ah_H} {h : ah_H} {x0 : Nat} {s0 : Nat} {s1 : Nat} {h_1 : ah_H} {h_2 : ah_H} (w1 : A s1) (e1 : (ah_sel h s1 6 1).isSome = true) (q1 : ah_sto h s1 1 (.ref s0) = h_1) (w2 : A x0) (e2 : (ah_sel h_1 x0 6 2).isSome = true) (q2 : ah_sto h_1 x0 2 (.int 0) = h_2) : ah_At mt_X_init d A h0 (.returned none) h_2 27 [(0, .ref x0)] [.ref s0, .ref s1] h := by
  refine s_putfieldE (k := 1) d_X_init_27 kc6 (by decide) fl_X_21 (Or.inr ⟨rfl, rfl, rfl, flk_X_21⟩) w1 rfl e1 q1 ?_
  refine s_aload_n d_X_init_30 rfl rfl ?_
  refine s_iconst (v := 0) d_X_init_31 (by decide) ?_
  refine s_putfieldE (k := 2) d_X_init_32 kc6 (by decide) fl_X_25 (Or.inl rfl) w2 (by decide) e2 q2 ?_
  exact e_vret d_X_init_35 rfl
theorem b_X_wagon_0 {d : Nat} {A : Nat → Prop} {h2 : ah_H} {o : Outcome} {h0 : ah_H} {h : ah_H} {x0 : Nat} {x1 : Int32} {x2 : Int64} {x4 : Int32} {x5 : Int32} {d' : Nat} {A' : Nat → Prop} {o' : Outcome} {h' : ah_H} (hE : ah_Ev mt_X_isBetween d' A' [.long (Int32.toInt64 x1), .long 1, .long 30] h o' h') (hdd : d' + 1 ≤ d) (hAA : ∀ q, A' q → A q) (k : ah_aft mt_X_wagon d A h0 o h2 6 [(0, .ref x0), (1, .int x1), (2, .long x2), (4, .int x4), (5, .int x5)] [] h' o') : ah_At mt_X_wagon d A h0 o h2 0 [(0, .ref x0), (1, .int x1), (2, .long x2), (4, .int x4), (5, .int x5)] [] h := by
  refine s_iload_n d_X_wagon_0 rfl rfl ?_
  refine s_i2l d_X_wagon_1 ?_
  refine s_lconst (v := 1) d_X_wagon_2 (by decide) ?_
  refine s_ldc2_w (v := 30) d_X_wagon_3 lc_X_29 ?_
  exact ah_callS (av := [.long (Int32.toInt64 x1), .long 1, .long 30]) (st := []) d_X_wagon_6 ml_X_31 ms_X_isBetween hE hdd hAA rfl (Nat.le_of_ble_eq_true rfl) k
theorem b_X_wagon_9 {d : Nat} {A : Nat → Prop} {h2 : ah_H} {o : Outcome} {h0 : ah_H} {h : ah_H} {x0 : Nat} {x1 : Int32} {x2 : Int64} {x4 : Int32} {x5 : Int32} {s0 : Int32} (kt : s0 = 0 → ah_At mt_X_wagon d A h0 o h2 49 [] [] h) (kf : ¬ (s0 = 0) → ah_At mt_X_wagon d A h0 o h2 12 [(0, .ref x0), (1, .int x1), (2, .long x2), (4, .int x4), (5, .int x5)] [] h) : ah_At mt_X_wagon d A h0 o h2 9 [(0, .ref x0), (1, .int x1), (2, .long x2), (4, .int x4), (5, .int x5)] [.int s0] h := by
  refine s_ifeq (t := 49) d_X_wagon_9 (by decide) (fun z => ?_) (fun z => ?_)
  · exact ah_At.sub [] rfl (kt z)
  · exact (kf z)
theorem b_X_wagon_12 {d : Nat} {A : Nat → Prop} {h2 : ah_H} {o : Outcome} {h0 : ah_H} {h : ah_H} {x0 : Nat} {x1 : Int32} {x2 : Int64} {x4 : Int32} {x5 : Int32} {d' : Nat} {A' : Nat → Prop} {o' : Outcome} {h' : ah_H} (hE : ah_Ev mt_X_isBetween d' A' [.long x2, .long 0, .long 1000000] h o' h') (hdd : d' + 1 ≤ d) (hAA : ∀ q, A' q → A q) (k : ah_aft mt_X_wagon d A h0 o h2 17 [(0, .ref x0), (1, .int x1), (2, .long x2), (4, .int x4), (5, .int x5)] [] h' o') : ah_At mt_X_wagon d A h0 o h2 12 [(0, .ref x0), (1, .int x1), (2, .long x2), (4, .int x4), (5, .int x5)] [] h := by
  refine s_lload_n d_X_wagon_12 rfl rfl ?_
  refine s_lconst (v := 0) d_X_wagon_13 (by decide) ?_
  refine s_ldc2_w (v := 1000000) d_X_wagon_14 lc_X_35 ?_
  exact ah_callS (av := [.long x2, .long 0, .long 1000000]) (st := []) d_X_wagon_17 ml_X_31 ms_X_isBetween hE hdd hAA rfl (Nat.le_of_ble_eq_true rfl) k
theorem b_X_wagon_20 {d : Nat} {A : Nat → Prop} {h2 : ah_H} {o : Outcome} {h0 : ah_H} {h : ah_H} {x0 : Nat} {x1 : Int32} {x2 : Int64} {x4 : Int32} {x5 : Int32} {s0 : Int32} (kt : s0 = 0 → ah_At mt_X_wagon d A h0 o h2 49 [] [] h) (kf : ¬ (s0 = 0) → ah_At mt_X_wagon d A h0 o h2 23 [(0, .ref x0), (1, .int x1), (2, .long x2), (4, .int x4), (5, .int x5)] [] h) : ah_At mt_X_wagon d A h0 o h2 20 [(0, .ref x0), (1, .int x1), (2, .long x2), (4, .int x4), (5, .int x5)] [.int s0] h := by
  refine s_ifeq (t := 49) d_X_wagon_20 (by decide) (fun z => ?_) (fun z => ?_)
  · exact ah_At.sub [] rfl (kt z)
  · exact (kf z)
theorem b_X_wagon_23 {d : Nat} {A : Nat → Prop} {h2 : ah_H} {o : Outcome} {h0 : ah_H} {h : ah_H} {x0 : Nat} {x1 : Int32} {x2 : Int64} {x4 : Int32} {x5 : Int32} {d' : Nat} {A' : Nat → Prop} {o' : Outcome} {h' : ah_H} (hE : ah_Ev mt_X_isBetween d' A' [.long (Int32.toInt64 x4), .long 0, .long 8] h o' h') (hdd : d' + 1 ≤ d) (hAA : ∀ q, A' q → A q) (k : ah_aft mt_X_wagon d A h0 o h2 30 [(0, .ref x0), (1, .int x1), (2, .long x2), (4, .int x4), (5, .int x5)] [] h' o') : ah_At mt_X_wagon d A h0 o h2 23 [(0, .ref x0), (1, .int x1), (2, .long x2), (4, .int x4), (5, .int x5)] [] h := by
  refine s_iload d_X_wagon_23 rfl ?_
  refine s_i2l d_X_wagon_25 ?_
  refine s_lconst (v := 0) d_X_wagon_26 (by decide) ?_
  refine s_ldc2_w (v := 8) d_X_wagon_27 lc_X_37 ?_
  exact ah_callS (av := [.long (Int32.toInt64 x4), .long 0, .long 8]) (st := []) d_X_wagon_30 ml_X_31 ms_X_isBetween hE hdd hAA rfl (Nat.le_of_ble_eq_true rfl) k
theorem b_X_wagon_33 {d : Nat} {A : Nat → Prop} {h2 : ah_H} {o : Outcome} {h0 : ah_H} {h : ah_H} {x0 : Nat} {x1 : Int32} {x2 : Int64} {x4 : Int32} {x5 : Int32} {s0 : Int32} (kt : s0 = 0 → ah_At mt_X_wagon d A h0 o h2 49 [] [] h) (kf : ¬ (s0 = 0) → ah_At mt_X_wagon d A h0 o h2 36 [(0, .ref x0), (1, .int x1), (2, .long x2), (4, .int x4), (5, .int x5)] [] h) : ah_At mt_X_wagon d A h0 o h2 33 [(0, .ref x0), (1, .int x1), (2, .long x2), (4, .int x4), (5, .int x5)] [.int s0] h := by
  refine s_ifeq (t := 49) d_X_wagon_33 (by decide) (fun z => ?_) (fun z => ?_)
  · exact ah_At.sub [] rfl (kt z)
  · exact (kf z)
theorem b_X_wagon_36 {d : Nat} {A : Nat → Prop} {h2 : ah_H} {o : Outcome} {h0 : ah_H} {h : ah_H} {x0 : Nat} {x1 : Int32} {x2 : Int64} {x4 : Int32} {x5 : Int32} {d' : Nat} {A' : Nat → Prop} {o' : Outcome} {h' : ah_H} (hE : ah_Ev mt_X_isBetween d' A' [.long (Int32.toInt64 x5), .long 1, .long 100] h o' h') (hdd : d' + 1 ≤ d) (hAA : ∀ q, A' q → A q) (k : ah_aft mt_X_wagon d A h0 o h2 43 [(0, .ref x0), (1, .int x1), (2, .long x2), (4, .int x4), (5, .int x5)] [] h' o') : ah_At mt_X_wagon d A h0 o h2 36 [(0, .ref x0), (1, .int x1), (2, .long x2), (4, .int x4), (5, .int x5)] [] h := by
  refine s_iload d_X_wagon_36 rfl ?_
  refine s_i2l d_X_wagon_38 ?_
  refine s_lconst (v := 1) d_X_wagon_39 (by decide) ?_
  refine s_ldc2_w (v := 100) d_X_wagon_40 lc_X_39 ?_
  exact ah_callS (av := [.long (Int32.toInt64 x5), .long 1, .long 100]) (st := []) d_X_wagon_43 ml_X_31 ms_X_isBetween hE hdd hAA rfl (Nat.le_of_ble_eq_true rfl) k
theorem b_X_wagon_46 {d : Nat} {A : Nat → Prop} {h2 : ah_H} {o : Outcome} {h0 : ah_H} {h : ah_H} {x0 : Nat} {x1 : Int32} {x2 : Int64} {x4 : Int32} {x5 : Int32} {s0 : Int32} (kt : ¬ s0 = 0 → ah_At mt_X_wagon d A h0 o h2 59 [(0, .ref x0), (1, .int x1), (2, .long x2), (4, .int x4), (5, .int x5)] [] h) (kf : ¬ (¬ s0 = 0) → ah_At mt_X_wagon d A h0 o h2 49 [] [] h) : ah_At mt_X_wagon d A h0 o h2 46 [(0, .ref x0), (1, .int x1), (2, .long x2), (4, .int x4), (5, .int x5)] [.int s0] h := by
  refine s_ifne (t := 59) d_X_wagon_46 (by decide) (fun z => ?_) (fun z => ?_)
  · exact (kt z)
  · exact ah_At.sub [] rfl (kf z)
theorem b_X_wagon_49 {d : Nat} {A : Nat → Prop} {h : ah_H}  (hA0 : ∀ q, ¬ A q) (hd9 : 8 ≤ d) (hs9 : ∃ a c, h.2.2 a = some (97, c)) : ah_At mt_X_wagon d A h (.threw h.1) (ah_newx h 90) 49 [] [] h := by
  exact e_throw90 hA0 hd9 hs9 (d_X_wagon_49) d_X_wagon_52 d_X_wagon_53 d_X_wagon_55 d_X_wagon_58 cl_X_41 sr_X_43 xa_X_45 rfl
theorem b_X_wagon_59 {d : Nat} {A : Nat → Prop} {h2 : ah_H} {o : Outcome} {h0 : ah_H} {h : ah_H} {x0 : Nat} {x1 : Int32} {x2 : Int64} {x4 : Int32} {x5 : Int32} {v1 : Nat} {v2 : Int32} (g1 : ah_sel h x0 6 0 = some (.ref v1)) (g2 : ah_sel h v1 4 1 = some (.int v2)) (kt : v2 < 3 → ah_At mt_X_wagon d A h0 o h2 80 [(0, .ref x0), (1, .int x1), (2, .long x2), (4, .int x4), (5, .int x5)] [] h) (kf : ¬ (v2 < 3) → ah_At mt_X_wagon d A h0 o h2 70 [] [] h) : ah_At mt_X_wagon d A h0 o h2 59 [(0, .ref x0), (1, .int x1), (2, .long x2), (4, .int x4), (5, .int x5)] [] h := by
  refine s_aload_n d_X_wagon_59 rfl rfl ?_
  refine s_getfield (k := 0) d_X_wagon_60 kc6 (by decide) fl_X_10 g1 ?_
  refine s_getfield (k := 1) d_X_wagon_63 kc4 (by decide) fl_X_48 g2 ?_
  refine s_iconst (v := 3) d_X_wagon_66 (by decide) ?_
  refine s_if_icmplt (t := 80) d_X_wagon_67 (by decide) (fun z => ?_) (fun z => ?_)
  · exact (kt z)
  · exact ah_At.sub [] rfl (kf z)
theorem b_X_wagon_70 {d : Nat} {A : Nat → Prop} {h : ah_H}  (hA0 : ∀ q, ¬ A q) (hd9 : 8 ≤ d) (hs9 : ∃ a c, h.2.2 a = some (97, c)) : ah_At mt_X_wagon d A h (.threw h.1) (ah_newx h 91) 70 [] [] h := by
  exact e_throw91 hA0 hd9 hs9 (d_X_wagon_70) d_X_wagon_73 d_X_wagon_74 d_X_wagon_76 d_X_wagon_79 cl_X_52 sr_X_54 xa_X_56 rfl
theorem b_X_wagon_80 {d : Nat} {A : Nat → Prop} {h2 : ah_H} {o : Outcome} {h0 : ah_H} {h : ah_H} {x0 : Nat} {x1 : Int32} {x2 : Int64} {x4 : Int32} {x5 : Int32} {v2 : Nat} {d' : Nat} {A' : Nat → Prop} {o' : Outcome} {h' : ah_H} (w1 : A x0) (e1 : (ah_sel h x0 6 2).isSome = true) (g2 : ah_sel (ah_sto h x0 2 (.int 0)) x0 6 0 = some (.ref v2)) (hE : ah_Ev mt_T_addWagon d' A' [.ref v2, .int x1, .long x2, .int x4, .int x5] (ah_sto h x0 2 (.int 0)) o' h') (hdd : d' + 1 ≤ d) (hAA : ∀ q, A' q → A q) (k : ah_aft mt_X_wagon d A h0 o h2 95 [] [] h' o') (hb : (ah_len (ah_sto h x0 2 (.int 0)) v2 4).isSome = true) : ah_At mt_X_wagon d A h0 o h2 80 [(0, .ref x0), (1, .int x1), (2, .long x2), (4, .int x4), (5, .int x5)] [] h := by
  refine s_aload_n d_X_wagon_80 rfl rfl ?_
  refine s_iconst (v := 0) d_X_wagon_81 (by decide) ?_
  refine s_putfield (k := 2) d_X_wagon_82 kc6 (by decide) fl_X_25 (Or.inl rfl) w1 (by decide) e1 ?_
  refine s_aload_n d_X_wagon_85 rfl rfl ?_
  refine s_getfield (k := 0) d_X_wagon_86 kc6 (by decide) fl_X_10 g2 ?_
  refine s_iload_n d_X_wagon_89 rfl rfl ?_
  refine s_lload_n d_X_wagon_90 rfl rfl ?_
  refine s_iload d_X_wagon_91 rfl ?_
  refine s_iload d_X_wagon_93 rfl ?_
  refine ah_At.sub [] rfl ?_
  exact ah_callV (av := [.int x1, .long x2, .int x4, .int x5]) (st := []) d_X_wagon_95 ml_X_57 mi_T_addWagon mv_T_addWagon kc4 hb hE hdd hAA rfl (Nat.le_of_ble_eq_true rfl) k
theorem b_X_wagon_98 {d : Nat} {A : Nat → Prop} {h0 : ah_H} {h : ah_H} {s0 : Int32}  : ah_At mt_X_wagon d A h0 (.returned (some (.int s0))) h 98 [] [.int s0] h := by
  exact e_iret (ty := .int) d_X_wagon_98 rfl rfl
theorem b_X_pattern_0 {d : Nat} {A : Nat → Prop} {h2 : ah_H} {o : Outcome} {h0 : ah_H} {h : ah_H} {x0 : Nat} {x1 : Int32} {x2 : Int32} {v1 : Nat} {d' : Nat} {A' : Nat → Prop} {o' : Outcome} {h' : ah_H} (g1 : ah_sel h x0 6 0 = some (.ref v1)) (hE : ah_Ev mt_T_hasWagon d' A' [.ref v1, .int x1] h o' h') (hdd : d' + 1 ≤ d) (hAA : ∀ q, A' q → A q) (k : ah_aft mt_X_pattern d A h0 o h2 5 [(0, .ref x0), (1, .int x1), (2, .int x2)] [] h' o') (hb : (ah_len h v1 4).isSome = true) : ah_At mt_X_pattern d A h0 o h2 0 [(0, .ref x0), (1, .int x1), (2, .int x2)] [] h := by
  refine s_aload_n d_X_pattern_0 rfl rfl ?_
  refine s_getfield (k := 0) d_X_pattern_1 kc6 (by decide) fl_X_10 g1 ?_
  refine s_iload_n d_X_pattern_4 rfl rfl ?_
  exact ah_callV (av := [.int x1]) (st := []) d_X_pattern_5 ml_X_61 mi_T_hasWagon mv_T_hasWagon kc4 hb hE hdd hAA rfl (Nat.le_of_ble_eq_true rfl) k
theorem b_X_pattern_8 {d : Nat} {A : Nat → Prop} {h2 : ah_H} {o : Outcome} {h0 : ah_H} {h : ah_H} {x0 : Nat} {x1 : Int32} {x2 : Int32} {s0 : Int32} (kt : ¬ s0 = 0 → ah_At mt_X_pattern d A h0 o h2 21 [(0, .ref x0), (1, .int x1), (2, .int x2)] [] h) (kf : ¬ (¬ s0 = 0) → ah_At mt_X_pattern d A h0 o h2 11 [] [] h) : ah_At mt_X_pattern d A h0 o h2 8 [(0, .ref x0), (1, .int x1), (2, .int x2)] [.int s0] h := by
  refine s_ifne (t := 21) d_X_pattern_8 (by decide) (fun z => ?_) (fun z => ?_)
  · exact (kt z)
  · exact ah_At.sub [] rfl (kf z)
theorem b_X_pattern_11 {d : Nat} {A : Nat → Prop} {h : ah_H}  (hA0 : ∀ q, ¬ A q) (hd9 : 8 ≤ d) (hs9 : ∃ a c, h.2.2 a = some (97, c)) : ah_At mt_X_pattern d A h (.threw h.1) (ah_newx h 90) 11 [] [] h := by
  exact e_throw90 hA0 hd9 hs9 (d_X_pattern_11) d_X_pattern_14 d_X_pattern_15 d_X_pattern_17 d_X_pattern_20 cl_X_41 sr_X_65 xa_X_45 rfl
theorem b_X_pattern_21 {d : Nat} {A : Nat → Prop} {h2 : ah_H} {o : Outcome} {h0 : ah_H} {h : ah_H} {x0 : Nat} {x1 : Int32} {x2 : Int32} {v1 : Nat} {v2 : Nat} {v3 : Nat} {j3 : Nat} {d' : Nat} {A' : Nat → Prop} {o' : Outcome} {h' : ah_H} (g1 : ah_sel h x0 6 0 = some (.ref v1)) (g2 : ah_sel h v1 4 0 = some (.ref v2)) (i3 : ah_ix x1 j3) (g3 : ah_sel h v2 115 j3 = some (.ref v3)) (hE : ah_Ev mt_X_isRowOfSizes d' A' [.int x2] h o' h') (hdd : d' + 1 ≤ d) (hAA : ∀ q, A' q → A q) (k : ah_aft mt_X_pattern d A h0 o h2 32 [(0, .ref x0), (2, .int x2), (3, .ref v3)] [] h' o') : ah_At mt_X_pattern d A h0 o h2 21 [(0, .ref x0), (1, .int x1), (2, .int x2)] [] h := by
  refine s_aload_n d_X_pattern_21 rfl rfl ?_
  refine s_getfield (k := 0) d_X_pattern_22 kc6 (by decide) fl_X_10 g1 ?_
  refine s_getfield (k := 0) d_X_pattern_25 kc4 (by decide) fl_X_67 g2 ?_
  refine s_iload_n d_X_pattern_28 rfl rfl ?_
  refine s_aaload (t := 115) ⟨rfl, by decide, rfl⟩ rfl d_X_pattern_29 i3 g3 ?_
  refine s_astore_n (lv' := [(0, .ref x0), (1, .int x1), (2, .int x2), (3, .ref v3)]) d_X_pattern_30 rfl (by decide) rfl ?_
  refine s_iload_n d_X_pattern_31 rfl rfl ?_
  refine ah_At.sub [0, 2, 3] rfl ?_
  exact ah_callS (av := [.int x2]) (st := []) d_X_pattern_32 ml_X_71 ms_X_isRowOfSizes hE hdd hAA rfl (Nat.le_of_ble_eq_true rfl) k
theorem b_X_pattern_35 {d : Nat} {A : Nat → Prop} {h2 : ah_H} {o : Outcome} {h0 : ah_H} {h : ah_H} {x0 : Nat} {x2 : Int32} {x3 : Nat} {s0 : Int32} (kt : s0 = 0 → ah_At mt_X_pattern d A h0 o h2 49 [] [] h) (kf : ¬ (s0 = 0) → ah_At mt_X_pattern d A h0 o h2 38 [(0, .ref x0), (2, .int x2), (3, .ref x3)] [] h) : ah_At mt_X_pattern d A h0 o h2 35 [(0, .ref x0), (2, .int x2), (3, .ref x3)] [.int s0] h := by
  refine s_ifeq (t := 49) d_X_pattern_35 (by decide) (fun z => ?_) (fun z => ?_)
  · exact ah_At.sub [] rfl (kt z)
  · exact (kf z)
theorem b_X_pattern_38 {d : Nat} {A : Nat → Prop} {h2 : ah_H} {o : Outcome} {h0 : ah_H} {h : ah_H} {x0 : Nat} {x2 : Int32} {x3 : Nat} {d' : Nat} {A' : Nat → Prop} {o' : Outcome} {h' : ah_H} (hE : ah_Ev mt_X_lengthOfRow d' A' [.int x2] h o' h') (hdd : d' + 1 ≤ d) (hAA : ∀ q, A' q → A q) (k : ah_aft mt_X_pattern d A h0 o h2 39 [(0, .ref x0), (2, .int x2), (3, .ref x3)] [] h' o') : ah_At mt_X_pattern d A h0 o h2 38 [(0, .ref x0), (2, .int x2), (3, .ref x3)] [] h := by
  refine s_iload_n d_X_pattern_38 rfl rfl ?_
  exact ah_callS (av := [.int x2]) (st := []) d_X_pattern_39 ml_X_74 ms_X_lengthOfRow hE hdd hAA rfl (Nat.le_of_ble_eq_true rfl) k
theorem b_X_pattern_42 {d : Nat} {A : Nat → Prop} {h2 : ah_H} {o : Outcome} {h0 : ah_H} {h : ah_H} {x0 : Nat} {x2 : Int32} {x3 : Nat} {s0 : Int32} {v1 : Int32} (g1 : ah_sel h x3 5 2 = some (.int v1)) (kt : s0 ≤ v1 → ah_At mt_X_pattern d A h0 o h2 59 [(0, .ref x0), (2, .int x2), (3, .ref x3)] [] h) (kf : ¬ (s0 ≤ v1) → ah_At mt_X_pattern d A h0 o h2 49 [] [] h) : ah_At mt_X_pattern d A h0 o h2 42 [(0, .ref x0), (2, .int x2), (3, .ref x3)] [.int s0] h := by
  refine s_aload_n d_X_pattern_42 rfl rfl ?_
  refine s_getfield (k := 2) d_X_pattern_43 kc5 (by decide) fl_X_78 g1 ?_
  refine s_if_icmple (t := 59) d_X_pattern_46 (by decide) (fun z => ?_) (fun z => ?_)
  · exact (kt z)
  · exact ah_At.sub [] rfl (kf z)
theorem b_X_pattern_49 {d : Nat} {A : Nat → Prop} {h : ah_H}  (hA0 : ∀ q, ¬ A q) (hd9 : 8 ≤ d) (hs9 : ∃ a c, h.2.2 a = some (97, c)) : ah_At mt_X_pattern d A h (.threw h.1) (ah_newx h 90) 49 [] [] h := by
  exact e_throw90 hA0 hd9 hs9 (d_X_pattern_49) d_X_pattern_52 d_X_pattern_53 d_X_pattern_55 d_X_pattern_58 cl_X_41 sr_X_83 xa_X_45 rfl
theorem b_X_pattern_59 {d : Nat} {A : Nat → Prop} {h2 : ah_H} {o : Outcome} {h0 : ah_H} {h : ah_H} {x0 : Nat} {x2 : Int32} {x3 : Nat} {v1 : Int32} (g1 : ah_sel h x3 5 1 = some (.int v1)) (kt : v1 < 4 → ah_At mt_X_pattern d A h0 o h2 77 [(0, .ref x0), (2, .int x2), (3, .ref x3)] [] h) (kf : ¬ (v1 < 4) → ah_At mt_X_pattern d A h0 o h2 67 [] [] h) : ah_At mt_X_pattern d A h0 o h2 59 [(0, .ref x0), (2, .int x2), (3, .ref x3)] [] h := by
  refine s_aload_n d_X_pattern_59 rfl rfl ?_
  refine s_getfield (k := 1) d_X_pattern_60 kc5 (by decide) fl_X_85 g1 ?_
  refine s_iconst (v := 4) d_X_pattern_63 (by decide) ?_
  refine s_if_icmplt (t := 77) d_X_pattern_64 (by decide) (fun z => ?_) (fun z => ?_)
  · exact (kt z)
  · exact ah_At.sub [] rfl (kf z)
theorem b_X_pattern_67 {d : Nat} {A : Nat → Prop} {h : ah_H}  (hA0 : ∀ q, ¬ A q) (hd9 : 8 ≤ d) (hs9 : ∃ a c, h.2.2 a = some (97, c)) : ah_At mt_X_pattern d A h (.threw h.1) (ah_newx h 91) 67 [] [] h := by
  exact e_throw91 hA0 hd9 hs9 (d_X_pattern_67) d_X_pattern_70 d_X_pattern_71 d_X_pattern_73 d_X_pattern_76 cl_X_52 sr_X_88 xa_X_56 rfl
theorem b_X_pattern_77 {d : Nat} {A : Nat → Prop} {h2 : ah_H} {o : Outcome} {h0 : ah_H} {h : ah_H} {x0 : Nat} {x2 : Int32} {x3 : Nat} {d' : Nat} {A' : Nat → Prop} {o' : Outcome} {h' : ah_H} (w1 : A x0) (e1 : (ah_sel h x0 6 2).isSome = true) (hE : ah_Ev mt_G_addPattern d' A' [.ref x3, .int x2] (ah_sto h x0 2 (.int 0)) o' h') (hdd : d' + 1 ≤ d) (hAA : ∀ q, A' q → A q) (k : ah_aft mt_X_pattern d A h0 o h2 84 [] [] h' o') (hb : (ah_len (ah_sto h x0 2 (.int 0)) x3 5).isSome = true) : ah_At mt_X_pattern d A h0 o h2 77 [(0, .ref x0), (2, .int x2), (3, .ref x3)] [] h := by
  refine s_aload_n d_X_pattern_77 rfl rfl ?_
  refine s_iconst (v := 0) d_X_pattern_78 (by decide) ?_
  refine s_putfield (k := 2) d_X_pattern_79 kc6 (by decide) fl_X_25 (Or.inl rfl) w1 (by decide) e1 ?_
  refine s_aload_n d_X_pattern_82 rfl rfl ?_
  refine s_iload_n d_X_pattern_83 rfl rfl ?_
  refine ah_At.sub [] rfl ?_
  exact ah_callV (av := [.int x2]) (st := []) d_X_pattern_84 ml_X_90 mi_G_addPattern mv_G_addPattern kc5 hb hE hdd hAA rfl (Nat.le_of_ble_eq_true rfl) k
theorem b_X_pattern_87 {d : Nat} {A : Nat → Prop} {h0 : ah_H} {h : ah_H} {s0 : Int32}  : ah_At mt_X_pattern d A h0 (.returned (some (.int s0))) h 87 [] [.int s0] h := by
  exact e_iret (ty := .int) d_X_pattern_87 rfl rfl
theorem b_X_box_0 {d : Nat} {A : Nat → Prop} {h2 : ah_H} {o : Outcome} {h0 : ah_H} {h : ah_H} {x0 : Nat} {x1 : Int32} {x2 : Int64} {x4 : Int32} {x5 : Int32} {x6 : Int64} {d' : Nat} {A' : Nat → Prop} {o' : Outcome} {h' : ah_H} (hE : ah_Ev mt_X_isBetween d' A' [.long (Int32.toInt64 x1), .long 1, .long 3] h o' h') (hdd : d' + 1 ≤ d) (hAA : ∀ q, A' q → A q) (k : ah_aft mt_X_box d A h0 o h2 6 [(0, .ref x0), (1, .int x1), (2, .long x2), (4, .int x4), (5, .int x5), (6, .long x6)] [] h' o') : ah_At mt_X_box d A h0 o h2 0 [(0, .ref x0), (1, .int x1), (2, .long x2), (4, .int x4), (5, .int x5), (6, .long x6)] [] h := by
  refine s_iload_n d_X_box_0 rfl rfl ?_
  refine s_i2l d_X_box_1 ?_
  refine s_lconst (v := 1) d_X_box_2 (by decide) ?_
  refine s_ldc2_w (v := 3) d_X_box_3 lc_X_93 ?_
  exact ah_callS (av := [.long (Int32.toInt64 x1), .long 1, .long 3]) (st := []) d_X_box_6 ml_X_31 ms_X_isBetween hE hdd hAA rfl (Nat.le_of_ble_eq_true rfl) k
theorem b_X_box_9 {d : Nat} {A : Nat → Prop} {h2 : ah_H} {o : Outcome} {h0 : ah_H} {h : ah_H} {x0 : Nat} {x1 : Int32} {x2 : Int64} {x4 : Int32} {x5 : Int32} {x6 : Int64} {s0 : Int32} (kt : s0 = 0 → ah_At mt_X_box d A h0 o h2 61 [] [] h) (kf : ¬ (s0 = 0) → ah_At mt_X_box d A h0 o h2 12 [(0, .ref x0), (1, .int x1), (2, .long x2), (4, .int x4), (5, .int x5), (6, .long x6)] [] h) : ah_At mt_X_box d A h0 o h2 9 [(0, .ref x0), (1, .int x1), (2, .long x2), (4, .int x4), (5, .int x5), (6, .long x6)] [.int s0] h := by
  refine s_ifeq (t := 61) d_X_box_9 (by decide) (fun z => ?_) (fun z => ?_)
  · exact ah_At.sub [] rfl (kt z)
  · exact (kf z)
theorem b_X_box_12 {d : Nat} {A : Nat → Prop} {h2 : ah_H} {o : Outcome} {h0 : ah_H} {h : ah_H} {x0 : Nat} {x1 : Int32} {x2 : Int64} {x4 : Int32} {x5 : Int32} {x6 : Int64} {d' : Nat} {A' : Nat → Prop} {o' : Outcome} {h' : ah_H} (hE : ah_Ev mt_X_isBetween d' A' [.long x2, .long 0, .long 1000000] h o' h') (hdd : d' + 1 ≤ d) (hAA : ∀ q, A' q → A q) (k : ah_aft mt_X_box d A h0 o h2 17 [(0, .ref x0), (1, .int x1), (2, .long x2), (4, .int x4), (5, .int x5), (6, .long x6)] [] h' o') : ah_At mt_X_box d A h0 o h2 12 [(0, .ref x0), (1, .int x1), (2, .long x2), (4, .int x4), (5, .int x5), (6, .long x6)] [] h := by
  refine s_lload_n d_X_box_12 rfl rfl ?_
  refine s_lconst (v := 0) d_X_box_13 (by decide) ?_
  refine s_ldc2_w (v := 1000000) d_X_box_14 lc_X_35 ?_
  exact ah_callS (av := [.long x2, .long 0, .long 1000000]) (st := []) d_X_box_17 ml_X_31 ms_X_isBetween hE hdd hAA rfl (Nat.le_of_ble_eq_true rfl) k
theorem b_X_box_20 {d : Nat} {A : Nat → Prop} {h2 : ah_H} {o : Outcome} {h0 : ah_H} {h : ah_H} {x0 : Nat} {x1 : Int32} {x2 : Int64} {x4 : Int32} {x5 : Int32} {x6 : Int64} {s0 : Int32} (kt : s0 = 0 → ah_At mt_X_box d A h0 o h2 61 [] [] h) (kf : ¬ (s0 = 0) → ah_At mt_X_box d A h0 o h2 23 [(0, .ref x0), (1, .int x1), (2, .long x2), (4, .int x4), (5, .int x5), (6, .long x6)] [] h) : ah_At mt_X_box d A h0 o h2 20 [(0, .ref x0), (1, .int x1), (2, .long x2), (4, .int x4), (5, .int x5), (6, .long x6)] [.int s0] h := by
  refine s_ifeq (t := 61) d_X_box_20 (by decide) (fun z => ?_) (fun z => ?_)
  · exact ah_At.sub [] rfl (kt z)
  · exact (kf z)
theorem b_X_box_23 {d : Nat} {A : Nat → Prop} {h2 : ah_H} {o : Outcome} {h0 : ah_H} {h : ah_H} {x0 : Nat} {x1 : Int32} {x2 : Int64} {x4 : Int32} {x5 : Int32} {x6 : Int64} {d' : Nat} {A' : Nat → Prop} {o' : Outcome} {h' : ah_H} (hE : ah_Ev mt_X_isBetween d' A' [.long (Int32.toInt64 x4), .long 1, .long 100] h o' h') (hdd : d' + 1 ≤ d) (hAA : ∀ q, A' q → A q) (k : ah_aft mt_X_box d A h0 o h2 30 [(0, .ref x0), (1, .int x1), (2, .long x2), (4, .int x4), (5, .int x5), (6, .long x6)] [] h' o') : ah_At mt_X_box d A h0 o h2 23 [(0, .ref x0), (1, .int x1), (2, .long x2), (4, .int x4), (5, .int x5), (6, .long x6)] [] h := by
  refine s_iload d_X_box_23 rfl ?_
  refine s_i2l d_X_box_25 ?_
  refine s_lconst (v := 1) d_X_box_26 (by decide) ?_
  refine s_ldc2_w (v := 100) d_X_box_27 lc_X_39 ?_
  exact ah_callS (av := [.long (Int32.toInt64 x4), .long 1, .long 100]) (st := []) d_X_box_30 ml_X_31 ms_X_isBetween hE hdd hAA rfl (Nat.le_of_ble_eq_true rfl) k
theorem b_X_box_33 {d : Nat} {A : Nat → Prop} {h2 : ah_H} {o : Outcome} {h0 : ah_H} {h : ah_H} {x0 : Nat} {x1 : Int32} {x2 : Int64} {x4 : Int32} {x5 : Int32} {x6 : Int64} {s0 : Int32} (kt : s0 = 0 → ah_At mt_X_box d A h0 o h2 61 [] [] h) (kf : ¬ (s0 = 0) → ah_At mt_X_box d A h0 o h2 36 [(0, .ref x0), (1, .int x1), (2, .long x2), (4, .int x4), (5, .int x5), (6, .long x6)] [] h) : ah_At mt_X_box d A h0 o h2 33 [(0, .ref x0), (1, .int x1), (2, .long x2), (4, .int x4), (5, .int x5), (6, .long x6)] [.int s0] h := by
  refine s_ifeq (t := 61) d_X_box_33 (by decide) (fun z => ?_) (fun z => ?_)
  · exact ah_At.sub [] rfl (kt z)
  · exact (kf z)
theorem b_X_box_36 {d : Nat} {A : Nat → Prop} {h2 : ah_H} {o : Outcome} {h0 : ah_H} {h : ah_H} {x0 : Nat} {x1 : Int32} {x2 : Int64} {x4 : Int32} {x5 : Int32} {x6 : Int64} {d' : Nat} {A' : Nat → Prop} {o' : Outcome} {h' : ah_H} (hE : ah_Ev mt_X_isBetween d' A' [.long (Int32.toInt64 x5), .long 0, .long 3] h o' h') (hdd : d' + 1 ≤ d) (hAA : ∀ q, A' q → A q) (k : ah_aft mt_X_box d A h0 o h2 43 [(0, .ref x0), (1, .int x1), (2, .long x2), (4, .int x4), (5, .int x5), (6, .long x6)] [] h' o') : ah_At mt_X_box d A h0 o h2 36 [(0, .ref x0), (1, .int x1), (2, .long x2), (4, .int x4), (5, .int x5), (6, .long x6)] [] h := by
  refine s_iload d_X_box_36 rfl ?_
  refine s_i2l d_X_box_38 ?_
  refine s_lconst (v := 0) d_X_box_39 (by decide) ?_
  refine s_ldc2_w (v := 3) d_X_box_40 lc_X_93 ?_
  exact ah_callS (av := [.long (Int32.toInt64 x5), .long 0, .long 3]) (st := []) d_X_box_43 ml_X_31 ms_X_isBetween hE hdd hAA rfl (Nat.le_of_ble_eq_true rfl) k
theorem b_X_box_46 {d : Nat} {A : Nat → Prop} {h2 : ah_H} {o : Outcome} {h0 : ah_H} {h : ah_H} {x0 : Nat} {x1 : Int32} {x2 : Int64} {x4 : Int32} {x5 : Int32} {x6 : Int64} {s0 : Int32} (kt : s0 = 0 → ah_At mt_X_box d A h0 o h2 61 [] [] h) (kf : ¬ (s0 = 0) → ah_At mt_X_box d A h0 o h2 49 [(0, .ref x0), (1, .int x1), (2, .long x2), (4, .int x4), (5, .int x5), (6, .long x6)] [] h) : ah_At mt_X_box d A h0 o h2 46 [(0, .ref x0), (1, .int x1), (2, .long x2), (4, .int x4), (5, .int x5), (6, .long x6)] [.int s0] h := by
  refine s_ifeq (t := 61) d_X_box_46 (by decide) (fun z => ?_) (fun z => ?_)
  · exact ah_At.sub [] rfl (kt z)
  · exact (kf z)
theorem b_X_box_49 {d : Nat} {A : Nat → Prop} {h2 : ah_H} {o : Outcome} {h0 : ah_H} {h : ah_H} {x0 : Nat} {x1 : Int32} {x2 : Int64} {x4 : Int32} {x5 : Int32} {x6 : Int64} {d' : Nat} {A' : Nat → Prop} {o' : Outcome} {h' : ah_H} (hE : ah_Ev mt_X_isBetween d' A' [.long x6, .long 0, .long 1000000000] h o' h') (hdd : d' + 1 ≤ d) (hAA : ∀ q, A' q → A q) (k : ah_aft mt_X_box d A h0 o h2 55 [(0, .ref x0), (1, .int x1), (2, .long x2), (4, .int x4), (5, .int x5), (6, .long x6)] [] h' o') : ah_At mt_X_box d A h0 o h2 49 [(0, .ref x0), (1, .int x1), (2, .long x2), (4, .int x4), (5, .int x5), (6, .long x6)] [] h := by
  refine s_lload d_X_box_49 rfl ?_
  refine s_lconst (v := 0) d_X_box_51 (by decide) ?_
  refine s_ldc2_w (v := 1000000000) d_X_box_52 lc_X_95 ?_
  exact ah_callS (av := [.long x6, .long 0, .long 1000000000]) (st := []) d_X_box_55 ml_X_31 ms_X_isBetween hE hdd hAA rfl (Nat.le_of_ble_eq_true rfl) k
theorem b_X_box_58 {d : Nat} {A : Nat → Prop} {h2 : ah_H} {o : Outcome} {h0 : ah_H} {h : ah_H} {x0 : Nat} {x1 : Int32} {x2 : Int64} {x4 : Int32} {x5 : Int32} {x6 : Int64} {s0 : Int32} (kt : ¬ s0 = 0 → ah_At mt_X_box d A h0 o h2 71 [(0, .ref x0), (1, .int x1), (2, .long x2), (4, .int x4), (5, .int x5), (6, .long x6)] [] h) (kf : ¬ (¬ s0 = 0) → ah_At mt_X_box d A h0 o h2 61 [] [] h) : ah_At mt_X_box d A h0 o h2 58 [(0, .ref x0), (1, .int x1), (2, .long x2), (4, .int x4), (5, .int x5), (6, .long x6)] [.int s0] h := by
  refine s_ifne (t := 71) d_X_box_58 (by decide) (fun z => ?_) (fun z => ?_)
  · exact (kt z)
  · exact ah_At.sub [] rfl (kf z)
theorem b_X_box_61 {d : Nat} {A : Nat → Prop} {h : ah_H}  (hA0 : ∀ q, ¬ A q) (hd9 : 8 ≤ d) (hs9 : ∃ a c, h.2.2 a = some (97, c)) : ah_At mt_X_box d A h (.threw h.1) (ah_newx h 90) 61 [] [] h := by
  exact e_throw90 hA0 hd9 hs9 (d_X_box_61) d_X_box_64 d_X_box_65 d_X_box_67 d_X_box_70 cl_X_41 sr_X_97 xa_X_45 rfl
theorem b_X_box_71 {d : Nat} {A : Nat → Prop} {h2 : ah_H} {o : Outcome} {h0 : ah_H} {h : ah_H} {x0 : Nat} {x1 : Int32} {x2 : Int64} {x4 : Int32} {x5 : Int32} {x6 : Int64} {v1 : Nat} {v2 : Int32} (g1 : ah_sel h x0 6 0 = some (.ref v1)) (g2 : ah_sel h v1 4 3 = some (.int v2)) (kt : v2 < 8 → ah_At mt_X_box d A h0 o h2 93 [(0, .ref x0), (1, .int x1), (2, .long x2), (4, .int x4), (5, .int x5), (6, .long x6)] [] h) (kf : ¬ (v2 < 8) → ah_At mt_X_box d A h0 o h2 83 [] [] h) : ah_At mt_X_box d A h0 o h2 71 [(0, .ref x0), (1, .int x1), (2, .long x2), (4, .int x4), (5, .int x5), (6, .long x6)] [] h := by
  refine s_aload_n d_X_box_71 rfl rfl ?_
  refine s_getfield (k := 0) d_X_box_72 kc6 (by decide) fl_X_10 g1 ?_
  refine s_getfield (k := 3) d_X_box_75 kc4 (by decide) fl_X_99 g2 ?_
  refine s_bipush (v := 8) d_X_box_78 (by decide) ?_
  refine s_if_icmplt (t := 93) d_X_box_80 (by decide) (fun z => ?_) (fun z => ?_)
  · exact (kt z)
  · exact ah_At.sub [] rfl (kf z)
theorem b_X_box_83 {d : Nat} {A : Nat → Prop} {h : ah_H}  (hA0 : ∀ q, ¬ A q) (hd9 : 8 ≤ d) (hs9 : ∃ a c, h.2.2 a = some (97, c)) : ah_At mt_X_box d A h (.threw h.1) (ah_newx h 91) 83 [] [] h := by
  exact e_throw91 hA0 hd9 hs9 (d_X_box_83) d_X_box_86 d_X_box_87 d_X_box_89 d_X_box_92 cl_X_52 sr_X_102 xa_X_56 rfl
theorem b_X_box_93 {d : Nat} {A : Nat → Prop} {h2 : ah_H} {o : Outcome} {h0 : ah_H} {h : ah_H} {x0 : Nat} {x1 : Int32} {x2 : Int64} {x4 : Int32} {x5 : Int32} {x6 : Int64} {v2 : Nat} {d' : Nat} {A' : Nat → Prop} {o' : Outcome} {h' : ah_H} (w1 : A x0) (e1 : (ah_sel h x0 6 2).isSome = true) (g2 : ah_sel (ah_sto h x0 2 (.int 0)) x0 6 0 = some (.ref v2)) (hE : ah_Ev mt_T_addBox d' A' [.ref v2, .int x1, .long x2, .int x4, .int x5, .long x6] (ah_sto h x0 2 (.int 0)) o' h') (hdd : d' + 1 ≤ d) (hAA : ∀ q, A' q → A q) (k : ah_aft mt_X_box d A h0 o h2 110 [] [] h' o') (hb : (ah_len (ah_sto h x0 2 (.int 0)) v2 4).isSome = true) : ah_At mt_X_box d A h0 o h2 93 [(0, .ref x0), (1, .int x1), (2, .long x2), (4, .int x4), (5, .int x5), (6, .long x6)] [] h := by
  refine s_aload_n d_X_box_93 rfl rfl ?_
  refine s_iconst (v := 0) d_X_box_94 (by decide) ?_
  refine s_putfield (k := 2) d_X_box_95 kc6 (by decide) fl_X_25 (Or.inl rfl) w1 (by decide) e1 ?_
  refine s_aload_n d_X_box_98 rfl rfl ?_
  refine s_getfield (k := 0) d_X_box_99 kc6 (by decide) fl_X_10 g2 ?_
  refine s_iload_n d_X_box_102 rfl rfl ?_
  refine s_lload_n d_X_box_103 rfl rfl ?_
  refine s_iload d_X_box_104 rfl ?_
  refine s_iload d_X_box_106 rfl ?_
  refine s_lload d_X_box_108 rfl ?_
  refine ah_At.sub [] rfl ?_
  exact ah_callV (av := [.int x1, .long x2, .int x4, .int x5, .long x6]) (st := []) d_X_box_110 ml_X_104 mi_T_addBox mv_T_addBox kc4 hb hE hdd hAA rfl (Nat.le_of_ble_eq_true rfl) k
theorem b_X_box_113 {d : Nat} {A : Nat → Prop} {h0 : ah_H} {h : ah_H} {s0 : Int32}  : ah_At mt_X_box d A h0 (.returned (some (.int s0))) h 113 [] [.int s0] h := by
  exact e_iret (ty := .int) d_X_box_113 rfl rfl
theorem b_X_rule_0 {d : Nat} {A : Nat → Prop} {h2 : ah_H} {o : Outcome} {h0 : ah_H} {h : ah_H} {x0 : Nat} {x1 : Int32} {x2 : Int32} {x3 : Int32} {d' : Nat} {A' : Nat → Prop} {o' : Outcome} {h' : ah_H} (hE : ah_Ev mt_X_isBetween d' A' [.long (Int32.toInt64 x1), .long 1, .long 3] h o' h') (hdd : d' + 1 ≤ d) (hAA : ∀ q, A' q → A q) (k : ah_aft mt_X_rule d A h0 o h2 6 [(0, .ref x0), (1, .int x1), (2, .int x2), (3, .int x3)] [] h' o') : ah_At mt_X_rule d A h0 o h2 0 [(0, .ref x0), (1, .int x1), (2, .int x2), (3, .int x3)] [] h := by
  refine s_iload_n d_X_rule_0 rfl rfl ?_
  refine s_i2l d_X_rule_1 ?_
  refine s_lconst (v := 1) d_X_rule_2 (by decide) ?_
  refine s_ldc2_w (v := 3) d_X_rule_3 lc_X_93 ?_
  exact ah_callS (av := [.long (Int32.toInt64 x1), .long 1, .long 3]) (st := []) d_X_rule_6 ml_X_31 ms_X_isBetween hE hdd hAA rfl (Nat.le_of_ble_eq_true rfl) k
theorem b_X_rule_9 {d : Nat} {A : Nat → Prop} {h2 : ah_H} {o : Outcome} {h0 : ah_H} {h : ah_H} {x0 : Nat} {x1 : Int32} {x2 : Int32} {x3 : Int32} {s0 : Int32} (kt : s0 = 0 → ah_At mt_X_rule d A h0 o h2 36 [] [] h) (kf : ¬ (s0 = 0) → ah_At mt_X_rule d A h0 o h2 12 [(0, .ref x0), (1, .int x1), (2, .int x2), (3, .int x3)] [] h) : ah_At mt_X_rule d A h0 o h2 9 [(0, .ref x0), (1, .int x1), (2, .int x2), (3, .int x3)] [.int s0] h := by
  refine s_ifeq (t := 36) d_X_rule_9 (by decide) (fun z => ?_) (fun z => ?_)
  · exact ah_At.sub [] rfl (kt z)
  · exact (kf z)
theorem b_X_rule_12 {d : Nat} {A : Nat → Prop} {h2 : ah_H} {o : Outcome} {h0 : ah_H} {h : ah_H} {x0 : Nat} {x1 : Int32} {x2 : Int32} {x3 : Int32} {d' : Nat} {A' : Nat → Prop} {o' : Outcome} {h' : ah_H} (hE : ah_Ev mt_X_isBetween d' A' [.long (Int32.toInt64 x2), .long 1, .long 3] h o' h') (hdd : d' + 1 ≤ d) (hAA : ∀ q, A' q → A q) (k : ah_aft mt_X_rule d A h0 o h2 18 [(0, .ref x0), (1, .int x1), (2, .int x2), (3, .int x3)] [] h' o') : ah_At mt_X_rule d A h0 o h2 12 [(0, .ref x0), (1, .int x1), (2, .int x2), (3, .int x3)] [] h := by
  refine s_iload_n d_X_rule_12 rfl rfl ?_
  refine s_i2l d_X_rule_13 ?_
  refine s_lconst (v := 1) d_X_rule_14 (by decide) ?_
  refine s_ldc2_w (v := 3) d_X_rule_15 lc_X_93 ?_
  exact ah_callS (av := [.long (Int32.toInt64 x2), .long 1, .long 3]) (st := []) d_X_rule_18 ml_X_31 ms_X_isBetween hE hdd hAA rfl (Nat.le_of_ble_eq_true rfl) k
theorem b_X_rule_21 {d : Nat} {A : Nat → Prop} {h2 : ah_H} {o : Outcome} {h0 : ah_H} {h : ah_H} {x0 : Nat} {x1 : Int32} {x2 : Int32} {x3 : Int32} {s0 : Int32} (kt : s0 = 0 → ah_At mt_X_rule d A h0 o h2 36 [] [] h) (kf : ¬ (s0 = 0) → ah_At mt_X_rule d A h0 o h2 24 [(0, .ref x0), (1, .int x1), (2, .int x2), (3, .int x3)] [] h) : ah_At mt_X_rule d A h0 o h2 21 [(0, .ref x0), (1, .int x1), (2, .int x2), (3, .int x3)] [.int s0] h := by
  refine s_ifeq (t := 36) d_X_rule_21 (by decide) (fun z => ?_) (fun z => ?_)
  · exact ah_At.sub [] rfl (kt z)
  · exact (kf z)
theorem b_X_rule_24 {d : Nat} {A : Nat → Prop} {h2 : ah_H} {o : Outcome} {h0 : ah_H} {h : ah_H} {x0 : Nat} {x1 : Int32} {x2 : Int32} {x3 : Int32} {d' : Nat} {A' : Nat → Prop} {o' : Outcome} {h' : ah_H} (hE : ah_Ev mt_X_isBetween d' A' [.long (Int32.toInt64 x3), .long 0, .long 2] h o' h') (hdd : d' + 1 ≤ d) (hAA : ∀ q, A' q → A q) (k : ah_aft mt_X_rule d A h0 o h2 30 [(0, .ref x0), (1, .int x1), (2, .int x2), (3, .int x3)] [] h' o') : ah_At mt_X_rule d A h0 o h2 24 [(0, .ref x0), (1, .int x1), (2, .int x2), (3, .int x3)] [] h := by
  refine s_iload_n d_X_rule_24 rfl rfl ?_
  refine s_i2l d_X_rule_25 ?_
  refine s_lconst (v := 0) d_X_rule_26 (by decide) ?_
  refine s_ldc2_w (v := 2) d_X_rule_27 lc_X_108 ?_
  exact ah_callS (av := [.long (Int32.toInt64 x3), .long 0, .long 2]) (st := []) d_X_rule_30 ml_X_31 ms_X_isBetween hE hdd hAA rfl (Nat.le_of_ble_eq_true rfl) k
theorem b_X_rule_33 {d : Nat} {A : Nat → Prop} {h2 : ah_H} {o : Outcome} {h0 : ah_H} {h : ah_H} {x0 : Nat} {x1 : Int32} {x2 : Int32} {x3 : Int32} {s0 : Int32} (kt : ¬ s0 = 0 → ah_At mt_X_rule d A h0 o h2 38 [(0, .ref x0), (1, .int x1), (2, .int x2), (3, .int x3)] [] h) (kf : ¬ (¬ s0 = 0) → ah_At mt_X_rule d A h0 o h2 36 [] [] h) : ah_At mt_X_rule d A h0 o h2 33 [(0, .ref x0), (1, .int x1), (2, .int x2), (3, .int x3)] [.int s0] h := by
  refine s_ifne (t := 38) d_X_rule_33 (by decide) (fun z => ?_) (fun z => ?_)
  · exact (kt z)
  · exact ah_At.sub [] rfl (kf z)
theorem b_X_rule_36 {d : Nat} {A : Nat → Prop} {h0 : ah_H} {h : ah_H}   : ah_At mt_X_rule d A h0 (.returned (some (.int 0))) h 36 [] [] h := by
  refine s_iconst (v := 0) d_X_rule_36 (by decide) ?_
  exact e_iret (ty := .boolean) d_X_rule_37 rfl (by decide +kernel)
theorem b_X_rule_38 {d : Nat} {A : Nat → Prop} {h0 : ah_H} {h : ah_H} {x0 : Nat} {x1 : Int32} {x2 : Int32} {x3 : Int32} {v2 : Nat} {v3 : Nat} {v4 : Nat} {j4 : Nat} {j5 : Nat} {v6 : Nat} {v7 : Nat} {v8 : Nat} {j8 : Nat} {j9 : Nat} (w1 : A x0) (e1 : (ah_sel h x0 6 2).isSome = true) (g2 : ah_sel (ah_sto h x0 2 (.int 0)) x0 6 0 = some (.ref v2)) (g3 : ah_sel (ah_sto h x0 2 (.int 0)) v2 4 4 = some (.ref v3)) (i4 : ah_ix x1 j4) (g4 : ah_sel (ah_sto h x0 2 (.int 0)) v3 102 j4 = some (.ref v4)) (w5 : A v4) (i5 : ah_ix x2 j5) (e5 : (ah_sel (ah_sto h x0 2 (.int 0)) v4 100 j5).isSome = true) (g6 : ah_sel (ah_sto (ah_sto h x0 2 (.int 0)) v4 j5 (.int x3)) x0 6 0 = some (.ref v6)) (g7 : ah_sel (ah_sto (ah_sto h x0 2 (.int 0)) v4 j5 (.int x3)) v6 4 4 = some (.ref v7)) (i8 : ah_ix x2 j8) (g8 : ah_sel (ah_sto (ah_sto h x0 2 (.int 0)) v4 j5 (.int x3)) v7 102 j8 = some (.ref v8)) (w9 : A v8) (i9 : ah_ix x1 j9) (e9 : (ah_sel (ah_sto (ah_sto h x0 2 (.int 0)) v4 j5 (.int x3)) v8 100 j9).isSome = true) : ah_At mt_X_rule d A h0 (.returned (some (.int 1))) (ah_sto (ah_sto (ah_sto h x0 2 (.int 0)) v4 j5 (.int x3)) v8 j9 (.int x3)) 38 [(0, .ref x0), (1, .int x1), (2, .int x2), (3, .int x3)] [] h := by
  refine s_aload_n d_X_rule_38 rfl rfl ?_
  refine s_iconst (v := 0) d_X_rule_39 (by decide) ?_
  refine s_putfield (k := 2) d_X_rule_40 kc6 (by decide) fl_X_25 (Or.inl rfl) w1 (by decide) e1 ?_
  refine s_aload_n d_X_rule_43 rfl rfl ?_
  refine s_getfield (k := 0) d_X_rule_44 kc6 (by decide) fl_X_10 g2 ?_
  refine s_getfield (k := 4) d_X_rule_47 kc4 (by decide) fl_X_110 g3 ?_
  refine s_iload_n d_X_rule_50 rfl rfl ?_
  refine s_aaload (t := 102) ⟨rfl, by decide, rfl⟩ rfl d_X_rule_51 i4 g4 ?_
  refine s_iload_n d_X_rule_52 rfl rfl ?_
  refine s_iload_n d_X_rule_53 rfl rfl ?_
  refine s_iastore d_X_rule_54 w5 i5 e5 ?_
  refine s_aload_n d_X_rule_55 rfl rfl ?_
  refine s_getfield (k := 0) d_X_rule_56 kc6 (by decide) fl_X_10 g6 ?_
  refine s_getfield (k := 4) d_X_rule_59 kc4 (by decide) fl_X_110 g7 ?_
  refine s_iload_n d_X_rule_62 rfl rfl ?_
  refine s_aaload (t := 102) ⟨rfl, by decide, rfl⟩ rfl d_X_rule_63 i8 g8 ?_
  refine s_iload_n d_X_rule_64 rfl rfl ?_
  refine s_iload_n d_X_rule_65 rfl rfl ?_
  refine s_iastore d_X_rule_66 w9 i9 e9 ?_
  refine s_iconst (v := 1) d_X_rule_67 (by decide) ?_
  exact e_iret (ty := .boolean) d_X_rule_68 rfl (by decide +kernel)
theorem b_X_cut_0 {d : Nat} {A : Nat → Prop} {h2 : ah_H} {o : Outcome} {h0 : ah_H} {h : ah_H} {x0 : Nat} {x1 : Int64} {d' : Nat} {A' : Nat → Prop} {o' : Outcome} {h' : ah_H} (hE : ah_Ev mt_X_isBetween d' A' [.long x1, .long 0, .long 1000000000] h o' h') (hdd : d' + 1 ≤ d) (hAA : ∀ q, A' q → A q) (k : ah_aft mt_X_cut d A h0 o h2 5 [(0, .ref x0), (1, .long x1)] [] h' o') : ah_At mt_X_cut d A h0 o h2 0 [(0, .ref x0), (1, .long x1)] [] h := by
  refine s_lload_n d_X_cut_0 rfl rfl ?_
  refine s_lconst (v := 0) d_X_cut_1 (by decide) ?_
  refine s_ldc2_w (v := 1000000000) d_X_cut_2 lc_X_95 ?_
  exact ah_callS (av := [.long x1, .long 0, .long 1000000000]) (st := []) d_X_cut_5 ml_X_31 ms_X_isBetween hE hdd hAA rfl (Nat.le_of_ble_eq_true rfl) k
theorem b_X_cut_8 {d : Nat} {A : Nat → Prop} {h2 : ah_H} {o : Outcome} {h0 : ah_H} {h : ah_H} {x0 : Nat} {x1 : Int64} {s0 : Int32} (kt : ¬ s0 = 0 → ah_At mt_X_cut d A h0 o h2 13 [(0, .ref x0), (1, .long x1)] [] h) (kf : ¬ (¬ s0 = 0) → ah_At mt_X_cut d A h0 o h2 11 [] [] h) : ah_At mt_X_cut d A h0 o h2 8 [(0, .ref x0), (1, .long x1)] [.int s0] h := by
  refine s_ifne (t := 13) d_X_cut_8 (by decide) (fun z => ?_) (fun z => ?_)
  · exact (kt z)
  · exact ah_At.sub [] rfl (kf z)
theorem b_X_cut_11 {d : Nat} {A : Nat → Prop} {h0 : ah_H} {h : ah_H}   : ah_At mt_X_cut d A h0 (.returned (some (.int 0))) h 11 [] [] h := by
  refine s_iconst (v := 0) d_X_cut_11 (by decide) ?_
  exact e_iret (ty := .boolean) d_X_cut_12 rfl (by decide +kernel)
theorem b_X_cut_13 {d : Nat} {A : Nat → Prop} {h0 : ah_H} {h : ah_H} {x0 : Nat} {x1 : Int64} {v2 : Nat} (w1 : A x0) (e1 : (ah_sel h x0 6 2).isSome = true) (g2 : ah_sel (ah_sto h x0 2 (.int 0)) x0 6 0 = some (.ref v2)) (w3 : A v2) (e3 : (ah_sel (ah_sto h x0 2 (.int 0)) v2 4 5).isSome = true) : ah_At mt_X_cut d A h0 (.returned (some (.int 1))) (ah_sto (ah_sto h x0 2 (.int 0)) v2 5 (.long x1)) 13 [(0, .ref x0), (1, .long x1)] [] h := by
  refine s_aload_n d_X_cut_13 rfl rfl ?_
  refine s_iconst (v := 0) d_X_cut_14 (by decide) ?_
  refine s_putfield (k := 2) d_X_cut_15 kc6 (by decide) fl_X_25 (Or.inl rfl) w1 (by decide) e1 ?_
  refine s_aload_n d_X_cut_18 rfl rfl ?_
  refine s_getfield (k := 0) d_X_cut_19 kc6 (by decide) fl_X_10 g2 ?_
  refine s_lload_n d_X_cut_22 rfl rfl ?_
  refine s_putfield (k := 5) d_X_cut_23 kc4 (by decide) fl_X_114 (Or.inl rfl) w3 rfl e3 ?_
  refine s_iconst (v := 1) d_X_cut_26 (by decide) ?_
  exact e_iret (ty := .boolean) d_X_cut_27 rfl (by decide +kernel)
theorem b_X_out_0 {d : Nat} {A : Nat → Prop} {h2 : ah_H} {o : Outcome} {h0 : ah_H} {h : ah_H} {x0 : Nat} {x1 : Int32} {x2 : Int32} {v1 : Nat} {d' : Nat} {A' : Nat → Prop} {o' : Outcome} {h' : ah_H} (g1 : ah_sel h x0 6 0 = some (.ref v1)) (hE : ah_Ev mt_T_hasWagon d' A' [.ref v1, .int x1] h o' h') (hdd : d' + 1 ≤ d) (hAA : ∀ q, A' q → A q) (k : ah_aft mt_X_out d A h0 o h2 5 [(0, .ref x0), (1, .int x1), (2, .int x2)] [] h' o') (hb : (ah_len h v1 4).isSome = true) : ah_At mt_X_out d A h0 o h2 0 [(0, .ref x0), (1, .int x1), (2, .int x2)] [] h := by
  refine s_aload_n d_X_out_0 rfl rfl ?_
  refine s_getfield (k := 0) d_X_out_1 kc6 (by decide) fl_X_10 g1 ?_
  refine s_iload_n d_X_out_4 rfl rfl ?_
  exact ah_callV (av := [.int x1]) (st := []) d_X_out_5 ml_X_61 mi_T_hasWagon mv_T_hasWagon kc4 hb hE hdd hAA rfl (Nat.le_of_ble_eq_true rfl) k
theorem b_X_out_8 {d : Nat} {A : Nat → Prop} {h2 : ah_H} {o : Outcome} {h0 : ah_H} {h : ah_H} {x0 : Nat} {x1 : Int32} {x2 : Int32} {s0 : Int32} (kt : s0 = 0 → ah_At mt_X_out d A h0 o h2 27 [] [] h) (kf : ¬ (s0 = 0) → ah_At mt_X_out d A h0 o h2 11 [(0, .ref x0), (1, .int x1), (2, .int x2)] [] h) : ah_At mt_X_out d A h0 o h2 8 [(0, .ref x0), (1, .int x1), (2, .int x2)] [.int s0] h := by
  refine s_ifeq (t := 27) d_X_out_8 (by decide) (fun z => ?_) (fun z => ?_)
  · exact ah_At.sub [] rfl (kt z)
  · exact (kf z)
theorem b_X_out_11 {d : Nat} {A : Nat → Prop} {h2 : ah_H} {o : Outcome} {h0 : ah_H} {h : ah_H} {x0 : Nat} {x1 : Int32} {x2 : Int32} {v1 : Nat} {v2 : Nat} {v3 : Nat} {j3 : Nat} {v4 : Int32} (g1 : ah_sel h x0 6 0 = some (.ref v1)) (g2 : ah_sel h v1 4 0 = some (.ref v2)) (i3 : ah_ix x1 j3) (g3 : ah_sel h v2 115 j3 = some (.ref v3)) (g4 : ah_sel h v3 5 6 = some (.int v4)) (kt : ¬ v4 = x2 → ah_At mt_X_out d A h0 o h2 29 [(0, .ref x0), (1, .int x1), (2, .int x2)] [] h) (kf : ¬ (¬ v4 = x2) → ah_At mt_X_out d A h0 o h2 27 [] [] h) : ah_At mt_X_out d A h0 o h2 11 [(0, .ref x0), (1, .int x1), (2, .int x2)] [] h := by
  refine s_aload_n d_X_out_11 rfl rfl ?_
  refine s_getfield (k := 0) d_X_out_12 kc6 (by decide) fl_X_10 g1 ?_
  refine s_getfield (k := 0) d_X_out_15 kc4 (by decide) fl_X_67 g2 ?_
  refine s_iload_n d_X_out_18 rfl rfl ?_
  refine s_aaload (t := 115) ⟨rfl, by decide, rfl⟩ rfl d_X_out_19 i3 g3 ?_
  refine s_getfield (k := 6) d_X_out_20 kc5 (by decide) fl_X_118 g4 ?_
  refine s_iload_n d_X_out_23 rfl rfl ?_
  refine s_if_icmpne (t := 29) d_X_out_24 (by decide) (fun z => ?_) (fun z => ?_)
  · exact (kt z)
  · exact ah_At.sub [] rfl (kf z)
theorem b_X_out_27 {d : Nat} {A : Nat → Prop} {h0 : ah_H} {h : ah_H}   : ah_At mt_X_out d A h0 (.returned (some (.int 0))) h 27 [] [] h := by
  refine s_iconst (v := 0) d_X_out_27 (by decide) ?_
  exact e_iret (ty := .boolean) d_X_out_28 rfl (by decide +kernel)
theorem b_X_out_29 {d : Nat} {A : Nat → Prop} {h0 : ah_H} {h : ah_H} {x0 : Nat} {x1 : Int32} {x2 : Int32} {v2 : Nat} {v3 : Nat} {v4 : Nat} {j4 : Nat} (w1 : A x0) (e1 : (ah_sel h x0 6 2).isSome = true) (g2 : ah_sel (ah_sto h x0 2 (.int 0)) x0 6 0 = some (.ref v2)) (g3 : ah_sel (ah_sto h x0 2 (.int 0)) v2 4 0 = some (.ref v3)) (i4 : ah_ix x1 j4) (g4 : ah_sel (ah_sto h x0 2 (.int 0)) v3 115 j4 = some (.ref v4)) (f5 : ah_fit .boolean (.int x2) = true) (w5 : A v4) (e5 : (ah_sel (ah_sto h x0 2 (.int 0)) v4 5 6).isSome = true) : ah_At mt_X_out d A h0 (.returned (some (.int 1))) (ah_sto (ah_sto h x0 2 (.int 0)) v4 6 (.int x2)) 29 [(0, .ref x0), (1, .int x1), (2, .int x2)] [] h := by
  refine s_aload_n d_X_out_29 rfl rfl ?_
  refine s_iconst (v := 0) d_X_out_30 (by decide) ?_
  refine s_putfield (k := 2) d_X_out_31 kc6 (by decide) fl_X_25 (Or.inl rfl) w1 (by decide) e1 ?_
  refine s_aload_n d_X_out_34 rfl rfl ?_
  refine s_getfield (k := 0) d_X_out_35 kc6 (by decide) fl_X_10 g2 ?_
  refine s_getfield (k := 0) d_X_out_38 kc4 (by decide) fl_X_67 g3 ?_
  refine s_iload_n d_X_out_41 rfl rfl ?_
  refine s_aaload (t := 115) ⟨rfl, by decide, rfl⟩ rfl d_X_out_42 i4 g4 ?_
  refine s_iload_n d_X_out_43 rfl rfl ?_
  refine s_putfield (k := 6) d_X_out_44 kc5 (by decide) fl_X_118 (Or.inl rfl) w5 f5 e5 ?_
  refine s_iconst (v := 1) d_X_out_47 (by decide) ?_
  exact e_iret (ty := .boolean) d_X_out_48 rfl (by decide +kernel)
theorem b_X_plan_0 {d : Nat} {A : Nat → Prop} {h2 : ah_H} {o : Outcome} {h0 : ah_H} {h : ah_H} {x0 : Nat} {v1 : Int32} (g1 : ah_sel h x0 6 2 = some (.int v1)) (kt : ¬ v1 = 0 → ah_At mt_X_plan d A h0 o h2 19 [(0, .ref x0)] [] h) (kf : ¬ (¬ v1 = 0) → ah_At mt_X_plan d A h0 o h2 7 [(0, .ref x0)] [] h) : ah_At mt_X_plan d A h0 o h2 0 [(0, .ref x0)] [] h := by
  refine s_aload_n d_X_plan_0 rfl rfl ?_
  refine s_getfield (k := 2) d_X_plan_1 kc6 (by decide) fl_X_25 g1 ?_
  refine s_ifne (t := 19) d_X_plan_4 (by decide) (fun z => ?_) (fun z => ?_)
  · exact (kt z)
  · exact (kf z)
theorem b_X_plan_7 {d : Nat} {A : Nat → Prop} {h2 : ah_H} {o : Outcome} {h0 : ah_H} {h : ah_H} {x0 : Nat} {v1 : Nat} {d' : Nat} {A' : Nat → Prop} {o' : Outcome} {h' : ah_H} (g1 : ah_sel h x0 6 1 = some (.ref v1)) (hE : ah_Ev mt_N_makePlan d' A' [.ref v1] h o' h') (hdd : d' + 1 ≤ d) (hAA : ∀ q, A' q → A q) (k : ah_aft mt_X_plan d A h0 o h2 11 [(0, .ref x0)] [] h' o') (hb : (ah_len h v1 3).isSome = true) : ah_At mt_X_plan d A h0 o h2 7 [(0, .ref x0)] [] h := by
  refine s_aload_n d_X_plan_7 rfl rfl ?_
  refine s_getfield (k := 1) d_X_plan_8 kc6 (by decide) fl_X_21 g1 ?_
  exact ah_callV (av := []) (st := []) d_X_plan_11 ml_X_121 mi_N_makePlan mv_N_makePlan kc3 hb hE hdd hAA rfl (Nat.le_of_ble_eq_true rfl) k
theorem b_X_plan_14 {d : Nat} {A : Nat → Prop} {h2 : ah_H} {o : Outcome} {h0 : ah_H} {h : ah_H} {x0 : Nat} (w1 : A x0) (e1 : (ah_sel h x0 6 2).isSome = true) (k : ah_At mt_X_plan d A h0 o h2 19 [(0, .ref x0)] [] (ah_sto h x0 2 (.int 1))) : ah_At mt_X_plan d A h0 o h2 14 [(0, .ref x0)] [] h := by
  refine s_aload_n d_X_plan_14 rfl rfl ?_
  refine s_iconst (v := 1) d_X_plan_15 (by decide) ?_
  refine s_putfield (k := 2) d_X_plan_16 kc6 (by decide) fl_X_25 (Or.inl rfl) w1 (by decide) e1 ?_
  exact k
theorem b_X_plan_19 {d : Nat} {A : Nat → Prop} {h2 : ah_H} {o : Outcome} {h0 : ah_H} {h : ah_H} {x0 : Nat} {v1 : Nat} {d' : Nat} {A' : Nat → Prop} {o' : Outcome} {h' : ah_H} (g1 : ah_sel h x0 6 1 = some (.ref v1)) (hE : ah_Ev mt_N_lengthUsed d' A' [.ref v1] h o' h') (hdd : d' + 1 ≤ d) (hAA : ∀ q, A' q → A q) (k : ah_aft mt_X_plan d A h0 o h2 23 [] [] h' o') (hb : (ah_len h v1 3).isSome = true) : ah_At mt_X_plan d A h0 o h2 19 [(0, .ref x0)] [] h := by
  refine s_aload_n d_X_plan_19 rfl rfl ?_
  refine s_getfield (k := 1) d_X_plan_20 kc6 (by decide) fl_X_21 g1 ?_
  refine ah_At.sub [] rfl ?_
  exact ah_callV (av := []) (st := []) d_X_plan_23 ml_X_124 mi_N_lengthUsed mv_N_lengthUsed kc3 hb hE hdd hAA rfl (Nat.le_of_ble_eq_true rfl) k
theorem b_X_plan_26 {d : Nat} {A : Nat → Prop} {h0 : ah_H} {h : ah_H} {s0 : Int32}  : ah_At mt_X_plan d A h0 (.returned (some (.int s0))) h 26 [] [.int s0] h := by
  exact e_iret (ty := .int) d_X_plan_26 rfl rfl
theorem b_X_at_0 {d : Nat} {A : Nat → Prop} {h2 : ah_H} {o : Outcome} {h0 : ah_H} {h : ah_H} {x0 : Nat} {x1 : Int32} {x2 : Int32} {v1 : Nat} {d' : Nat} {A' : Nat → Prop} {o' : Outcome} {h' : ah_H} (g1 : ah_sel h x0 6 0 = some (.ref v1)) (hE : ah_Ev mt_T_hasBox d' A' [.ref v1, .int x1] h o' h') (hdd : d' + 1 ≤ d) (hAA : ∀ q, A' q → A q) (k : ah_aft mt_X_at d A h0 o h2 5 [(0, .ref x0), (1, .int x1), (2, .int x2)] [] h' o') (hb : (ah_len h v1 4).isSome = true) : ah_At mt_X_at d A h0 o h2 0 [(0, .ref x0), (1, .int x1), (2, .int x2)] [] h := by
  refine s_aload_n d_X_at_0 rfl rfl ?_
  refine s_getfield (k := 0) d_X_at_1 kc6 (by decide) fl_X_10 g1 ?_
  refine s_iload_n d_X_at_4 rfl rfl ?_
  exact ah_callV (av := [.int x1]) (st := []) d_X_at_5 ml_X_128 mi_T_hasBox mv_T_hasBox kc4 hb hE hdd hAA rfl (Nat.le_of_ble_eq_true rfl) k
theorem b_X_at_8 {d : Nat} {A : Nat → Prop} {h2 : ah_H} {o : Outcome} {h0 : ah_H} {h : ah_H} {x0 : Nat} {x1 : Int32} {x2 : Int32} {s0 : Int32} (kt : s0 = 0 → ah_At mt_X_at d A h0 o h2 21 [] [] h) (kf : ¬ (s0 = 0) → ah_At mt_X_at d A h0 o h2 11 [(0, .ref x0), (1, .int x1), (2, .int x2)] [] h) : ah_At mt_X_at d A h0 o h2 8 [(0, .ref x0), (1, .int x1), (2, .int x2)] [.int s0] h := by
  refine s_ifeq (t := 21) d_X_at_8 (by decide) (fun z => ?_) (fun z => ?_)
  · exact ah_At.sub [] rfl (kt z)
  · exact (kf z)
theorem b_X_at_11 {d : Nat} {A : Nat → Prop} {h2 : ah_H} {o : Outcome} {h0 : ah_H} {h : ah_H} {x0 : Nat} {x1 : Int32} {x2 : Int32} {d' : Nat} {A' : Nat → Prop} {o' : Outcome} {h' : ah_H} (hE : ah_Ev mt_X_isBetween d' A' [.long (Int32.toInt64 x2), .long 0, .long 1] h o' h') (hdd : d' + 1 ≤ d) (hAA : ∀ q, A' q → A q) (k : ah_aft mt_X_at d A h0 o h2 15 [(0, .ref x0), (1, .int x1), (2, .int x2)] [] h' o') : ah_At mt_X_at d A h0 o h2 11 [(0, .ref x0), (1, .int x1), (2, .int x2)] [] h := by
  refine s_iload_n d_X_at_11 rfl rfl ?_
  refine s_i2l d_X_at_12 ?_
  refine s_lconst (v := 0) d_X_at_13 (by decide) ?_
  refine s_lconst (v := 1) d_X_at_14 (by decide) ?_
  exact ah_callS (av := [.long (Int32.toInt64 x2), .long 0, .long 1]) (st := []) d_X_at_15 ml_X_31 ms_X_isBetween hE hdd hAA rfl (Nat.le_of_ble_eq_true rfl) k
theorem b_X_at_18 {d : Nat} {A : Nat → Prop} {h2 : ah_H} {o : Outcome} {h0 : ah_H} {h : ah_H} {x0 : Nat} {x1 : Int32} {x2 : Int32} {s0 : Int32} (kt : ¬ s0 = 0 → ah_At mt_X_at d A h0 o h2 31 [(0, .ref x0), (1, .int x1), (2, .int x2)] [] h) (kf : ¬ (¬ s0 = 0) → ah_At mt_X_at d A h0 o h2 21 [] [] h) : ah_At mt_X_at d A h0 o h2 18 [(0, .ref x0), (1, .int x1), (2, .int x2)] [.int s0] h := by
  refine s_ifne (t := 31) d_X_at_18 (by decide) (fun z => ?_) (fun z => ?_)
  · exact (kt z)
  · exact ah_At.sub [] rfl (kf z)
theorem b_X_at_21 {d : Nat} {A : Nat → Prop} {h : ah_H}  (hA0 : ∀ q, ¬ A q) (hd9 : 8 ≤ d) (hs9 : ∃ a c, h.2.2 a = some (97, c)) : ah_At mt_X_at d A h (.threw h.1) (ah_newx h 92) 21 [] [] h := by
  exact e_throw92 hA0 hd9 hs9 (d_X_at_21) d_X_at_24 d_X_at_25 d_X_at_27 d_X_at_30 cl_X_131 sr_X_133 xa_X_135 rfl
theorem b_X_at_31 {d : Nat} {A : Nat → Prop} {h2 : ah_H} {o : Outcome} {h0 : ah_H} {h : ah_H} {x0 : Nat} {x1 : Int32} {x2 : Int32} {d' : Nat} {A' : Nat → Prop} {o' : Outcome} {h' : ah_H} (hE : ah_Ev mt_X_needPlan d' A' [.ref x0] h o' h') (hdd : d' + 1 ≤ d) (hAA : ∀ q, A' q → A q) (k : ah_aft mt_X_at d A h0 o h2 32 [(0, .ref x0), (1, .int x1), (2, .int x2)] [] h' o') (hb : (ah_len h x0 6).isSome = true) : ah_At mt_X_at d A h0 o h2 31 [(0, .ref x0), (1, .int x1), (2, .int x2)] [] h := by
  refine s_aload_n d_X_at_31 rfl rfl ?_
  exact ah_callV (av := []) (st := []) d_X_at_32 ml_X_136 mi_X_needPlan mv_X_needPlan kc6 hb hE hdd hAA rfl (Nat.le_of_ble_eq_true rfl) k
theorem b_X_at_35 {d : Nat} {A : Nat → Prop} {h2 : ah_H} {o : Outcome} {h0 : ah_H} {h : ah_H} {x0 : Nat} {x1 : Int32} {x2 : Int32} (kt : ¬ x2 = 0 → ah_At mt_X_at d A h0 o h2 50 [(0, .ref x0), (1, .int x1)] [] h) (kf : ¬ (¬ x2 = 0) → ah_At mt_X_at d A h0 o h2 39 [(0, .ref x0), (1, .int x1)] [] h) : ah_At mt_X_at d A h0 o h2 35 [(0, .ref x0), (1, .int x1), (2, .int x2)] [] h := by
  refine s_iload_n d_X_at_35 rfl rfl ?_
  refine s_ifne (t := 50) d_X_at_36 (by decide) (fun z => ?_) (fun z => ?_)
  · exact ah_At.sub [0, 1] rfl (kt z)
  · exact ah_At.sub [0, 1] rfl (kf z)
theorem b_X_at_39 {d : Nat} {A : Nat → Prop} {h2 : ah_H} {o : Outcome} {h0 : ah_H} {h : ah_H} {x0 : Nat} {x1 : Int32} {v1 : Nat} {d' : Nat} {A' : Nat → Prop} {o' : Outcome} {h' : ah_H} (g1 : ah_sel h x0 6 1 = some (.ref v1)) (hE : ah_Ev mt_N_wagonOf d' A' [.ref v1, .int x1] h o' h') (hdd : d' + 1 ≤ d) (hAA : ∀ q, A' q → A q) (k : ah_aft mt_X_at d A h0 o h2 44 [] [] h' o') (hb : (ah_len h v1 3).isSome = true) : ah_At mt_X_at d A h0 o h2 39 [(0, .ref x0), (1, .int x1)] [] h := by
  refine s_aload_n d_X_at_39 rfl rfl ?_
  refine s_getfield (k := 1) d_X_at_40 kc6 (by decide) fl_X_21 g1 ?_
  refine s_iload_n d_X_at_43 rfl rfl ?_
  refine ah_At.sub [] rfl ?_
  exact ah_callV (av := [.int x1]) (st := []) d_X_at_44 ml_X_139 mi_N_wagonOf mv_N_wagonOf kc3 hb hE hdd hAA rfl (Nat.le_of_ble_eq_true rfl) k
theorem b_X_at_47 {d : Nat} {A : Nat → Prop} {h2 : ah_H} {o : Outcome} {h0 : ah_H} {h : ah_H} {s0 : Int32} (k : ah_At mt_X_at d A h0 o h2 58 [] [.int s0] h) : ah_At mt_X_at d A h0 o h2 47 [] [.int s0] h := by
  refine s_goto (t := 58) d_X_at_47 (by decide) ?_
  exact k
theorem b_X_at_50 {d : Nat} {A : Nat → Prop} {h2 : ah_H} {o : Outcome} {h0 : ah_H} {h : ah_H} {x0 : Nat} {x1 : Int32} {v1 : Nat} {d' : Nat} {A' : Nat → Prop} {o' : Outcome} {h' : ah_H} (g1 : ah_sel h x0 6 1 = some (.ref v1)) (hE : ah_Ev mt_N_placeOf d' A' [.ref v1, .int x1] h o' h') (hdd : d' + 1 ≤ d) (hAA : ∀ q, A' q → A q) (k : ah_aft mt_X_at d A h0 o h2 55 [] [] h' o') (hb : (ah_len h v1 3).isSome = true) : ah_At mt_X_at d A h0 o h2 50 [(0, .ref x0), (1, .int x1)] [] h := by
  refine s_aload_n d_X_at_50 rfl rfl ?_
  refine s_getfield (k := 1) d_X_at_51 kc6 (by decide) fl_X_21 g1 ?_
  refine s_iload_n d_X_at_54 rfl rfl ?_
  refine ah_At.sub [] rfl ?_
  exact ah_callV (av := [.int x1]) (st := []) d_X_at_55 ml_X_142 mi_N_placeOf mv_N_placeOf kc3 hb hE hdd hAA rfl (Nat.le_of_ble_eq_true rfl) k
theorem b_X_at_58 {d : Nat} {A : Nat → Prop} {h0 : ah_H} {h : ah_H} {s0 : Int32}  : ah_At mt_X_at d A h0 (.returned (some (.int s0))) h 58 [] [.int s0] h := by
  exact e_iret (ty := .int) d_X_at_58 rfl rfl
theorem b_X_load_0 {d : Nat} {A : Nat → Prop} {h2 : ah_H} {o : Outcome} {h0 : ah_H} {h : ah_H} {x0 : Nat} {x1 : Int32} {x2 : Int32} {v1 : Nat} {d' : Nat} {A' : Nat → Prop} {o' : Outcome} {h' : ah_H} (g1 : ah_sel h x0 6 0 = some (.ref v1)) (hE : ah_Ev mt_T_hasWagon d' A' [.ref v1, .int x1] h o' h') (hdd : d' + 1 ≤ d) (hAA : ∀ q, A' q → A q) (k : ah_aft mt_X_load d A h0 o h2 5 [(0, .ref x0), (1, .int x1), (2, .int x2)] [] h' o') (hb : (ah_len h v1 4).isSome = true) : ah_At mt_X_load d A h0 o h2 0 [(0, .ref x0), (1, .int x1), (2, .int x2)] [] h := by
  refine s_aload_n d_X_load_0 rfl rfl ?_
  refine s_getfield (k := 0) d_X_load_1 kc6 (by decide) fl_X_10 g1 ?_
  refine s_iload_n d_X_load_4 rfl rfl ?_
  exact ah_callV (av := [.int x1]) (st := []) d_X_load_5 ml_X_61 mi_T_hasWagon mv_T_hasWagon kc4 hb hE hdd hAA rfl (Nat.le_of_ble_eq_true rfl) k
theorem b_X_load_8 {d : Nat} {A : Nat → Prop} {h2 : ah_H} {o : Outcome} {h0 : ah_H} {h : ah_H} {x0 : Nat} {x1 : Int32} {x2 : Int32} {s0 : Int32} (kt : s0 = 0 → ah_At mt_X_load d A h0 o h2 23 [] [] h) (kf : ¬ (s0 = 0) → ah_At mt_X_load d A h0 o h2 11 [(0, .ref x0), (1, .int x1), (2, .int x2)] [] h) : ah_At mt_X_load d A h0 o h2 8 [(0, .ref x0), (1, .int x1), (2, .int x2)] [.int s0] h := by
  refine s_ifeq (t := 23) d_X_load_8 (by decide) (fun z => ?_) (fun z => ?_)
  · exact ah_At.sub [] rfl (kt z)
  · exact (kf z)
theorem b_X_load_11 {d : Nat} {A : Nat → Prop} {h2 : ah_H} {o : Outcome} {h0 : ah_H} {h : ah_H} {x0 : Nat} {x1 : Int32} {x2 : Int32} {d' : Nat} {A' : Nat → Prop} {o' : Outcome} {h' : ah_H} (hE : ah_Ev mt_X_isBetween d' A' [.long (Int32.toInt64 x2), .long 0, .long 3] h o' h') (hdd : d' + 1 ≤ d) (hAA : ∀ q, A' q → A q) (k : ah_aft mt_X_load d A h0 o h2 17 [(0, .ref x0), (1, .int x1), (2, .int x2)] [] h' o') : ah_At mt_X_load d A h0 o h2 11 [(0, .ref x0), (1, .int x1), (2, .int x2)] [] h := by
  refine s_iload_n d_X_load_11 rfl rfl ?_
  refine s_i2l d_X_load_12 ?_
  refine s_lconst (v := 0) d_X_load_13 (by decide) ?_
  refine s_ldc2_w (v := 3) d_X_load_14 lc_X_93 ?_
  exact ah_callS (av := [.long (Int32.toInt64 x2), .long 0, .long 3]) (st := []) d_X_load_17 ml_X_31 ms_X_isBetween hE hdd hAA rfl (Nat.le_of_ble_eq_true rfl) k
theorem b_X_load_20 {d : Nat} {A : Nat → Prop} {h2 : ah_H} {o : Outcome} {h0 : ah_H} {h : ah_H} {x0 : Nat} {x1 : Int32} {x2 : Int32} {s0 : Int32} (kt : ¬ s0 = 0 → ah_At mt_X_load d A h0 o h2 33 [(0, .ref x0), (1, .int x1), (2, .int x2)] [] h) (kf : ¬ (¬ s0 = 0) → ah_At mt_X_load d A h0 o h2 23 [] [] h) : ah_At mt_X_load d A h0 o h2 20 [(0, .ref x0), (1, .int x1), (2, .int x2)] [.int s0] h := by
  refine s_ifne (t := 33) d_X_load_20 (by decide) (fun z => ?_) (fun z => ?_)
  · exact (kt z)
  · exact ah_At.sub [] rfl (kf z)
theorem b_X_load_23 {d : Nat} {A : Nat → Prop} {h : ah_H}  (hA0 : ∀ q, ¬ A q) (hd9 : 8 ≤ d) (hs9 : ∃ a c, h.2.2 a = some (97, c)) : ah_At mt_X_load d A h (.threw h.1) (ah_newx h 92) 23 [] [] h := by
  exact e_throw92 hA0 hd9 hs9 (d_X_load_23) d_X_load_26 d_X_load_27 d_X_load_29 d_X_load_32 cl_X_131 sr_X_145 xa_X_135 rfl
theorem b_X_load_33 {d : Nat} {A : Nat → Prop} {h2 : ah_H} {o : Outcome} {h0 : ah_H} {h : ah_H} {x0 : Nat} {x1 : Int32} {x2 : Int32} {d' : Nat} {A' : Nat → Prop} {o' : Outcome} {h' : ah_H} (hE : ah_Ev mt_X_needPlan d' A' [.ref x0] h o' h') (hdd : d' + 1 ≤ d) (hAA : ∀ q, A' q → A q) (k : ah_aft mt_X_load d A h0 o h2 34 [(0, .ref x0), (1, .int x1), (2, .int x2)] [] h' o') (hb : (ah_len h x0 6).isSome = true) : ah_At mt_X_load d A h0 o h2 33 [(0, .ref x0), (1, .int x1), (2, .int x2)] [] h := by
  refine s_aload_n d_X_load_33 rfl rfl ?_
  exact ah_callV (av := []) (st := []) d_X_load_34 ml_X_136 mi_X_needPlan mv_X_needPlan kc6 hb hE hdd hAA rfl (Nat.le_of_ble_eq_true rfl) k
theorem b_X_load_37 {d : Nat} {A : Nat → Prop} {h2 : ah_H} {o : Outcome} {h0 : ah_H} {h : ah_H} {x0 : Nat} {x1 : Int32} {x2 : Int32} {v1 : Nat} {v2 : Nat} {v3 : Nat} {j3 : Nat} (g1 : ah_sel h x0 6 1 = some (.ref v1)) (g2 : ah_sel h v1 3 1 = some (.ref v2)) (i3 : ah_ix x1 j3) (g3 : ah_sel h v2 111 j3 = some (.ref v3)) (kd : (Int32.toInt x2 < 0 ∨ 2 < Int32.toInt x2) → ah_At mt_X_load d A h0 o h2 98 [(3, .ref v3)] [] h) (k0 : x2 = 0 → ah_At mt_X_load d A h0 o h2 76 [(0, .ref x0), (1, .int x1)] [] h) (k1 : x2 = 1 → ah_At mt_X_load d A h0 o h2 86 [(3, .ref v3)] [] h) (k2 : x2 = 2 → ah_At mt_X_load d A h0 o h2 92 [(3, .ref v3)] [] h) : ah_At mt_X_load d A h0 o h2 37 [(0, .ref x0), (1, .int x1), (2, .int x2)] [] h := by
  refine s_aload_n d_X_load_37 rfl rfl ?_
  refine s_getfield (k := 1) d_X_load_38 kc6 (by decide) fl_X_21 g1 ?_
  refine s_getfield (k := 1) d_X_load_41 kc3 (by decide) fl_X_147 g2 ?_
  refine s_iload_n d_X_load_44 rfl rfl ?_
  refine s_aaload (t := 111) ⟨rfl, by decide, rfl⟩ rfl d_X_load_45 i3 g3 ?_
  refine s_astore_n (lv' := [(0, .ref x0), (1, .int x1), (2, .int x2), (3, .ref v3)]) d_X_load_46 rfl (by decide) rfl ?_
  refine s_iload_n d_X_load_47 rfl rfl ?_
  by_cases y0 : Int32.toInt x2 < 0 ∨ 2 < Int32.toInt x2
  · refine ah_tabOut (t := 98) d_X_load_48 y0 (by decide) ?_
    exact ah_At.sub [3] rfl (kd y0)
  · rcases (show x2 = 0 ∨ x2 = 1 ∨ x2 = 2 from by have q := ah_sw [0, 1, 2] y0 (by decide); simp only [List.mem_cons, List.not_mem_nil, or_false] at q; exact q) with y | y | y
    · refine ah_tabIn (off := 28) (t := 76) d_X_load_48 (by rw [y]; decide) (by rw [y]; decide) (by rw [y]; decide +kernel) (by decide) ?_
      exact ah_At.sub [0, 1] rfl (k0 y)
    · refine ah_tabIn (off := 38) (t := 86) d_X_load_48 (by rw [y]; decide) (by rw [y]; decide) (by rw [y]; decide +kernel) (by decide) ?_
      exact ah_At.sub [3] rfl (k1 y)
    · refine ah_tabIn (off := 44) (t := 92) d_X_load_48 (by rw [y]; decide) (by rw [y]; decide) (by rw [y]; decide +kernel) (by decide) ?_
      exact ah_At.sub [3] rfl (k2 y)
theorem b_X_load_76 {d : Nat} {A : Nat → Prop} {h2 : ah_H} {o : Outcome} {h0 : ah_H} {h : ah_H} {x0 : Nat} {x1 : Int32} {v1 : Nat} {d' : Nat} {A' : Nat → Prop} {o' : Outcome} {h' : ah_H} (g1 : ah_sel h x0 6 1 = some (.ref v1)) (hE : ah_Ev mt_N_patternOf d' A' [.ref v1, .int x1] h o' h') (hdd : d' + 1 ≤ d) (hAA : ∀ q, A' q → A q) (k : ah_aft mt_X_load d A h0 o h2 81 [] [] h' o') (hb : (ah_len h v1 3).isSome = true) : ah_At mt_X_load d A h0 o h2 76 [(0, .ref x0), (1, .int x1)] [] h := by
  refine s_aload_n d_X_load_76 rfl rfl ?_
  refine s_getfield (k := 1) d_X_load_77 kc6 (by decide) fl_X_21 g1 ?_
  refine s_iload_n d_X_load_80 rfl rfl ?_
  refine ah_At.sub [] rfl ?_
  exact ah_callV (av := [.int x1]) (st := []) d_X_load_81 ml_X_151 mi_N_patternOf mv_N_patternOf kc3 hb hE hdd hAA rfl (Nat.le_of_ble_eq_true rfl) k
theorem b_X_load_84 {d : Nat} {A : Nat → Prop} {h0 : ah_H} {h : ah_H} {s0 : Int32}  : ah_At mt_X_load d A h0 (.returned (some (.long (Int32.toInt64 s0)))) h 84 [] [.int s0] h := by
  refine s_i2l d_X_load_84 ?_
  exact e_lret d_X_load_85 rfl
theorem b_X_load_86 {d : Nat} {A : Nat → Prop} {h0 : ah_H} {h : ah_H} {x3 : Nat} {v1 : Int32} (g1 : ah_sel h x3 1 2 = some (.int v1)) : ah_At mt_X_load d A h0 (.returned (some (.long (Int32.toInt64 v1)))) h 86 [(3, .ref x3)] [] h := by
  refine s_aload_n d_X_load_86 rfl rfl ?_
  refine s_getfield (k := 2) d_X_load_87 kc1 (by decide) fl_X_154 g1 ?_
  refine s_i2l d_X_load_90 ?_
  exact e_lret d_X_load_91 rfl
theorem b_X_load_92 {d : Nat} {A : Nat → Prop} {h0 : ah_H} {h : ah_H} {x3 : Nat} {v1 : Int32} (g1 : ah_sel h x3 1 3 = some (.int v1)) : ah_At mt_X_load d A h0 (.returned (some (.long (Int32.toInt64 v1)))) h 92 [(3, .ref x3)] [] h := by
  refine s_aload_n d_X_load_92 rfl rfl ?_
  refine s_getfield (k := 3) d_X_load_93 kc1 (by decide) fl_X_157 g1 ?_
  refine s_i2l d_X_load_96 ?_
  exact e_lret d_X_load_97 rfl
theorem b_X_load_98 {d : Nat} {A : Nat → Prop} {h0 : ah_H} {h : ah_H} {x3 : Nat} {v1 : Int64} (g1 : ah_sel h x3 1 4 = some (.long v1)) : ah_At mt_X_load d A h0 (.returned (some (.long v1))) h 98 [(3, .ref x3)] [] h := by
  refine s_aload_n d_X_load_98 rfl rfl ?_
  refine s_getfield (k := 4) d_X_load_99 kc1 (by decide) fl_X_158 g1 ?_
  exact e_lret d_X_load_102 rfl
theorem b_X_axle_0 {d : Nat} {A : Nat → Prop} {h2 : ah_H} {o : Outcome} {h0 : ah_H} {h : ah_H} {x0 : Nat} {x1 : Int32} {x2 : Int32} {v1 : Nat} {d' : Nat} {A' : Nat → Prop} {o' : Outcome} {h' : ah_H} (g1 : ah_sel h x0 6 0 = some (.ref v1)) (hE : ah_Ev mt_T_hasWagon d' A' [.ref v1, .int x1] h o' h') (hdd : d' + 1 ≤ d) (hAA : ∀ q, A' q → A q) (k : ah_aft mt_X_axle d A h0 o h2 5 [(0, .ref x0), (1, .int x1), (2, .int x2)] [] h' o') (hb : (ah_len h v1 4).isSome = true) : ah_At mt_X_axle d A h0 o h2 0 [(0, .ref x0), (1, .int x1), (2, .int x2)] [] h := by
  refine s_aload_n d_X_axle_0 rfl rfl ?_
  refine s_getfield (k := 0) d_X_axle_1 kc6 (by decide) fl_X_10 g1 ?_
  refine s_iload_n d_X_axle_4 rfl rfl ?_
  exact ah_callV (av := [.int x1]) (st := []) d_X_axle_5 ml_X_61 mi_T_hasWagon mv_T_hasWagon kc4 hb hE hdd hAA rfl (Nat.le_of_ble_eq_true rfl) k
theorem b_X_axle_8 {d : Nat} {A : Nat → Prop} {h2 : ah_H} {o : Outcome} {h0 : ah_H} {h : ah_H} {x0 : Nat} {x1 : Int32} {x2 : Int32} {s0 : Int32} (kt : s0 = 0 → ah_At mt_X_axle d A h0 o h2 21 [] [] h) (kf : ¬ (s0 = 0) → ah_At mt_X_axle d A h0 o h2 11 [(0, .ref x0), (1, .int x1), (2, .int x2)] [] h) : ah_At mt_X_axle d A h0 o h2 8 [(0, .ref x0), (1, .int x1), (2, .int x2)] [.int s0] h := by
  refine s_ifeq (t := 21) d_X_axle_8 (by decide) (fun z => ?_) (fun z => ?_)
  · exact ah_At.sub [] rfl (kt z)
  · exact (kf z)
theorem b_X_axle_11 {d : Nat} {A : Nat → Prop} {h2 : ah_H} {o : Outcome} {h0 : ah_H} {h : ah_H} {x0 : Nat} {x1 : Int32} {x2 : Int32} {d' : Nat} {A' : Nat → Prop} {o' : Outcome} {h' : ah_H} (hE : ah_Ev mt_X_isBetween d' A' [.long (Int32.toInt64 x2), .long 0, .long 1] h o' h') (hdd : d' + 1 ≤ d) (hAA : ∀ q, A' q → A q) (k : ah_aft mt_X_axle d A h0 o h2 15 [(0, .ref x0), (1, .int x1), (2, .int x2)] [] h' o') : ah_At mt_X_axle d A h0 o h2 11 [(0, .ref x0), (1, .int x1), (2, .int x2)] [] h := by
  refine s_iload_n d_X_axle_11 rfl rfl ?_
  refine s_i2l d_X_axle_12 ?_
  refine s_lconst (v := 0) d_X_axle_13 (by decide) ?_
  refine s_lconst (v := 1) d_X_axle_14 (by decide) ?_
  exact ah_callS (av := [.long (Int32.toInt64 x2), .long 0, .long 1]) (st := []) d_X_axle_15 ml_X_31 ms_X_isBetween hE hdd hAA rfl (Nat.le_of_ble_eq_true rfl) k
theorem b_X_axle_18 {d : Nat} {A : Nat → Prop} {h2 : ah_H} {o : Outcome} {h0 : ah_H} {h : ah_H} {x0 : Nat} {x1 : Int32} {x2 : Int32} {s0 : Int32} (kt : ¬ s0 = 0 → ah_At mt_X_axle d A h0 o h2 31 [(0, .ref x0), (1, .int x1), (2, .int x2)] [] h) (kf : ¬ (¬ s0 = 0) → ah_At mt_X_axle d A h0 o h2 21 [] [] h) : ah_At mt_X_axle d A h0 o h2 18 [(0, .ref x0), (1, .int x1), (2, .int x2)] [.int s0] h := by
  refine s_ifne (t := 31) d_X_axle_18 (by decide) (fun z => ?_) (fun z => ?_)
  · exact (kt z)
  · exact ah_At.sub [] rfl (kf z)
theorem b_X_axle_21 {d : Nat} {A : Nat → Prop} {h : ah_H}  (hA0 : ∀ q, ¬ A q) (hd9 : 8 ≤ d) (hs9 : ∃ a c, h.2.2 a = some (97, c)) : ah_At mt_X_axle d A h (.threw h.1) (ah_newx h 92) 21 [] [] h := by
  exact e_throw92 hA0 hd9 hs9 (d_X_axle_21) d_X_axle_24 d_X_axle_25 d_X_axle_27 d_X_axle_30 cl_X_131 sr_X_161 xa_X_135 rfl
theorem b_X_axle_31 {d : Nat} {A : Nat → Prop} {h2 : ah_H} {o : Outcome} {h0 : ah_H} {h : ah_H} {x0 : Nat} {x1 : Int32} {x2 : Int32} {d' : Nat} {A' : Nat → Prop} {o' : Outcome} {h' : ah_H} (hE : ah_Ev mt_X_needPlan d' A' [.ref x0] h o' h') (hdd : d' + 1 ≤ d) (hAA : ∀ q, A' q → A q) (k : ah_aft mt_X_axle d A h0 o h2 32 [(0, .ref x0), (1, .int x1), (2, .int x2)] [] h' o') (hb : (ah_len h x0 6).isSome = true) : ah_At mt_X_axle d A h0 o h2 31 [(0, .ref x0), (1, .int x1), (2, .int x2)] [] h := by
  refine s_aload_n d_X_axle_31 rfl rfl ?_
  exact ah_callV (av := []) (st := []) d_X_axle_32 ml_X_136 mi_X_needPlan mv_X_needPlan kc6 hb hE hdd hAA rfl (Nat.le_of_ble_eq_true rfl) k
theorem b_X_axle_35 {d : Nat} {A : Nat → Prop} {h2 : ah_H} {o : Outcome} {h0 : ah_H} {h : ah_H} {x0 : Nat} {x1 : Int32} {x2 : Int32} {v1 : Nat} {v2 : Nat} {v3 : Nat} {j3 : Nat} {v4 : Int32} (g1 : ah_sel h x0 6 0 = some (.ref v1)) (g2 : ah_sel h v1 4 0 = some (.ref v2)) (i3 : ah_ix x1 j3) (g3 : ah_sel h v2 115 j3 = some (.ref v3)) (g4 : ah_sel h v3 5 4 = some (.int v4)) (kt : ¬ v4 = 0 → ah_At mt_X_axle d A h0 o h2 62 [(0, .ref x0), (1, .int x1), (2, .int x2), (3, .int v4)] [] h) (kf : ¬ (¬ v4 = 0) → ah_At mt_X_axle d A h0 o h2 52 [] [] h) : ah_At mt_X_axle d A h0 o h2 35 [(0, .ref x0), (1, .int x1), (2, .int x2)] [] h := by
  refine s_aload_n d_X_axle_35 rfl rfl ?_
  refine s_getfield (k := 0) d_X_axle_36 kc6 (by decide) fl_X_10 g1 ?_
  refine s_getfield (k := 0) d_X_axle_39 kc4 (by decide) fl_X_67 g2 ?_
  refine s_iload_n d_X_axle_42 rfl rfl ?_
  refine s_aaload (t := 115) ⟨rfl, by decide, rfl⟩ rfl d_X_axle_43 i3 g3 ?_
  refine s_getfield (k := 4) d_X_axle_44 kc5 (by decide) fl_X_163 g4 ?_
  refine s_istore_n (lv' := [(0, .ref x0), (1, .int x1), (2, .int x2), (3, .int v4)]) d_X_axle_47 rfl (by decide) rfl ?_
  refine s_iload_n d_X_axle_48 rfl rfl ?_
  refine s_ifne (t := 62) d_X_axle_49 (by decide) (fun z => ?_) (fun z => ?_)
  · exact (kt z)
  · exact ah_At.sub [] rfl (kf z)
theorem b_X_axle_52 {d : Nat} {A : Nat → Prop} {h : ah_H}  (hA0 : ∀ q, ¬ A q) (hd9 : 8 ≤ d) (hs9 : ∃ a c, h.2.2 a = some (97, c)) : ah_At mt_X_axle d A h (.threw h.1) (ah_newx h 94) 52 [] [] h := by
  exact e_throw94 hA0 hd9 hs9 (d_X_axle_52) d_X_axle_55 d_X_axle_56 d_X_axle_58 d_X_axle_61 cl_X_166 sr_X_168 xa_X_170 rfl
theorem b_X_axle_62 {d : Nat} {A : Nat → Prop} {h2 : ah_H} {o : Outcome} {h0 : ah_H} {h : ah_H} {x0 : Nat} {x1 : Int32} {x2 : Int32} {x3 : Int32} {v1 : Nat} {v2 : Nat} {v3 : Nat} {j3 : Nat} {v4 : Int64} (g1 : ah_sel h x0 6 1 = some (.ref v1)) (g2 : ah_sel h v1 3 1 = some (.ref v2)) (i3 : ah_ix x1 j3) (g3 : ah_sel h v2 111 j3 = some (.ref v3)) (g4 : ah_sel h v3 1 4 = some (.long v4)) (kt : ¬ x2 = 0 → ah_At mt_X_axle d A h0 o h2 88 [(3, .int x3), (4, .long v4)] [] h) (kf : ¬ (¬ x2 = 0) → ah_At mt_X_axle d A h0 o h2 80 [(3, .int x3), (4, .long v4)] [] h) : ah_At mt_X_axle d A h0 o h2 62 [(0, .ref x0), (1, .int x1), (2, .int x2), (3, .int x3)] [] h := by
  refine s_aload_n d_X_axle_62 rfl rfl ?_
  refine s_getfield (k := 1) d_X_axle_63 kc6 (by decide) fl_X_21 g1 ?_
  refine s_getfield (k := 1) d_X_axle_66 kc3 (by decide) fl_X_147 g2 ?_
  refine s_iload_n d_X_axle_69 rfl rfl ?_
  refine s_aaload (t := 111) ⟨rfl, by decide, rfl⟩ rfl d_X_axle_70 i3 g3 ?_
  refine s_getfield (k := 4) d_X_axle_71 kc1 (by decide) fl_X_158 g4 ?_
  refine s_lstore (lv' := [(0, .ref x0), (1, .int x1), (2, .int x2), (3, .int x3), (4, .long v4)]) d_X_axle_74 (by decide) rfl ?_
  refine s_iload_n d_X_axle_76 rfl rfl ?_
  refine s_ifne (t := 88) d_X_axle_77 (by decide) (fun z => ?_) (fun z => ?_)
  · exact ah_At.sub [3, 4] rfl (kt z)
  · exact ah_At.sub [3, 4] rfl (kf z)
theorem b_X_axle_80 {d : Nat} {A : Nat → Prop} {h2 : ah_H} {o : Outcome} {h0 : ah_H} {h : ah_H} {x3 : Int32} {x4 : Int64} (z1 : ¬ Int32.toInt64 x3 = 0) (k : ah_At mt_X_axle d A h0 o h2 93 [] [.long (x4 / (Int32.toInt64 x3))] h) : ah_At mt_X_axle d A h0 o h2 80 [(3, .int x3), (4, .long x4)] [] h := by
  refine s_lload d_X_axle_80 rfl ?_
  refine s_iload_n d_X_axle_82 rfl rfl ?_
  refine s_i2l d_X_axle_83 ?_
  refine s_ldiv d_X_axle_84 z1 ?_
  refine s_goto (t := 93) d_X_axle_85 (by decide) ?_
  exact ah_At.sub [] rfl k
theorem b_X_axle_88 {d : Nat} {A : Nat → Prop} {h2 : ah_H} {o : Outcome} {h0 : ah_H} {h : ah_H} {x3 : Int32} {x4 : Int64} (z1 : ¬ Int32.toInt64 x3 = 0) (k : ah_At mt_X_axle d A h0 o h2 93 [] [.long (x4 - x4 / (Int32.toInt64 x3) * (Int32.toInt64 x3))] h) : ah_At mt_X_axle d A h0 o h2 88 [(3, .int x3), (4, .long x4)] [] h := by
  refine s_lload d_X_axle_88 rfl ?_
  refine s_iload_n d_X_axle_90 rfl rfl ?_
  refine s_i2l d_X_axle_91 ?_
  refine s_lrem d_X_axle_92 z1 ?_
  exact ah_At.sub [] rfl k
theorem b_X_axle_93 {d : Nat} {A : Nat → Prop} {h0 : ah_H} {h : ah_H} {s0 : Int64}  : ah_At mt_X_axle d A h0 (.returned (some (.long s0))) h 93 [] [.long s0] h := by
  exact e_lret d_X_axle_93 rfl
theorem b_X_standby_0 {d : Nat} {A : Nat → Prop} {h2 : ah_H} {o : Outcome} {h0 : ah_H} {h : ah_H} {x0 : Nat} {x1 : Int32} {d' : Nat} {A' : Nat → Prop} {o' : Outcome} {h' : ah_H} (hE : ah_Ev mt_X_needPlan d' A' [.ref x0] h o' h') (hdd : d' + 1 ≤ d) (hAA : ∀ q, A' q → A q) (k : ah_aft mt_X_standby d A h0 o h2 1 [(0, .ref x0), (1, .int x1)] [] h' o') (hb : (ah_len h x0 6).isSome = true) : ah_At mt_X_standby d A h0 o h2 0 [(0, .ref x0), (1, .int x1)] [] h := by
  refine s_aload_n d_X_standby_0 rfl rfl ?_
  exact ah_callV (av := []) (st := []) d_X_standby_1 ml_X_136 mi_X_needPlan mv_X_needPlan kc6 hb hE hdd hAA rfl (Nat.le_of_ble_eq_true rfl) k
theorem b_X_standby_4 {d : Nat} {A : Nat → Prop} {h2 : ah_H} {o : Outcome} {h0 : ah_H} {h : ah_H} {x0 : Nat} {x1 : Int32} {v1 : Nat} {d' : Nat} {A' : Nat → Prop} {o' : Outcome} {h' : ah_H} (g1 : ah_sel h x0 6 1 = some (.ref v1)) (hE : ah_Ev mt_N_leftBehind d' A' [.ref v1, .int x1] h o' h') (hdd : d' + 1 ≤ d) (hAA : ∀ q, A' q → A q) (k : ah_aft mt_X_standby d A h0 o h2 9 [] [] h' o') (hb : (ah_len h v1 3).isSome = true) : ah_At mt_X_standby d A h0 o h2 4 [(0, .ref x0), (1, .int x1)] [] h := by
  refine s_aload_n d_X_standby_4 rfl rfl ?_
  refine s_getfield (k := 1) d_X_standby_5 kc6 (by decide) fl_X_21 g1 ?_
  refine s_iload_n d_X_standby_8 rfl rfl ?_
  refine ah_At.sub [] rfl ?_
  exact ah_callV (av := [.int x1]) (st := []) d_X_standby_9 ml_X_171 mi_N_leftBehind mv_N_leftBehind kc3 hb hE hdd hAA rfl (Nat.le_of_ble_eq_true rfl) k
theorem b_X_standby_12 {d : Nat} {A : Nat → Prop} {h0 : ah_H} {h : ah_H} {s0 : Int32}  : ah_At mt_X_standby d A h0 (.returned (some (.int s0))) h 12 [] [.int s0] h := by
  exact e_iret (ty := .int) d_X_standby_12 rfl rfl
theorem b_X_refused_0 {d : Nat} {A : Nat → Prop} {h2 : ah_H} {o : Outcome} {h0 : ah_H} {h : ah_H} {x0 : Nat} {x1 : Int32} {v1 : Nat} {d' : Nat} {A' : Nat → Prop} {o' : Outcome} {h' : ah_H} (g1 : ah_sel h x0 6 0 = some (.ref v1)) (hE : ah_Ev mt_T_hasBox d' A' [.ref v1, .int x1] h o' h') (hdd : d' + 1 ≤ d) (hAA : ∀ q, A' q → A q) (k : ah_aft mt_X_refused d A h0 o h2 5 [(0, .ref x0), (1, .int x1)] [] h' o') (hb : (ah_len h v1 4).isSome = true) : ah_At mt_X_refused d A h0 o h2 0 [(0, .ref x0), (1, .int x1)] [] h := by
  refine s_aload_n d_X_refused_0 rfl rfl ?_
  refine s_getfield (k := 0) d_X_refused_1 kc6 (by decide) fl_X_10 g1 ?_
  refine s_iload_n d_X_refused_4 rfl rfl ?_
  exact ah_callV (av := [.int x1]) (st := []) d_X_refused_5 ml_X_128 mi_T_hasBox mv_T_hasBox kc4 hb hE hdd hAA rfl (Nat.le_of_ble_eq_true rfl) k
theorem b_X_refused_8 {d : Nat} {A : Nat → Prop} {h2 : ah_H} {o : Outcome} {h0 : ah_H} {h : ah_H} {x0 : Nat} {x1 : Int32} {s0 : Int32} (kt : ¬ s0 = 0 → ah_At mt_X_refused d A h0 o h2 21 [(0, .ref x0), (1, .int x1)] [] h) (kf : ¬ (¬ s0 = 0) → ah_At mt_X_refused d A h0 o h2 11 [] [] h) : ah_At mt_X_refused d A h0 o h2 8 [(0, .ref x0), (1, .int x1)] [.int s0] h := by
  refine s_ifne (t := 21) d_X_refused_8 (by decide) (fun z => ?_) (fun z => ?_)
  · exact (kt z)
  · exact ah_At.sub [] rfl (kf z)
theorem b_X_refused_11 {d : Nat} {A : Nat → Prop} {h : ah_H}  (hA0 : ∀ q, ¬ A q) (hd9 : 8 ≤ d) (hs9 : ∃ a c, h.2.2 a = some (97, c)) : ah_At mt_X_refused d A h (.threw h.1) (ah_newx h 92) 11 [] [] h := by
  exact e_throw92 hA0 hd9 hs9 (d_X_refused_11) d_X_refused_14 d_X_refused_15 d_X_refused_17 d_X_refused_20 cl_X_131 sr_X_174 xa_X_135 rfl
theorem b_X_refused_21 {d : Nat} {A : Nat → Prop} {h2 : ah_H} {o : Outcome} {h0 : ah_H} {h : ah_H} {x0 : Nat} {x1 : Int32} {v1 : Nat} {v2 : Nat} {v3 : Nat} {v4 : Nat} {j4 : Nat} {d' : Nat} {A' : Nat → Prop} {o' : Outcome} {h' : ah_H} (g1 : ah_sel h x0 6 0 = some (.ref v1)) (g2 : ah_sel h x0 6 0 = some (.ref v2)) (g3 : ah_sel h v2 4 2 = some (.ref v3)) (i4 : ah_ix x1 j4) (g4 : ah_sel h v3 110 j4 = some (.ref v4)) (hE : ah_Ev mt_T_reasonAgainst d' A' [.ref v1, .ref v4] h o' h') (hdd : d' + 1 ≤ d) (hAA : ∀ q, A' q → A q) (k : ah_aft mt_X_refused d A h0 o h2 34 [] [] h' o') (hb : (ah_len h v1 4).isSome = true) : ah_At mt_X_refused d A h0 o h2 21 [(0, .ref x0), (1, .int x1)] [] h := by
  refine s_aload_n d_X_refused_21 rfl rfl ?_
  refine s_getfield (k := 0) d_X_refused_22 kc6 (by decide) fl_X_10 g1 ?_
  refine s_aload_n d_X_refused_25 rfl rfl ?_
  refine s_getfield (k := 0) d_X_refused_26 kc6 (by decide) fl_X_10 g2 ?_
  refine s_getfield (k := 2) d_X_refused_29 kc4 (by decide) fl_X_176 g3 ?_
  refine s_iload_n d_X_refused_32 rfl rfl ?_
  refine s_aaload (t := 110) ⟨rfl, by decide, rfl⟩ rfl d_X_refused_33 i4 g4 ?_
  refine ah_At.sub [] rfl ?_
  exact ah_callV (av := [.ref v4]) (st := []) d_X_refused_34 ml_X_180 mi_T_reasonAgainst mv_T_reasonAgainst kc4 hb hE hdd hAA rfl (Nat.le_of_ble_eq_true rfl) k
theorem b_X_refused_37 {d : Nat} {A : Nat → Prop} {h0 : ah_H} {h : ah_H} {s0 : Int32}  : ah_At mt_X_refused d A h0 (.returned (some (.int s0))) h 37 [] [.int s0] h := by
  exact e_iret (ty := .int) d_X_refused_37 rfl rfl
theorem b_X_together_0 {d : Nat} {A : Nat → Prop} {h2 : ah_H} {o : Outcome} {h0 : ah_H} {h : ah_H} {x0 : Nat} {x1 : Int32} {x2 : Int32} {v1 : Nat} {d' : Nat} {A' : Nat → Prop} {o' : Outcome} {h' : ah_H} (g1 : ah_sel h x0 6 0 = some (.ref v1)) (hE : ah_Ev mt_T_hasBox d' A' [.ref v1, .int x1] h o' h') (hdd : d' + 1 ≤ d) (hAA : ∀ q, A' q → A q) (k : ah_aft mt_X_together d A h0 o h2 5 [(0, .ref x0), (1, .int x1), (2, .int x2)] [] h' o') (hb : (ah_len h v1 4).isSome = true) : ah_At mt_X_together d A h0 o h2 0 [(0, .ref x0), (1, .int x1), (2, .int x2)] [] h := by
  refine s_aload_n d_X_together_0 rfl rfl ?_
  refine s_getfield (k := 0) d_X_together_1 kc6 (by decide) fl_X_10 g1 ?_
  refine s_iload_n d_X_together_4 rfl rfl ?_
  exact ah_callV (av := [.int x1]) (st := []) d_X_together_5 ml_X_128 mi_T_hasBox mv_T_hasBox kc4 hb hE hdd hAA rfl (Nat.le_of_ble_eq_true rfl) k
theorem b_X_together_8 {d : Nat} {A : Nat → Prop} {h2 : ah_H} {o : Outcome} {h0 : ah_H} {h : ah_H} {x0 : Nat} {x1 : Int32} {x2 : Int32} {s0 : Int32} (kt : s0 = 0 → ah_At mt_X_together d A h0 o h2 22 [] [] h) (kf : ¬ (s0 = 0) → ah_At mt_X_together d A h0 o h2 11 [(0, .ref x0), (1, .int x1), (2, .int x2)] [] h) : ah_At mt_X_together d A h0 o h2 8 [(0, .ref x0), (1, .int x1), (2, .int x2)] [.int s0] h := by
  refine s_ifeq (t := 22) d_X_together_8 (by decide) (fun z => ?_) (fun z => ?_)
  · exact ah_At.sub [] rfl (kt z)
  · exact (kf z)
theorem b_X_together_11 {d : Nat} {A : Nat → Prop} {h2 : ah_H} {o : Outcome} {h0 : ah_H} {h : ah_H} {x0 : Nat} {x1 : Int32} {x2 : Int32} {v1 : Nat} {d' : Nat} {A' : Nat → Prop} {o' : Outcome} {h' : ah_H} (g1 : ah_sel h x0 6 0 = some (.ref v1)) (hE : ah_Ev mt_T_hasBox d' A' [.ref v1, .int x2] h o' h') (hdd : d' + 1 ≤ d) (hAA : ∀ q, A' q → A q) (k : ah_aft mt_X_together d A h0 o h2 16 [(0, .ref x0), (1, .int x1), (2, .int x2)] [] h' o') (hb : (ah_len h v1 4).isSome = true) : ah_At mt_X_together d A h0 o h2 11 [(0, .ref x0), (1, .int x1), (2, .int x2)] [] h := by
  refine s_aload_n d_X_together_11 rfl rfl ?_
  refine s_getfield (k := 0) d_X_together_12 kc6 (by decide) fl_X_10 g1 ?_
  refine s_iload_n d_X_together_15 rfl rfl ?_
  exact ah_callV (av := [.int x2]) (st := []) d_X_together_16 ml_X_128 mi_T_hasBox mv_T_hasBox kc4 hb hE hdd hAA rfl (Nat.le_of_ble_eq_true rfl) k
theorem b_X_together_19 {d : Nat} {A : Nat → Prop} {h2 : ah_H} {o : Outcome} {h0 : ah_H} {h : ah_H} {x0 : Nat} {x1 : Int32} {x2 : Int32} {s0 : Int32} (kt : ¬ s0 = 0 → ah_At mt_X_together d A h0 o h2 32 [(0, .ref x0), (1, .int x1), (2, .int x2)] [] h) (kf : ¬ (¬ s0 = 0) → ah_At mt_X_together d A h0 o h2 22 [] [] h) : ah_At mt_X_together d A h0 o h2 19 [(0, .ref x0), (1, .int x1), (2, .int x2)] [.int s0] h := by
  refine s_ifne (t := 32) d_X_together_19 (by decide) (fun z => ?_) (fun z => ?_)
  · exact (kt z)
  · exact ah_At.sub [] rfl (kf z)
theorem b_X_together_22 {d : Nat} {A : Nat → Prop} {h : ah_H}  (hA0 : ∀ q, ¬ A q) (hd9 : 8 ≤ d) (hs9 : ∃ a c, h.2.2 a = some (97, c)) : ah_At mt_X_together d A h (.threw h.1) (ah_newx h 92) 22 [] [] h := by
  exact e_throw92 hA0 hd9 hs9 (d_X_together_22) d_X_together_25 d_X_together_26 d_X_together_28 d_X_together_31 cl_X_131 sr_X_184 xa_X_135 rfl
theorem b_X_together_32 {d : Nat} {A : Nat → Prop} {h2 : ah_H} {o : Outcome} {h0 : ah_H} {h : ah_H} {x0 : Nat} {x1 : Int32} {x2 : Int32} {v1 : Nat} {v2 : Nat} {v3 : Nat} {v4 : Nat} {v5 : Nat} {j5 : Nat} {v6 : Int32} {v7 : Nat} {j7 : Nat} {v8 : Nat} {v9 : Nat} {v10 : Nat} {j10 : Nat} {v11 : Int32} {v12 : Int32} {j12 : Nat} (g1 : ah_sel h x0 6 0 = some (.ref v1)) (g2 : ah_sel h v1 4 4 = some (.ref v2)) (g3 : ah_sel h x0 6 0 = some (.ref v3)) (g4 : ah_sel h v3 4 2 = some (.ref v4)) (i5 : ah_ix x1 j5) (g5 : ah_sel h v4 110 j5 = some (.ref v5)) (g6 : ah_sel h v5 0 3 = some (.int v6)) (i7 : ah_ix v6 j7) (g7 : ah_sel h v2 102 j7 = some (.ref v7)) (g8 : ah_sel h x0 6 0 = some (.ref v8)) (g9 : ah_sel h v8 4 2 = some (.ref v9)) (i10 : ah_ix x2 j10) (g10 : ah_sel h v9 110 j10 = some (.ref v10)) (g11 : ah_sel h v10 0 3 = some (.int v11)) (i12 : ah_ix v11 j12) (g12 : ah_sel h v7 100 j12 = some (.int v12)) (kt : 1 ≤ v12 → ah_At mt_X_together d A h0 o h2 73 [] [] h) (kf : ¬ (1 ≤ v12) → ah_At mt_X_together d A h0 o h2 69 [] [] h) : ah_At mt_X_together d A h0 o h2 32 [(0, .ref x0), (1, .int x1), (2, .int x2)] [] h := by
  refine s_aload_n d_X_together_32 rfl rfl ?_
  refine s_getfield (k := 0) d_X_together_33 kc6 (by decide) fl_X_10 g1 ?_
  refine s_getfield (k := 4) d_X_together_36 kc4 (by decide) fl_X_110 g2 ?_
  refine s_aload_n d_X_together_39 rfl rfl ?_
  refine s_getfield (k := 0) d_X_together_40 kc6 (by decide) fl_X_10 g3 ?_
  refine s_getfield (k := 2) d_X_together_43 kc4 (by decide) fl_X_176 g4 ?_
  refine s_iload_n d_X_together_46 rfl rfl ?_
  refine s_aaload (t := 110) ⟨rfl, by decide, rfl⟩ rfl d_X_together_47 i5 g5 ?_
  refine s_getfield (k := 3) d_X_together_48 kc0 (by decide) fl_X_186 g6 ?_
  refine s_aaload (t := 102) ⟨rfl, by decide, rfl⟩ rfl d_X_together_51 i7 g7 ?_
  refine s_aload_n d_X_together_52 rfl rfl ?_
  refine s_getfield (k := 0) d_X_together_53 kc6 (by decide) fl_X_10 g8 ?_
  refine s_getfield (k := 2) d_X_together_56 kc4 (by decide) fl_X_176 g9 ?_
  refine s_iload_n d_X_together_59 rfl rfl ?_
  refine s_aaload (t := 110) ⟨rfl, by decide, rfl⟩ rfl d_X_together_60 i10 g10 ?_
  refine s_getfield (k := 3) d_X_together_61 kc0 (by decide) fl_X_186 g11 ?_
  refine s_iaload d_X_together_64 i12 g12 ?_
  refine s_iconst (v := 1) d_X_together_65 (by decide) ?_
  refine s_if_icmpge (t := 73) d_X_together_66 (by decide) (fun z => ?_) (fun z => ?_)
  · exact ah_At.sub [] rfl (kt z)
  · exact ah_At.sub [] rfl (kf z)
theorem b_X_together_69 {d : Nat} {A : Nat → Prop} {h2 : ah_H} {o : Outcome} {h0 : ah_H} {h : ah_H}  (k : ah_At mt_X_together d A h0 o h2 74 [] [.int 1] h) : ah_At mt_X_together d A h0 o h2 69 [] [] h := by
  refine s_iconst (v := 1) d_X_together_69 (by decide) ?_
  refine s_goto (t := 74) d_X_together_70 (by decide) ?_
  exact k
theorem b_X_together_73 {d : Nat} {A : Nat → Prop} {h2 : ah_H} {o : Outcome} {h0 : ah_H} {h : ah_H}  (k : ah_At mt_X_together d A h0 o h2 74 [] [.int 0] h) : ah_At mt_X_together d A h0 o h2 73 [] [] h := by
  refine s_iconst (v := 0) d_X_together_73 (by decide) ?_
  exact k
theorem b_X_together_74 {d : Nat} {A : Nat → Prop} {h0 : ah_H} {h : ah_H} {s0 : Int32} (hz : narrow .boolean (.int s0) = .int s0) : ah_At mt_X_together d A h0 (.returned (some (.int s0))) h 74 [] [.int s0] h := by
  exact e_iret (ty := .boolean) d_X_together_74 rfl hz
theorem b_X_count_0 {d : Nat} {A : Nat → Prop} {h2 : ah_H} {o : Outcome} {h0 : ah_H} {h : ah_H} {x0 : Nat} {x1 : Int32} (kd : (Int32.toInt x1 < 0 ∨ 4 < Int32.toInt x1) → ah_At mt_X_count d A h0 o h2 103 [(0, .ref x0), (1, .int x1)] [] h) (k0 : x1 = 0 → ah_At mt_X_count d A h0 o h2 36 [(0, .ref x0)] [] h) (k1 : x1 = 1 → ah_At mt_X_count d A h0 o h2 44 [(0, .ref x0)] [] h) (k2 : x1 = 2 → ah_At mt_X_count d A h0 o h2 52 [(0, .ref x0)] [] h) (k3 : x1 = 3 → ah_At mt_X_count d A h0 o h2 71 [(0, .ref x0)] [] h) (k4 : x1 = 4 → ah_At mt_X_count d A h0 o h2 90 [(0, .ref x0)] [] h) : ah_At mt_X_count d A h0 o h2 0 [(0, .ref x0), (1, .int x1)] [] h := by
  refine s_iload_n d_X_count_0 rfl rfl ?_
  by_cases y0 : Int32.toInt x1 < 0 ∨ 4 < Int32.toInt x1
  · refine ah_tabOut (t := 103) d_X_count_1 y0 (by decide) ?_
    exact (kd y0)
  · rcases (show x1 = 0 ∨ x1 = 1 ∨ x1 = 2 ∨ x1 = 3 ∨ x1 = 4 from by have q := ah_sw [0, 1, 2, 3, 4] y0 (by decide); simp only [List.mem_cons, List.not_mem_nil, or_false] at q; exact q) with y | y | y | y | y
    · refine ah_tabIn (off := 35) (t := 36) d_X_count_1 (by rw [y]; decide) (by rw [y]; decide) (by rw [y]; decide +kernel) (by decide) ?_
      exact ah_At.sub [0] rfl (k0 y)
    · refine ah_tabIn (off := 43) (t := 44) d_X_count_1 (by rw [y]; decide) (by rw [y]; decide) (by rw [y]; decide +kernel) (by decide) ?_
      exact ah_At.sub [0] rfl (k1 y)
    · refine ah_tabIn (off := 51) (t := 52) d_X_count_1 (by rw [y]; decide) (by rw [y]; decide) (by rw [y]; decide +kernel) (by decide) ?_
      exact ah_At.sub [0] rfl (k2 y)
    · refine ah_tabIn (off := 70) (t := 71) d_X_count_1 (by rw [y]; decide) (by rw [y]; decide) (by rw [y]; decide +kernel) (by decide) ?_
      exact ah_At.sub [0] rfl (k3 y)
    · refine ah_tabIn (off := 89) (t := 90) d_X_count_1 (by rw [y]; decide) (by rw [y]; decide) (by rw [y]; decide +kernel) (by decide) ?_
      exact ah_At.sub [0] rfl (k4 y)
theorem b_X_count_36 {d : Nat} {A : Nat → Prop} {h0 : ah_H} {h : ah_H} {x0 : Nat} {v1 : Nat} {v2 : Int32} (g1 : ah_sel h x0 6 0 = some (.ref v1)) (g2 : ah_sel h v1 4 1 = some (.int v2)) : ah_At mt_X_count d A h0 (.returned (some (.int v2))) h 36 [(0, .ref x0)] [] h := by
  refine s_aload_n d_X_count_36 rfl rfl ?_
  refine s_getfield (k := 0) d_X_count_37 kc6 (by decide) fl_X_10 g1 ?_
  refine s_getfield (k := 1) d_X_count_40 kc4 (by decide) fl_X_48 g2 ?_
  exact e_iret (ty := .int) d_X_count_43 rfl rfl
theorem b_X_count_44 {d : Nat} {A : Nat → Prop} {h0 : ah_H} {h : ah_H} {x0 : Nat} {v1 : Nat} {v2 : Int32} (g1 : ah_sel h x0 6 0 = some (.ref v1)) (g2 : ah_sel h v1 4 3 = some (.int v2)) : ah_At mt_X_count d A h0 (.returned (some (.int v2))) h 44 [(0, .ref x0)] [] h := by
  refine s_aload_n d_X_count_44 rfl rfl ?_
  refine s_getfield (k := 0) d_X_count_45 kc6 (by decide) fl_X_10 g1 ?_
  refine s_getfield (k := 3) d_X_count_48 kc4 (by decide) fl_X_99 g2 ?_
  exact e_iret (ty := .int) d_X_count_51 rfl rfl
theorem b_X_count_52 {d : Nat} {A : Nat → Prop} {h2 : ah_H} {o : Outcome} {h0 : ah_H} {h : ah_H} {x0 : Nat} {v1 : Int32} (g1 : ah_sel h x0 6 2 = some (.int v1)) (kt : v1 = 0 → ah_At mt_X_count d A h0 o h2 69 [] [] h) (kf : ¬ (v1 = 0) → ah_At mt_X_count d A h0 o h2 59 [(0, .ref x0)] [] h) : ah_At mt_X_count d A h0 o h2 52 [(0, .ref x0)] [] h := by
  refine s_aload_n d_X_count_52 rfl rfl ?_
  refine s_getfield (k := 2) d_X_count_53 kc6 (by decide) fl_X_25 g1 ?_
  refine s_ifeq (t := 69) d_X_count_56 (by decide) (fun z => ?_) (fun z => ?_)
  · exact ah_At.sub [] rfl (kt z)
  · exact (kf z)
theorem b_X_count_59 {d : Nat} {A : Nat → Prop} {h2 : ah_H} {o : Outcome} {h0 : ah_H} {h : ah_H} {x0 : Nat} {v1 : Nat} {d' : Nat} {A' : Nat → Prop} {o' : Outcome} {h' : ah_H} (g1 : ah_sel h x0 6 1 = some (.ref v1)) (hE : ah_Ev mt_N_boxesLoaded d' A' [.ref v1] h o' h') (hdd : d' + 1 ≤ d) (hAA : ∀ q, A' q → A q) (k : ah_aft mt_X_count d A h0 o h2 63 [] [] h' o') (hb : (ah_len h v1 3).isSome = true) : ah_At mt_X_count d A h0 o h2 59 [(0, .ref x0)] [] h := by
  refine s_aload_n d_X_count_59 rfl rfl ?_
  refine s_getfield (k := 1) d_X_count_60 kc6 (by decide) fl_X_21 g1 ?_
  refine ah_At.sub [] rfl ?_
  exact ah_callV (av := []) (st := []) d_X_count_63 ml_X_191 mi_N_boxesLoaded mv_N_boxesLoaded kc3 hb hE hdd hAA rfl (Nat.le_of_ble_eq_true rfl) k
theorem b_X_count_66 {d : Nat} {A : Nat → Prop} {h2 : ah_H} {o : Outcome} {h0 : ah_H} {h : ah_H} {s0 : Int32} (k : ah_At mt_X_count d A h0 o h2 70 [] [.int s0] h) : ah_At mt_X_count d A h0 o h2 66 [] [.int s0] h := by
  refine s_goto (t := 70) d_X_count_66 (by decide) ?_
  exact k
theorem b_X_count_69 {d : Nat} {A : Nat → Prop} {h2 : ah_H} {o : Outcome} {h0 : ah_H} {h : ah_H}  (k : ah_At mt_X_count d A h0 o h2 70 [] [.int (-1)] h) : ah_At mt_X_count d A h0 o h2 69 [] [] h := by
  refine s_iconst (v := -1) d_X_count_69 (by decide) ?_
  exact k
theorem b_X_count_70 {d : Nat} {A : Nat → Prop} {h0 : ah_H} {h : ah_H} {s0 : Int32}  : ah_At mt_X_count d A h0 (.returned (some (.int s0))) h 70 [] [.int s0] h := by
  exact e_iret (ty := .int) d_X_count_70 rfl rfl
theorem b_X_count_71 {d : Nat} {A : Nat → Prop} {h2 : ah_H} {o : Outcome} {h0 : ah_H} {h : ah_H} {x0 : Nat} {v1 : Int32} (g1 : ah_sel h x0 6 2 = some (.int v1)) (kt : v1 = 0 → ah_At mt_X_count d A h0 o h2 88 [] [] h) (kf : ¬ (v1 = 0) → ah_At mt_X_count d A h0 o h2 78 [(0, .ref x0)] [] h) : ah_At mt_X_count d A h0 o h2 71 [(0, .ref x0)] [] h := by
  refine s_aload_n d_X_count_71 rfl rfl ?_
  refine s_getfield (k := 2) d_X_count_72 kc6 (by decide) fl_X_25 g1 ?_
  refine s_ifeq (t := 88) d_X_count_75 (by decide) (fun z => ?_) (fun z => ?_)
  · exact ah_At.sub [] rfl (kt z)
  · exact (kf z)
theorem b_X_count_78 {d : Nat} {A : Nat → Prop} {h2 : ah_H} {o : Outcome} {h0 : ah_H} {h : ah_H} {x0 : Nat} {v1 : Nat} {d' : Nat} {A' : Nat → Prop} {o' : Outcome} {h' : ah_H} (g1 : ah_sel h x0 6 1 = some (.ref v1)) (hE : ah_Ev mt_N_lengthUsed d' A' [.ref v1] h o' h') (hdd : d' + 1 ≤ d) (hAA : ∀ q, A' q → A q) (k : ah_aft mt_X_count d A h0 o h2 82 [] [] h' o') (hb : (ah_len h v1 3).isSome = true) : ah_At mt_X_count d A h0 o h2 78 [(0, .ref x0)] [] h := by
  refine s_aload_n d_X_count_78 rfl rfl ?_
  refine s_getfield (k := 1) d_X_count_79 kc6 (by decide) fl_X_21 g1 ?_
  refine ah_At.sub [] rfl ?_
  exact ah_callV (av := []) (st := []) d_X_count_82 ml_X_124 mi_N_lengthUsed mv_N_lengthUsed kc3 hb hE hdd hAA rfl (Nat.le_of_ble_eq_true rfl) k
theorem b_X_count_85 {d : Nat} {A : Nat → Prop} {h2 : ah_H} {o : Outcome} {h0 : ah_H} {h : ah_H} {s0 : Int32} (k : ah_At mt_X_count d A h0 o h2 89 [] [.int s0] h) : ah_At mt_X_count d A h0 o h2 85 [] [.int s0] h := by
  refine s_goto (t := 89) d_X_count_85 (by decide) ?_
  exact k
theorem b_X_count_88 {d : Nat} {A : Nat → Prop} {h2 : ah_H} {o : Outcome} {h0 : ah_H} {h : ah_H}  (k : ah_At mt_X_count d A h0 o h2 89 [] [.int (-1)] h) : ah_At mt_X_count d A h0 o h2 88 [] [] h := by
  refine s_iconst (v := -1) d_X_count_88 (by decide) ?_
  exact k
theorem b_X_count_89 {d : Nat} {A : Nat → Prop} {h0 : ah_H} {h : ah_H} {s0 : Int32}  : ah_At mt_X_count d A h0 (.returned (some (.int s0))) h 89 [] [.int s0] h := by
  exact e_iret (ty := .int) d_X_count_89 rfl rfl
theorem b_X_count_90 {d : Nat} {A : Nat → Prop} {h2 : ah_H} {o : Outcome} {h0 : ah_H} {h : ah_H} {x0 : Nat} {v1 : Int32} (g1 : ah_sel h x0 6 2 = some (.int v1)) (kt : v1 = 0 → ah_At mt_X_count d A h0 o h2 101 [] [] h) (kf : ¬ (v1 = 0) → ah_At mt_X_count d A h0 o h2 97 [] [] h) : ah_At mt_X_count d A h0 o h2 90 [(0, .ref x0)] [] h := by
  refine s_aload_n d_X_count_90 rfl rfl ?_
  refine s_getfield (k := 2) d_X_count_91 kc6 (by decide) fl_X_25 g1 ?_
  refine s_ifeq (t := 101) d_X_count_94 (by decide) (fun z => ?_) (fun z => ?_)
  · exact ah_At.sub [] rfl (kt z)
  · exact ah_At.sub [] rfl (kf z)
theorem b_X_count_97 {d : Nat} {A : Nat → Prop} {h2 : ah_H} {o : Outcome} {h0 : ah_H} {h : ah_H}  (k : ah_At mt_X_count d A h0 o h2 102 [] [.int 1] h) : ah_At mt_X_count d A h0 o h2 97 [] [] h := by
  refine s_iconst (v := 1) d_X_count_97 (by decide) ?_
  refine s_goto (t := 102) d_X_count_98 (by decide) ?_
  exact k
theorem b_X_count_101 {d : Nat} {A : Nat → Prop} {h2 : ah_H} {o : Outcome} {h0 : ah_H} {h : ah_H}  (k : ah_At mt_X_count d A h0 o h2 102 [] [.int 0] h) : ah_At mt_X_count d A h0 o h2 101 [] [] h := by
  refine s_iconst (v := 0) d_X_count_101 (by decide) ?_
  exact k
theorem b_X_count_102 {d : Nat} {A : Nat → Prop} {h0 : ah_H} {h : ah_H} {s0 : Int32}  : ah_At mt_X_count d A h0 (.returned (some (.int s0))) h 102 [] [.int s0] h := by
  exact e_iret (ty := .int) d_X_count_102 rfl rfl
theorem b_X_count_103 {d : Nat} {A : Nat → Prop} {h2 : ah_H} {o : Outcome} {h0 : ah_H} {h : ah_H} {x0 : Nat} {x1 : Int32} {d' : Nat} {A' : Nat → Prop} {o' : Outcome} {h' : ah_H} (hE : ah_Ev mt_X_patternsOf d' A' [.ref x0, .int x1] h o' h') (hdd : d' + 1 ≤ d) (hAA : ∀ q, A' q → A q) (k : ah_aft mt_X_count d A h0 o h2 105 [] [] h' o') (hb : (ah_len h x0 6).isSome = true) : ah_At mt_X_count d A h0 o h2 103 [(0, .ref x0), (1, .int x1)] [] h := by
  refine s_aload_n d_X_count_103 rfl rfl ?_
  refine s_iload_n d_X_count_104 rfl rfl ?_
  refine ah_At.sub [] rfl ?_
  exact ah_callV (av := [.int x1]) (st := []) d_X_count_105 ml_X_194 mi_X_patternsOf mv_X_patternsOf kc6 hb hE hdd hAA rfl (Nat.le_of_ble_eq_true rfl) k
theorem b_X_count_108 {d : Nat} {A : Nat → Prop} {h0 : ah_H} {h : ah_H} {s0 : Int32}  : ah_At mt_X_count d A h0 (.returned (some (.int s0))) h 108 [] [.int s0] h := by
  exact e_iret (ty := .int) d_X_count_108 rfl rfl
theorem b_X_patternsOf_0 {d : Nat} {A : Nat → Prop} {h2 : ah_H} {o : Outcome} {h0 : ah_H} {h : ah_H} {x0 : Nat} {x1 : Int32} {v1 : Nat} {d' : Nat} {A' : Nat → Prop} {o' : Outcome} {h' : ah_H} (g1 : ah_sel h x0 6 0 = some (.ref v1)) (hE : ah_Ev mt_T_hasWagon d' A' [.ref v1, .int (x1 - 10)] h o' h') (hdd : d' + 1 ≤ d) (hAA : ∀ q, A' q → A q) (k : ah_aft mt_X_patternsOf d A h0 o h2 10 [(0, .ref x0), (2, .int (x1 - 10))] [] h' o') (hb : (ah_len h v1 4).isSome = true) : ah_At mt_X_patternsOf d A h0 o h2 0 [(0, .ref x0), (1, .int x1)] [] h := by
  refine s_iload_n d_X_patternsOf_0 rfl rfl ?_
  refine s_bipush (v := 10) d_X_patternsOf_1 (by decide) ?_
  refine s_isub d_X_patternsOf_3 ?_
  refine s_istore_n (lv' := [(0, .ref x0), (1, .int x1), (2, .int (x1 - 10))]) d_X_patternsOf_4 rfl (by decide) rfl ?_
  refine s_aload_n d_X_patternsOf_5 rfl rfl ?_
  refine s_getfield (k := 0) d_X_patternsOf_6 kc6 (by decide) fl_X_10 g1 ?_
  refine s_iload_n d_X_patternsOf_9 rfl rfl ?_
  refine ah_At.sub [0, 2] rfl ?_
  exact ah_callV (av := [.int (x1 - 10)]) (st := []) d_X_patternsOf_10 ml_X_61 mi_T_hasWagon mv_T_hasWagon kc4 hb hE hdd hAA rfl (Nat.le_of_ble_eq_true rfl) k
theorem b_X_patternsOf_13 {d : Nat} {A : Nat → Prop} {h2 : ah_H} {o : Outcome} {h0 : ah_H} {h : ah_H} {x0 : Nat} {x2 : Int32} {s0 : Int32} (kt : s0 = 0 → ah_At mt_X_patternsOf d A h0 o h2 31 [] [] h) (kf : ¬ (s0 = 0) → ah_At mt_X_patternsOf d A h0 o h2 16 [(0, .ref x0), (2, .int x2)] [] h) : ah_At mt_X_patternsOf d A h0 o h2 13 [(0, .ref x0), (2, .int x2)] [.int s0] h := by
  refine s_ifeq (t := 31) d_X_patternsOf_13 (by decide) (fun z => ?_) (fun z => ?_)
  · exact ah_At.sub [] rfl (kt z)
  · exact (kf z)
theorem b_X_patternsOf_16 {d : Nat} {A : Nat → Prop} {h2 : ah_H} {o : Outcome} {h0 : ah_H} {h : ah_H} {x0 : Nat} {x2 : Int32} {v1 : Nat} {v2 : Nat} {v3 : Nat} {j3 : Nat} {v4 : Int32} (g1 : ah_sel h x0 6 0 = some (.ref v1)) (g2 : ah_sel h v1 4 0 = some (.ref v2)) (i3 : ah_ix x2 j3) (g3 : ah_sel h v2 115 j3 = some (.ref v3)) (g4 : ah_sel h v3 5 1 = some (.int v4)) (k : ah_At mt_X_patternsOf d A h0 o h2 32 [] [.int v4] h) : ah_At mt_X_patternsOf d A h0 o h2 16 [(0, .ref x0), (2, .int x2)] [] h := by
  refine s_aload_n d_X_patternsOf_16 rfl rfl ?_
  refine s_getfield (k := 0) d_X_patternsOf_17 kc6 (by decide) fl_X_10 g1 ?_
  refine s_getfield (k := 0) d_X_patternsOf_20 kc4 (by decide) fl_X_67 g2 ?_
  refine s_iload_n d_X_patternsOf_23 rfl rfl ?_
  refine s_aaload (t := 115) ⟨rfl, by decide, rfl⟩ rfl d_X_patternsOf_24 i3 g3 ?_
  refine s_getfield (k := 1) d_X_patternsOf_25 kc5 (by decide) fl_X_85 g4 ?_
  refine s_goto (t := 32) d_X_patternsOf_28 (by decide) ?_
  exact ah_At.sub [] rfl k
theorem b_X_patternsOf_31 {d : Nat} {A : Nat → Prop} {h2 : ah_H} {o : Outcome} {h0 : ah_H} {h : ah_H}  (k : ah_At mt_X_patternsOf d A h0 o h2 32 [] [.int (-1)] h) : ah_At mt_X_patternsOf d A h0 o h2 31 [] [] h := by
  refine s_iconst (v := -1) d_X_patternsOf_31 (by decide) ?_
  exact k
theorem b_X_patternsOf_32 {d : Nat} {A : Nat → Prop} {h0 : ah_H} {h : ah_H} {s0 : Int32}  : ah_At mt_X_patternsOf d A h0 (.returned (some (.int s0))) h 32 [] [.int s0] h := by
  exact e_iret (ty := .int) d_X_patternsOf_32 rfl rfl
theorem b_X_needPlan_0 {d : Nat} {A : Nat → Prop} {h2 : ah_H} {o : Outcome} {h0 : ah_H} {h : ah_H} {x0 : Nat} {v1 : Int32} (g1 : ah_sel h x0 6 2 = some (.int v1)) (kt : ¬ v1 = 0 → ah_At mt_X_needPlan d A h0 o h2 17 [] [] h) (kf : ¬ (¬ v1 = 0) → ah_At mt_X_needPlan d A h0 o h2 7 [] [] h) : ah_At mt_X_needPlan d A h0 o h2 0 [(0, .ref x0)] [] h := by
  refine s_aload_n d_X_needPlan_0 rfl rfl ?_
  refine s_getfield (k := 2) d_X_needPlan_1 kc6 (by decide) fl_X_25 g1 ?_
  refine s_ifne (t := 17) d_X_needPlan_4 (by decide) (fun z => ?_) (fun z => ?_)
  · exact ah_At.sub [] rfl (kt z)
  · exact ah_At.sub [] rfl (kf z)
theorem b_X_needPlan_7 {d : Nat} {A : Nat → Prop} {h : ah_H}  (hA0 : ∀ q, ¬ A q) (hd9 : 8 ≤ d) (hs9 : ∃ a c, h.2.2 a = some (97, c)) : ah_At mt_X_needPlan d A h (.threw h.1) (ah_newx h 93) 7 [] [] h := by
  exact e_throw93 hA0 hd9 hs9 (d_X_needPlan_7) d_X_needPlan_10 d_X_needPlan_11 d_X_needPlan_13 d_X_needPlan_16 cl_X_197 sr_X_199 xa_X_201 rfl
theorem b_X_needPlan_17 {d : Nat} {A : Nat → Prop} {h0 : ah_H} {h : ah_H}   : ah_At mt_X_needPlan d A h0 (.returned none) h 17 [] [] h := by
  exact e_vret d_X_needPlan_17 rfl
theorem b_X_isBetween_0 {d : Nat} {A : Nat → Prop} {h2 : ah_H} {o : Outcome} {h0 : ah_H} {h : ah_H} {x0 : Int64} {x2 : Int64} {x4 : Int64} (kt : 0 < (lg_cmp x2 x0) → ah_At mt_X_isBetween d A h0 o h2 17 [] [] h) (kf : ¬ (0 < (lg_cmp x2 x0)) → ah_At mt_X_isBetween d A h0 o h2 6 [(0, .long x0), (4, .long x4)] [] h) : ah_At mt_X_isBetween d A h0 o h2 0 [(0, .long x0), (2, .long x2), (4, .long x4)] [] h := by
  refine s_lload_n d_X_isBetween_0 rfl rfl ?_
  refine s_lload_n d_X_isBetween_1 rfl rfl ?_
  refine s_lcmp d_X_isBetween_2 ?_
  refine s_ifgt (t := 17) d_X_isBetween_3 (by decide) (fun z => ?_) (fun z => ?_)
  · exact ah_At.sub [] rfl (kt z)
  · exact ah_At.sub [0, 2] rfl (kf z)
theorem b_X_isBetween_6 {d : Nat} {A : Nat → Prop} {h2 : ah_H} {o : Outcome} {h0 : ah_H} {h : ah_H} {x0 : Int64} {x4 : Int64} (kt : 0 < (lg_cmp x0 x4) → ah_At mt_X_isBetween d A h0 o h2 17 [] [] h) (kf : ¬ (0 < (lg_cmp x0 x4)) → ah_At mt_X_isBetween d A h0 o h2 13 [] [] h) : ah_At mt_X_isBetween d A h0 o h2 6 [(0, .long x0), (4, .long x4)] [] h := by
  refine s_lload_n d_X_isBetween_6 rfl rfl ?_
  refine s_lload d_X_isBetween_7 rfl ?_
  refine s_lcmp d_X_isBetween_9 ?_
  refine s_ifgt (t := 17) d_X_isBetween_10 (by decide) (fun z => ?_) (fun z => ?_)
  · exact ah_At.sub [] rfl (kt z)
  · exact ah_At.sub [] rfl (kf z)
theorem b_X_isBetween_13 {d : Nat} {A : Nat → Prop} {h2 : ah_H} {o : Outcome} {h0 : ah_H} {h : ah_H}  (k : ah_At mt_X_isBetween d A h0 o h2 18 [] [.int 1] h) : ah_At mt_X_isBetween d A h0 o h2 13 [] [] h := by
  refine s_iconst (v := 1) d_X_isBetween_13 (by decide) ?_
  refine s_goto (t := 18) d_X_isBetween_14 (by decide) ?_
  exact k
theorem b_X_isBetween_17 {d : Nat} {A : Nat → Prop} {h2 : ah_H} {o : Outcome} {h0 : ah_H} {h : ah_H}  (k : ah_At mt_X_isBetween d A h0 o h2 18 [] [.int 0] h) : ah_At mt_X_isBetween d A h0 o h2 17 [] [] h := by
  refine s_iconst (v := 0) d_X_isBetween_17 (by decide) ?_
  exact k
theorem b_X_isBetween_18 {d : Nat} {A : Nat → Prop} {h0 : ah_H} {h : ah_H} {s0 : Int32} (hz : narrow .boolean (.int s0) = .int s0) : ah_At mt_X_isBetween d A h0 (.returned (some (.int s0))) h 18 [] [.int s0] h := by
  exact e_iret (ty := .boolean) d_X_isBetween_18 rfl hz
theorem b_X_lengthOfSize_0 {d : Nat} {A : Nat → Prop} {h2 : ah_H} {o : Outcome} {h0 : ah_H} {h : ah_H} {x0 : Int32} (kd : (Int32.toInt x0 < 1 ∨ 3 < Int32.toInt x0) → ah_At mt_X_lengthOfSize d A h0 o h2 36 [] [] h) (k1 : x0 = 1 → ah_At mt_X_lengthOfSize d A h0 o h2 28 [] [] h) (k2 : x0 = 2 → ah_At mt_X_lengthOfSize d A h0 o h2 30 [] [] h) (k3 : x0 = 3 → ah_At mt_X_lengthOfSize d A h0 o h2 33 [] [] h) : ah_At mt_X_lengthOfSize d A h0 o h2 0 [(0, .int x0)] [] h := by
  refine s_iload_n d_X_lengthOfSize_0 rfl rfl ?_
  by_cases y0 : Int32.toInt x0 < 1 ∨ 3 < Int32.toInt x0
  · refine ah_tabOut (t := 36) d_X_lengthOfSize_1 y0 (by decide) ?_
    exact ah_At.sub [] rfl (kd y0)
  · rcases (show x0 = 1 ∨ x0 = 2 ∨ x0 = 3 from by have q := ah_sw [1, 2, 3] y0 (by decide); simp only [List.mem_cons, List.not_mem_nil, or_false] at q; exact q) with y | y | y
    · refine ah_tabIn (off := 27) (t := 28) d_X_lengthOfSize_1 (by rw [y]; decide) (by rw [y]; decide) (by rw [y]; decide +kernel) (by decide) ?_
      exact ah_At.sub [] rfl (k1 y)
    · refine ah_tabIn (off := 29) (t := 30) d_X_lengthOfSize_1 (by rw [y]; decide) (by rw [y]; decide) (by rw [y]; decide +kernel) (by decide) ?_
      exact ah_At.sub [] rfl (k2 y)
    · refine ah_tabIn (off := 32) (t := 33) d_X_lengthOfSize_1 (by rw [y]; decide) (by rw [y]; decide) (by rw [y]; decide +kernel) (by decide) ?_
      exact ah_At.sub [] rfl (k3 y)
theorem b_X_lengthOfSize_28 {d : Nat} {A : Nat → Prop} {h0 : ah_H} {h : ah_H}   : ah_At mt_X_lengthOfSize d A h0 (.returned (some (.int 4))) h 28 [] [] h := by
  refine s_iconst (v := 4) d_X_lengthOfSize_28 (by decide) ?_
  exact e_iret (ty := .int) d_X_lengthOfSize_29 rfl rfl
theorem b_X_lengthOfSize_30 {d : Nat} {A : Nat → Prop} {h0 : ah_H} {h : ah_H}   : ah_At mt_X_lengthOfSize d A h0 (.returned (some (.int 8))) h 30 [] [] h := by
  refine s_bipush (v := 8) d_X_lengthOfSize_30 (by decide) ?_
  exact e_iret (ty := .int) d_X_lengthOfSize_32 rfl rfl
theorem b_X_lengthOfSize_33 {d : Nat} {A : Nat → Prop} {h0 : ah_H} {h : ah_H}   : ah_At mt_X_lengthOfSize d A h0 (.returned (some (.int 9))) h 33 [] [] h := by
  refine s_bipush (v := 9) d_X_lengthOfSize_33 (by decide) ?_
  exact e_iret (ty := .int) d_X_lengthOfSize_35 rfl rfl
theorem b_X_lengthOfSize_36 {d : Nat} {A : Nat → Prop} {h0 : ah_H} {h : ah_H}   : ah_At mt_X_lengthOfSize d A h0 (.returned (some (.int 0))) h 36 [] [] h := by
  refine s_iconst (v := 0) d_X_lengthOfSize_36 (by decide) ?_
  exact e_iret (ty := .int) d_X_lengthOfSize_37 rfl rfl
theorem b_X_isRowOfSizes_0 {d : Nat} {A : Nat → Prop} {h2 : ah_H} {o : Outcome} {h0 : ah_H} {h : ah_H} {x0 : Int32} (k : ah_At mt_X_isRowOfSizes d A h0 o h2 4 [(0, .int x0), (1, .int x0), (2, .int 0)] [] h) : ah_At mt_X_isRowOfSizes d A h0 o h2 0 [(0, .int x0)] [] h := by
  refine s_iload_n d_X_isRowOfSizes_0 rfl rfl ?_
  refine s_istore_n (lv' := [(0, .int x0), (1, .int x0)]) d_X_isRowOfSizes_1 rfl (by decide) rfl ?_
  refine s_iconst (v := 0) d_X_isRowOfSizes_2 (by decide) ?_
  refine s_istore_n (lv' := [(0, .int x0), (1, .int x0), (2, .int 0)]) d_X_isRowOfSizes_3 rfl (by decide) rfl ?_
  exact k
theorem b_X_isRowOfSizes_4 {d : Nat} {A : Nat → Prop} {h2 : ah_H} {o : Outcome} {h0 : ah_H} {h : ah_H} {x0 : Int32} {x1 : Int32} {x2 : Int32} (kt : 4 ≤ x2 → ah_At mt_X_isRowOfSizes d A h0 o h2 41 [(0, .int x0), (1, .int x1)] [] h) (kf : ¬ (4 ≤ x2) → ah_At mt_X_isRowOfSizes d A h0 o h2 9 [(0, .int x0), (1, .int x1), (2, .int x2)] [] h) : ah_At mt_X_isRowOfSizes d A h0 o h2 4 [(0, .int x0), (1, .int x1), (2, .int x2)] [] h := by
  refine s_iload_n d_X_isRowOfSizes_4 rfl rfl ?_
  refine s_iconst (v := 4) d_X_isRowOfSizes_5 (by decide) ?_
  refine s_if_icmpge (t := 41) d_X_isRowOfSizes_6 (by decide) (fun z => ?_) (fun z => ?_)
  · exact ah_At.sub [0, 1] rfl (kt z)
  · exact (kf z)
theorem b_X_isRowOfSizes_9 {d : Nat} {A : Nat → Prop} {h2 : ah_H} {o : Outcome} {h0 : ah_H} {h : ah_H} {x0 : Int32} {x1 : Int32} {x2 : Int32} (kt : x1 ≤ 0 → ah_At mt_X_isRowOfSizes d A h0 o h2 41 [(0, .int x0), (1, .int x1)] [] h) (kf : ¬ (x1 ≤ 0) → ah_At mt_X_isRowOfSizes d A h0 o h2 13 [(0, .int x0), (1, .int x1), (2, .int x2)] [] h) : ah_At mt_X_isRowOfSizes d A h0 o h2 9 [(0, .int x0), (1, .int x1), (2, .int x2)] [] h := by
  refine s_iload_n d_X_isRowOfSizes_9 rfl rfl ?_
  refine s_ifle (t := 41) d_X_isRowOfSizes_10 (by decide) (fun z => ?_) (fun z => ?_)
  · exact ah_At.sub [0, 1] rfl (kt z)
  · exact (kf z)
theorem b_X_isRowOfSizes_13 {d : Nat} {A : Nat → Prop} {h2 : ah_H} {o : Outcome} {h0 : ah_H} {h : ah_H} {x0 : Int32} {x1 : Int32} {x2 : Int32} {d' : Nat} {A' : Nat → Prop} {o' : Outcome} {h' : ah_H} (hE : ah_Ev mt_X_isBetween d' A' [.long (Int32.toInt64 (x1 - x1 / 10 * 10)), .long 1, .long 3] h o' h') (hdd : d' + 1 ≤ d) (hAA : ∀ q, A' q → A q) (k : ah_aft mt_X_isRowOfSizes d A h0 o h2 22 [(0, .int x0), (1, .int x1), (2, .int x2)] [] h' o') : ah_At mt_X_isRowOfSizes d A h0 o h2 13 [(0, .int x0), (1, .int x1), (2, .int x2)] [] h := by
  refine s_iload_n d_X_isRowOfSizes_13 rfl rfl ?_
  refine s_bipush (v := 10) d_X_isRowOfSizes_14 (by decide) ?_
  refine s_irem d_X_isRowOfSizes_16 (by decide) ?_
  refine s_i2l d_X_isRowOfSizes_17 ?_
  refine s_lconst (v := 1) d_X_isRowOfSizes_18 (by decide) ?_
  refine s_ldc2_w (v := 3) d_X_isRowOfSizes_19 lc_X_93 ?_
  exact ah_callS (av := [.long (Int32.toInt64 (x1 - x1 / 10 * 10)), .long 1, .long 3]) (st := []) d_X_isRowOfSizes_22 ml_X_31 ms_X_isBetween hE hdd hAA rfl (Nat.le_of_ble_eq_true rfl) k
theorem b_X_isRowOfSizes_25 {d : Nat} {A : Nat → Prop} {h2 : ah_H} {o : Outcome} {h0 : ah_H} {h : ah_H} {x0 : Int32} {x1 : Int32} {x2 : Int32} {s0 : Int32} (kt : ¬ s0 = 0 → ah_At mt_X_isRowOfSizes d A h0 o h2 30 [(0, .int x0), (1, .int x1), (2, .int x2)] [] h) (kf : ¬ (¬ s0 = 0) → ah_At mt_X_isRowOfSizes d A h0 o h2 28 [] [] h) : ah_At mt_X_isRowOfSizes d A h0 o h2 25 [(0, .int x0), (1, .int x1), (2, .int x2)] [.int s0] h := by
  refine s_ifne (t := 30) d_X_isRowOfSizes_25 (by decide) (fun z => ?_) (fun z => ?_)
  · exact (kt z)
  · exact ah_At.sub [] rfl (kf z)
theorem b_X_isRowOfSizes_28 {d : Nat} {A : Nat → Prop} {h0 : ah_H} {h : ah_H}   : ah_At mt_X_isRowOfSizes d A h0 (.returned (some (.int 0))) h 28 [] [] h := by
  refine s_iconst (v := 0) d_X_isRowOfSizes_28 (by decide) ?_
  exact e_iret (ty := .boolean) d_X_isRowOfSizes_29 rfl (by decide +kernel)
theorem b_X_isRowOfSizes_30 {d : Nat} {A : Nat → Prop} {h2 : ah_H} {o : Outcome} {h0 : ah_H} {h : ah_H} {x0 : Int32} {x1 : Int32} {x2 : Int32} (k : ah_At mt_X_isRowOfSizes d A h0 o h2 4 [(0, .int x0), (1, .int (x1 / 10)), (2, .int (x2 + 1))] [] h) : ah_At mt_X_isRowOfSizes d A h0 o h2 30 [(0, .int x0), (1, .int x1), (2, .int x2)] [] h := by
  refine s_iload_n d_X_isRowOfSizes_30 rfl rfl ?_
  refine s_bipush (v := 10) d_X_isRowOfSizes_31 (by decide) ?_
  refine s_idiv d_X_isRowOfSizes_33 (by decide) ?_
  refine s_istore_n (lv' := [(0, .int x0), (1, .int (x1 / 10)), (2, .int x2)]) d_X_isRowOfSizes_34 rfl (by decide) rfl ?_
  refine s_iinc (v := x2 + 1) (lv' := [(0, .int x0), (1, .int (x1 / 10)), (2, .int (x2 + 1))]) d_X_isRowOfSizes_35 rfl rfl (by decide) rfl ?_
  refine s_goto (t := 4) d_X_isRowOfSizes_38 (by decide) ?_
  exact k
theorem b_X_isRowOfSizes_41 {d : Nat} {A : Nat → Prop} {h2 : ah_H} {o : Outcome} {h0 : ah_H} {h : ah_H} {x0 : Int32} {x1 : Int32} (kt : x0 ≤ 0 → ah_At mt_X_isRowOfSizes d A h0 o h2 53 [] [] h) (kf : ¬ (x0 ≤ 0) → ah_At mt_X_isRowOfSizes d A h0 o h2 45 [(1, .int x1)] [] h) : ah_At mt_X_isRowOfSizes d A h0 o h2 41 [(0, .int x0), (1, .int x1)] [] h := by
  refine s_iload_n d_X_isRowOfSizes_41 rfl rfl ?_
  refine s_ifle (t := 53) d_X_isRowOfSizes_42 (by decide) (fun z => ?_) (fun z => ?_)
  · exact ah_At.sub [] rfl (kt z)
  · exact ah_At.sub [1] rfl (kf z)
theorem b_X_isRowOfSizes_45 {d : Nat} {A : Nat → Prop} {h2 : ah_H} {o : Outcome} {h0 : ah_H} {h : ah_H} {x1 : Int32} (kt : ¬ x1 = 0 → ah_At mt_X_isRowOfSizes d A h0 o h2 53 [] [] h) (kf : ¬ (¬ x1 = 0) → ah_At mt_X_isRowOfSizes d A h0 o h2 49 [] [] h) : ah_At mt_X_isRowOfSizes d A h0 o h2 45 [(1, .int x1)] [] h := by
  refine s_iload_n d_X_isRowOfSizes_45 rfl rfl ?_
  refine s_ifne (t := 53) d_X_isRowOfSizes_46 (by decide) (fun z => ?_) (fun z => ?_)
  · exact ah_At.sub [] rfl (kt z)
  · exact ah_At.sub [] rfl (kf z)
theorem b_X_isRowOfSizes_49 {d : Nat} {A : Nat → Prop} {h2 : ah_H} {o : Outcome} {h0 : ah_H} {h : ah_H}  (k : ah_At mt_X_isRowOfSizes d A h0 o h2 54 [] [.int 1] h) : ah_At mt_X_isRowOfSizes d A h0 o h2 49 [] [] h := by
  refine s_iconst (v := 1) d_X_isRowOfSizes_49 (by decide) ?_
  refine s_goto (t := 54) d_X_isRowOfSizes_50 (by decide) ?_
  exact k
theorem b_X_isRowOfSizes_53 {d : Nat} {A : Nat → Prop} {h2 : ah_H} {o : Outcome} {h0 : ah_H} {h : ah_H}  (k : ah_At mt_X_isRowOfSizes d A h0 o h2 54 [] [.int 0] h) : ah_At mt_X_isRowOfSizes d A h0 o h2 53 [] [] h := by
  refine s_iconst (v := 0) d_X_isRowOfSizes_53 (by decide) ?_
  exact k
theorem b_X_isRowOfSizes_54 {d : Nat} {A : Nat → Prop} {h0 : ah_H} {h : ah_H} {s0 : Int32} (hz : narrow .boolean (.int s0) = .int s0) : ah_At mt_X_isRowOfSizes d A h0 (.returned (some (.int s0))) h 54 [] [.int s0] h := by
  exact e_iret (ty := .boolean) d_X_isRowOfSizes_54 rfl hz
theorem b_X_lengthOfRow_0 {d : Nat} {A : Nat → Prop} {h2 : ah_H} {o : Outcome} {h0 : ah_H} {h : ah_H} {x0 : Int32} (k : ah_At mt_X_lengthOfRow d A h0 o h2 6 [(1, .int 0), (2, .int x0), (3, .int 0)] [] h) : ah_At mt_X_lengthOfRow d A h0 o h2 0 [(0, .int x0)] [] h := by
  refine s_iconst (v := 0) d_X_lengthOfRow_0 (by decide) ?_
  refine s_istore_n (lv' := [(0, .int x0), (1, .int 0)]) d_X_lengthOfRow_1 rfl (by decide) rfl ?_
  refine s_iload_n d_X_lengthOfRow_2 rfl rfl ?_
  refine s_istore_n (lv' := [(0, .int x0), (1, .int 0), (2, .int x0)]) d_X_lengthOfRow_3 rfl (by decide) rfl ?_
  refine s_iconst (v := 0) d_X_lengthOfRow_4 (by decide) ?_
  refine s_istore_n (lv' := [(0, .int x0), (1, .int 0), (2, .int x0), (3, .int 0)]) d_X_lengthOfRow_5 rfl (by decide) rfl ?_
  exact ah_At.sub [1, 2, 3] rfl k
theorem b_X_lengthOfRow_6 {d : Nat} {A : Nat → Prop} {h2 : ah_H} {o : Outcome} {h0 : ah_H} {h : ah_H} {x1 : Int32} {x2 : Int32} {x3 : Int32} (kt : 4 ≤ x3 → ah_At mt_X_lengthOfRow d A h0 o h2 36 [(1, .int x1)] [] h) (kf : ¬ (4 ≤ x3) → ah_At mt_X_lengthOfRow d A h0 o h2 11 [(1, .int x1), (2, .int x2), (3, .int x3)] [] h) : ah_At mt_X_lengthOfRow d A h0 o h2 6 [(1, .int x1), (2, .int x2), (3, .int x3)] [] h := by
  refine s_iload_n d_X_lengthOfRow_6 rfl rfl ?_
  refine s_iconst (v := 4) d_X_lengthOfRow_7 (by decide) ?_
  refine s_if_icmpge (t := 36) d_X_lengthOfRow_8 (by decide) (fun z => ?_) (fun z => ?_)
  · exact ah_At.sub [0] rfl (kt z)
  · exact (kf z)
theorem b_X_lengthOfRow_11 {d : Nat} {A : Nat → Prop} {h2 : ah_H} {o : Outcome} {h0 : ah_H} {h : ah_H} {x1 : Int32} {x2 : Int32} {x3 : Int32} (kt : x2 ≤ 0 → ah_At mt_X_lengthOfRow d A h0 o h2 36 [(1, .int x1)] [] h) (kf : ¬ (x2 ≤ 0) → ah_At mt_X_lengthOfRow d A h0 o h2 15 [(1, .int x1), (2, .int x2), (3, .int x3)] [] h) : ah_At mt_X_lengthOfRow d A h0 o h2 11 [(1, .int x1), (2, .int x2), (3, .int x3)] [] h := by
  refine s_iload_n d_X_lengthOfRow_11 rfl rfl ?_
  refine s_ifle (t := 36) d_X_lengthOfRow_12 (by decide) (fun z => ?_) (fun z => ?_)
  · exact ah_At.sub [0] rfl (kt z)
  · exact (kf z)
theorem b_X_lengthOfRow_15 {d : Nat} {A : Nat → Prop} {h2 : ah_H} {o : Outcome} {h0 : ah_H} {h : ah_H} {x1 : Int32} {x2 : Int32} {x3 : Int32} {d' : Nat} {A' : Nat → Prop} {o' : Outcome} {h' : ah_H} (hE : ah_Ev mt_X_lengthOfSize d' A' [.int (x2 - x2 / 10 * 10)] h o' h') (hdd : d' + 1 ≤ d) (hAA : ∀ q, A' q → A q) (k : ah_aft mt_X_lengthOfRow d A h0 o h2 20 [(2, .int x2), (3, .int x3)] [.int x1] h' o') : ah_At mt_X_lengthOfRow d A h0 o h2 15 [(1, .int x1), (2, .int x2), (3, .int x3)] [] h := by
  refine s_iload_n d_X_lengthOfRow_15 rfl rfl ?_
  refine s_iload_n d_X_lengthOfRow_16 rfl rfl ?_
  refine s_bipush (v := 10) d_X_lengthOfRow_17 (by decide) ?_
  refine s_irem d_X_lengthOfRow_19 (by decide) ?_
  refine ah_At.sub [1, 2] rfl ?_
  exact ah_callS (av := [.int (x2 - x2 / 10 * 10)]) (st := [.int x1]) d_X_lengthOfRow_20 ml_X_202 ms_X_lengthOfSize hE hdd hAA rfl (Nat.le_of_ble_eq_true rfl) k
theorem b_X_lengthOfRow_23 {d : Nat} {A : Nat → Prop} {h2 : ah_H} {o : Outcome} {h0 : ah_H} {h : ah_H} {x2 : Int32} {x3 : Int32} {s0 : Int32} {s1 : Int32} (k : ah_At mt_X_lengthOfRow d A h0 o h2 6 [(1, .int (s1 + s0)), (2, .int (x2 / 10)), (3, .int (x3 + 1))] [] h) : ah_At mt_X_lengthOfRow d A h0 o h2 23 [(2, .int x2), (3, .int x3)] [.int s0, .int s1] h := by
  refine s_iadd d_X_lengthOfRow_23 ?_
  refine s_istore_n (lv' := [(2, .int x2), (3, .int x3), (1, .int (s1 + s0))]) d_X_lengthOfRow_24 rfl (by decide) rfl ?_
  refine s_iload_n d_X_lengthOfRow_25 rfl rfl ?_
  refine s_bipush (v := 10) d_X_lengthOfRow_26 (by decide) ?_
  refine s_idiv d_X_lengthOfRow_28 (by decide) ?_
  refine s_istore_n (lv' := [(2, .int (x2 / 10)), (3, .int x3), (1, .int (s1 + s0))]) d_X_lengthOfRow_29 rfl (by decide) rfl ?_
  refine s_iinc (v := x3 + 1) (lv' := [(2, .int (x2 / 10)), (3, .int (x3 + 1)), (1, .int (s1 + s0))]) d_X_lengthOfRow_30 rfl rfl (by decide) rfl ?_
  refine s_goto (t := 6) d_X_lengthOfRow_33 (by decide) ?_
  exact ah_At.sub [2, 0, 1] rfl k
theorem b_X_lengthOfRow_36 {d : Nat} {A : Nat → Prop} {h0 : ah_H} {h : ah_H} {x1 : Int32}  : ah_At mt_X_lengthOfRow d A h0 (.returned (some (.int x1))) h 36 [(1, .int x1)] [] h := by
  refine s_iload_n d_X_lengthOfRow_36 rfl rfl ?_
  exact e_iret (ty := .int) d_X_lengthOfRow_37 rfl rfl
