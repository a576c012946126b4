/-! BLOCKS. Printed by wip/make.py. -/
theorem b_L_init_0 {d : Nat} {A : Nat → Prop} {h0 : ah_H} {h : ah_H} {x0 : Nat} {h_1 : ah_H} {h_2 : ah_H} {h_3 : ah_H} {h_4 : ah_H} {h_5 : ah_H} {h_6 : ah_H} {h_7 : ah_H} (hd1 : 1 ≤ d) (q1 : ah_new h (100, List.replicate 4 (.int 0)) = h_1) (w1 : A x0) (e1 : (ah_sel h_1 x0 1 0).isSome = true) (q2 : ah_sto h_1 x0 0 (.ref h.1) = h_2) (q3 : ah_new h_2 (100, List.replicate 4 (.int 0)) = h_3) (w2 : A x0) (e2 : (ah_sel h_3 x0 1 1).isSome = true) (q4 : ah_sto h_3 x0 1 (.ref h_2.1) = h_4) (w3 : A x0) (e3 : (ah_sel h_4 x0 1 2).isSome = true) (q5 : ah_sto h_4 x0 2 (.int 0) = h_5) (w4 : A x0) (e4 : (ah_sel h_5 x0 1 3).isSome = true) (q6 : ah_sto h_5 x0 3 (.int 0) = h_6) (w5 : A x0) (e5 : (ah_sel h_6 x0 1 4).isSome = true) (q7 : ah_sto h_6 x0 4 (.long 0) = h_7) : ah_At mt_L_init d A h0 (.returned none) h_7 0 [(0, .ref x0)] [] h := by
  refine s_aload_n d_L_init_0 rfl rfl ?_
  refine s_objinit d_L_init_1 mo_L_3 hd1 ?_
  refine s_aload_n d_L_init_4 rfl rfl ?_
  refine s_iconst (v := 4) d_L_init_5 (by decide) ?_
  refine s_newarrayE (t := 100) (j := 4) ⟨rfl, by decide, rfl⟩ rfl ac_int d_L_init_6 ⟨by decide, by decide⟩ (by decide) q1 ?_
  refine s_putfieldE (k := 0) d_L_init_8 kc1 (by decide) fl_L_9 (Or.inr ⟨rfl, rfl, rfl, flk_L_9⟩) w1 rfl e1 q2 ?_
  refine s_aload_n d_L_init_11 rfl rfl ?_
  refine s_iconst (v := 4) d_L_init_12 (by decide) ?_
  refine s_newarrayE (t := 100) (j := 4) ⟨rfl, by decide, rfl⟩ rfl ac_int d_L_init_13 ⟨by decide, by decide⟩ (by decide) q3 ?_
  refine s_putfieldE (k := 1) d_L_init_15 kc1 (by decide) fl_L_15 (Or.inr ⟨rfl, rfl, rfl, flk_L_15⟩) w2 rfl e2 q4 ?_
  refine s_aload_n d_L_init_18 rfl rfl ?_
  refine s_iconst (v := 0) d_L_init_19 (by decide) ?_
  refine s_putfieldE (k := 2) d_L_init_20 kc1 (by decide) fl_L_18 (Or.inl rfl) w3 rfl e3 q5 ?_
  refine s_aload_n d_L_init_23 rfl rfl ?_
  refine s_iconst (v := 0) d_L_init_24 (by decide) ?_
  refine s_putfieldE (k := 3) d_L_init_25 kc1 (by decide) fl_L_22 (Or.inl rfl) w4 rfl e4 q6 ?_
  refine s_aload_n d_L_init_28 rfl rfl ?_
  refine s_lconst (v := 0) d_L_init_29 (by decide) ?_
  refine s_putfieldE (k := 4) d_L_init_30 kc1 (by decide) fl_L_25 (Or.inl rfl) w5 rfl e5 q7 ?_
  exact e_vret d_L_init_33 rfl
theorem b_L_clear_0 {d : Nat} {A : Nat → Prop} {h2 : ah_H} {o : Outcome} {h0 : ah_H} {h : ah_H} {x0 : Nat} {v1 : Nat} {d' : Nat} {A' : Nat → Prop} {o' : Outcome} {h' : ah_H} (g1 : ah_sel h x0 1 0 = some (.ref v1)) (hE : ah_Ev mt_J_fill d' A' [.ref v1, .int 0] h o' h') (hdd : d' + 1 ≤ d) (hAA : ∀ q, A' q → A q) (k : ah_aft mt_L_clear d A h0 o h2 5 [(0, .ref x0)] [] h' o') : ah_At mt_L_clear d A h0 o h2 0 [(0, .ref x0)] [] h := by
  refine s_aload_n d_L_clear_0 rfl rfl ?_
  refine s_getfield (k := 0) d_L_clear_1 kc1 (by decide) fl_L_9 g1 ?_
  refine s_iconst (v := 0) d_L_clear_4 (by decide) ?_
  exact ah_callS (av := [.ref v1, .int 0]) (st := []) d_L_clear_5 ml_L_29 ms_J_fill hE hdd hAA rfl (Nat.le_of_ble_eq_true rfl) k
theorem b_L_clear_8 {d : Nat} {A : Nat → Prop} {h2 : ah_H} {o : Outcome} {h0 : ah_H} {h : ah_H} {x0 : Nat} {v1 : Nat} {d' : Nat} {A' : Nat → Prop} {o' : Outcome} {h' : ah_H} (g1 : ah_sel h x0 1 1 = some (.ref v1)) (hE : ah_Ev mt_J_fill d' A' [.ref v1, .int 0] h o' h') (hdd : d' + 1 ≤ d) (hAA : ∀ q, A' q → A q) (k : ah_aft mt_L_clear d A h0 o h2 13 [(0, .ref x0)] [] h' o') : ah_At mt_L_clear d A h0 o h2 8 [(0, .ref x0)] [] h := by
  refine s_aload_n d_L_clear_8 rfl rfl ?_
  refine s_getfield (k := 1) d_L_clear_9 kc1 (by decide) fl_L_15 g1 ?_
  refine s_iconst (v := 0) d_L_clear_12 (by decide) ?_
  exact ah_callS (av := [.ref v1, .int 0]) (st := []) d_L_clear_13 ml_L_29 ms_J_fill hE hdd hAA rfl (Nat.le_of_ble_eq_true rfl) k
theorem b_L_clear_16 {d : Nat} {A : Nat → Prop} {h0 : ah_H} {h : ah_H} {x0 : Nat} (w1 : A x0) (e1 : (ah_sel h x0 1 2).isSome = true) (w2 : A x0) (e2 : (ah_sel (ah_sto h x0 2 (.int 0)) x0 1 3).isSome = true) (w3 : A x0) (e3 : (ah_sel (ah_sto (ah_sto h x0 2 (.int 0)) x0 3 (.int 0)) x0 1 4).isSome = true) : ah_At mt_L_clear d A h0 (.returned none) (ah_sto (ah_sto (ah_sto h x0 2 (.int 0)) x0 3 (.int 0)) x0 4 (.long 0)) 16 [(0, .ref x0)] [] h := by
  refine s_aload_n d_L_clear_16 rfl rfl ?_
  refine s_iconst (v := 0) d_L_clear_17 (by decide) ?_
  refine s_putfield (k := 2) d_L_clear_18 kc1 (by decide) fl_L_18 (Or.inl rfl) w1 rfl e1 ?_
  refine s_aload_n d_L_clear_21 rfl rfl ?_
  refine s_iconst (v := 0) d_L_clear_22 (by decide) ?_
  refine s_putfield (k := 3) d_L_clear_23 kc1 (by decide) fl_L_22 (Or.inl rfl) w2 rfl e2 ?_
  refine s_aload_n d_L_clear_26 rfl rfl ?_
  refine s_lconst (v := 0) d_L_clear_27 (by decide) ?_
  refine s_putfield (k := 4) d_L_clear_28 kc1 (by decide) fl_L_25 (Or.inl rfl) w3 rfl e3 ?_
  exact e_vret d_L_clear_31 rfl
theorem b_L_putOn_0 {d : Nat} {A : Nat → Prop} {h2 : ah_H} {o : Outcome} {h0 : ah_H} {h : ah_H} {x0 : Nat} {x1 : Nat} {d' : Nat} {A' : Nat → Prop} {o' : Outcome} {h' : ah_H} (hE : ah_Ev mt_L_change d' A' [.ref x0, .ref x1, .int 1] h o' h') (hdd : d' + 1 ≤ d) (hAA : ∀ q, A' q → A q) (k : ah_aft mt_L_putOn d A h0 o h2 3 [] [] h' o') (hb : (ah_len h x0 1).isSome = true) : ah_At mt_L_putOn d A h0 o h2 0 [(0, .ref x0), (1, .ref x1)] [] h := by
  refine s_aload_n d_L_putOn_0 rfl rfl ?_
  refine s_aload_n d_L_putOn_1 rfl rfl ?_
  refine s_iconst (v := 1) d_L_putOn_2 (by decide) ?_
  refine ah_At.sub [] rfl ?_
  exact ah_callV (av := [.ref x1, .int 1]) (st := []) d_L_putOn_3 ml_L_35 mi_L_change mv_L_change kc1 hb hE hdd hAA rfl (Nat.le_of_ble_eq_true rfl) k
theorem b_L_putOn_6 {d : Nat} {A : Nat → Prop} {h0 : ah_H} {h : ah_H}   : ah_At mt_L_putOn d A h0 (.returned none) h 6 [] [] h := by
  exact e_vret d_L_putOn_6 rfl
theorem b_L_takeOff_0 {d : Nat} {A : Nat → Prop} {h2 : ah_H} {o : Outcome} {h0 : ah_H} {h : ah_H} {x0 : Nat} {x1 : Nat} {d' : Nat} {A' : Nat → Prop} {o' : Outcome} {h' : ah_H} (hE : ah_Ev mt_L_change d' A' [.ref x0, .ref x1, .int (-1)] h o' h') (hdd : d' + 1 ≤ d) (hAA : ∀ q, A' q → A q) (k : ah_aft mt_L_takeOff d A h0 o h2 3 [] [] h' o') (hb : (ah_len h x0 1).isSome = true) : ah_At mt_L_takeOff d A h0 o h2 0 [(0, .ref x0), (1, .ref x1)] [] h := by
  refine s_aload_n d_L_takeOff_0 rfl rfl ?_
  refine s_aload_n d_L_takeOff_1 rfl rfl ?_
  refine s_iconst (v := -1) d_L_takeOff_2 (by decide) ?_
  refine ah_At.sub [] rfl ?_
  exact ah_callV (av := [.ref x1, .int (-1)]) (st := []) d_L_takeOff_3 ml_L_35 mi_L_change mv_L_change kc1 hb hE hdd hAA rfl (Nat.le_of_ble_eq_true rfl) k
theorem b_L_takeOff_6 {d : Nat} {A : Nat → Prop} {h0 : ah_H} {h : ah_H}   : ah_At mt_L_takeOff d A h0 (.returned none) h 6 [] [] h := by
  exact e_vret d_L_takeOff_6 rfl
theorem b_L_change_0 {d : Nat} {A : Nat → Prop} {h2 : ah_H} {o : Outcome} {h0 : ah_H} {h : ah_H} {x0 : Nat} {x1 : Nat} {x2 : Int32} {v1 : Nat} {v2 : Int32} {v3 : Int32} {j3 : Nat} {j4 : Nat} {v5 : Nat} {v6 : Int32} {v7 : Int32} {j7 : Nat} {j8 : Nat} {v9 : Int32} {v11 : Int32} {v12 : Int32} {d' : Nat} {A' : Nat → Prop} {o' : Outcome} {h' : ah_H} (g1 : ah_sel h x0 1 0 = some (.ref v1)) (g2 : ah_sel h x1 0 0 = some (.int v2)) (i3 : ah_ix v2 j3) (g3 : ah_sel h v1 100 j3 = some (.int v3)) (w4 : A v1) (i4 : ah_ix v2 j4) (e4 : (ah_sel h v1 100 j4).isSome = true) (g5 : ah_sel (ah_sto h v1 j4 (.int (v3 + x2))) x0 1 1 = some (.ref v5)) (g6 : ah_sel (ah_sto h v1 j4 (.int (v3 + x2))) x1 0 3 = some (.int v6)) (i7 : ah_ix v6 j7) (g7 : ah_sel (ah_sto h v1 j4 (.int (v3 + x2))) v5 100 j7 = some (.int v7)) (w8 : A v5) (i8 : ah_ix v6 j8) (e8 : (ah_sel (ah_sto h v1 j4 (.int (v3 + x2))) v5 100 j8).isSome = true) (g9 : ah_sel (ah_sto (ah_sto h v1 j4 (.int (v3 + x2))) v5 j8 (.int (v7 + x2))) x0 1 2 = some (.int v9)) (w10 : A x0) (e10 : (ah_sel (ah_sto (ah_sto h v1 j4 (.int (v3 + x2))) v5 j8 (.int (v7 + x2))) x0 1 2).isSome = true) (g11 : ah_sel (ah_sto (ah_sto (ah_sto h v1 j4 (.int (v3 + x2))) v5 j8 (.int (v7 + x2))) x0 2 (.int (v9 + x2))) x0 1 3 = some (.int v11)) (g12 : ah_sel (ah_sto (ah_sto (ah_sto h v1 j4 (.int (v3 + x2))) v5 j8 (.int (v7 + x2))) x0 2 (.int (v9 + x2))) x1 0 0 = some (.int v12)) (hE : ah_Ev mt_X_lengthOfSize d' A' [.int v12] (ah_sto (ah_sto (ah_sto h v1 j4 (.int (v3 + x2))) v5 j8 (.int (v7 + x2))) x0 2 (.int (v9 + x2))) o' h') (hdd : d' + 1 ≤ d) (hAA : ∀ q, A' q → A q) (k : ah_aft mt_L_change d A h0 o h2 46 [(0, .ref x0), (1, .ref x1), (2, .int x2)] [.int x2, .int v11, .ref x0] h' o') : ah_At mt_L_change d A h0 o h2 0 [(0, .ref x0), (1, .ref x1), (2, .int x2)] [] h := by
  refine s_aload_n d_L_change_0 rfl rfl ?_
  refine s_getfield (k := 0) d_L_change_1 kc1 (by decide) fl_L_9 g1 ?_
  refine s_aload_n d_L_change_4 rfl rfl ?_
  refine s_getfield (k := 0) d_L_change_5 kc0 (by decide) fl_L_39 g2 ?_
  refine s_dup2 d_L_change_8 rfl rfl ?_
  refine s_iaload d_L_change_9 i3 g3 ?_
  refine s_iload_n d_L_change_10 rfl rfl ?_
  refine s_iadd d_L_change_11 ?_
  refine s_iastore d_L_change_12 w4 i4 e4 ?_
  refine s_aload_n d_L_change_13 rfl rfl ?_
  refine s_getfield (k := 1) d_L_change_14 kc1 (by decide) fl_L_15 g5 ?_
  refine s_aload_n d_L_change_17 rfl rfl ?_
  refine s_getfield (k := 3) d_L_change_18 kc0 (by decide) fl_L_44 g6 ?_
  refine s_dup2 d_L_change_21 rfl rfl ?_
  refine s_iaload d_L_change_22 i7 g7 ?_
  refine s_iload_n d_L_change_23 rfl rfl ?_
  refine s_iadd d_L_change_24 ?_
  refine s_iastore d_L_change_25 w8 i8 e8 ?_
  refine s_aload_n d_L_change_26 rfl rfl ?_
  refine s_dup d_L_change_27 rfl ?_
  refine s_getfield (k := 2) d_L_change_28 kc1 (by decide) fl_L_18 g9 ?_
  refine s_iload_n d_L_change_31 rfl rfl ?_
  refine s_iadd d_L_change_32 ?_
  refine s_putfield (k := 2) d_L_change_33 kc1 (by decide) fl_L_18 (Or.inl rfl) w10 rfl e10 ?_
  refine s_aload_n d_L_change_36 rfl rfl ?_
  refine s_dup d_L_change_37 rfl ?_
  refine s_getfield (k := 3) d_L_change_38 kc1 (by decide) fl_L_22 g11 ?_
  refine s_iload_n d_L_change_41 rfl rfl ?_
  refine s_aload_n d_L_change_42 rfl rfl ?_
  refine s_getfield (k := 0) d_L_change_43 kc0 (by decide) fl_L_39 g12 ?_
  exact ah_callS (av := [.int v12]) (st := [.int x2, .int v11, .ref x0]) d_L_change_46 ml_L_47 ms_X_lengthOfSize hE hdd hAA rfl (Nat.le_of_ble_eq_true rfl) k
theorem b_L_change_49 {d : Nat} {A : Nat → Prop} {h0 : ah_H} {h : ah_H} {x0 : Nat} {x1 : Nat} {x2 : Int32} {s0 : Int32} {s1 : Int32} {s2 : Int32} {s3 : Nat} {v2 : Int64} {v3 : Int64} (w1 : A s3) (e1 : (ah_sel h s3 1 3).isSome = true) (g2 : ah_sel (ah_sto h s3 3 (.int (s2 + (s1 * s0)))) x0 1 4 = some (.long v2)) (g3 : ah_sel (ah_sto h s3 3 (.int (s2 + (s1 * s0)))) x1 0 1 = some (.long v3)) (w4 : A x0) (e4 : (ah_sel (ah_sto h s3 3 (.int (s2 + (s1 * s0)))) x0 1 4).isSome = true) : ah_At mt_L_change d A h0 (.returned none) (ah_sto (ah_sto h s3 3 (.int (s2 + (s1 * s0)))) x0 4 (.long (v2 + ((Int32.toInt64 x2) * v3)))) 49 [(0, .ref x0), (1, .ref x1), (2, .int x2)] [.int s0, .int s1, .int s2, .ref s3] h := by
  refine s_imul d_L_change_49 ?_
  refine s_iadd d_L_change_50 ?_
  refine s_putfield (k := 3) d_L_change_51 kc1 (by decide) fl_L_22 (Or.inl rfl) w1 rfl e1 ?_
  refine s_aload_n d_L_change_54 rfl rfl ?_
  refine s_dup d_L_change_55 rfl ?_
  refine s_getfield (k := 4) d_L_change_56 kc1 (by decide) fl_L_25 g2 ?_
  refine s_iload_n d_L_change_59 rfl rfl ?_
  refine s_i2l d_L_change_60 ?_
  refine s_aload_n d_L_change_61 rfl rfl ?_
  refine s_getfield (k := 1) d_L_change_62 kc0 (by decide) fl_L_51 g3 ?_
  refine s_lmul d_L_change_65 ?_
  refine s_ladd d_L_change_66 ?_
  refine s_putfield (k := 4) d_L_change_67 kc1 (by decide) fl_L_25 (Or.inl rfl) w4 rfl e4 ?_
  exact e_vret d_L_change_70 rfl
