/-! BLOCKS. Printed by wip/make.py. -/
theorem b_A_wagon_0 {d : Nat} {A : Nat → Prop} {h2 : ah_H} {o : Outcome} {h0 : ah_H} {h : ah_H} {x0 : Nat} {x1 : Int32} {x2 : Int64} {x4 : Int32} {x5 : Int32} {x6 : Nat} {d' : Nat} {A' : Nat → Prop} {o' : Outcome} {h' : ah_H} (hE : ah_Ev mt_X_wagon d' A' [.ref x0, .int x1, .long x2, .int x4, .int x5] h o' h') (hdd : d' + 1 ≤ d) (hAA : ∀ q, A' q → A q) (k : ah_aft mt_A_wagon d A h0 o h2 10 [] [.int 0, .ref x6] h' o') (hb : (ah_len h x0 6).isSome = true) : ah_At mt_A_wagon d A h0 o h2 0 [(0, .ref x0), (1, .int x1), (2, .long x2), (4, .int x4), (5, .int x5), (6, .ref x6)] [] h := by
  refine s_aload d_A_wagon_0 rfl ?_
  refine s_iconst (v := 0) d_A_wagon_2 (by decide) ?_
  refine s_aload_n d_A_wagon_3 rfl rfl ?_
  refine s_iload_n d_A_wagon_4 rfl rfl ?_
  refine s_lload_n d_A_wagon_5 rfl rfl ?_
  refine s_iload d_A_wagon_6 rfl ?_
  refine s_iload d_A_wagon_8 rfl ?_
  refine ah_At.sub [] rfl ?_
  exact ah_callV (av := [.int x1, .long x2, .int x4, .int x5]) (st := [.int 0, .ref x6]) d_A_wagon_10 ml_A_7 mi_X_wagon mv_X_wagon kc6 hb hE hdd hAA rfl (Nat.le_of_ble_eq_true rfl) k
theorem b_A_wagon_13 {d : Nat} {A : Nat → Prop} {h2 : ah_H} {o : Outcome} {h0 : ah_H} {h : ah_H} {s0 : Int32} {s1 : Int32} {s2 : Nat} {j1 : Nat} (w1 : A s2) (i1 : ah_ix s1 j1) (e1 : (ah_sel h s2 101 j1).isSome = true) (k : ah_At mt_A_wagon d A h0 o h2 26 [] [] (ah_sto h s2 j1 (.long (Int32.toInt64 s0)))) : ah_At mt_A_wagon d A h0 o h2 13 [] [.int s0, .int s1, .ref s2] h := by
  refine s_i2l d_A_wagon_13 ?_
  refine s_lastore d_A_wagon_14 w1 i1 e1 ?_
  refine s_goto (t := 26) d_A_wagon_15 (by decide) ?_
  exact k
theorem b_A_wagon_18 {d : Nat} {A : Nat → Prop} {h0 : ah_H} {h : ah_H} {s0 : Nat}  : ah_At mt_A_wagon d A h0 (.returned (some (.int 1))) h 18 [] [.ref s0] h := by
  refine s_astore (lv' := [(7, .ref s0)]) d_A_wagon_18 (by decide) rfl ?_
  refine s_iconst (v := 1) d_A_wagon_20 (by decide) ?_
  exact e_iret (ty := .int) d_A_wagon_21 rfl rfl
theorem b_A_wagon_22 {d : Nat} {A : Nat → Prop} {h0 : ah_H} {h : ah_H} {s0 : Nat}  : ah_At mt_A_wagon d A h0 (.returned (some (.int 2))) h 22 [] [.ref s0] h := by
  refine s_astore (lv' := [(7, .ref s0)]) d_A_wagon_22 (by decide) rfl ?_
  refine s_iconst (v := 2) d_A_wagon_24 (by decide) ?_
  exact e_iret (ty := .int) d_A_wagon_25 rfl rfl
theorem b_A_wagon_26 {d : Nat} {A : Nat → Prop} {h0 : ah_H} {h : ah_H}   : ah_At mt_A_wagon d A h0 (.returned (some (.int 0))) h 26 [] [] h := by
  refine s_iconst (v := 0) d_A_wagon_26 (by decide) ?_
  exact e_iret (ty := .int) d_A_wagon_27 rfl rfl
theorem b_A_pattern_0 {d : Nat} {A : Nat → Prop} {h2 : ah_H} {o : Outcome} {h0 : ah_H} {h : ah_H} {x0 : Nat} {x1 : Int32} {x2 : Int32} {x3 : Nat} {d' : Nat} {A' : Nat → Prop} {o' : Outcome} {h' : ah_H} (hE : ah_Ev mt_X_pattern d' A' [.ref x0, .int x1, .int x2] h o' h') (hdd : d' + 1 ≤ d) (hAA : ∀ q, A' q → A q) (k : ah_aft mt_A_pattern d A h0 o h2 5 [] [.int 0, .ref x3] h' o') (hb : (ah_len h x0 6).isSome = true) : ah_At mt_A_pattern d A h0 o h2 0 [(0, .ref x0), (1, .int x1), (2, .int x2), (3, .ref x3)] [] h := by
  refine s_aload_n d_A_pattern_0 rfl rfl ?_
  refine s_iconst (v := 0) d_A_pattern_1 (by decide) ?_
  refine s_aload_n d_A_pattern_2 rfl rfl ?_
  refine s_iload_n d_A_pattern_3 rfl rfl ?_
  refine s_iload_n d_A_pattern_4 rfl rfl ?_
  refine ah_At.sub [] rfl ?_
  exact ah_callV (av := [.int x1, .int x2]) (st := [.int 0, .ref x3]) d_A_pattern_5 ml_A_17 mi_X_pattern mv_X_pattern kc6 hb hE hdd hAA rfl (Nat.le_of_ble_eq_true rfl) k
theorem b_A_pattern_8 {d : Nat} {A : Nat → Prop} {h2 : ah_H} {o : Outcome} {h0 : ah_H} {h : ah_H} {s0 : Int32} {s1 : Int32} {s2 : Nat} {j1 : Nat} (w1 : A s2) (i1 : ah_ix s1 j1) (e1 : (ah_sel h s2 101 j1).isSome = true) (k : ah_At mt_A_pattern d A h0 o h2 21 [] [] (ah_sto h s2 j1 (.long (Int32.toInt64 s0)))) : ah_At mt_A_pattern d A h0 o h2 8 [] [.int s0, .int s1, .ref s2] h := by
  refine s_i2l d_A_pattern_8 ?_
  refine s_lastore d_A_pattern_9 w1 i1 e1 ?_
  refine s_goto (t := 21) d_A_pattern_10 (by decide) ?_
  exact k
theorem b_A_pattern_13 {d : Nat} {A : Nat → Prop} {h0 : ah_H} {h : ah_H} {s0 : Nat}  : ah_At mt_A_pattern d A h0 (.returned (some (.int 1))) h 13 [] [.ref s0] h := by
  refine s_astore (lv' := [(4, .ref s0)]) d_A_pattern_13 (by decide) rfl ?_
  refine s_iconst (v := 1) d_A_pattern_15 (by decide) ?_
  exact e_iret (ty := .int) d_A_pattern_16 rfl rfl
theorem b_A_pattern_17 {d : Nat} {A : Nat → Prop} {h0 : ah_H} {h : ah_H} {s0 : Nat}  : ah_At mt_A_pattern d A h0 (.returned (some (.int 2))) h 17 [] [.ref s0] h := by
  refine s_astore (lv' := [(4, .ref s0)]) d_A_pattern_17 (by decide) rfl ?_
  refine s_iconst (v := 2) d_A_pattern_19 (by decide) ?_
  exact e_iret (ty := .int) d_A_pattern_20 rfl rfl
theorem b_A_pattern_21 {d : Nat} {A : Nat → Prop} {h0 : ah_H} {h : ah_H}   : ah_At mt_A_pattern d A h0 (.returned (some (.int 0))) h 21 [] [] h := by
  refine s_iconst (v := 0) d_A_pattern_21 (by decide) ?_
  exact e_iret (ty := .int) d_A_pattern_22 rfl rfl
theorem b_A_box_0 {d : Nat} {A : Nat → Prop} {h2 : ah_H} {o : Outcome} {h0 : ah_H} {h : ah_H} {x0 : Nat} {x1 : Int32} {x2 : Int64} {x4 : Int32} {x5 : Int32} {x6 : Int64} {x8 : Nat} {d' : Nat} {A' : Nat → Prop} {o' : Outcome} {h' : ah_H} (hE : ah_Ev mt_X_box d' A' [.ref x0, .int x1, .long x2, .int x4, .int x5, .long x6] h o' h') (hdd : d' + 1 ≤ d) (hAA : ∀ q, A' q → A q) (k : ah_aft mt_A_box d A h0 o h2 12 [] [.int 0, .ref x8] h' o') (hb : (ah_len h x0 6).isSome = true) : ah_At mt_A_box d A h0 o h2 0 [(0, .ref x0), (1, .int x1), (2, .long x2), (4, .int x4), (5, .int x5), (6, .long x6), (8, .ref x8)] [] h := by
  refine s_aload d_A_box_0 rfl ?_
  refine s_iconst (v := 0) d_A_box_2 (by decide) ?_
  refine s_aload_n d_A_box_3 rfl rfl ?_
  refine s_iload_n d_A_box_4 rfl rfl ?_
  refine s_lload_n d_A_box_5 rfl rfl ?_
  refine s_iload d_A_box_6 rfl ?_
  refine s_iload d_A_box_8 rfl ?_
  refine s_lload d_A_box_10 rfl ?_
  refine ah_At.sub [] rfl ?_
  exact ah_callV (av := [.int x1, .long x2, .int x4, .int x5, .long x6]) (st := [.int 0, .ref x8]) d_A_box_12 ml_A_21 mi_X_box mv_X_box kc6 hb hE hdd hAA rfl (Nat.le_of_ble_eq_true rfl) k
theorem b_A_box_15 {d : Nat} {A : Nat → Prop} {h2 : ah_H} {o : Outcome} {h0 : ah_H} {h : ah_H} {s0 : Int32} {s1 : Int32} {s2 : Nat} {j1 : Nat} (w1 : A s2) (i1 : ah_ix s1 j1) (e1 : (ah_sel h s2 101 j1).isSome = true) (k : ah_At mt_A_box d A h0 o h2 28 [] [] (ah_sto h s2 j1 (.long (Int32.toInt64 s0)))) : ah_At mt_A_box d A h0 o h2 15 [] [.int s0, .int s1, .ref s2] h := by
  refine s_i2l d_A_box_15 ?_
  refine s_lastore d_A_box_16 w1 i1 e1 ?_
  refine s_goto (t := 28) d_A_box_17 (by decide) ?_
  exact k
theorem b_A_box_20 {d : Nat} {A : Nat → Prop} {h0 : ah_H} {h : ah_H} {s0 : Nat}  : ah_At mt_A_box d A h0 (.returned (some (.int 1))) h 20 [] [.ref s0] h := by
  refine s_astore (lv' := [(9, .ref s0)]) d_A_box_20 (by decide) rfl ?_
  refine s_iconst (v := 1) d_A_box_22 (by decide) ?_
  exact e_iret (ty := .int) d_A_box_23 rfl rfl
theorem b_A_box_24 {d : Nat} {A : Nat → Prop} {h0 : ah_H} {h : ah_H} {s0 : Nat}  : ah_At mt_A_box d A h0 (.returned (some (.int 2))) h 24 [] [.ref s0] h := by
  refine s_astore (lv' := [(9, .ref s0)]) d_A_box_24 (by decide) rfl ?_
  refine s_iconst (v := 2) d_A_box_26 (by decide) ?_
  exact e_iret (ty := .int) d_A_box_27 rfl rfl
theorem b_A_box_28 {d : Nat} {A : Nat → Prop} {h0 : ah_H} {h : ah_H}   : ah_At mt_A_box d A h0 (.returned (some (.int 0))) h 28 [] [] h := by
  refine s_iconst (v := 0) d_A_box_28 (by decide) ?_
  exact e_iret (ty := .int) d_A_box_29 rfl rfl
theorem b_A_at_0 {d : Nat} {A : Nat → Prop} {h2 : ah_H} {o : Outcome} {h0 : ah_H} {h : ah_H} {x0 : Nat} {x1 : Int32} {x2 : Int32} {x3 : Nat} {d' : Nat} {A' : Nat → Prop} {o' : Outcome} {h' : ah_H} (hE : ah_Ev mt_X_at d' A' [.ref x0, .int x1, .int x2] h o' h') (hdd : d' + 1 ≤ d) (hAA : ∀ q, A' q → A q) (k : ah_aft mt_A_at d A h0 o h2 5 [] [.int 0, .ref x3] h' o') (hb : (ah_len h x0 6).isSome = true) : ah_At mt_A_at d A h0 o h2 0 [(0, .ref x0), (1, .int x1), (2, .int x2), (3, .ref x3)] [] h := by
  refine s_aload_n d_A_at_0 rfl rfl ?_
  refine s_iconst (v := 0) d_A_at_1 (by decide) ?_
  refine s_aload_n d_A_at_2 rfl rfl ?_
  refine s_iload_n d_A_at_3 rfl rfl ?_
  refine s_iload_n d_A_at_4 rfl rfl ?_
  refine ah_At.sub [] rfl ?_
  exact ah_callV (av := [.int x1, .int x2]) (st := [.int 0, .ref x3]) d_A_at_5 ml_A_25 mi_X_at mv_X_at kc6 hb hE hdd hAA rfl (Nat.le_of_ble_eq_true rfl) k
theorem b_A_at_8 {d : Nat} {A : Nat → Prop} {h2 : ah_H} {o : Outcome} {h0 : ah_H} {h : ah_H} {s0 : Int32} {s1 : Int32} {s2 : Nat} {j1 : Nat} (w1 : A s2) (i1 : ah_ix s1 j1) (e1 : (ah_sel h s2 101 j1).isSome = true) (k : ah_At mt_A_at d A h0 o h2 21 [] [] (ah_sto h s2 j1 (.long (Int32.toInt64 s0)))) : ah_At mt_A_at d A h0 o h2 8 [] [.int s0, .int s1, .ref s2] h := by
  refine s_i2l d_A_at_8 ?_
  refine s_lastore d_A_at_9 w1 i1 e1 ?_
  refine s_goto (t := 21) d_A_at_10 (by decide) ?_
  exact k
theorem b_A_at_13 {d : Nat} {A : Nat → Prop} {h0 : ah_H} {h : ah_H} {s0 : Nat}  : ah_At mt_A_at d A h0 (.returned (some (.int 1))) h 13 [] [.ref s0] h := by
  refine s_astore (lv' := [(4, .ref s0)]) d_A_at_13 (by decide) rfl ?_
  refine s_iconst (v := 1) d_A_at_15 (by decide) ?_
  exact e_iret (ty := .int) d_A_at_16 rfl rfl
theorem b_A_at_17 {d : Nat} {A : Nat → Prop} {h0 : ah_H} {h : ah_H} {s0 : Nat}  : ah_At mt_A_at d A h0 (.returned (some (.int 2))) h 17 [] [.ref s0] h := by
  refine s_astore (lv' := [(4, .ref s0)]) d_A_at_17 (by decide) rfl ?_
  refine s_iconst (v := 2) d_A_at_19 (by decide) ?_
  exact e_iret (ty := .int) d_A_at_20 rfl rfl
theorem b_A_at_21 {d : Nat} {A : Nat → Prop} {h0 : ah_H} {h : ah_H}   : ah_At mt_A_at d A h0 (.returned (some (.int 0))) h 21 [] [] h := by
  refine s_iconst (v := 0) d_A_at_21 (by decide) ?_
  exact e_iret (ty := .int) d_A_at_22 rfl rfl
theorem b_A_load_0 {d : Nat} {A : Nat → Prop} {h2 : ah_H} {o : Outcome} {h0 : ah_H} {h : ah_H} {x0 : Nat} {x1 : Int32} {x2 : Int32} {x3 : Nat} {d' : Nat} {A' : Nat → Prop} {o' : Outcome} {h' : ah_H} (hE : ah_Ev mt_X_load d' A' [.ref x0, .int x1, .int x2] h o' h') (hdd : d' + 1 ≤ d) (hAA : ∀ q, A' q → A q) (k : ah_aft mt_A_load d A h0 o h2 5 [] [.int 0, .ref x3] h' o') (hb : (ah_len h x0 6).isSome = true) : ah_At mt_A_load d A h0 o h2 0 [(0, .ref x0), (1, .int x1), (2, .int x2), (3, .ref x3)] [] h := by
  refine s_aload_n d_A_load_0 rfl rfl ?_
  refine s_iconst (v := 0) d_A_load_1 (by decide) ?_
  refine s_aload_n d_A_load_2 rfl rfl ?_
  refine s_iload_n d_A_load_3 rfl rfl ?_
  refine s_iload_n d_A_load_4 rfl rfl ?_
  refine ah_At.sub [] rfl ?_
  exact ah_callV (av := [.int x1, .int x2]) (st := [.int 0, .ref x3]) d_A_load_5 ml_A_32 mi_X_load mv_X_load kc6 hb hE hdd hAA rfl (Nat.le_of_ble_eq_true rfl) k
theorem b_A_load_8 {d : Nat} {A : Nat → Prop} {h2 : ah_H} {o : Outcome} {h0 : ah_H} {h : ah_H} {s0 : Int64} {s1 : Int32} {s2 : Nat} {j1 : Nat} (w1 : A s2) (i1 : ah_ix s1 j1) (e1 : (ah_sel h s2 101 j1).isSome = true) (k : ah_At mt_A_load d A h0 o h2 20 [] [] (ah_sto h s2 j1 (.long s0))) : ah_At mt_A_load d A h0 o h2 8 [] [.long s0, .int s1, .ref s2] h := by
  refine s_lastore d_A_load_8 w1 i1 e1 ?_
  refine s_goto (t := 20) d_A_load_9 (by decide) ?_
  exact k
theorem b_A_load_12 {d : Nat} {A : Nat → Prop} {h0 : ah_H} {h : ah_H} {s0 : Nat}  : ah_At mt_A_load d A h0 (.returned (some (.int 1))) h 12 [] [.ref s0] h := by
  refine s_astore (lv' := [(4, .ref s0)]) d_A_load_12 (by decide) rfl ?_
  refine s_iconst (v := 1) d_A_load_14 (by decide) ?_
  exact e_iret (ty := .int) d_A_load_15 rfl rfl
theorem b_A_load_16 {d : Nat} {A : Nat → Prop} {h0 : ah_H} {h : ah_H} {s0 : Nat}  : ah_At mt_A_load d A h0 (.returned (some (.int 2))) h 16 [] [.ref s0] h := by
  refine s_astore (lv' := [(4, .ref s0)]) d_A_load_16 (by decide) rfl ?_
  refine s_iconst (v := 2) d_A_load_18 (by decide) ?_
  exact e_iret (ty := .int) d_A_load_19 rfl rfl
theorem b_A_load_20 {d : Nat} {A : Nat → Prop} {h0 : ah_H} {h : ah_H}   : ah_At mt_A_load d A h0 (.returned (some (.int 0))) h 20 [] [] h := by
  refine s_iconst (v := 0) d_A_load_20 (by decide) ?_
  exact e_iret (ty := .int) d_A_load_21 rfl rfl
theorem b_A_axle_0 {d : Nat} {A : Nat → Prop} {h2 : ah_H} {o : Outcome} {h0 : ah_H} {h : ah_H} {x0 : Nat} {x1 : Int32} {x2 : Int32} {x3 : Nat} {d' : Nat} {A' : Nat → Prop} {o' : Outcome} {h' : ah_H} (hE : ah_Ev mt_X_axle d' A' [.ref x0, .int x1, .int x2] h o' h') (hdd : d' + 1 ≤ d) (hAA : ∀ q, A' q → A q) (k : ah_aft mt_A_axle d A h0 o h2 5 [] [.int 0, .ref x3] h' o') (hb : (ah_len h x0 6).isSome = true) : ah_At mt_A_axle d A h0 o h2 0 [(0, .ref x0), (1, .int x1), (2, .int x2), (3, .ref x3)] [] h := by
  refine s_aload_n d_A_axle_0 rfl rfl ?_
  refine s_iconst (v := 0) d_A_axle_1 (by decide) ?_
  refine s_aload_n d_A_axle_2 rfl rfl ?_
  refine s_iload_n d_A_axle_3 rfl rfl ?_
  refine s_iload_n d_A_axle_4 rfl rfl ?_
  refine ah_At.sub [] rfl ?_
  exact ah_callV (av := [.int x1, .int x2]) (st := [.int 0, .ref x3]) d_A_axle_5 ml_A_36 mi_X_axle mv_X_axle kc6 hb hE hdd hAA rfl (Nat.le_of_ble_eq_true rfl) k
theorem b_A_axle_8 {d : Nat} {A : Nat → Prop} {h2 : ah_H} {o : Outcome} {h0 : ah_H} {h : ah_H} {s0 : Int64} {s1 : Int32} {s2 : Nat} {j1 : Nat} (w1 : A s2) (i1 : ah_ix s1 j1) (e1 : (ah_sel h s2 101 j1).isSome = true) (k : ah_At mt_A_axle d A h0 o h2 24 [] [] (ah_sto h s2 j1 (.long s0))) : ah_At mt_A_axle d A h0 o h2 8 [] [.long s0, .int s1, .ref s2] h := by
  refine s_lastore d_A_axle_8 w1 i1 e1 ?_
  refine s_goto (t := 24) d_A_axle_9 (by decide) ?_
  exact k
theorem b_A_axle_12 {d : Nat} {A : Nat → Prop} {h0 : ah_H} {h : ah_H} {s0 : Nat}  : ah_At mt_A_axle d A h0 (.returned (some (.int 1))) h 12 [] [.ref s0] h := by
  refine s_astore (lv' := [(4, .ref s0)]) d_A_axle_12 (by decide) rfl ?_
  refine s_iconst (v := 1) d_A_axle_14 (by decide) ?_
  exact e_iret (ty := .int) d_A_axle_15 rfl rfl
theorem b_A_axle_16 {d : Nat} {A : Nat → Prop} {h0 : ah_H} {h : ah_H} {s0 : Nat}  : ah_At mt_A_axle d A h0 (.returned (some (.int 2))) h 16 [] [.ref s0] h := by
  refine s_astore (lv' := [(4, .ref s0)]) d_A_axle_16 (by decide) rfl ?_
  refine s_iconst (v := 2) d_A_axle_18 (by decide) ?_
  exact e_iret (ty := .int) d_A_axle_19 rfl rfl
theorem b_A_axle_20 {d : Nat} {A : Nat → Prop} {h0 : ah_H} {h : ah_H} {s0 : Nat}  : ah_At mt_A_axle d A h0 (.returned (some (.int 3))) h 20 [] [.ref s0] h := by
  refine s_astore (lv' := [(4, .ref s0)]) d_A_axle_20 (by decide) rfl ?_
  refine s_iconst (v := 3) d_A_axle_22 (by decide) ?_
  exact e_iret (ty := .int) d_A_axle_23 rfl rfl
theorem b_A_axle_24 {d : Nat} {A : Nat → Prop} {h0 : ah_H} {h : ah_H}   : ah_At mt_A_axle d A h0 (.returned (some (.int 0))) h 24 [] [] h := by
  refine s_iconst (v := 0) d_A_axle_24 (by decide) ?_
  exact e_iret (ty := .int) d_A_axle_25 rfl rfl
theorem b_A_standby_0 {d : Nat} {A : Nat → Prop} {h2 : ah_H} {o : Outcome} {h0 : ah_H} {h : ah_H} {x0 : Nat} {x1 : Int32} {x2 : Nat} {d' : Nat} {A' : Nat → Prop} {o' : Outcome} {h' : ah_H} (hE : ah_Ev mt_X_standby d' A' [.ref x0, .int x1] h o' h') (hdd : d' + 1 ≤ d) (hAA : ∀ q, A' q → A q) (k : ah_aft mt_A_standby d A h0 o h2 4 [] [.int 0, .ref x2] h' o') (hb : (ah_len h x0 6).isSome = true) : ah_At mt_A_standby d A h0 o h2 0 [(0, .ref x0), (1, .int x1), (2, .ref x2)] [] h := by
  refine s_aload_n d_A_standby_0 rfl rfl ?_
  refine s_iconst (v := 0) d_A_standby_1 (by decide) ?_
  refine s_aload_n d_A_standby_2 rfl rfl ?_
  refine s_iload_n d_A_standby_3 rfl rfl ?_
  refine ah_At.sub [] rfl ?_
  exact ah_callV (av := [.int x1]) (st := [.int 0, .ref x2]) d_A_standby_4 ml_A_41 mi_X_standby mv_X_standby kc6 hb hE hdd hAA rfl (Nat.le_of_ble_eq_true rfl) k
theorem b_A_standby_7 {d : Nat} {A : Nat → Prop} {h2 : ah_H} {o : Outcome} {h0 : ah_H} {h : ah_H} {s0 : Int32} {s1 : Int32} {s2 : Nat} {j1 : Nat} (w1 : A s2) (i1 : ah_ix s1 j1) (e1 : (ah_sel h s2 101 j1).isSome = true) (k : ah_At mt_A_standby d A h0 o h2 15 [] [] (ah_sto h s2 j1 (.long (Int32.toInt64 s0)))) : ah_At mt_A_standby d A h0 o h2 7 [] [.int s0, .int s1, .ref s2] h := by
  refine s_i2l d_A_standby_7 ?_
  refine s_lastore d_A_standby_8 w1 i1 e1 ?_
  refine s_goto (t := 15) d_A_standby_9 (by decide) ?_
  exact k
theorem b_A_standby_12 {d : Nat} {A : Nat → Prop} {h0 : ah_H} {h : ah_H} {s0 : Nat}  : ah_At mt_A_standby d A h0 (.returned (some (.int 1))) h 12 [] [.ref s0] h := by
  refine s_astore_n (lv' := [(3, .ref s0)]) d_A_standby_12 rfl (by decide) rfl ?_
  refine s_iconst (v := 1) d_A_standby_13 (by decide) ?_
  exact e_iret (ty := .int) d_A_standby_14 rfl rfl
theorem b_A_standby_15 {d : Nat} {A : Nat → Prop} {h0 : ah_H} {h : ah_H}   : ah_At mt_A_standby d A h0 (.returned (some (.int 0))) h 15 [] [] h := by
  refine s_iconst (v := 0) d_A_standby_15 (by decide) ?_
  exact e_iret (ty := .int) d_A_standby_16 rfl rfl
theorem b_A_refused_0 {d : Nat} {A : Nat → Prop} {h2 : ah_H} {o : Outcome} {h0 : ah_H} {h : ah_H} {x0 : Nat} {x1 : Int32} {x2 : Nat} {d' : Nat} {A' : Nat → Prop} {o' : Outcome} {h' : ah_H} (hE : ah_Ev mt_X_refused d' A' [.ref x0, .int x1] h o' h') (hdd : d' + 1 ≤ d) (hAA : ∀ q, A' q → A q) (k : ah_aft mt_A_refused d A h0 o h2 4 [] [.int 0, .ref x2] h' o') (hb : (ah_len h x0 6).isSome = true) : ah_At mt_A_refused d A h0 o h2 0 [(0, .ref x0), (1, .int x1), (2, .ref x2)] [] h := by
  refine s_aload_n d_A_refused_0 rfl rfl ?_
  refine s_iconst (v := 0) d_A_refused_1 (by decide) ?_
  refine s_aload_n d_A_refused_2 rfl rfl ?_
  refine s_iload_n d_A_refused_3 rfl rfl ?_
  refine ah_At.sub [] rfl ?_
  exact ah_callV (av := [.int x1]) (st := [.int 0, .ref x2]) d_A_refused_4 ml_A_45 mi_X_refused mv_X_refused kc6 hb hE hdd hAA rfl (Nat.le_of_ble_eq_true rfl) k
theorem b_A_refused_7 {d : Nat} {A : Nat → Prop} {h2 : ah_H} {o : Outcome} {h0 : ah_H} {h : ah_H} {s0 : Int32} {s1 : Int32} {s2 : Nat} {j1 : Nat} (w1 : A s2) (i1 : ah_ix s1 j1) (e1 : (ah_sel h s2 101 j1).isSome = true) (k : ah_At mt_A_refused d A h0 o h2 15 [] [] (ah_sto h s2 j1 (.long (Int32.toInt64 s0)))) : ah_At mt_A_refused d A h0 o h2 7 [] [.int s0, .int s1, .ref s2] h := by
  refine s_i2l d_A_refused_7 ?_
  refine s_lastore d_A_refused_8 w1 i1 e1 ?_
  refine s_goto (t := 15) d_A_refused_9 (by decide) ?_
  exact k
theorem b_A_refused_12 {d : Nat} {A : Nat → Prop} {h0 : ah_H} {h : ah_H} {s0 : Nat}  : ah_At mt_A_refused d A h0 (.returned (some (.int 1))) h 12 [] [.ref s0] h := by
  refine s_astore_n (lv' := [(3, .ref s0)]) d_A_refused_12 rfl (by decide) rfl ?_
  refine s_iconst (v := 1) d_A_refused_13 (by decide) ?_
  exact e_iret (ty := .int) d_A_refused_14 rfl rfl
theorem b_A_refused_15 {d : Nat} {A : Nat → Prop} {h0 : ah_H} {h : ah_H}   : ah_At mt_A_refused d A h0 (.returned (some (.int 0))) h 15 [] [] h := by
  refine s_iconst (v := 0) d_A_refused_15 (by decide) ?_
  exact e_iret (ty := .int) d_A_refused_16 rfl rfl
theorem b_A_together_0 {d : Nat} {A : Nat → Prop} {h2 : ah_H} {o : Outcome} {h0 : ah_H} {h : ah_H} {x0 : Nat} {x1 : Int32} {x2 : Int32} {x3 : Nat} {d' : Nat} {A' : Nat → Prop} {o' : Outcome} {h' : ah_H} (hE : ah_Ev mt_X_together d' A' [.ref x0, .int x1, .int x2] h o' h') (hdd : d' + 1 ≤ d) (hAA : ∀ q, A' q → A q) (k : ah_aft mt_A_together d A h0 o h2 5 [] [.int 0, .ref x3] h' o') (hb : (ah_len h x0 6).isSome = true) : ah_At mt_A_together d A h0 o h2 0 [(0, .ref x0), (1, .int x1), (2, .int x2), (3, .ref x3)] [] h := by
  refine s_aload_n d_A_together_0 rfl rfl ?_
  refine s_iconst (v := 0) d_A_together_1 (by decide) ?_
  refine s_aload_n d_A_together_2 rfl rfl ?_
  refine s_iload_n d_A_together_3 rfl rfl ?_
  refine s_iload_n d_A_together_4 rfl rfl ?_
  refine ah_At.sub [] rfl ?_
  exact ah_callV (av := [.int x1, .int x2]) (st := [.int 0, .ref x3]) d_A_together_5 ml_A_48 mi_X_together mv_X_together kc6 hb hE hdd hAA rfl (Nat.le_of_ble_eq_true rfl) k
theorem b_A_together_8 {d : Nat} {A : Nat → Prop} {h2 : ah_H} {o : Outcome} {h0 : ah_H} {h : ah_H} {s0 : Int32} {s1 : Int32} {s2 : Nat} (kt : s0 = 0 → ah_At mt_A_together d A h0 o h2 15 [] [.int s1, .ref s2] h) (kf : ¬ (s0 = 0) → ah_At mt_A_together d A h0 o h2 11 [] [.int s1, .ref s2] h) : ah_At mt_A_together d A h0 o h2 8 [] [.int s0, .int s1, .ref s2] h := by
  refine s_ifeq (t := 15) d_A_together_8 (by decide) (fun z => ?_) (fun z => ?_)
  · exact (kt z)
  · exact (kf z)
theorem b_A_together_11 {d : Nat} {A : Nat → Prop} {h2 : ah_H} {o : Outcome} {h0 : ah_H} {h : ah_H} {s0 : Int32} {s1 : Nat} (k : ah_At mt_A_together d A h0 o h2 16 [] [.long 1, .int s0, .ref s1] h) : ah_At mt_A_together d A h0 o h2 11 [] [.int s0, .ref s1] h := by
  refine s_lconst (v := 1) d_A_together_11 (by decide) ?_
  refine s_goto (t := 16) d_A_together_12 (by decide) ?_
  exact k
theorem b_A_together_15 {d : Nat} {A : Nat → Prop} {h2 : ah_H} {o : Outcome} {h0 : ah_H} {h : ah_H} {s0 : Int32} {s1 : Nat} (k : ah_At mt_A_together d A h0 o h2 16 [] [.long 0, .int s0, .ref s1] h) : ah_At mt_A_together d A h0 o h2 15 [] [.int s0, .ref s1] h := by
  refine s_lconst (v := 0) d_A_together_15 (by decide) ?_
  exact k
theorem b_A_together_16 {d : Nat} {A : Nat → Prop} {h2 : ah_H} {o : Outcome} {h0 : ah_H} {h : ah_H} {s0 : Int64} {s1 : Int32} {s2 : Nat} {j1 : Nat} (w1 : A s2) (i1 : ah_ix s1 j1) (e1 : (ah_sel h s2 101 j1).isSome = true) (k : ah_At mt_A_together d A h0 o h2 24 [] [] (ah_sto h s2 j1 (.long s0))) : ah_At mt_A_together d A h0 o h2 16 [] [.long s0, .int s1, .ref s2] h := by
  refine s_lastore d_A_together_16 w1 i1 e1 ?_
  refine s_goto (t := 24) d_A_together_17 (by decide) ?_
  exact k
theorem b_A_together_20 {d : Nat} {A : Nat → Prop} {h0 : ah_H} {h : ah_H} {s0 : Nat}  : ah_At mt_A_together d A h0 (.returned (some (.int 1))) h 20 [] [.ref s0] h := by
  refine s_astore (lv' := [(4, .ref s0)]) d_A_together_20 (by decide) rfl ?_
  refine s_iconst (v := 1) d_A_together_22 (by decide) ?_
  exact e_iret (ty := .int) d_A_together_23 rfl rfl
theorem b_A_together_24 {d : Nat} {A : Nat → Prop} {h0 : ah_H} {h : ah_H}   : ah_At mt_A_together d A h0 (.returned (some (.int 0))) h 24 [] [] h := by
  refine s_iconst (v := 0) d_A_together_24 (by decide) ?_
  exact e_iret (ty := .int) d_A_together_25 rfl rfl
theorem b_A_law_0 {d : Nat} {A : Nat → Prop} {h2 : ah_H} {o : Outcome} {h0 : ah_H} {h : ah_H} {x0 : Nat} {d' : Nat} {A' : Nat → Prop} {o' : Outcome} {h' : ah_H} (hE : ah_Ev mt_X_init d' A' [.ref h.1] (ah_new h (6, [.null, .null, .int 0])) o' h') (hdd : d' + 1 ≤ d) (hAA : ∀ q, A' q → A q) (k : ah_aft mt_A_law d A h0 o h2 4 [(0, .ref x0)] [.ref h.1] h' o') : ah_At mt_A_law d A h0 o h2 0 [(0, .ref x0)] [] h := by
  refine s_new (fs := [.null, .null, .int 0]) d_A_law_0 kc6 cl_A_8 kn6 ki6 rfl kd6 ?_
  refine s_dup d_A_law_3 rfl ?_
  exact ah_callI (av := []) (st := [.ref h.1]) d_A_law_4 ml_A_52 mi_X_init rfl rfl hE hdd hAA rfl (Nat.le_of_ble_eq_true rfl) k
theorem b_A_law_7 {d : Nat} {A : Nat → Prop} {h2 : ah_H} {o : Outcome} {h0 : ah_H} {h : ah_H} {x0 : Nat} {s0 : Nat} {d' : Nat} {A' : Nat → Prop} {o' : Outcome} {h' : ah_H} (hE : ah_Ev mt_M_init d' A' [.ref h.1] (ah_new h (7, [.int 0, .int 0, .int 0, .null, .null, .null, .null, .null, .null, .null, .null, .null, .null, .null, .null, .null, .long 0, .int 0, .null, .null, .int 0])) o' h') (hdd : d' + 1 ≤ d) (hAA : ∀ q, A' q → A q) (k : ah_aft mt_A_law d A h0 o h2 12 [(0, .ref x0), (1, .ref s0)] [.ref h.1] h' o') : ah_At mt_A_law d A h0 o h2 7 [(0, .ref x0)] [.ref s0] h := by
  refine s_astore_n (lv' := [(0, .ref x0), (1, .ref s0)]) d_A_law_7 rfl (by decide) rfl ?_
  refine s_new (fs := [.int 0, .int 0, .int 0, .null, .null, .null, .null, .null, .null, .null, .null, .null, .null, .null, .null, .null, .long 0, .int 0, .null, .null, .int 0]) d_A_law_8 kc7 cl_A_53 kn7 ki7 rfl kd7 ?_
  refine s_dup d_A_law_11 rfl ?_
  exact ah_callI (av := []) (st := [.ref h.1]) d_A_law_12 ml_A_55 mi_M_init rfl rfl hE hdd hAA rfl (Nat.le_of_ble_eq_true rfl) k
theorem b_A_law_15 {d : Nat} {A : Nat → Prop} {h2 : ah_H} {o : Outcome} {h0 : ah_H} {h : ah_H} {x0 : Nat} {x1 : Nat} {s0 : Nat} (k : ah_At mt_A_law d A h0 o h2 23 [(0, .ref x0), (1, .ref x1), (2, .ref s0), (3, .ref h.1), (4, .int 0)] [] (ah_new h (101, List.replicate 1 (.long 0)))) : ah_At mt_A_law d A h0 o h2 15 [(0, .ref x0), (1, .ref x1)] [.ref s0] h := by
  refine s_astore_n (lv' := [(0, .ref x0), (1, .ref x1), (2, .ref s0)]) d_A_law_15 rfl (by decide) rfl ?_
  refine s_iconst (v := 1) d_A_law_16 (by decide) ?_
  refine s_newarray (t := 101) (j := 1) ⟨rfl, by decide, rfl⟩ rfl ac_long d_A_law_17 ⟨by decide, by decide⟩ (by decide) ?_
  refine s_astore_n (lv' := [(0, .ref x0), (1, .ref x1), (2, .ref s0), (3, .ref h.1)]) d_A_law_19 rfl (by decide) rfl ?_
  refine s_iconst (v := 0) d_A_law_20 (by decide) ?_
  refine s_istore (lv' := [(0, .ref x0), (1, .ref x1), (2, .ref s0), (3, .ref h.1), (4, .int 0)]) d_A_law_21 (by decide) rfl ?_
  exact k
theorem b_A_law_23 {d : Nat} {A : Nat → Prop} {h2 : ah_H} {o : Outcome} {h0 : ah_H} {h : ah_H} {x0 : Nat} {x1 : Nat} {x2 : Nat} {x3 : Nat} {x4 : Int32} {j1 : Nat} (g1 : ah_len h x0 99 = some j1) (kt : ((Int32.ofNat j1) - 8) < x4 → ah_At mt_A_law d A h0 o h2 1068 [] [] h) (kf : ¬ (((Int32.ofNat j1) - 8) < x4) → ah_At mt_A_law d A h0 o h2 33 [(0, .ref x0), (1, .ref x1), (2, .ref x2), (3, .ref x3), (4, .int x4)] [] h) : ah_At mt_A_law d A h0 o h2 23 [(0, .ref x0), (1, .ref x1), (2, .ref x2), (3, .ref x3), (4, .int x4)] [] h := by
  refine s_iload d_A_law_23 rfl ?_
  refine s_aload_n d_A_law_25 rfl rfl ?_
  refine s_slen d_A_law_26 g1 rfl ?_
  refine s_bipush (v := 8) d_A_law_27 (by decide) ?_
  refine s_isub d_A_law_29 ?_
  refine s_if_icmpgt (t := 1068) d_A_law_30 (by decide) (fun z => ?_) (fun z => ?_)
  · exact ah_At.sub [] rfl (kt z)
  · exact (kf z)
theorem b_A_law_33 {d : Nat} {A : Nat → Prop} {h2 : ah_H} {o : Outcome} {h0 : ah_H} {h : ah_H} {x0 : Nat} {x1 : Nat} {x2 : Nat} {x3 : Nat} {x4 : Int32} {v1 : Int32} {j1 : Nat} (i1 : ah_ix x4 j1) (g1 : ah_sel h x0 99 j1 = some (.int v1)) (kd : (Int32.toInt (v1 &&& 15) < 0 ∨ 13 < Int32.toInt (v1 &&& 15)) → ah_At mt_A_law d A h0 o h2 1062 [(0, .ref x0), (1, .ref x1), (2, .ref x2), (3, .ref x3), (4, .int x4)] [] h) (k0 : v1 &&& 15 = 0 → ah_At mt_A_law d A h0 o h2 112 [(0, .ref x0), (1, .ref x1), (2, .ref x2), (3, .ref x3), (4, .int x4)] [] h) (k1 : v1 &&& 15 = 1 → ah_At mt_A_law d A h0 o h2 236 [(0, .ref x0), (1, .ref x1), (2, .ref x2), (3, .ref x3), (4, .int x4)] [] h) (k2 : v1 &&& 15 = 2 → ah_At mt_A_law d A h0 o h2 304 [(0, .ref x0), (1, .ref x1), (2, .ref x2), (3, .ref x3), (4, .int x4)] [] h) (k3 : v1 &&& 15 = 3 → ah_At mt_A_law d A h0 o h2 476 [(0, .ref x0), (1, .ref x1), (2, .ref x2), (3, .ref x3), (4, .int x4)] [] h) (k4 : v1 &&& 15 = 4 → ah_At mt_A_law d A h0 o h2 525 [(0, .ref x0), (1, .ref x1), (2, .ref x2), (3, .ref x3), (4, .int x4)] [] h) (k5 : v1 &&& 15 = 5 → ah_At mt_A_law d A h0 o h2 582 [(0, .ref x0), (1, .ref x1), (2, .ref x2), (3, .ref x3), (4, .int x4)] [] h) (k6 : v1 &&& 15 = 6 → ah_At mt_A_law d A h0 o h2 635 [(0, .ref x0), (1, .ref x1), (2, .ref x2), (3, .ref x3), (4, .int x4)] [] h) (k7 : v1 &&& 15 = 7 → ah_At mt_A_law d A h0 o h2 648 [(0, .ref x0), (1, .ref x1), (2, .ref x2), (3, .ref x3), (4, .int x4)] [] h) (k8 : v1 &&& 15 = 8 → ah_At mt_A_law d A h0 o h2 716 [(0, .ref x0), (1, .ref x1), (2, .ref x2), (3, .ref x3), (4, .int x4)] [] h) (k9 : v1 &&& 15 = 9 → ah_At mt_A_law d A h0 o h2 783 [(0, .ref x0), (1, .ref x1), (2, .ref x2), (3, .ref x3), (4, .int x4)] [] h) (k10 : v1 &&& 15 = 10 → ah_At mt_A_law d A h0 o h2 850 [(0, .ref x0), (1, .ref x1), (2, .ref x2), (3, .ref x3), (4, .int x4)] [] h) (k11 : v1 &&& 15 = 11 → ah_At mt_A_law d A h0 o h2 906 [(0, .ref x0), (1, .ref x1), (2, .ref x2), (3, .ref x3), (4, .int x4)] [] h) (k12 : v1 &&& 15 = 12 → ah_At mt_A_law d A h0 o h2 962 [(0, .ref x0), (1, .ref x1), (2, .ref x2), (3, .ref x3), (4, .int x4)] [] h) (k13 : v1 &&& 15 = 13 → ah_At mt_A_law d A h0 o h2 1037 [(0, .ref x0), (1, .ref x1), (2, .ref x2), (3, .ref x3), (4, .int x4)] [] h) : ah_At mt_A_law d A h0 o h2 33 [(0, .ref x0), (1, .ref x1), (2, .ref x2), (3, .ref x3), (4, .int x4)] [] h := by
  refine s_aload_n d_A_law_33 rfl rfl ?_
  refine s_iload d_A_law_34 rfl ?_
  refine s_saload d_A_law_36 i1 g1 ?_
  refine s_bipush (v := 15) d_A_law_37 (by decide) ?_
  refine s_iand d_A_law_39 ?_
  by_cases y0 : Int32.toInt (v1 &&& 15) < 0 ∨ 13 < Int32.toInt (v1 &&& 15)
  · refine ah_tabOut (t := 1062) d_A_law_40 y0 (by decide) ?_
    exact (kd y0)
  · rcases (show v1 &&& 15 = 0 ∨ v1 &&& 15 = 1 ∨ v1 &&& 15 = 2 ∨ v1 &&& 15 = 3 ∨ v1 &&& 15 = 4 ∨ v1 &&& 15 = 5 ∨ v1 &&& 15 = 6 ∨ v1 &&& 15 = 7 ∨ v1 &&& 15 = 8 ∨ v1 &&& 15 = 9 ∨ v1 &&& 15 = 10 ∨ v1 &&& 15 = 11 ∨ v1 &&& 15 = 12 ∨ v1 &&& 15 = 13 from by have q := ah_sw [0, 1, 2, 3, 4, 5, 6, 7, 8, 9, 10, 11, 12, 13] y0 (by decide); simp only [List.mem_cons, List.not_mem_nil, or_false] at q; exact q) with y | y | y | y | y | y | y | y | y | y | y | y | y | y
    · refine ah_tabIn (off := 72) (t := 112) d_A_law_40 (by rw [y]; decide) (by rw [y]; decide) (by rw [y]; decide +kernel) (by decide) ?_
      exact (k0 y)
    · refine ah_tabIn (off := 196) (t := 236) d_A_law_40 (by rw [y]; decide) (by rw [y]; decide) (by rw [y]; decide +kernel) (by decide) ?_
      exact (k1 y)
    · refine ah_tabIn (off := 264) (t := 304) d_A_law_40 (by rw [y]; decide) (by rw [y]; decide) (by rw [y]; decide +kernel) (by decide) ?_
      exact (k2 y)
    · refine ah_tabIn (off := 436) (t := 476) d_A_law_40 (by rw [y]; decide) (by rw [y]; decide) (by rw [y]; decide +kernel) (by decide) ?_
      exact (k3 y)
    · refine ah_tabIn (off := 485) (t := 525) d_A_law_40 (by rw [y]; decide) (by rw [y]; decide) (by rw [y]; decide +kernel) (by decide) ?_
      exact (k4 y)
    · refine ah_tabIn (off := 542) (t := 582) d_A_law_40 (by rw [y]; decide) (by rw [y]; decide) (by rw [y]; decide +kernel) (by decide) ?_
      exact (k5 y)
    · refine ah_tabIn (off := 595) (t := 635) d_A_law_40 (by rw [y]; decide) (by rw [y]; decide) (by rw [y]; decide +kernel) (by decide) ?_
      exact (k6 y)
    · refine ah_tabIn (off := 608) (t := 648) d_A_law_40 (by rw [y]; decide) (by rw [y]; decide) (by rw [y]; decide +kernel) (by decide) ?_
      exact (k7 y)
    · refine ah_tabIn (off := 676) (t := 716) d_A_law_40 (by rw [y]; decide) (by rw [y]; decide) (by rw [y]; decide +kernel) (by decide) ?_
      exact (k8 y)
    · refine ah_tabIn (off := 743) (t := 783) d_A_law_40 (by rw [y]; decide) (by rw [y]; decide) (by rw [y]; decide +kernel) (by decide) ?_
      exact (k9 y)
    · refine ah_tabIn (off := 810) (t := 850) d_A_law_40 (by rw [y]; decide) (by rw [y]; decide) (by rw [y]; decide +kernel) (by decide) ?_
      exact (k10 y)
    · refine ah_tabIn (off := 866) (t := 906) d_A_law_40 (by rw [y]; decide) (by rw [y]; decide) (by rw [y]; decide +kernel) (by decide) ?_
      exact (k11 y)
    · refine ah_tabIn (off := 922) (t := 962) d_A_law_40 (by rw [y]; decide) (by rw [y]; decide) (by rw [y]; decide +kernel) (by decide) ?_
      exact (k12 y)
    · refine ah_tabIn (off := 997) (t := 1037) d_A_law_40 (by rw [y]; decide) (by rw [y]; decide) (by rw [y]; decide +kernel) (by decide) ?_
      exact (k13 y)
theorem b_A_law_112 {d : Nat} {A : Nat → Prop} {h2 : ah_H} {o : Outcome} {h0 : ah_H} {h : ah_H} {x0 : Nat} {x1 : Nat} {x2 : Nat} {x3 : Nat} {x4 : Int32} {v1 : Int32} {j1 : Nat} {v2 : Int32} {j2 : Nat} {v3 : Int32} {j3 : Nat} {v4 : Int32} {j4 : Nat} {v5 : Int32} {j5 : Nat} {d' : Nat} {A' : Nat → Prop} {o' : Outcome} {h' : ah_H} (i1 : ah_ix (x4 + 1) j1) (g1 : ah_sel h x0 99 j1 = some (.int v1)) (i2 : ah_ix (x4 + 2) j2) (g2 : ah_sel h x0 99 j2 = some (.int v2)) (i3 : ah_ix (x4 + 3) j3) (g3 : ah_sel h x0 99 j3 = some (.int v3)) (i4 : ah_ix (x4 + 4) j4) (g4 : ah_sel h x0 99 j4 = some (.int v4)) (i5 : ah_ix (x4 + 5) j5) (g5 : ah_sel h x0 99 j5 = some (.int v5)) (hE : ah_Ev mt_A_wagon d' A' [.ref x1, .int v1, .long (((Int32.toInt64 v2) <<< ((Int32.toInt64 32) &&& 63)) ||| ((Int32.toInt64 v3) &&& 4294967295)), .int v4, .int v5, .ref x3] h o' h') (hdd : d' + 1 ≤ d) (hAA : ∀ q, A' q → A q) (k : ah_aft mt_A_law d A h0 o h2 154 [(0, .ref x0), (1, .ref x1), (2, .ref x2), (3, .ref x3), (4, .int x4)] [] h' o') : ah_At mt_A_law d A h0 o h2 112 [(0, .ref x0), (1, .ref x1), (2, .ref x2), (3, .ref x3), (4, .int x4)] [] h := by
  refine s_aload_n d_A_law_112 rfl rfl ?_
  refine s_aload_n d_A_law_113 rfl rfl ?_
  refine s_iload d_A_law_114 rfl ?_
  refine s_iconst (v := 1) d_A_law_116 (by decide) ?_
  refine s_iadd d_A_law_117 ?_
  refine s_saload d_A_law_118 i1 g1 ?_
  refine s_aload_n d_A_law_119 rfl rfl ?_
  refine s_iload d_A_law_120 rfl ?_
  refine s_iconst (v := 2) d_A_law_122 (by decide) ?_
  refine s_iadd d_A_law_123 ?_
  refine s_saload d_A_law_124 i2 g2 ?_
  refine s_i2l d_A_law_125 ?_
  refine s_bipush (v := 32) d_A_law_126 (by decide) ?_
  refine s_lshl d_A_law_128 ?_
  refine s_aload_n d_A_law_129 rfl rfl ?_
  refine s_iload d_A_law_130 rfl ?_
  refine s_iconst (v := 3) d_A_law_132 (by decide) ?_
  refine s_iadd d_A_law_133 ?_
  refine s_saload d_A_law_134 i3 g3 ?_
  refine s_i2l d_A_law_135 ?_
  refine s_ldc2_w (v := 4294967295) d_A_law_136 lc_A_56 ?_
  refine s_land d_A_law_139 ?_
  refine s_lor d_A_law_140 ?_
  refine s_aload_n d_A_law_141 rfl rfl ?_
  refine s_iload d_A_law_142 rfl ?_
  refine s_iconst (v := 4) d_A_law_144 (by decide) ?_
  refine s_iadd d_A_law_145 ?_
  refine s_saload d_A_law_146 i4 g4 ?_
  refine s_aload_n d_A_law_147 rfl rfl ?_
  refine s_iload d_A_law_148 rfl ?_
  refine s_iconst (v := 5) d_A_law_150 (by decide) ?_
  refine s_iadd d_A_law_151 ?_
  refine s_saload d_A_law_152 i5 g5 ?_
  refine s_aload_n d_A_law_153 rfl rfl ?_
  exact ah_callS (av := [.ref x1, .int v1, .long (((Int32.toInt64 v2) <<< ((Int32.toInt64 32) &&& 63)) ||| ((Int32.toInt64 v3) &&& 4294967295)), .int v4, .int v5, .ref x3]) (st := []) d_A_law_154 ml_A_58 ms_A_wagon hE hdd hAA rfl (Nat.le_of_ble_eq_true rfl) k
theorem b_A_law_157 {d : Nat} {A : Nat → Prop} {h2 : ah_H} {o : Outcome} {h0 : ah_H} {h : ah_H} {x0 : Nat} {x1 : Nat} {x2 : Nat} {x3 : Nat} {x4 : Int32} {s0 : Int32} {v1 : Int32} {j1 : Nat} {v2 : Int32} {j2 : Nat} {v3 : Int32} {j3 : Nat} {v4 : Int32} {j4 : Nat} {v5 : Int32} {j5 : Nat} {d' : Nat} {A' : Nat → Prop} {o' : Outcome} {h' : ah_H} (i1 : ah_ix (x4 + 1) j1) (g1 : ah_sel h x0 99 j1 = some (.int v1)) (i2 : ah_ix (x4 + 2) j2) (g2 : ah_sel h x0 99 j2 = some (.int v2)) (i3 : ah_ix (x4 + 3) j3) (g3 : ah_sel h x0 99 j3 = some (.int v3)) (i4 : ah_ix (x4 + 4) j4) (g4 : ah_sel h x0 99 j4 = some (.int v4)) (i5 : ah_ix (x4 + 5) j5) (g5 : ah_sel h x0 99 j5 = some (.int v5)) (hE : ah_Ev mt_M_wagon d' A' [.ref x2, .int v1, .long (((Int32.toInt64 v2) <<< ((Int32.toInt64 32) &&& 63)) ||| ((Int32.toInt64 v3) &&& 4294967295)), .int v4, .int v5] h o' h') (hdd : d' + 1 ≤ d) (hAA : ∀ q, A' q → A q) (k : ah_aft mt_A_law d A h0 o h2 200 [(0, .ref x0), (1, .ref x1), (2, .ref x2), (3, .ref x3), (4, .int x4), (5, .int s0)] [] h' o') (hb : (ah_len h x2 7).isSome = true) : ah_At mt_A_law d A h0 o h2 157 [(0, .ref x0), (1, .ref x1), (2, .ref x2), (3, .ref x3), (4, .int x4)] [.int s0] h := by
  refine s_istore (lv' := [(0, .ref x0), (1, .ref x1), (2, .ref x2), (3, .ref x3), (4, .int x4), (5, .int s0)]) d_A_law_157 (by decide) rfl ?_
  refine s_aload_n d_A_law_159 rfl rfl ?_
  refine s_aload_n d_A_law_160 rfl rfl ?_
  refine s_iload d_A_law_161 rfl ?_
  refine s_iconst (v := 1) d_A_law_163 (by decide) ?_
  refine s_iadd d_A_law_164 ?_
  refine s_saload d_A_law_165 i1 g1 ?_
  refine s_aload_n d_A_law_166 rfl rfl ?_
  refine s_iload d_A_law_167 rfl ?_
  refine s_iconst (v := 2) d_A_law_169 (by decide) ?_
  refine s_iadd d_A_law_170 ?_
  refine s_saload d_A_law_171 i2 g2 ?_
  refine s_i2l d_A_law_172 ?_
  refine s_bipush (v := 32) d_A_law_173 (by decide) ?_
  refine s_lshl d_A_law_175 ?_
  refine s_aload_n d_A_law_176 rfl rfl ?_
  refine s_iload d_A_law_177 rfl ?_
  refine s_iconst (v := 3) d_A_law_179 (by decide) ?_
  refine s_iadd d_A_law_180 ?_
  refine s_saload d_A_law_181 i3 g3 ?_
  refine s_i2l d_A_law_182 ?_
  refine s_ldc2_w (v := 4294967295) d_A_law_183 lc_A_56 ?_
  refine s_land d_A_law_186 ?_
  refine s_lor d_A_law_187 ?_
  refine s_aload_n d_A_law_188 rfl rfl ?_
  refine s_iload d_A_law_189 rfl ?_
  refine s_iconst (v := 4) d_A_law_191 (by decide) ?_
  refine s_iadd d_A_law_192 ?_
  refine s_saload d_A_law_193 i4 g4 ?_
  refine s_aload_n d_A_law_194 rfl rfl ?_
  refine s_iload d_A_law_195 rfl ?_
  refine s_iconst (v := 5) d_A_law_197 (by decide) ?_
  refine s_iadd d_A_law_198 ?_
  refine s_saload d_A_law_199 i5 g5 ?_
  exact ah_callV (av := [.int v1, .long (((Int32.toInt64 v2) <<< ((Int32.toInt64 32) &&& 63)) ||| ((Int32.toInt64 v3) &&& 4294967295)), .int v4, .int v5]) (st := []) d_A_law_200 ml_A_63 mi_M_wagon mv_M_wagon kc7 hb hE hdd hAA rfl (Nat.le_of_ble_eq_true rfl) k
theorem b_A_law_203 {d : Nat} {A : Nat → Prop} {h2 : ah_H} {o : Outcome} {h0 : ah_H} {h : ah_H} {x0 : Nat} {x1 : Nat} {x2 : Nat} {x3 : Nat} {x4 : Int32} {x5 : Int32} {s0 : Int32} {d' : Nat} {A' : Nat → Prop} {o' : Outcome} {h' : ah_H} (hE : ah_Ev mt_M_thrown d' A' [.ref x2] h o' h') (hdd : d' + 1 ≤ d) (hAA : ∀ q, A' q → A q) (k : ah_aft mt_A_law d A h0 o h2 206 [(0, .ref x0), (1, .ref x1), (2, .ref x2), (3, .ref x3), (4, .int x4), (5, .int x5), (6, .int s0)] [] h' o') (hb : (ah_len h x2 7).isSome = true) : ah_At mt_A_law d A h0 o h2 203 [(0, .ref x0), (1, .ref x1), (2, .ref x2), (3, .ref x3), (4, .int x4), (5, .int x5)] [.int s0] h := by
  refine s_istore (lv' := [(0, .ref x0), (1, .ref x1), (2, .ref x2), (3, .ref x3), (4, .int x4), (5, .int x5), (6, .int s0)]) d_A_law_203 (by decide) rfl ?_
  refine s_aload_n d_A_law_205 rfl rfl ?_
  exact ah_callV (av := []) (st := []) d_A_law_206 ml_A_64 mi_M_thrown mv_M_thrown kc7 hb hE hdd hAA rfl (Nat.le_of_ble_eq_true rfl) k
theorem b_A_law_209 {d : Nat} {A : Nat → Prop} {h2 : ah_H} {o : Outcome} {h0 : ah_H} {h : ah_H} {x0 : Nat} {x1 : Nat} {x2 : Nat} {x3 : Nat} {x4 : Int32} {x5 : Int32} {x6 : Int32} {s0 : Int32} (kt : s0 = x5 → ah_At mt_A_law d A h0 o h2 216 [(0, .ref x0), (1, .ref x1), (2, .ref x2), (3, .ref x3), (4, .int x4), (5, .int x5), (6, .int x6)] [] h) (kf : ¬ (s0 = x5) → ah_At mt_A_law d A h0 o h2 214 [] [] h) : ah_At mt_A_law d A h0 o h2 209 [(0, .ref x0), (1, .ref x1), (2, .ref x2), (3, .ref x3), (4, .int x4), (5, .int x5), (6, .int x6)] [.int s0] h := by
  refine s_iload d_A_law_209 rfl ?_
  refine s_if_icmpeq (t := 216) d_A_law_211 (by decide) (fun z => ?_) (fun z => ?_)
  · exact (kt z)
  · exact ah_At.sub [] rfl (kf z)
theorem b_A_law_214 {d : Nat} {A : Nat → Prop} {h0 : ah_H} {h : ah_H}   : ah_At mt_A_law d A h0 (.returned (some (.int 0))) h 214 [] [] h := by
  refine s_iconst (v := 0) d_A_law_214 (by decide) ?_
  exact e_iret (ty := .boolean) d_A_law_215 rfl (by decide +kernel)
theorem b_A_law_216 {d : Nat} {A : Nat → Prop} {h2 : ah_H} {o : Outcome} {h0 : ah_H} {h : ah_H} {x0 : Nat} {x1 : Nat} {x2 : Nat} {x3 : Nat} {x4 : Int32} {x5 : Int32} {x6 : Int32} (kt : ¬ x5 = 0 → ah_At mt_A_law d A h0 o h2 233 [(0, .ref x0), (1, .ref x1), (2, .ref x2), (3, .ref x3), (4, .int x4)] [] h) (kf : ¬ (¬ x5 = 0) → ah_At mt_A_law d A h0 o h2 221 [(0, .ref x0), (1, .ref x1), (2, .ref x2), (3, .ref x3), (4, .int x4), (6, .int x6)] [] h) : ah_At mt_A_law d A h0 o h2 216 [(0, .ref x0), (1, .ref x1), (2, .ref x2), (3, .ref x3), (4, .int x4), (5, .int x5), (6, .int x6)] [] h := by
  refine s_iload d_A_law_216 rfl ?_
  refine s_ifne (t := 233) d_A_law_218 (by decide) (fun z => ?_) (fun z => ?_)
  · exact ah_At.sub [0, 1, 2, 3, 4] rfl (kt z)
  · exact ah_At.sub [0, 1, 2, 3, 4, 6] rfl (kf z)
theorem b_A_law_221 {d : Nat} {A : Nat → Prop} {h2 : ah_H} {o : Outcome} {h0 : ah_H} {h : ah_H} {x0 : Nat} {x1 : Nat} {x2 : Nat} {x3 : Nat} {x4 : Int32} {x6 : Int32} {v1 : Int64} {j1 : Nat} (i1 : ah_ix 0 j1) (g1 : ah_sel h x3 101 j1 = some (.long v1)) (kt : (lg_cmp v1 (Int32.toInt64 x6)) = 0 → ah_At mt_A_law d A h0 o h2 233 [(0, .ref x0), (1, .ref x1), (2, .ref x2), (3, .ref x3), (4, .int x4)] [] h) (kf : ¬ ((lg_cmp v1 (Int32.toInt64 x6)) = 0) → ah_At mt_A_law d A h0 o h2 231 [] [] h) : ah_At mt_A_law d A h0 o h2 221 [(0, .ref x0), (1, .ref x1), (2, .ref x2), (3, .ref x3), (4, .int x4), (6, .int x6)] [] h := by
  refine s_aload_n d_A_law_221 rfl rfl ?_
  refine s_iconst (v := 0) d_A_law_222 (by decide) ?_
  refine s_laload d_A_law_223 i1 g1 ?_
  refine s_iload d_A_law_224 rfl ?_
  refine s_i2l d_A_law_226 ?_
  refine s_lcmp d_A_law_227 ?_
  refine s_ifeq (t := 233) d_A_law_228 (by decide) (fun z => ?_) (fun z => ?_)
  · exact ah_At.sub [0, 1, 2, 3, 4] rfl (kt z)
  · exact ah_At.sub [] rfl (kf z)
theorem b_A_law_231 {d : Nat} {A : Nat → Prop} {h0 : ah_H} {h : ah_H}   : ah_At mt_A_law d A h0 (.returned (some (.int 0))) h 231 [] [] h := by
  refine s_iconst (v := 0) d_A_law_231 (by decide) ?_
  exact e_iret (ty := .boolean) d_A_law_232 rfl (by decide +kernel)
theorem b_A_law_233 {d : Nat} {A : Nat → Prop} {h2 : ah_H} {o : Outcome} {h0 : ah_H} {h : ah_H} {x0 : Nat} {x1 : Nat} {x2 : Nat} {x3 : Nat} {x4 : Int32} (k : ah_At mt_A_law d A h0 o h2 1062 [(0, .ref x0), (1, .ref x1), (2, .ref x2), (3, .ref x3), (4, .int x4)] [] h) : ah_At mt_A_law d A h0 o h2 233 [(0, .ref x0), (1, .ref x1), (2, .ref x2), (3, .ref x3), (4, .int x4)] [] h := by
  refine s_goto (t := 1062) d_A_law_233 (by decide) ?_
  exact k
theorem b_A_law_236 {d : Nat} {A : Nat → Prop} {h2 : ah_H} {o : Outcome} {h0 : ah_H} {h : ah_H} {x0 : Nat} {x1 : Nat} {x2 : Nat} {x3 : Nat} {x4 : Int32} {v1 : Int32} {j1 : Nat} {v2 : Int32} {j2 : Nat} {d' : Nat} {A' : Nat → Prop} {o' : Outcome} {h' : ah_H} (i1 : ah_ix (x4 + 1) j1) (g1 : ah_sel h x0 99 j1 = some (.int v1)) (i2 : ah_ix (x4 + 2) j2) (g2 : ah_sel h x0 99 j2 = some (.int v2)) (hE : ah_Ev mt_A_pattern d' A' [.ref x1, .int v1, .int v2, .ref x3] h o' h') (hdd : d' + 1 ≤ d) (hAA : ∀ q, A' q → A q) (k : ah_aft mt_A_law d A h0 o h2 250 [(0, .ref x0), (1, .ref x1), (2, .ref x2), (3, .ref x3), (4, .int x4)] [] h' o') : ah_At mt_A_law d A h0 o h2 236 [(0, .ref x0), (1, .ref x1), (2, .ref x2), (3, .ref x3), (4, .int x4)] [] h := by
  refine s_aload_n d_A_law_236 rfl rfl ?_
  refine s_aload_n d_A_law_237 rfl rfl ?_
  refine s_iload d_A_law_238 rfl ?_
  refine s_iconst (v := 1) d_A_law_240 (by decide) ?_
  refine s_iadd d_A_law_241 ?_
  refine s_saload d_A_law_242 i1 g1 ?_
  refine s_aload_n d_A_law_243 rfl rfl ?_
  refine s_iload d_A_law_244 rfl ?_
  refine s_iconst (v := 2) d_A_law_246 (by decide) ?_
  refine s_iadd d_A_law_247 ?_
  refine s_saload d_A_law_248 i2 g2 ?_
  refine s_aload_n d_A_law_249 rfl rfl ?_
  exact ah_callS (av := [.ref x1, .int v1, .int v2, .ref x3]) (st := []) d_A_law_250 ml_A_68 ms_A_pattern hE hdd hAA rfl (Nat.le_of_ble_eq_true rfl) k
theorem b_A_law_253 {d : Nat} {A : Nat → Prop} {h2 : ah_H} {o : Outcome} {h0 : ah_H} {h : ah_H} {x0 : Nat} {x1 : Nat} {x2 : Nat} {x3 : Nat} {x4 : Int32} {s0 : Int32} {v1 : Int32} {j1 : Nat} {v2 : Int32} {j2 : Nat} {d' : Nat} {A' : Nat → Prop} {o' : Outcome} {h' : ah_H} (i1 : ah_ix (x4 + 1) j1) (g1 : ah_sel h x0 99 j1 = some (.int v1)) (i2 : ah_ix (x4 + 2) j2) (g2 : ah_sel h x0 99 j2 = some (.int v2)) (hE : ah_Ev mt_M_pattern d' A' [.ref x2, .int v1, .int v2] h o' h') (hdd : d' + 1 ≤ d) (hAA : ∀ q, A' q → A q) (k : ah_aft mt_A_law d A h0 o h2 268 [(0, .ref x0), (1, .ref x1), (2, .ref x2), (3, .ref x3), (4, .int x4), (5, .int s0)] [] h' o') (hb : (ah_len h x2 7).isSome = true) : ah_At mt_A_law d A h0 o h2 253 [(0, .ref x0), (1, .ref x1), (2, .ref x2), (3, .ref x3), (4, .int x4)] [.int s0] h := by
  refine s_istore (lv' := [(0, .ref x0), (1, .ref x1), (2, .ref x2), (3, .ref x3), (4, .int x4), (5, .int s0)]) d_A_law_253 (by decide) rfl ?_
  refine s_aload_n d_A_law_255 rfl rfl ?_
  refine s_aload_n d_A_law_256 rfl rfl ?_
  refine s_iload d_A_law_257 rfl ?_
  refine s_iconst (v := 1) d_A_law_259 (by decide) ?_
  refine s_iadd d_A_law_260 ?_
  refine s_saload d_A_law_261 i1 g1 ?_
  refine s_aload_n d_A_law_262 rfl rfl ?_
  refine s_iload d_A_law_263 rfl ?_
  refine s_iconst (v := 2) d_A_law_265 (by decide) ?_
  refine s_iadd d_A_law_266 ?_
  refine s_saload d_A_law_267 i2 g2 ?_
  exact ah_callV (av := [.int v1, .int v2]) (st := []) d_A_law_268 ml_A_71 mi_M_pattern mv_M_pattern kc7 hb hE hdd hAA rfl (Nat.le_of_ble_eq_true rfl) k
theorem b_A_law_271 {d : Nat} {A : Nat → Prop} {h2 : ah_H} {o : Outcome} {h0 : ah_H} {h : ah_H} {x0 : Nat} {x1 : Nat} {x2 : Nat} {x3 : Nat} {x4 : Int32} {x5 : Int32} {s0 : Int32} {d' : Nat} {A' : Nat → Prop} {o' : Outcome} {h' : ah_H} (hE : ah_Ev mt_M_thrown d' A' [.ref x2] h o' h') (hdd : d' + 1 ≤ d) (hAA : ∀ q, A' q → A q) (k : ah_aft mt_A_law d A h0 o h2 274 [(0, .ref x0), (1, .ref x1), (2, .ref x2), (3, .ref x3), (4, .int x4), (5, .int x5), (6, .int s0)] [] h' o') (hb : (ah_len h x2 7).isSome = true) : ah_At mt_A_law d A h0 o h2 271 [(0, .ref x0), (1, .ref x1), (2, .ref x2), (3, .ref x3), (4, .int x4), (5, .int x5)] [.int s0] h := by
  refine s_istore (lv' := [(0, .ref x0), (1, .ref x1), (2, .ref x2), (3, .ref x3), (4, .int x4), (5, .int x5), (6, .int s0)]) d_A_law_271 (by decide) rfl ?_
  refine s_aload_n d_A_law_273 rfl rfl ?_
  exact ah_callV (av := []) (st := []) d_A_law_274 ml_A_64 mi_M_thrown mv_M_thrown kc7 hb hE hdd hAA rfl (Nat.le_of_ble_eq_true rfl) k
theorem b_A_law_277 {d : Nat} {A : Nat → Prop} {h2 : ah_H} {o : Outcome} {h0 : ah_H} {h : ah_H} {x0 : Nat} {x1 : Nat} {x2 : Nat} {x3 : Nat} {x4 : Int32} {x5 : Int32} {x6 : Int32} {s0 : Int32} (kt : s0 = x5 → ah_At mt_A_law d A h0 o h2 284 [(0, .ref x0), (1, .ref x1), (2, .ref x2), (3, .ref x3), (4, .int x4), (5, .int x5), (6, .int x6)] [] h) (kf : ¬ (s0 = x5) → ah_At mt_A_law d A h0 o h2 282 [] [] h) : ah_At mt_A_law d A h0 o h2 277 [(0, .ref x0), (1, .ref x1), (2, .ref x2), (3, .ref x3), (4, .int x4), (5, .int x5), (6, .int x6)] [.int s0] h := by
  refine s_iload d_A_law_277 rfl ?_
  refine s_if_icmpeq (t := 284) d_A_law_279 (by decide) (fun z => ?_) (fun z => ?_)
  · exact (kt z)
  · exact ah_At.sub [] rfl (kf z)
theorem b_A_law_282 {d : Nat} {A : Nat → Prop} {h0 : ah_H} {h : ah_H}   : ah_At mt_A_law d A h0 (.returned (some (.int 0))) h 282 [] [] h := by
  refine s_iconst (v := 0) d_A_law_282 (by decide) ?_
  exact e_iret (ty := .boolean) d_A_law_283 rfl (by decide +kernel)
theorem b_A_law_284 {d : Nat} {A : Nat → Prop} {h2 : ah_H} {o : Outcome} {h0 : ah_H} {h : ah_H} {x0 : Nat} {x1 : Nat} {x2 : Nat} {x3 : Nat} {x4 : Int32} {x5 : Int32} {x6 : Int32} (kt : ¬ x5 = 0 → ah_At mt_A_law d A h0 o h2 301 [(0, .ref x0), (1, .ref x1), (2, .ref x2), (3, .ref x3), (4, .int x4)] [] h) (kf : ¬ (¬ x5 = 0) → ah_At mt_A_law d A h0 o h2 289 [(0, .ref x0), (1, .ref x1), (2, .ref x2), (3, .ref x3), (4, .int x4), (6, .int x6)] [] h) : ah_At mt_A_law d A h0 o h2 284 [(0, .ref x0), (1, .ref x1), (2, .ref x2), (3, .ref x3), (4, .int x4), (5, .int x5), (6, .int x6)] [] h := by
  refine s_iload d_A_law_284 rfl ?_
  refine s_ifne (t := 301) d_A_law_286 (by decide) (fun z => ?_) (fun z => ?_)
  · exact ah_At.sub [0, 1, 2, 3, 4] rfl (kt z)
  · exact ah_At.sub [0, 1, 2, 3, 4, 6] rfl (kf z)
theorem b_A_law_289 {d : Nat} {A : Nat → Prop} {h2 : ah_H} {o : Outcome} {h0 : ah_H} {h : ah_H} {x0 : Nat} {x1 : Nat} {x2 : Nat} {x3 : Nat} {x4 : Int32} {x6 : Int32} {v1 : Int64} {j1 : Nat} (i1 : ah_ix 0 j1) (g1 : ah_sel h x3 101 j1 = some (.long v1)) (kt : (lg_cmp v1 (Int32.toInt64 x6)) = 0 → ah_At mt_A_law d A h0 o h2 301 [(0, .ref x0), (1, .ref x1), (2, .ref x2), (3, .ref x3), (4, .int x4)] [] h) (kf : ¬ ((lg_cmp v1 (Int32.toInt64 x6)) = 0) → ah_At mt_A_law d A h0 o h2 299 [] [] h) : ah_At mt_A_law d A h0 o h2 289 [(0, .ref x0), (1, .ref x1), (2, .ref x2), (3, .ref x3), (4, .int x4), (6, .int x6)] [] h := by
  refine s_aload_n d_A_law_289 rfl rfl ?_
  refine s_iconst (v := 0) d_A_law_290 (by decide) ?_
  refine s_laload d_A_law_291 i1 g1 ?_
  refine s_iload d_A_law_292 rfl ?_
  refine s_i2l d_A_law_294 ?_
  refine s_lcmp d_A_law_295 ?_
  refine s_ifeq (t := 301) d_A_law_296 (by decide) (fun z => ?_) (fun z => ?_)
  · exact ah_At.sub [0, 1, 2, 3, 4] rfl (kt z)
  · exact ah_At.sub [] rfl (kf z)
theorem b_A_law_299 {d : Nat} {A : Nat → Prop} {h0 : ah_H} {h : ah_H}   : ah_At mt_A_law d A h0 (.returned (some (.int 0))) h 299 [] [] h := by
  refine s_iconst (v := 0) d_A_law_299 (by decide) ?_
  exact e_iret (ty := .boolean) d_A_law_300 rfl (by decide +kernel)
theorem b_A_law_301 {d : Nat} {A : Nat → Prop} {h2 : ah_H} {o : Outcome} {h0 : ah_H} {h : ah_H} {x0 : Nat} {x1 : Nat} {x2 : Nat} {x3 : Nat} {x4 : Int32} (k : ah_At mt_A_law d A h0 o h2 1062 [(0, .ref x0), (1, .ref x1), (2, .ref x2), (3, .ref x3), (4, .int x4)] [] h) : ah_At mt_A_law d A h0 o h2 301 [(0, .ref x0), (1, .ref x1), (2, .ref x2), (3, .ref x3), (4, .int x4)] [] h := by
  refine s_goto (t := 1062) d_A_law_301 (by decide) ?_
  exact k
theorem b_A_law_304 {d : Nat} {A : Nat → Prop} {h2 : ah_H} {o : Outcome} {h0 : ah_H} {h : ah_H} {x0 : Nat} {x1 : Nat} {x2 : Nat} {x3 : Nat} {x4 : Int32} {v1 : Int32} {j1 : Nat} {v2 : Int32} {j2 : Nat} {v3 : Int32} {j3 : Nat} {v4 : Int32} {j4 : Nat} {v5 : Int32} {j5 : Nat} {v6 : Int32} {j6 : Nat} {v7 : Int32} {j7 : Nat} {d' : Nat} {A' : Nat → Prop} {o' : Outcome} {h' : ah_H} (i1 : ah_ix (x4 + 1) j1) (g1 : ah_sel h x0 99 j1 = some (.int v1)) (i2 : ah_ix (x4 + 2) j2) (g2 : ah_sel h x0 99 j2 = some (.int v2)) (i3 : ah_ix (x4 + 3) j3) (g3 : ah_sel h x0 99 j3 = some (.int v3)) (i4 : ah_ix (x4 + 4) j4) (g4 : ah_sel h x0 99 j4 = some (.int v4)) (i5 : ah_ix (x4 + 5) j5) (g5 : ah_sel h x0 99 j5 = some (.int v5)) (i6 : ah_ix (x4 + 6) j6) (g6 : ah_sel h x0 99 j6 = some (.int v6)) (i7 : ah_ix (x4 + 7) j7) (g7 : ah_sel h x0 99 j7 = some (.int v7)) (hE : ah_Ev mt_A_box d' A' [.ref x1, .int v1, .long (((Int32.toInt64 v2) <<< ((Int32.toInt64 32) &&& 63)) ||| ((Int32.toInt64 v3) &&& 4294967295)), .int v4, .int v5, .long (((Int32.toInt64 v6) <<< ((Int32.toInt64 32) &&& 63)) ||| ((Int32.toInt64 v7) &&& 4294967295)), .ref x3] h o' h') (hdd : d' + 1 ≤ d) (hAA : ∀ q, A' q → A q) (k : ah_aft mt_A_law d A h0 o h2 370 [(0, .ref x0), (1, .ref x1), (2, .ref x2), (3, .ref x3), (4, .int x4)] [] h' o') : ah_At mt_A_law d A h0 o h2 304 [(0, .ref x0), (1, .ref x1), (2, .ref x2), (3, .ref x3), (4, .int x4)] [] h := by
  refine s_aload_n d_A_law_304 rfl rfl ?_
  refine s_aload_n d_A_law_305 rfl rfl ?_
  refine s_iload d_A_law_306 rfl ?_
  refine s_iconst (v := 1) d_A_law_308 (by decide) ?_
  refine s_iadd d_A_law_309 ?_
  refine s_saload d_A_law_310 i1 g1 ?_
  refine s_aload_n d_A_law_311 rfl rfl ?_
  refine s_iload d_A_law_312 rfl ?_
  refine s_iconst (v := 2) d_A_law_314 (by decide) ?_
  refine s_iadd d_A_law_315 ?_
  refine s_saload d_A_law_316 i2 g2 ?_
  refine s_i2l d_A_law_317 ?_
  refine s_bipush (v := 32) d_A_law_318 (by decide) ?_
  refine s_lshl d_A_law_320 ?_
  refine s_aload_n d_A_law_321 rfl rfl ?_
  refine s_iload d_A_law_322 rfl ?_
  refine s_iconst (v := 3) d_A_law_324 (by decide) ?_
  refine s_iadd d_A_law_325 ?_
  refine s_saload d_A_law_326 i3 g3 ?_
  refine s_i2l d_A_law_327 ?_
  refine s_ldc2_w (v := 4294967295) d_A_law_328 lc_A_56 ?_
  refine s_land d_A_law_331 ?_
  refine s_lor d_A_law_332 ?_
  refine s_aload_n d_A_law_333 rfl rfl ?_
  refine s_iload d_A_law_334 rfl ?_
  refine s_iconst (v := 4) d_A_law_336 (by decide) ?_
  refine s_iadd d_A_law_337 ?_
  refine s_saload d_A_law_338 i4 g4 ?_
  refine s_aload_n d_A_law_339 rfl rfl ?_
  refine s_iload d_A_law_340 rfl ?_
  refine s_iconst (v := 5) d_A_law_342 (by decide) ?_
  refine s_iadd d_A_law_343 ?_
  refine s_saload d_A_law_344 i5 g5 ?_
  refine s_aload_n d_A_law_345 rfl rfl ?_
  refine s_iload d_A_law_346 rfl ?_
  refine s_bipush (v := 6) d_A_law_348 (by decide) ?_
  refine s_iadd d_A_law_350 ?_
  refine s_saload d_A_law_351 i6 g6 ?_
  refine s_i2l d_A_law_352 ?_
  refine s_bipush (v := 32) d_A_law_353 (by decide) ?_
  refine s_lshl d_A_law_355 ?_
  refine s_aload_n d_A_law_356 rfl rfl ?_
  refine s_iload d_A_law_357 rfl ?_
  refine s_bipush (v := 7) d_A_law_359 (by decide) ?_
  refine s_iadd d_A_law_361 ?_
  refine s_saload d_A_law_362 i7 g7 ?_
  refine s_i2l d_A_law_363 ?_
  refine s_ldc2_w (v := 4294967295) d_A_law_364 lc_A_56 ?_
  refine s_land d_A_law_367 ?_
  refine s_lor d_A_law_368 ?_
  refine s_aload_n d_A_law_369 rfl rfl ?_
  exact ah_callS (av := [.ref x1, .int v1, .long (((Int32.toInt64 v2) <<< ((Int32.toInt64 32) &&& 63)) ||| ((Int32.toInt64 v3) &&& 4294967295)), .int v4, .int v5, .long (((Int32.toInt64 v6) <<< ((Int32.toInt64 32) &&& 63)) ||| ((Int32.toInt64 v7) &&& 4294967295)), .ref x3]) (st := []) d_A_law_370 ml_A_72 ms_A_box hE hdd hAA rfl (Nat.le_of_ble_eq_true rfl) k
theorem b_A_law_373 {d : Nat} {A : Nat → Prop} {h2 : ah_H} {o : Outcome} {h0 : ah_H} {h : ah_H} {x0 : Nat} {x1 : Nat} {x2 : Nat} {x3 : Nat} {x4 : Int32} {s0 : Int32} {v1 : Int32} {j1 : Nat} {v2 : Int32} {j2 : Nat} {v3 : Int32} {j3 : Nat} {v4 : Int32} {j4 : Nat} {v5 : Int32} {j5 : Nat} {v6 : Int32} {j6 : Nat} {v7 : Int32} {j7 : Nat} {d' : Nat} {A' : Nat → Prop} {o' : Outcome} {h' : ah_H} (i1 : ah_ix (x4 + 1) j1) (g1 : ah_sel h x0 99 j1 = some (.int v1)) (i2 : ah_ix (x4 + 2) j2) (g2 : ah_sel h x0 99 j2 = some (.int v2)) (i3 : ah_ix (x4 + 3) j3) (g3 : ah_sel h x0 99 j3 = some (.int v3)) (i4 : ah_ix (x4 + 4) j4) (g4 : ah_sel h x0 99 j4 = some (.int v4)) (i5 : ah_ix (x4 + 5) j5) (g5 : ah_sel h x0 99 j5 = some (.int v5)) (i6 : ah_ix (x4 + 6) j6) (g6 : ah_sel h x0 99 j6 = some (.int v6)) (i7 : ah_ix (x4 + 7) j7) (g7 : ah_sel h x0 99 j7 = some (.int v7)) (hE : ah_Ev mt_M_box d' A' [.ref x2, .int v1, .long (((Int32.toInt64 v2) <<< ((Int32.toInt64 32) &&& 63)) ||| ((Int32.toInt64 v3) &&& 4294967295)), .int v4, .int v5, .long (((Int32.toInt64 v6) <<< ((Int32.toInt64 32) &&& 63)) ||| ((Int32.toInt64 v7) &&& 4294967295))] h o' h') (hdd : d' + 1 ≤ d) (hAA : ∀ q, A' q → A q) (k : ah_aft mt_A_law d A h0 o h2 440 [(0, .ref x0), (1, .ref x1), (2, .ref x2), (3, .ref x3), (4, .int x4), (5, .int s0)] [] h' o') (hb : (ah_len h x2 7).isSome = true) : ah_At mt_A_law d A h0 o h2 373 [(0, .ref x0), (1, .ref x1), (2, .ref x2), (3, .ref x3), (4, .int x4)] [.int s0] h := by
  refine s_istore (lv' := [(0, .ref x0), (1, .ref x1), (2, .ref x2), (3, .ref x3), (4, .int x4), (5, .int s0)]) d_A_law_373 (by decide) rfl ?_
  refine s_aload_n d_A_law_375 rfl rfl ?_
  refine s_aload_n d_A_law_376 rfl rfl ?_
  refine s_iload d_A_law_377 rfl ?_
  refine s_iconst (v := 1) d_A_law_379 (by decide) ?_
  refine s_iadd d_A_law_380 ?_
  refine s_saload d_A_law_381 i1 g1 ?_
  refine s_aload_n d_A_law_382 rfl rfl ?_
  refine s_iload d_A_law_383 rfl ?_
  refine s_iconst (v := 2) d_A_law_385 (by decide) ?_
  refine s_iadd d_A_law_386 ?_
  refine s_saload d_A_law_387 i2 g2 ?_
  refine s_i2l d_A_law_388 ?_
  refine s_bipush (v := 32) d_A_law_389 (by decide) ?_
  refine s_lshl d_A_law_391 ?_
  refine s_aload_n d_A_law_392 rfl rfl ?_
  refine s_iload d_A_law_393 rfl ?_
  refine s_iconst (v := 3) d_A_law_395 (by decide) ?_
  refine s_iadd d_A_law_396 ?_
  refine s_saload d_A_law_397 i3 g3 ?_
  refine s_i2l d_A_law_398 ?_
  refine s_ldc2_w (v := 4294967295) d_A_law_399 lc_A_56 ?_
  refine s_land d_A_law_402 ?_
  refine s_lor d_A_law_403 ?_
  refine s_aload_n d_A_law_404 rfl rfl ?_
  refine s_iload d_A_law_405 rfl ?_
  refine s_iconst (v := 4) d_A_law_407 (by decide) ?_
  refine s_iadd d_A_law_408 ?_
  refine s_saload d_A_law_409 i4 g4 ?_
  refine s_aload_n d_A_law_410 rfl rfl ?_
  refine s_iload d_A_law_411 rfl ?_
  refine s_iconst (v := 5) d_A_law_413 (by decide) ?_
  refine s_iadd d_A_law_414 ?_
  refine s_saload d_A_law_415 i5 g5 ?_
  refine s_aload_n d_A_law_416 rfl rfl ?_
  refine s_iload d_A_law_417 rfl ?_
  refine s_bipush (v := 6) d_A_law_419 (by decide) ?_
  refine s_iadd d_A_law_421 ?_
  refine s_saload d_A_law_422 i6 g6 ?_
  refine s_i2l d_A_law_423 ?_
  refine s_bipush (v := 32) d_A_law_424 (by decide) ?_
  refine s_lshl d_A_law_426 ?_
  refine s_aload_n d_A_law_427 rfl rfl ?_
  refine s_iload d_A_law_428 rfl ?_
  refine s_bipush (v := 7) d_A_law_430 (by decide) ?_
  refine s_iadd d_A_law_432 ?_
  refine s_saload d_A_law_433 i7 g7 ?_
  refine s_i2l d_A_law_434 ?_
  refine s_ldc2_w (v := 4294967295) d_A_law_435 lc_A_56 ?_
  refine s_land d_A_law_438 ?_
  refine s_lor d_A_law_439 ?_
  exact ah_callV (av := [.int v1, .long (((Int32.toInt64 v2) <<< ((Int32.toInt64 32) &&& 63)) ||| ((Int32.toInt64 v3) &&& 4294967295)), .int v4, .int v5, .long (((Int32.toInt64 v6) <<< ((Int32.toInt64 32) &&& 63)) ||| ((Int32.toInt64 v7) &&& 4294967295))]) (st := []) d_A_law_440 ml_A_75 mi_M_box mv_M_box kc7 hb hE hdd hAA rfl (Nat.le_of_ble_eq_true rfl) k
theorem b_A_law_443 {d : Nat} {A : Nat → Prop} {h2 : ah_H} {o : Outcome} {h0 : ah_H} {h : ah_H} {x0 : Nat} {x1 : Nat} {x2 : Nat} {x3 : Nat} {x4 : Int32} {x5 : Int32} {s0 : Int32} {d' : Nat} {A' : Nat → Prop} {o' : Outcome} {h' : ah_H} (hE : ah_Ev mt_M_thrown d' A' [.ref x2] h o' h') (hdd : d' + 1 ≤ d) (hAA : ∀ q, A' q → A q) (k : ah_aft mt_A_law d A h0 o h2 446 [(0, .ref x0), (1, .ref x1), (2, .ref x2), (3, .ref x3), (4, .int x4), (5, .int x5), (6, .int s0)] [] h' o') (hb : (ah_len h x2 7).isSome = true) : ah_At mt_A_law d A h0 o h2 443 [(0, .ref x0), (1, .ref x1), (2, .ref x2), (3, .ref x3), (4, .int x4), (5, .int x5)] [.int s0] h := by
  refine s_istore (lv' := [(0, .ref x0), (1, .ref x1), (2, .ref x2), (3, .ref x3), (4, .int x4), (5, .int x5), (6, .int s0)]) d_A_law_443 (by decide) rfl ?_
  refine s_aload_n d_A_law_445 rfl rfl ?_
  exact ah_callV (av := []) (st := []) d_A_law_446 ml_A_64 mi_M_thrown mv_M_thrown kc7 hb hE hdd hAA rfl (Nat.le_of_ble_eq_true rfl) k
theorem b_A_law_449 {d : Nat} {A : Nat → Prop} {h2 : ah_H} {o : Outcome} {h0 : ah_H} {h : ah_H} {x0 : Nat} {x1 : Nat} {x2 : Nat} {x3 : Nat} {x4 : Int32} {x5 : Int32} {x6 : Int32} {s0 : Int32} (kt : s0 = x5 → ah_At mt_A_law d A h0 o h2 456 [(0, .ref x0), (1, .ref x1), (2, .ref x2), (3, .ref x3), (4, .int x4), (5, .int x5), (6, .int x6)] [] h) (kf : ¬ (s0 = x5) → ah_At mt_A_law d A h0 o h2 454 [] [] h) : ah_At mt_A_law d A h0 o h2 449 [(0, .ref x0), (1, .ref x1), (2, .ref x2), (3, .ref x3), (4, .int x4), (5, .int x5), (6, .int x6)] [.int s0] h := by
  refine s_iload d_A_law_449 rfl ?_
  refine s_if_icmpeq (t := 456) d_A_law_451 (by decide) (fun z => ?_) (fun z => ?_)
  · exact (kt z)
  · exact ah_At.sub [] rfl (kf z)
theorem b_A_law_454 {d : Nat} {A : Nat → Prop} {h0 : ah_H} {h : ah_H}   : ah_At mt_A_law d A h0 (.returned (some (.int 0))) h 454 [] [] h := by
  refine s_iconst (v := 0) d_A_law_454 (by decide) ?_
  exact e_iret (ty := .boolean) d_A_law_455 rfl (by decide +kernel)
theorem b_A_law_456 {d : Nat} {A : Nat → Prop} {h2 : ah_H} {o : Outcome} {h0 : ah_H} {h : ah_H} {x0 : Nat} {x1 : Nat} {x2 : Nat} {x3 : Nat} {x4 : Int32} {x5 : Int32} {x6 : Int32} (kt : ¬ x5 = 0 → ah_At mt_A_law d A h0 o h2 473 [(0, .ref x0), (1, .ref x1), (2, .ref x2), (3, .ref x3), (4, .int x4)] [] h) (kf : ¬ (¬ x5 = 0) → ah_At mt_A_law d A h0 o h2 461 [(0, .ref x0), (1, .ref x1), (2, .ref x2), (3, .ref x3), (4, .int x4), (6, .int x6)] [] h) : ah_At mt_A_law d A h0 o h2 456 [(0, .ref x0), (1, .ref x1), (2, .ref x2), (3, .ref x3), (4, .int x4), (5, .int x5), (6, .int x6)] [] h := by
  refine s_iload d_A_law_456 rfl ?_
  refine s_ifne (t := 473) d_A_law_458 (by decide) (fun z => ?_) (fun z => ?_)
  · exact ah_At.sub [0, 1, 2, 3, 4] rfl (kt z)
  · exact ah_At.sub [0, 1, 2, 3, 4, 6] rfl (kf z)
theorem b_A_law_461 {d : Nat} {A : Nat → Prop} {h2 : ah_H} {o : Outcome} {h0 : ah_H} {h : ah_H} {x0 : Nat} {x1 : Nat} {x2 : Nat} {x3 : Nat} {x4 : Int32} {x6 : Int32} {v1 : Int64} {j1 : Nat} (i1 : ah_ix 0 j1) (g1 : ah_sel h x3 101 j1 = some (.long v1)) (kt : (lg_cmp v1 (Int32.toInt64 x6)) = 0 → ah_At mt_A_law d A h0 o h2 473 [(0, .ref x0), (1, .ref x1), (2, .ref x2), (3, .ref x3), (4, .int x4)] [] h) (kf : ¬ ((lg_cmp v1 (Int32.toInt64 x6)) = 0) → ah_At mt_A_law d A h0 o h2 471 [] [] h) : ah_At mt_A_law d A h0 o h2 461 [(0, .ref x0), (1, .ref x1), (2, .ref x2), (3, .ref x3), (4, .int x4), (6, .int x6)] [] h := by
  refine s_aload_n d_A_law_461 rfl rfl ?_
  refine s_iconst (v := 0) d_A_law_462 (by decide) ?_
  refine s_laload d_A_law_463 i1 g1 ?_
  refine s_iload d_A_law_464 rfl ?_
  refine s_i2l d_A_law_466 ?_
  refine s_lcmp d_A_law_467 ?_
  refine s_ifeq (t := 473) d_A_law_468 (by decide) (fun z => ?_) (fun z => ?_)
  · exact ah_At.sub [0, 1, 2, 3, 4] rfl (kt z)
  · exact ah_At.sub [] rfl (kf z)
theorem b_A_law_471 {d : Nat} {A : Nat → Prop} {h0 : ah_H} {h : ah_H}   : ah_At mt_A_law d A h0 (.returned (some (.int 0))) h 471 [] [] h := by
  refine s_iconst (v := 0) d_A_law_471 (by decide) ?_
  exact e_iret (ty := .boolean) d_A_law_472 rfl (by decide +kernel)
theorem b_A_law_473 {d : Nat} {A : Nat → Prop} {h2 : ah_H} {o : Outcome} {h0 : ah_H} {h : ah_H} {x0 : Nat} {x1 : Nat} {x2 : Nat} {x3 : Nat} {x4 : Int32} (k : ah_At mt_A_law d A h0 o h2 1062 [(0, .ref x0), (1, .ref x1), (2, .ref x2), (3, .ref x3), (4, .int x4)] [] h) : ah_At mt_A_law d A h0 o h2 473 [(0, .ref x0), (1, .ref x1), (2, .ref x2), (3, .ref x3), (4, .int x4)] [] h := by
  refine s_goto (t := 1062) d_A_law_473 (by decide) ?_
  exact k
theorem b_A_law_476 {d : Nat} {A : Nat → Prop} {h2 : ah_H} {o : Outcome} {h0 : ah_H} {h : ah_H} {x0 : Nat} {x1 : Nat} {x2 : Nat} {x3 : Nat} {x4 : Int32} {v1 : Int32} {j1 : Nat} {v2 : Int32} {j2 : Nat} {v3 : Int32} {j3 : Nat} {d' : Nat} {A' : Nat → Prop} {o' : Outcome} {h' : ah_H} (i1 : ah_ix (x4 + 1) j1) (g1 : ah_sel h x0 99 j1 = some (.int v1)) (i2 : ah_ix (x4 + 2) j2) (g2 : ah_sel h x0 99 j2 = some (.int v2)) (i3 : ah_ix (x4 + 3) j3) (g3 : ah_sel h x0 99 j3 = some (.int v3)) (hE : ah_Ev mt_X_rule d' A' [.ref x1, .int v1, .int v2, .int v3] h o' h') (hdd : d' + 1 ≤ d) (hAA : ∀ q, A' q → A q) (k : ah_aft mt_A_law d A h0 o h2 495 [(0, .ref x0), (1, .ref x1), (2, .ref x2), (3, .ref x3), (4, .int x4)] [] h' o') (hb : (ah_len h x1 6).isSome = true) : ah_At mt_A_law d A h0 o h2 476 [(0, .ref x0), (1, .ref x1), (2, .ref x2), (3, .ref x3), (4, .int x4)] [] h := by
  refine s_aload_n d_A_law_476 rfl rfl ?_
  refine s_aload_n d_A_law_477 rfl rfl ?_
  refine s_iload d_A_law_478 rfl ?_
  refine s_iconst (v := 1) d_A_law_480 (by decide) ?_
  refine s_iadd d_A_law_481 ?_
  refine s_saload d_A_law_482 i1 g1 ?_
  refine s_aload_n d_A_law_483 rfl rfl ?_
  refine s_iload d_A_law_484 rfl ?_
  refine s_iconst (v := 2) d_A_law_486 (by decide) ?_
  refine s_iadd d_A_law_487 ?_
  refine s_saload d_A_law_488 i2 g2 ?_
  refine s_aload_n d_A_law_489 rfl rfl ?_
  refine s_iload d_A_law_490 rfl ?_
  refine s_iconst (v := 3) d_A_law_492 (by decide) ?_
  refine s_iadd d_A_law_493 ?_
  refine s_saload d_A_law_494 i3 g3 ?_
  exact ah_callV (av := [.int v1, .int v2, .int v3]) (st := []) d_A_law_495 ml_A_76 mi_X_rule mv_X_rule kc6 hb hE hdd hAA rfl (Nat.le_of_ble_eq_true rfl) k
theorem b_A_law_498 {d : Nat} {A : Nat → Prop} {h2 : ah_H} {o : Outcome} {h0 : ah_H} {h : ah_H} {x0 : Nat} {x1 : Nat} {x2 : Nat} {x3 : Nat} {x4 : Int32} {s0 : Int32} {v1 : Int32} {j1 : Nat} {v2 : Int32} {j2 : Nat} {v3 : Int32} {j3 : Nat} {d' : Nat} {A' : Nat → Prop} {o' : Outcome} {h' : ah_H} (i1 : ah_ix (x4 + 1) j1) (g1 : ah_sel h x0 99 j1 = some (.int v1)) (i2 : ah_ix (x4 + 2) j2) (g2 : ah_sel h x0 99 j2 = some (.int v2)) (i3 : ah_ix (x4 + 3) j3) (g3 : ah_sel h x0 99 j3 = some (.int v3)) (hE : ah_Ev mt_M_rule d' A' [.ref x2, .int v1, .int v2, .int v3] h o' h') (hdd : d' + 1 ≤ d) (hAA : ∀ q, A' q → A q) (k : ah_aft mt_A_law d A h0 o h2 517 [(0, .ref x0), (1, .ref x1), (2, .ref x2), (3, .ref x3), (4, .int x4)] [.int s0] h' o') (hb : (ah_len h x2 7).isSome = true) : ah_At mt_A_law d A h0 o h2 498 [(0, .ref x0), (1, .ref x1), (2, .ref x2), (3, .ref x3), (4, .int x4)] [.int s0] h := by
  refine s_aload_n d_A_law_498 rfl rfl ?_
  refine s_aload_n d_A_law_499 rfl rfl ?_
  refine s_iload d_A_law_500 rfl ?_
  refine s_iconst (v := 1) d_A_law_502 (by decide) ?_
  refine s_iadd d_A_law_503 ?_
  refine s_saload d_A_law_504 i1 g1 ?_
  refine s_aload_n d_A_law_505 rfl rfl ?_
  refine s_iload d_A_law_506 rfl ?_
  refine s_iconst (v := 2) d_A_law_508 (by decide) ?_
  refine s_iadd d_A_law_509 ?_
  refine s_saload d_A_law_510 i2 g2 ?_
  refine s_aload_n d_A_law_511 rfl rfl ?_
  refine s_iload d_A_law_512 rfl ?_
  refine s_iconst (v := 3) d_A_law_514 (by decide) ?_
  refine s_iadd d_A_law_515 ?_
  refine s_saload d_A_law_516 i3 g3 ?_
  exact ah_callV (av := [.int v1, .int v2, .int v3]) (st := [.int s0]) d_A_law_517 ml_A_80 mi_M_rule mv_M_rule kc7 hb hE hdd hAA rfl (Nat.le_of_ble_eq_true rfl) k
theorem b_A_law_520 {d : Nat} {A : Nat → Prop} {h2 : ah_H} {o : Outcome} {h0 : ah_H} {h : ah_H} {x0 : Nat} {x1 : Nat} {x2 : Nat} {x3 : Nat} {x4 : Int32} {s0 : Int32} {s1 : Int32} (kt : s1 = s0 → ah_At mt_A_law d A h0 o h2 1062 [(0, .ref x0), (1, .ref x1), (2, .ref x2), (3, .ref x3), (4, .int x4)] [] h) (kf : ¬ (s1 = s0) → ah_At mt_A_law d A h0 o h2 523 [] [] h) : ah_At mt_A_law d A h0 o h2 520 [(0, .ref x0), (1, .ref x1), (2, .ref x2), (3, .ref x3), (4, .int x4)] [.int s0, .int s1] h := by
  refine s_if_icmpeq (t := 1062) d_A_law_520 (by decide) (fun z => ?_) (fun z => ?_)
  · exact (kt z)
  · exact ah_At.sub [] rfl (kf z)
theorem b_A_law_523 {d : Nat} {A : Nat → Prop} {h0 : ah_H} {h : ah_H}   : ah_At mt_A_law d A h0 (.returned (some (.int 0))) h 523 [] [] h := by
  refine s_iconst (v := 0) d_A_law_523 (by decide) ?_
  exact e_iret (ty := .boolean) d_A_law_524 rfl (by decide +kernel)
theorem b_A_law_525 {d : Nat} {A : Nat → Prop} {h2 : ah_H} {o : Outcome} {h0 : ah_H} {h : ah_H} {x0 : Nat} {x1 : Nat} {x2 : Nat} {x3 : Nat} {x4 : Int32} {v1 : Int32} {j1 : Nat} {v2 : Int32} {j2 : Nat} {d' : Nat} {A' : Nat → Prop} {o' : Outcome} {h' : ah_H} (i1 : ah_ix (x4 + 1) j1) (g1 : ah_sel h x0 99 j1 = some (.int v1)) (i2 : ah_ix (x4 + 2) j2) (g2 : ah_sel h x0 99 j2 = some (.int v2)) (hE : ah_Ev mt_X_cut d' A' [.ref x1, .long (((Int32.toInt64 v1) <<< ((Int32.toInt64 32) &&& 63)) ||| ((Int32.toInt64 v2) &&& 4294967295))] h o' h') (hdd : d' + 1 ≤ d) (hAA : ∀ q, A' q → A q) (k : ah_aft mt_A_law d A h0 o h2 548 [(0, .ref x0), (1, .ref x1), (2, .ref x2), (3, .ref x3), (4, .int x4)] [] h' o') (hb : (ah_len h x1 6).isSome = true) : ah_At mt_A_law d A h0 o h2 525 [(0, .ref x0), (1, .ref x1), (2, .ref x2), (3, .ref x3), (4, .int x4)] [] h := by
  refine s_aload_n d_A_law_525 rfl rfl ?_
  refine s_aload_n d_A_law_526 rfl rfl ?_
  refine s_iload d_A_law_527 rfl ?_
  refine s_iconst (v := 1) d_A_law_529 (by decide) ?_
  refine s_iadd d_A_law_530 ?_
  refine s_saload d_A_law_531 i1 g1 ?_
  refine s_i2l d_A_law_532 ?_
  refine s_bipush (v := 32) d_A_law_533 (by decide) ?_
  refine s_lshl d_A_law_535 ?_
  refine s_aload_n d_A_law_536 rfl rfl ?_
  refine s_iload d_A_law_537 rfl ?_
  refine s_iconst (v := 2) d_A_law_539 (by decide) ?_
  refine s_iadd d_A_law_540 ?_
  refine s_saload d_A_law_541 i2 g2 ?_
  refine s_i2l d_A_law_542 ?_
  refine s_ldc2_w (v := 4294967295) d_A_law_543 lc_A_56 ?_
  refine s_land d_A_law_546 ?_
  refine s_lor d_A_law_547 ?_
  exact ah_callV (av := [.long (((Int32.toInt64 v1) <<< ((Int32.toInt64 32) &&& 63)) ||| ((Int32.toInt64 v2) &&& 4294967295))]) (st := []) d_A_law_548 ml_A_81 mi_X_cut mv_X_cut kc6 hb hE hdd hAA rfl (Nat.le_of_ble_eq_true rfl) k
theorem b_A_law_551 {d : Nat} {A : Nat → Prop} {h2 : ah_H} {o : Outcome} {h0 : ah_H} {h : ah_H} {x0 : Nat} {x1 : Nat} {x2 : Nat} {x3 : Nat} {x4 : Int32} {s0 : Int32} {v1 : Int32} {j1 : Nat} {v2 : Int32} {j2 : Nat} {d' : Nat} {A' : Nat → Prop} {o' : Outcome} {h' : ah_H} (i1 : ah_ix (x4 + 1) j1) (g1 : ah_sel h x0 99 j1 = some (.int v1)) (i2 : ah_ix (x4 + 2) j2) (g2 : ah_sel h x0 99 j2 = some (.int v2)) (hE : ah_Ev mt_M_cut d' A' [.ref x2, .long (((Int32.toInt64 v1) <<< ((Int32.toInt64 32) &&& 63)) ||| ((Int32.toInt64 v2) &&& 4294967295))] h o' h') (hdd : d' + 1 ≤ d) (hAA : ∀ q, A' q → A q) (k : ah_aft mt_A_law d A h0 o h2 574 [(0, .ref x0), (1, .ref x1), (2, .ref x2), (3, .ref x3), (4, .int x4)] [.int s0] h' o') (hb : (ah_len h x2 7).isSome = true) : ah_At mt_A_law d A h0 o h2 551 [(0, .ref x0), (1, .ref x1), (2, .ref x2), (3, .ref x3), (4, .int x4)] [.int s0] h := by
  refine s_aload_n d_A_law_551 rfl rfl ?_
  refine s_aload_n d_A_law_552 rfl rfl ?_
  refine s_iload d_A_law_553 rfl ?_
  refine s_iconst (v := 1) d_A_law_555 (by decide) ?_
  refine s_iadd d_A_law_556 ?_
  refine s_saload d_A_law_557 i1 g1 ?_
  refine s_i2l d_A_law_558 ?_
  refine s_bipush (v := 32) d_A_law_559 (by decide) ?_
  refine s_lshl d_A_law_561 ?_
  refine s_aload_n d_A_law_562 rfl rfl ?_
  refine s_iload d_A_law_563 rfl ?_
  refine s_iconst (v := 2) d_A_law_565 (by decide) ?_
  refine s_iadd d_A_law_566 ?_
  refine s_saload d_A_law_567 i2 g2 ?_
  refine s_i2l d_A_law_568 ?_
  refine s_ldc2_w (v := 4294967295) d_A_law_569 lc_A_56 ?_
  refine s_land d_A_law_572 ?_
  refine s_lor d_A_law_573 ?_
  exact ah_callV (av := [.long (((Int32.toInt64 v1) <<< ((Int32.toInt64 32) &&& 63)) ||| ((Int32.toInt64 v2) &&& 4294967295))]) (st := [.int s0]) d_A_law_574 ml_A_85 mi_M_cut mv_M_cut kc7 hb hE hdd hAA rfl (Nat.le_of_ble_eq_true rfl) k
theorem b_A_law_577 {d : Nat} {A : Nat → Prop} {h2 : ah_H} {o : Outcome} {h0 : ah_H} {h : ah_H} {x0 : Nat} {x1 : Nat} {x2 : Nat} {x3 : Nat} {x4 : Int32} {s0 : Int32} {s1 : Int32} (kt : s1 = s0 → ah_At mt_A_law d A h0 o h2 1062 [(0, .ref x0), (1, .ref x1), (2, .ref x2), (3, .ref x3), (4, .int x4)] [] h) (kf : ¬ (s1 = s0) → ah_At mt_A_law d A h0 o h2 580 [] [] h) : ah_At mt_A_law d A h0 o h2 577 [(0, .ref x0), (1, .ref x1), (2, .ref x2), (3, .ref x3), (4, .int x4)] [.int s0, .int s1] h := by
  refine s_if_icmpeq (t := 1062) d_A_law_577 (by decide) (fun z => ?_) (fun z => ?_)
  · exact (kt z)
  · exact ah_At.sub [] rfl (kf z)
theorem b_A_law_580 {d : Nat} {A : Nat → Prop} {h0 : ah_H} {h : ah_H}   : ah_At mt_A_law d A h0 (.returned (some (.int 0))) h 580 [] [] h := by
  refine s_iconst (v := 0) d_A_law_580 (by decide) ?_
  exact e_iret (ty := .boolean) d_A_law_581 rfl (by decide +kernel)
theorem b_A_law_582 {d : Nat} {A : Nat → Prop} {h2 : ah_H} {o : Outcome} {h0 : ah_H} {h : ah_H} {x0 : Nat} {x1 : Nat} {x2 : Nat} {x3 : Nat} {x4 : Int32} {v1 : Int32} {j1 : Nat} {v2 : Int32} {j2 : Nat} (i1 : ah_ix (x4 + 1) j1) (g1 : ah_sel h x0 99 j1 = some (.int v1)) (i2 : ah_ix (x4 + 2) j2) (g2 : ah_sel h x0 99 j2 = some (.int v2)) (kt : v2 = 0 → ah_At mt_A_law d A h0 o h2 602 [(0, .ref x0), (1, .ref x1), (2, .ref x2), (3, .ref x3), (4, .int x4)] [.int v1, .ref x1] h) (kf : ¬ (v2 = 0) → ah_At mt_A_law d A h0 o h2 598 [(0, .ref x0), (1, .ref x1), (2, .ref x2), (3, .ref x3), (4, .int x4)] [.int v1, .ref x1] h) : ah_At mt_A_law d A h0 o h2 582 [(0, .ref x0), (1, .ref x1), (2, .ref x2), (3, .ref x3), (4, .int x4)] [] h := by
  refine s_aload_n d_A_law_582 rfl rfl ?_
  refine s_aload_n d_A_law_583 rfl rfl ?_
  refine s_iload d_A_law_584 rfl ?_
  refine s_iconst (v := 1) d_A_law_586 (by decide) ?_
  refine s_iadd d_A_law_587 ?_
  refine s_saload d_A_law_588 i1 g1 ?_
  refine s_aload_n d_A_law_589 rfl rfl ?_
  refine s_iload d_A_law_590 rfl ?_
  refine s_iconst (v := 2) d_A_law_592 (by decide) ?_
  refine s_iadd d_A_law_593 ?_
  refine s_saload d_A_law_594 i2 g2 ?_
  refine s_ifeq (t := 602) d_A_law_595 (by decide) (fun z => ?_) (fun z => ?_)
  · exact (kt z)
  · exact (kf z)
theorem b_A_law_598 {d : Nat} {A : Nat → Prop} {h2 : ah_H} {o : Outcome} {h0 : ah_H} {h : ah_H} {x0 : Nat} {x1 : Nat} {x2 : Nat} {x3 : Nat} {x4 : Int32} {s0 : Int32} {s1 : Nat} (k : ah_At mt_A_law d A h0 o h2 603 [(0, .ref x0), (1, .ref x1), (2, .ref x2), (3, .ref x3), (4, .int x4)] [.int 1, .int s0, .ref s1] h) : ah_At mt_A_law d A h0 o h2 598 [(0, .ref x0), (1, .ref x1), (2, .ref x2), (3, .ref x3), (4, .int x4)] [.int s0, .ref s1] h := by
  refine s_iconst (v := 1) d_A_law_598 (by decide) ?_
  refine s_goto (t := 603) d_A_law_599 (by decide) ?_
  exact k
theorem b_A_law_602 {d : Nat} {A : Nat → Prop} {h2 : ah_H} {o : Outcome} {h0 : ah_H} {h : ah_H} {x0 : Nat} {x1 : Nat} {x2 : Nat} {x3 : Nat} {x4 : Int32} {s0 : Int32} {s1 : Nat} (k : ah_At mt_A_law d A h0 o h2 603 [(0, .ref x0), (1, .ref x1), (2, .ref x2), (3, .ref x3), (4, .int x4)] [.int 0, .int s0, .ref s1] h) : ah_At mt_A_law d A h0 o h2 602 [(0, .ref x0), (1, .ref x1), (2, .ref x2), (3, .ref x3), (4, .int x4)] [.int s0, .ref s1] h := by
  refine s_iconst (v := 0) d_A_law_602 (by decide) ?_
  exact k
theorem b_A_law_603 {d : Nat} {A : Nat → Prop} {h2 : ah_H} {o : Outcome} {h0 : ah_H} {h : ah_H} {x0 : Nat} {x1 : Nat} {x2 : Nat} {x3 : Nat} {x4 : Int32} {s0 : Int32} {s1 : Int32} {s2 : Nat} {d' : Nat} {A' : Nat → Prop} {o' : Outcome} {h' : ah_H} (hE : ah_Ev mt_X_out d' A' [.ref s2, .int s1, .int s0] h o' h') (hdd : d' + 1 ≤ d) (hAA : ∀ q, A' q → A q) (k : ah_aft mt_A_law d A h0 o h2 603 [(0, .ref x0), (1, .ref x1), (2, .ref x2), (3, .ref x3), (4, .int x4)] [] h' o') (hb : (ah_len h s2 6).isSome = true) : ah_At mt_A_law d A h0 o h2 603 [(0, .ref x0), (1, .ref x1), (2, .ref x2), (3, .ref x3), (4, .int x4)] [.int s0, .int s1, .ref s2] h := by
  exact ah_callV (av := [.int s1, .int s0]) (st := []) d_A_law_603 ml_A_86 mi_X_out mv_X_out kc6 hb hE hdd hAA rfl (Nat.le_of_ble_eq_true rfl) k
theorem b_A_law_606 {d : Nat} {A : Nat → Prop} {h2 : ah_H} {o : Outcome} {h0 : ah_H} {h : ah_H} {x0 : Nat} {x1 : Nat} {x2 : Nat} {x3 : Nat} {x4 : Int32} {s0 : Int32} {v1 : Int32} {j1 : Nat} {v2 : Int32} {j2 : Nat} (i1 : ah_ix (x4 + 1) j1) (g1 : ah_sel h x0 99 j1 = some (.int v1)) (i2 : ah_ix (x4 + 2) j2) (g2 : ah_sel h x0 99 j2 = some (.int v2)) (kt : v2 = 0 → ah_At mt_A_law d A h0 o h2 626 [(0, .ref x0), (1, .ref x1), (2, .ref x2), (3, .ref x3), (4, .int x4)] [.int v1, .ref x2, .int s0] h) (kf : ¬ (v2 = 0) → ah_At mt_A_law d A h0 o h2 622 [(0, .ref x0), (1, .ref x1), (2, .ref x2), (3, .ref x3), (4, .int x4)] [.int v1, .ref x2, .int s0] h) : ah_At mt_A_law d A h0 o h2 606 [(0, .ref x0), (1, .ref x1), (2, .ref x2), (3, .ref x3), (4, .int x4)] [.int s0] h := by
  refine s_aload_n d_A_law_606 rfl rfl ?_
  refine s_aload_n d_A_law_607 rfl rfl ?_
  refine s_iload d_A_law_608 rfl ?_
  refine s_iconst (v := 1) d_A_law_610 (by decide) ?_
  refine s_iadd d_A_law_611 ?_
  refine s_saload d_A_law_612 i1 g1 ?_
  refine s_aload_n d_A_law_613 rfl rfl ?_
  refine s_iload d_A_law_614 rfl ?_
  refine s_iconst (v := 2) d_A_law_616 (by decide) ?_
  refine s_iadd d_A_law_617 ?_
  refine s_saload d_A_law_618 i2 g2 ?_
  refine s_ifeq (t := 626) d_A_law_619 (by decide) (fun z => ?_) (fun z => ?_)
  · exact (kt z)
  · exact (kf z)
theorem b_A_law_622 {d : Nat} {A : Nat → Prop} {h2 : ah_H} {o : Outcome} {h0 : ah_H} {h : ah_H} {x0 : Nat} {x1 : Nat} {x2 : Nat} {x3 : Nat} {x4 : Int32} {s0 : Int32} {s1 : Nat} {s2 : Int32} (k : ah_At mt_A_law d A h0 o h2 627 [(0, .ref x0), (1, .ref x1), (2, .ref x2), (3, .ref x3), (4, .int x4)] [.int 1, .int s0, .ref s1, .int s2] h) : ah_At mt_A_law d A h0 o h2 622 [(0, .ref x0), (1, .ref x1), (2, .ref x2), (3, .ref x3), (4, .int x4)] [.int s0, .ref s1, .int s2] h := by
  refine s_iconst (v := 1) d_A_law_622 (by decide) ?_
  refine s_goto (t := 627) d_A_law_623 (by decide) ?_
  exact k
theorem b_A_law_626 {d : Nat} {A : Nat → Prop} {h2 : ah_H} {o : Outcome} {h0 : ah_H} {h : ah_H} {x0 : Nat} {x1 : Nat} {x2 : Nat} {x3 : Nat} {x4 : Int32} {s0 : Int32} {s1 : Nat} {s2 : Int32} (k : ah_At mt_A_law d A h0 o h2 627 [(0, .ref x0), (1, .ref x1), (2, .ref x2), (3, .ref x3), (4, .int x4)] [.int 0, .int s0, .ref s1, .int s2] h) : ah_At mt_A_law d A h0 o h2 626 [(0, .ref x0), (1, .ref x1), (2, .ref x2), (3, .ref x3), (4, .int x4)] [.int s0, .ref s1, .int s2] h := by
  refine s_iconst (v := 0) d_A_law_626 (by decide) ?_
  exact k
theorem b_A_law_627 {d : Nat} {A : Nat → Prop} {h2 : ah_H} {o : Outcome} {h0 : ah_H} {h : ah_H} {x0 : Nat} {x1 : Nat} {x2 : Nat} {x3 : Nat} {x4 : Int32} {s0 : Int32} {s1 : Int32} {s2 : Nat} {s3 : Int32} {d' : Nat} {A' : Nat → Prop} {o' : Outcome} {h' : ah_H} (hE : ah_Ev mt_M_out d' A' [.ref s2, .int s1, .int s0] h o' h') (hdd : d' + 1 ≤ d) (hAA : ∀ q, A' q → A q) (k : ah_aft mt_A_law d A h0 o h2 627 [(0, .ref x0), (1, .ref x1), (2, .ref x2), (3, .ref x3), (4, .int x4)] [.int s3] h' o') (hb : (ah_len h s2 7).isSome = true) : ah_At mt_A_law d A h0 o h2 627 [(0, .ref x0), (1, .ref x1), (2, .ref x2), (3, .ref x3), (4, .int x4)] [.int s0, .int s1, .ref s2, .int s3] h := by
  exact ah_callV (av := [.int s1, .int s0]) (st := [.int s3]) d_A_law_627 ml_A_90 mi_M_out mv_M_out kc7 hb hE hdd hAA rfl (Nat.le_of_ble_eq_true rfl) k
theorem b_A_law_630 {d : Nat} {A : Nat → Prop} {h2 : ah_H} {o : Outcome} {h0 : ah_H} {h : ah_H} {x0 : Nat} {x1 : Nat} {x2 : Nat} {x3 : Nat} {x4 : Int32} {s0 : Int32} {s1 : Int32} (kt : s1 = s0 → ah_At mt_A_law d A h0 o h2 1062 [(0, .ref x0), (1, .ref x1), (2, .ref x2), (3, .ref x3), (4, .int x4)] [] h) (kf : ¬ (s1 = s0) → ah_At mt_A_law d A h0 o h2 633 [] [] h) : ah_At mt_A_law d A h0 o h2 630 [(0, .ref x0), (1, .ref x1), (2, .ref x2), (3, .ref x3), (4, .int x4)] [.int s0, .int s1] h := by
  refine s_if_icmpeq (t := 1062) d_A_law_630 (by decide) (fun z => ?_) (fun z => ?_)
  · exact (kt z)
  · exact ah_At.sub [] rfl (kf z)
theorem b_A_law_633 {d : Nat} {A : Nat → Prop} {h0 : ah_H} {h : ah_H}   : ah_At mt_A_law d A h0 (.returned (some (.int 0))) h 633 [] [] h := by
  refine s_iconst (v := 0) d_A_law_633 (by decide) ?_
  exact e_iret (ty := .boolean) d_A_law_634 rfl (by decide +kernel)
theorem b_A_law_635 {d : Nat} {A : Nat → Prop} {h2 : ah_H} {o : Outcome} {h0 : ah_H} {h : ah_H} {x0 : Nat} {x1 : Nat} {x2 : Nat} {x3 : Nat} {x4 : Int32} {d' : Nat} {A' : Nat → Prop} {o' : Outcome} {h' : ah_H} (hE : ah_Ev mt_X_plan d' A' [.ref x1] h o' h') (hdd : d' + 1 ≤ d) (hAA : ∀ q, A' q → A q) (k : ah_aft mt_A_law d A h0 o h2 636 [(0, .ref x0), (1, .ref x1), (2, .ref x2), (3, .ref x3), (4, .int x4)] [] h' o') (hb : (ah_len h x1 6).isSome = true) : ah_At mt_A_law d A h0 o h2 635 [(0, .ref x0), (1, .ref x1), (2, .ref x2), (3, .ref x3), (4, .int x4)] [] h := by
  refine s_aload_n d_A_law_635 rfl rfl ?_
  exact ah_callV (av := []) (st := []) d_A_law_636 ml_A_91 mi_X_plan mv_X_plan kc6 hb hE hdd hAA rfl (Nat.le_of_ble_eq_true rfl) k
theorem b_A_law_639 {d : Nat} {A : Nat → Prop} {h2 : ah_H} {o : Outcome} {h0 : ah_H} {h : ah_H} {x0 : Nat} {x1 : Nat} {x2 : Nat} {x3 : Nat} {x4 : Int32} {s0 : Int32} {d' : Nat} {A' : Nat → Prop} {o' : Outcome} {h' : ah_H} (hE : ah_Ev mt_M_plan d' A' [.ref x2] h o' h') (hdd : d' + 1 ≤ d) (hAA : ∀ q, A' q → A q) (k : ah_aft mt_A_law d A h0 o h2 640 [(0, .ref x0), (1, .ref x1), (2, .ref x2), (3, .ref x3), (4, .int x4)] [.int s0] h' o') (hb : (ah_len h x2 7).isSome = true) : ah_At mt_A_law d A h0 o h2 639 [(0, .ref x0), (1, .ref x1), (2, .ref x2), (3, .ref x3), (4, .int x4)] [.int s0] h := by
  refine s_aload_n d_A_law_639 rfl rfl ?_
  exact ah_callV (av := []) (st := [.int s0]) d_A_law_640 ml_A_94 mi_M_plan mv_M_plan kc7 hb hE hdd hAA rfl (Nat.le_of_ble_eq_true rfl) k
theorem b_A_law_643 {d : Nat} {A : Nat → Prop} {h2 : ah_H} {o : Outcome} {h0 : ah_H} {h : ah_H} {x0 : Nat} {x1 : Nat} {x2 : Nat} {x3 : Nat} {x4 : Int32} {s0 : Int32} {s1 : Int32} (kt : s1 = s0 → ah_At mt_A_law d A h0 o h2 1062 [(0, .ref x0), (1, .ref x1), (2, .ref x2), (3, .ref x3), (4, .int x4)] [] h) (kf : ¬ (s1 = s0) → ah_At mt_A_law d A h0 o h2 646 [] [] h) : ah_At mt_A_law d A h0 o h2 643 [(0, .ref x0), (1, .ref x1), (2, .ref x2), (3, .ref x3), (4, .int x4)] [.int s0, .int s1] h := by
  refine s_if_icmpeq (t := 1062) d_A_law_643 (by decide) (fun z => ?_) (fun z => ?_)
  · exact (kt z)
  · exact ah_At.sub [] rfl (kf z)
theorem b_A_law_646 {d : Nat} {A : Nat → Prop} {h0 : ah_H} {h : ah_H}   : ah_At mt_A_law d A h0 (.returned (some (.int 0))) h 646 [] [] h := by
  refine s_iconst (v := 0) d_A_law_646 (by decide) ?_
  exact e_iret (ty := .boolean) d_A_law_647 rfl (by decide +kernel)
theorem b_A_law_648 {d : Nat} {A : Nat → Prop} {h2 : ah_H} {o : Outcome} {h0 : ah_H} {h : ah_H} {x0 : Nat} {x1 : Nat} {x2 : Nat} {x3 : Nat} {x4 : Int32} {v1 : Int32} {j1 : Nat} {v2 : Int32} {j2 : Nat} {d' : Nat} {A' : Nat → Prop} {o' : Outcome} {h' : ah_H} (i1 : ah_ix (x4 + 1) j1) (g1 : ah_sel h x0 99 j1 = some (.int v1)) (i2 : ah_ix (x4 + 2) j2) (g2 : ah_sel h x0 99 j2 = some (.int v2)) (hE : ah_Ev mt_A_at d' A' [.ref x1, .int v1, .int v2, .ref x3] h o' h') (hdd : d' + 1 ≤ d) (hAA : ∀ q, A' q → A q) (k : ah_aft mt_A_law d A h0 o h2 662 [(0, .ref x0), (1, .ref x1), (2, .ref x2), (3, .ref x3), (4, .int x4)] [] h' o') : ah_At mt_A_law d A h0 o h2 648 [(0, .ref x0), (1, .ref x1), (2, .ref x2), (3, .ref x3), (4, .int x4)] [] h := by
  refine s_aload_n d_A_law_648 rfl rfl ?_
  refine s_aload_n d_A_law_649 rfl rfl ?_
  refine s_iload d_A_law_650 rfl ?_
  refine s_iconst (v := 1) d_A_law_652 (by decide) ?_
  refine s_iadd d_A_law_653 ?_
  refine s_saload d_A_law_654 i1 g1 ?_
  refine s_aload_n d_A_law_655 rfl rfl ?_
  refine s_iload d_A_law_656 rfl ?_
  refine s_iconst (v := 2) d_A_law_658 (by decide) ?_
  refine s_iadd d_A_law_659 ?_
  refine s_saload d_A_law_660 i2 g2 ?_
  refine s_aload_n d_A_law_661 rfl rfl ?_
  exact ah_callS (av := [.ref x1, .int v1, .int v2, .ref x3]) (st := []) d_A_law_662 ml_A_95 ms_A_at hE hdd hAA rfl (Nat.le_of_ble_eq_true rfl) k
theorem b_A_law_665 {d : Nat} {A : Nat → Prop} {h2 : ah_H} {o : Outcome} {h0 : ah_H} {h : ah_H} {x0 : Nat} {x1 : Nat} {x2 : Nat} {x3 : Nat} {x4 : Int32} {s0 : Int32} {v1 : Int32} {j1 : Nat} {v2 : Int32} {j2 : Nat} {d' : Nat} {A' : Nat → Prop} {o' : Outcome} {h' : ah_H} (i1 : ah_ix (x4 + 1) j1) (g1 : ah_sel h x0 99 j1 = some (.int v1)) (i2 : ah_ix (x4 + 2) j2) (g2 : ah_sel h x0 99 j2 = some (.int v2)) (hE : ah_Ev mt_M_at d' A' [.ref x2, .int v1, .int v2] h o' h') (hdd : d' + 1 ≤ d) (hAA : ∀ q, A' q → A q) (k : ah_aft mt_A_law d A h0 o h2 680 [(0, .ref x0), (1, .ref x1), (2, .ref x2), (3, .ref x3), (4, .int x4), (5, .int s0)] [] h' o') (hb : (ah_len h x2 7).isSome = true) : ah_At mt_A_law d A h0 o h2 665 [(0, .ref x0), (1, .ref x1), (2, .ref x2), (3, .ref x3), (4, .int x4)] [.int s0] h := by
  refine s_istore (lv' := [(0, .ref x0), (1, .ref x1), (2, .ref x2), (3, .ref x3), (4, .int x4), (5, .int s0)]) d_A_law_665 (by decide) rfl ?_
  refine s_aload_n d_A_law_667 rfl rfl ?_
  refine s_aload_n d_A_law_668 rfl rfl ?_
  refine s_iload d_A_law_669 rfl ?_
  refine s_iconst (v := 1) d_A_law_671 (by decide) ?_
  refine s_iadd d_A_law_672 ?_
  refine s_saload d_A_law_673 i1 g1 ?_
  refine s_aload_n d_A_law_674 rfl rfl ?_
  refine s_iload d_A_law_675 rfl ?_
  refine s_iconst (v := 2) d_A_law_677 (by decide) ?_
  refine s_iadd d_A_law_678 ?_
  refine s_saload d_A_law_679 i2 g2 ?_
  exact ah_callV (av := [.int v1, .int v2]) (st := []) d_A_law_680 ml_A_97 mi_M_at mv_M_at kc7 hb hE hdd hAA rfl (Nat.le_of_ble_eq_true rfl) k
theorem b_A_law_683 {d : Nat} {A : Nat → Prop} {h2 : ah_H} {o : Outcome} {h0 : ah_H} {h : ah_H} {x0 : Nat} {x1 : Nat} {x2 : Nat} {x3 : Nat} {x4 : Int32} {x5 : Int32} {s0 : Int32} {d' : Nat} {A' : Nat → Prop} {o' : Outcome} {h' : ah_H} (hE : ah_Ev mt_M_thrown d' A' [.ref x2] h o' h') (hdd : d' + 1 ≤ d) (hAA : ∀ q, A' q → A q) (k : ah_aft mt_A_law d A h0 o h2 686 [(0, .ref x0), (1, .ref x1), (2, .ref x2), (3, .ref x3), (4, .int x4), (5, .int x5), (6, .int s0)] [] h' o') (hb : (ah_len h x2 7).isSome = true) : ah_At mt_A_law d A h0 o h2 683 [(0, .ref x0), (1, .ref x1), (2, .ref x2), (3, .ref x3), (4, .int x4), (5, .int x5)] [.int s0] h := by
  refine s_istore (lv' := [(0, .ref x0), (1, .ref x1), (2, .ref x2), (3, .ref x3), (4, .int x4), (5, .int x5), (6, .int s0)]) d_A_law_683 (by decide) rfl ?_
  refine s_aload_n d_A_law_685 rfl rfl ?_
  exact ah_callV (av := []) (st := []) d_A_law_686 ml_A_64 mi_M_thrown mv_M_thrown kc7 hb hE hdd hAA rfl (Nat.le_of_ble_eq_true rfl) k
theorem b_A_law_689 {d : Nat} {A : Nat → Prop} {h2 : ah_H} {o : Outcome} {h0 : ah_H} {h : ah_H} {x0 : Nat} {x1 : Nat} {x2 : Nat} {x3 : Nat} {x4 : Int32} {x5 : Int32} {x6 : Int32} {s0 : Int32} (kt : s0 = x5 → ah_At mt_A_law d A h0 o h2 696 [(0, .ref x0), (1, .ref x1), (2, .ref x2), (3, .ref x3), (4, .int x4), (5, .int x5), (6, .int x6)] [] h) (kf : ¬ (s0 = x5) → ah_At mt_A_law d A h0 o h2 694 [] [] h) : ah_At mt_A_law d A h0 o h2 689 [(0, .ref x0), (1, .ref x1), (2, .ref x2), (3, .ref x3), (4, .int x4), (5, .int x5), (6, .int x6)] [.int s0] h := by
  refine s_iload d_A_law_689 rfl ?_
  refine s_if_icmpeq (t := 696) d_A_law_691 (by decide) (fun z => ?_) (fun z => ?_)
  · exact (kt z)
  · exact ah_At.sub [] rfl (kf z)
theorem b_A_law_694 {d : Nat} {A : Nat → Prop} {h0 : ah_H} {h : ah_H}   : ah_At mt_A_law d A h0 (.returned (some (.int 0))) h 694 [] [] h := by
  refine s_iconst (v := 0) d_A_law_694 (by decide) ?_
  exact e_iret (ty := .boolean) d_A_law_695 rfl (by decide +kernel)
theorem b_A_law_696 {d : Nat} {A : Nat → Prop} {h2 : ah_H} {o : Outcome} {h0 : ah_H} {h : ah_H} {x0 : Nat} {x1 : Nat} {x2 : Nat} {x3 : Nat} {x4 : Int32} {x5 : Int32} {x6 : Int32} (kt : ¬ x5 = 0 → ah_At mt_A_law d A h0 o h2 713 [(0, .ref x0), (1, .ref x1), (2, .ref x2), (3, .ref x3), (4, .int x4)] [] h) (kf : ¬ (¬ x5 = 0) → ah_At mt_A_law d A h0 o h2 701 [(0, .ref x0), (1, .ref x1), (2, .ref x2), (3, .ref x3), (4, .int x4), (6, .int x6)] [] h) : ah_At mt_A_law d A h0 o h2 696 [(0, .ref x0), (1, .ref x1), (2, .ref x2), (3, .ref x3), (4, .int x4), (5, .int x5), (6, .int x6)] [] h := by
  refine s_iload d_A_law_696 rfl ?_
  refine s_ifne (t := 713) d_A_law_698 (by decide) (fun z => ?_) (fun z => ?_)
  · exact ah_At.sub [0, 1, 2, 3, 4] rfl (kt z)
  · exact ah_At.sub [0, 1, 2, 3, 4, 6] rfl (kf z)
theorem b_A_law_701 {d : Nat} {A : Nat → Prop} {h2 : ah_H} {o : Outcome} {h0 : ah_H} {h : ah_H} {x0 : Nat} {x1 : Nat} {x2 : Nat} {x3 : Nat} {x4 : Int32} {x6 : Int32} {v1 : Int64} {j1 : Nat} (i1 : ah_ix 0 j1) (g1 : ah_sel h x3 101 j1 = some (.long v1)) (kt : (lg_cmp v1 (Int32.toInt64 x6)) = 0 → ah_At mt_A_law d A h0 o h2 713 [(0, .ref x0), (1, .ref x1), (2, .ref x2), (3, .ref x3), (4, .int x4)] [] h) (kf : ¬ ((lg_cmp v1 (Int32.toInt64 x6)) = 0) → ah_At mt_A_law d A h0 o h2 711 [] [] h) : ah_At mt_A_law d A h0 o h2 701 [(0, .ref x0), (1, .ref x1), (2, .ref x2), (3, .ref x3), (4, .int x4), (6, .int x6)] [] h := by
  refine s_aload_n d_A_law_701 rfl rfl ?_
  refine s_iconst (v := 0) d_A_law_702 (by decide) ?_
  refine s_laload d_A_law_703 i1 g1 ?_
  refine s_iload d_A_law_704 rfl ?_
  refine s_i2l d_A_law_706 ?_
  refine s_lcmp d_A_law_707 ?_
  refine s_ifeq (t := 713) d_A_law_708 (by decide) (fun z => ?_) (fun z => ?_)
  · exact ah_At.sub [0, 1, 2, 3, 4] rfl (kt z)
  · exact ah_At.sub [] rfl (kf z)
theorem b_A_law_711 {d : Nat} {A : Nat → Prop} {h0 : ah_H} {h : ah_H}   : ah_At mt_A_law d A h0 (.returned (some (.int 0))) h 711 [] [] h := by
  refine s_iconst (v := 0) d_A_law_711 (by decide) ?_
  exact e_iret (ty := .boolean) d_A_law_712 rfl (by decide +kernel)
theorem b_A_law_713 {d : Nat} {A : Nat → Prop} {h2 : ah_H} {o : Outcome} {h0 : ah_H} {h : ah_H} {x0 : Nat} {x1 : Nat} {x2 : Nat} {x3 : Nat} {x4 : Int32} (k : ah_At mt_A_law d A h0 o h2 1062 [(0, .ref x0), (1, .ref x1), (2, .ref x2), (3, .ref x3), (4, .int x4)] [] h) : ah_At mt_A_law d A h0 o h2 713 [(0, .ref x0), (1, .ref x1), (2, .ref x2), (3, .ref x3), (4, .int x4)] [] h := by
  refine s_goto (t := 1062) d_A_law_713 (by decide) ?_
  exact k
theorem b_A_law_716 {d : Nat} {A : Nat → Prop} {h2 : ah_H} {o : Outcome} {h0 : ah_H} {h : ah_H} {x0 : Nat} {x1 : Nat} {x2 : Nat} {x3 : Nat} {x4 : Int32} {v1 : Int32} {j1 : Nat} {v2 : Int32} {j2 : Nat} {d' : Nat} {A' : Nat → Prop} {o' : Outcome} {h' : ah_H} (i1 : ah_ix (x4 + 1) j1) (g1 : ah_sel h x0 99 j1 = some (.int v1)) (i2 : ah_ix (x4 + 2) j2) (g2 : ah_sel h x0 99 j2 = some (.int v2)) (hE : ah_Ev mt_A_load d' A' [.ref x1, .int v1, .int v2, .ref x3] h o' h') (hdd : d' + 1 ≤ d) (hAA : ∀ q, A' q → A q) (k : ah_aft mt_A_law d A h0 o h2 730 [(0, .ref x0), (1, .ref x1), (2, .ref x2), (3, .ref x3), (4, .int x4)] [] h' o') : ah_At mt_A_law d A h0 o h2 716 [(0, .ref x0), (1, .ref x1), (2, .ref x2), (3, .ref x3), (4, .int x4)] [] h := by
  refine s_aload_n d_A_law_716 rfl rfl ?_
  refine s_aload_n d_A_law_717 rfl rfl ?_
  refine s_iload d_A_law_718 rfl ?_
  refine s_iconst (v := 1) d_A_law_720 (by decide) ?_
  refine s_iadd d_A_law_721 ?_
  refine s_saload d_A_law_722 i1 g1 ?_
  refine s_aload_n d_A_law_723 rfl rfl ?_
  refine s_iload d_A_law_724 rfl ?_
  refine s_iconst (v := 2) d_A_law_726 (by decide) ?_
  refine s_iadd d_A_law_727 ?_
  refine s_saload d_A_law_728 i2 g2 ?_
  refine s_aload_n d_A_law_729 rfl rfl ?_
  exact ah_callS (av := [.ref x1, .int v1, .int v2, .ref x3]) (st := []) d_A_law_730 ml_A_98 ms_A_load hE hdd hAA rfl (Nat.le_of_ble_eq_true rfl) k
theorem b_A_law_733 {d : Nat} {A : Nat → Prop} {h2 : ah_H} {o : Outcome} {h0 : ah_H} {h : ah_H} {x0 : Nat} {x1 : Nat} {x2 : Nat} {x3 : Nat} {x4 : Int32} {s0 : Int32} {v1 : Int32} {j1 : Nat} {v2 : Int32} {j2 : Nat} {d' : Nat} {A' : Nat → Prop} {o' : Outcome} {h' : ah_H} (i1 : ah_ix (x4 + 1) j1) (g1 : ah_sel h x0 99 j1 = some (.int v1)) (i2 : ah_ix (x4 + 2) j2) (g2 : ah_sel h x0 99 j2 = some (.int v2)) (hE : ah_Ev mt_M_load d' A' [.ref x2, .int v1, .int v2] h o' h') (hdd : d' + 1 ≤ d) (hAA : ∀ q, A' q → A q) (k : ah_aft mt_A_law d A h0 o h2 748 [(0, .ref x0), (1, .ref x1), (2, .ref x2), (3, .ref x3), (4, .int x4), (5, .int s0)] [] h' o') (hb : (ah_len h x2 7).isSome = true) : ah_At mt_A_law d A h0 o h2 733 [(0, .ref x0), (1, .ref x1), (2, .ref x2), (3, .ref x3), (4, .int x4)] [.int s0] h := by
  refine s_istore (lv' := [(0, .ref x0), (1, .ref x1), (2, .ref x2), (3, .ref x3), (4, .int x4), (5, .int s0)]) d_A_law_733 (by decide) rfl ?_
  refine s_aload_n d_A_law_735 rfl rfl ?_
  refine s_aload_n d_A_law_736 rfl rfl ?_
  refine s_iload d_A_law_737 rfl ?_
  refine s_iconst (v := 1) d_A_law_739 (by decide) ?_
  refine s_iadd d_A_law_740 ?_
  refine s_saload d_A_law_741 i1 g1 ?_
  refine s_aload_n d_A_law_742 rfl rfl ?_
  refine s_iload d_A_law_743 rfl ?_
  refine s_iconst (v := 2) d_A_law_745 (by decide) ?_
  refine s_iadd d_A_law_746 ?_
  refine s_saload d_A_law_747 i2 g2 ?_
  exact ah_callV (av := [.int v1, .int v2]) (st := []) d_A_law_748 ml_A_100 mi_M_load mv_M_load kc7 hb hE hdd hAA rfl (Nat.le_of_ble_eq_true rfl) k
theorem b_A_law_751 {d : Nat} {A : Nat → Prop} {h2 : ah_H} {o : Outcome} {h0 : ah_H} {h : ah_H} {x0 : Nat} {x1 : Nat} {x2 : Nat} {x3 : Nat} {x4 : Int32} {x5 : Int32} {s0 : Int64} {d' : Nat} {A' : Nat → Prop} {o' : Outcome} {h' : ah_H} (hE : ah_Ev mt_M_thrown d' A' [.ref x2] h o' h') (hdd : d' + 1 ≤ d) (hAA : ∀ q, A' q → A q) (k : ah_aft mt_A_law d A h0 o h2 754 [(0, .ref x0), (1, .ref x1), (2, .ref x2), (3, .ref x3), (4, .int x4), (5, .int x5), (6, .long s0)] [] h' o') (hb : (ah_len h x2 7).isSome = true) : ah_At mt_A_law d A h0 o h2 751 [(0, .ref x0), (1, .ref x1), (2, .ref x2), (3, .ref x3), (4, .int x4), (5, .int x5)] [.long s0] h := by
  refine s_lstore (lv' := [(0, .ref x0), (1, .ref x1), (2, .ref x2), (3, .ref x3), (4, .int x4), (5, .int x5), (6, .long s0)]) d_A_law_751 (by decide) rfl ?_
  refine s_aload_n d_A_law_753 rfl rfl ?_
  exact ah_callV (av := []) (st := []) d_A_law_754 ml_A_64 mi_M_thrown mv_M_thrown kc7 hb hE hdd hAA rfl (Nat.le_of_ble_eq_true rfl) k
theorem b_A_law_757 {d : Nat} {A : Nat → Prop} {h2 : ah_H} {o : Outcome} {h0 : ah_H} {h : ah_H} {x0 : Nat} {x1 : Nat} {x2 : Nat} {x3 : Nat} {x4 : Int32} {x5 : Int32} {x6 : Int64} {s0 : Int32} (kt : s0 = x5 → ah_At mt_A_law d A h0 o h2 764 [(0, .ref x0), (1, .ref x1), (2, .ref x2), (3, .ref x3), (4, .int x4), (5, .int x5), (6, .long x6)] [] h) (kf : ¬ (s0 = x5) → ah_At mt_A_law d A h0 o h2 762 [] [] h) : ah_At mt_A_law d A h0 o h2 757 [(0, .ref x0), (1, .ref x1), (2, .ref x2), (3, .ref x3), (4, .int x4), (5, .int x5), (6, .long x6)] [.int s0] h := by
  refine s_iload d_A_law_757 rfl ?_
  refine s_if_icmpeq (t := 764) d_A_law_759 (by decide) (fun z => ?_) (fun z => ?_)
  · exact (kt z)
  · exact ah_At.sub [] rfl (kf z)
theorem b_A_law_762 {d : Nat} {A : Nat → Prop} {h0 : ah_H} {h : ah_H}   : ah_At mt_A_law d A h0 (.returned (some (.int 0))) h 762 [] [] h := by
  refine s_iconst (v := 0) d_A_law_762 (by decide) ?_
  exact e_iret (ty := .boolean) d_A_law_763 rfl (by decide +kernel)
theorem b_A_law_764 {d : Nat} {A : Nat → Prop} {h2 : ah_H} {o : Outcome} {h0 : ah_H} {h : ah_H} {x0 : Nat} {x1 : Nat} {x2 : Nat} {x3 : Nat} {x4 : Int32} {x5 : Int32} {x6 : Int64} (kt : ¬ x5 = 0 → ah_At mt_A_law d A h0 o h2 780 [(0, .ref x0), (1, .ref x1), (2, .ref x2), (3, .ref x3), (4, .int x4)] [] h) (kf : ¬ (¬ x5 = 0) → ah_At mt_A_law d A h0 o h2 769 [(0, .ref x0), (1, .ref x1), (2, .ref x2), (3, .ref x3), (4, .int x4), (6, .long x6)] [] h) : ah_At mt_A_law d A h0 o h2 764 [(0, .ref x0), (1, .ref x1), (2, .ref x2), (3, .ref x3), (4, .int x4), (5, .int x5), (6, .long x6)] [] h := by
  refine s_iload d_A_law_764 rfl ?_
  refine s_ifne (t := 780) d_A_law_766 (by decide) (fun z => ?_) (fun z => ?_)
  · exact ah_At.sub [0, 1, 2, 3, 4] rfl (kt z)
  · exact ah_At.sub [0, 1, 2, 3, 4, 6] rfl (kf z)
theorem b_A_law_769 {d : Nat} {A : Nat → Prop} {h2 : ah_H} {o : Outcome} {h0 : ah_H} {h : ah_H} {x0 : Nat} {x1 : Nat} {x2 : Nat} {x3 : Nat} {x4 : Int32} {x6 : Int64} {v1 : Int64} {j1 : Nat} (i1 : ah_ix 0 j1) (g1 : ah_sel h x3 101 j1 = some (.long v1)) (kt : (lg_cmp v1 x6) = 0 → ah_At mt_A_law d A h0 o h2 780 [(0, .ref x0), (1, .ref x1), (2, .ref x2), (3, .ref x3), (4, .int x4)] [] h) (kf : ¬ ((lg_cmp v1 x6) = 0) → ah_At mt_A_law d A h0 o h2 778 [] [] h) : ah_At mt_A_law d A h0 o h2 769 [(0, .ref x0), (1, .ref x1), (2, .ref x2), (3, .ref x3), (4, .int x4), (6, .long x6)] [] h := by
  refine s_aload_n d_A_law_769 rfl rfl ?_
  refine s_iconst (v := 0) d_A_law_770 (by decide) ?_
  refine s_laload d_A_law_771 i1 g1 ?_
  refine s_lload d_A_law_772 rfl ?_
  refine s_lcmp d_A_law_774 ?_
  refine s_ifeq (t := 780) d_A_law_775 (by decide) (fun z => ?_) (fun z => ?_)
  · exact ah_At.sub [0, 1, 2, 3, 4] rfl (kt z)
  · exact ah_At.sub [] rfl (kf z)
theorem b_A_law_778 {d : Nat} {A : Nat → Prop} {h0 : ah_H} {h : ah_H}   : ah_At mt_A_law d A h0 (.returned (some (.int 0))) h 778 [] [] h := by
  refine s_iconst (v := 0) d_A_law_778 (by decide) ?_
  exact e_iret (ty := .boolean) d_A_law_779 rfl (by decide +kernel)
theorem b_A_law_780 {d : Nat} {A : Nat → Prop} {h2 : ah_H} {o : Outcome} {h0 : ah_H} {h : ah_H} {x0 : Nat} {x1 : Nat} {x2 : Nat} {x3 : Nat} {x4 : Int32} (k : ah_At mt_A_law d A h0 o h2 1062 [(0, .ref x0), (1, .ref x1), (2, .ref x2), (3, .ref x3), (4, .int x4)] [] h) : ah_At mt_A_law d A h0 o h2 780 [(0, .ref x0), (1, .ref x1), (2, .ref x2), (3, .ref x3), (4, .int x4)] [] h := by
  refine s_goto (t := 1062) d_A_law_780 (by decide) ?_
  exact k
theorem b_A_law_783 {d : Nat} {A : Nat → Prop} {h2 : ah_H} {o : Outcome} {h0 : ah_H} {h : ah_H} {x0 : Nat} {x1 : Nat} {x2 : Nat} {x3 : Nat} {x4 : Int32} {v1 : Int32} {j1 : Nat} {v2 : Int32} {j2 : Nat} {d' : Nat} {A' : Nat → Prop} {o' : Outcome} {h' : ah_H} (i1 : ah_ix (x4 + 1) j1) (g1 : ah_sel h x0 99 j1 = some (.int v1)) (i2 : ah_ix (x4 + 2) j2) (g2 : ah_sel h x0 99 j2 = some (.int v2)) (hE : ah_Ev mt_A_axle d' A' [.ref x1, .int v1, .int v2, .ref x3] h o' h') (hdd : d' + 1 ≤ d) (hAA : ∀ q, A' q → A q) (k : ah_aft mt_A_law d A h0 o h2 797 [(0, .ref x0), (1, .ref x1), (2, .ref x2), (3, .ref x3), (4, .int x4)] [] h' o') : ah_At mt_A_law d A h0 o h2 783 [(0, .ref x0), (1, .ref x1), (2, .ref x2), (3, .ref x3), (4, .int x4)] [] h := by
  refine s_aload_n d_A_law_783 rfl rfl ?_
  refine s_aload_n d_A_law_784 rfl rfl ?_
  refine s_iload d_A_law_785 rfl ?_
  refine s_iconst (v := 1) d_A_law_787 (by decide) ?_
  refine s_iadd d_A_law_788 ?_
  refine s_saload d_A_law_789 i1 g1 ?_
  refine s_aload_n d_A_law_790 rfl rfl ?_
  refine s_iload d_A_law_791 rfl ?_
  refine s_iconst (v := 2) d_A_law_793 (by decide) ?_
  refine s_iadd d_A_law_794 ?_
  refine s_saload d_A_law_795 i2 g2 ?_
  refine s_aload_n d_A_law_796 rfl rfl ?_
  exact ah_callS (av := [.ref x1, .int v1, .int v2, .ref x3]) (st := []) d_A_law_797 ml_A_101 ms_A_axle hE hdd hAA rfl (Nat.le_of_ble_eq_true rfl) k
theorem b_A_law_800 {d : Nat} {A : Nat → Prop} {h2 : ah_H} {o : Outcome} {h0 : ah_H} {h : ah_H} {x0 : Nat} {x1 : Nat} {x2 : Nat} {x3 : Nat} {x4 : Int32} {s0 : Int32} {v1 : Int32} {j1 : Nat} {v2 : Int32} {j2 : Nat} {d' : Nat} {A' : Nat → Prop} {o' : Outcome} {h' : ah_H} (i1 : ah_ix (x4 + 1) j1) (g1 : ah_sel h x0 99 j1 = some (.int v1)) (i2 : ah_ix (x4 + 2) j2) (g2 : ah_sel h x0 99 j2 = some (.int v2)) (hE : ah_Ev mt_M_axle d' A' [.ref x2, .int v1, .int v2] h o' h') (hdd : d' + 1 ≤ d) (hAA : ∀ q, A' q → A q) (k : ah_aft mt_A_law d A h0 o h2 815 [(0, .ref x0), (1, .ref x1), (2, .ref x2), (3, .ref x3), (4, .int x4), (5, .int s0)] [] h' o') (hb : (ah_len h x2 7).isSome = true) : ah_At mt_A_law d A h0 o h2 800 [(0, .ref x0), (1, .ref x1), (2, .ref x2), (3, .ref x3), (4, .int x4)] [.int s0] h := by
  refine s_istore (lv' := [(0, .ref x0), (1, .ref x1), (2, .ref x2), (3, .ref x3), (4, .int x4), (5, .int s0)]) d_A_law_800 (by decide) rfl ?_
  refine s_aload_n d_A_law_802 rfl rfl ?_
  refine s_aload_n d_A_law_803 rfl rfl ?_
  refine s_iload d_A_law_804 rfl ?_
  refine s_iconst (v := 1) d_A_law_806 (by decide) ?_
  refine s_iadd d_A_law_807 ?_
  refine s_saload d_A_law_808 i1 g1 ?_
  refine s_aload_n d_A_law_809 rfl rfl ?_
  refine s_iload d_A_law_810 rfl ?_
  refine s_iconst (v := 2) d_A_law_812 (by decide) ?_
  refine s_iadd d_A_law_813 ?_
  refine s_saload d_A_law_814 i2 g2 ?_
  exact ah_callV (av := [.int v1, .int v2]) (st := []) d_A_law_815 ml_A_103 mi_M_axle mv_M_axle kc7 hb hE hdd hAA rfl (Nat.le_of_ble_eq_true rfl) k
theorem b_A_law_818 {d : Nat} {A : Nat → Prop} {h2 : ah_H} {o : Outcome} {h0 : ah_H} {h : ah_H} {x0 : Nat} {x1 : Nat} {x2 : Nat} {x3 : Nat} {x4 : Int32} {x5 : Int32} {s0 : Int64} {d' : Nat} {A' : Nat → Prop} {o' : Outcome} {h' : ah_H} (hE : ah_Ev mt_M_thrown d' A' [.ref x2] h o' h') (hdd : d' + 1 ≤ d) (hAA : ∀ q, A' q → A q) (k : ah_aft mt_A_law d A h0 o h2 821 [(0, .ref x0), (1, .ref x1), (2, .ref x2), (3, .ref x3), (4, .int x4), (5, .int x5), (6, .long s0)] [] h' o') (hb : (ah_len h x2 7).isSome = true) : ah_At mt_A_law d A h0 o h2 818 [(0, .ref x0), (1, .ref x1), (2, .ref x2), (3, .ref x3), (4, .int x4), (5, .int x5)] [.long s0] h := by
  refine s_lstore (lv' := [(0, .ref x0), (1, .ref x1), (2, .ref x2), (3, .ref x3), (4, .int x4), (5, .int x5), (6, .long s0)]) d_A_law_818 (by decide) rfl ?_
  refine s_aload_n d_A_law_820 rfl rfl ?_
  exact ah_callV (av := []) (st := []) d_A_law_821 ml_A_64 mi_M_thrown mv_M_thrown kc7 hb hE hdd hAA rfl (Nat.le_of_ble_eq_true rfl) k
theorem b_A_law_824 {d : Nat} {A : Nat → Prop} {h2 : ah_H} {o : Outcome} {h0 : ah_H} {h : ah_H} {x0 : Nat} {x1 : Nat} {x2 : Nat} {x3 : Nat} {x4 : Int32} {x5 : Int32} {x6 : Int64} {s0 : Int32} (kt : s0 = x5 → ah_At mt_A_law d A h0 o h2 831 [(0, .ref x0), (1, .ref x1), (2, .ref x2), (3, .ref x3), (4, .int x4), (5, .int x5), (6, .long x6)] [] h) (kf : ¬ (s0 = x5) → ah_At mt_A_law d A h0 o h2 829 [] [] h) : ah_At mt_A_law d A h0 o h2 824 [(0, .ref x0), (1, .ref x1), (2, .ref x2), (3, .ref x3), (4, .int x4), (5, .int x5), (6, .long x6)] [.int s0] h := by
  refine s_iload d_A_law_824 rfl ?_
  refine s_if_icmpeq (t := 831) d_A_law_826 (by decide) (fun z => ?_) (fun z => ?_)
  · exact (kt z)
  · exact ah_At.sub [] rfl (kf z)
theorem b_A_law_829 {d : Nat} {A : Nat → Prop} {h0 : ah_H} {h : ah_H}   : ah_At mt_A_law d A h0 (.returned (some (.int 0))) h 829 [] [] h := by
  refine s_iconst (v := 0) d_A_law_829 (by decide) ?_
  exact e_iret (ty := .boolean) d_A_law_830 rfl (by decide +kernel)
theorem b_A_law_831 {d : Nat} {A : Nat → Prop} {h2 : ah_H} {o : Outcome} {h0 : ah_H} {h : ah_H} {x0 : Nat} {x1 : Nat} {x2 : Nat} {x3 : Nat} {x4 : Int32} {x5 : Int32} {x6 : Int64} (kt : ¬ x5 = 0 → ah_At mt_A_law d A h0 o h2 847 [(0, .ref x0), (1, .ref x1), (2, .ref x2), (3, .ref x3), (4, .int x4)] [] h) (kf : ¬ (¬ x5 = 0) → ah_At mt_A_law d A h0 o h2 836 [(0, .ref x0), (1, .ref x1), (2, .ref x2), (3, .ref x3), (4, .int x4), (6, .long x6)] [] h) : ah_At mt_A_law d A h0 o h2 831 [(0, .ref x0), (1, .ref x1), (2, .ref x2), (3, .ref x3), (4, .int x4), (5, .int x5), (6, .long x6)] [] h := by
  refine s_iload d_A_law_831 rfl ?_
  refine s_ifne (t := 847) d_A_law_833 (by decide) (fun z => ?_) (fun z => ?_)
  · exact ah_At.sub [0, 1, 2, 3, 4] rfl (kt z)
  · exact ah_At.sub [0, 1, 2, 3, 4, 6] rfl (kf z)
theorem b_A_law_836 {d : Nat} {A : Nat → Prop} {h2 : ah_H} {o : Outcome} {h0 : ah_H} {h : ah_H} {x0 : Nat} {x1 : Nat} {x2 : Nat} {x3 : Nat} {x4 : Int32} {x6 : Int64} {v1 : Int64} {j1 : Nat} (i1 : ah_ix 0 j1) (g1 : ah_sel h x3 101 j1 = some (.long v1)) (kt : (lg_cmp v1 x6) = 0 → ah_At mt_A_law d A h0 o h2 847 [(0, .ref x0), (1, .ref x1), (2, .ref x2), (3, .ref x3), (4, .int x4)] [] h) (kf : ¬ ((lg_cmp v1 x6) = 0) → ah_At mt_A_law d A h0 o h2 845 [] [] h) : ah_At mt_A_law d A h0 o h2 836 [(0, .ref x0), (1, .ref x1), (2, .ref x2), (3, .ref x3), (4, .int x4), (6, .long x6)] [] h := by
  refine s_aload_n d_A_law_836 rfl rfl ?_
  refine s_iconst (v := 0) d_A_law_837 (by decide) ?_
  refine s_laload d_A_law_838 i1 g1 ?_
  refine s_lload d_A_law_839 rfl ?_
  refine s_lcmp d_A_law_841 ?_
  refine s_ifeq (t := 847) d_A_law_842 (by decide) (fun z => ?_) (fun z => ?_)
  · exact ah_At.sub [0, 1, 2, 3, 4] rfl (kt z)
  · exact ah_At.sub [] rfl (kf z)
theorem b_A_law_845 {d : Nat} {A : Nat → Prop} {h0 : ah_H} {h : ah_H}   : ah_At mt_A_law d A h0 (.returned (some (.int 0))) h 845 [] [] h := by
  refine s_iconst (v := 0) d_A_law_845 (by decide) ?_
  exact e_iret (ty := .boolean) d_A_law_846 rfl (by decide +kernel)
theorem b_A_law_847 {d : Nat} {A : Nat → Prop} {h2 : ah_H} {o : Outcome} {h0 : ah_H} {h : ah_H} {x0 : Nat} {x1 : Nat} {x2 : Nat} {x3 : Nat} {x4 : Int32} (k : ah_At mt_A_law d A h0 o h2 1062 [(0, .ref x0), (1, .ref x1), (2, .ref x2), (3, .ref x3), (4, .int x4)] [] h) : ah_At mt_A_law d A h0 o h2 847 [(0, .ref x0), (1, .ref x1), (2, .ref x2), (3, .ref x3), (4, .int x4)] [] h := by
  refine s_goto (t := 1062) d_A_law_847 (by decide) ?_
  exact k
theorem b_A_law_850 {d : Nat} {A : Nat → Prop} {h2 : ah_H} {o : Outcome} {h0 : ah_H} {h : ah_H} {x0 : Nat} {x1 : Nat} {x2 : Nat} {x3 : Nat} {x4 : Int32} {v1 : Int32} {j1 : Nat} {d' : Nat} {A' : Nat → Prop} {o' : Outcome} {h' : ah_H} (i1 : ah_ix (x4 + 1) j1) (g1 : ah_sel h x0 99 j1 = some (.int v1)) (hE : ah_Ev mt_A_standby d' A' [.ref x1, .int v1, .ref x3] h o' h') (hdd : d' + 1 ≤ d) (hAA : ∀ q, A' q → A q) (k : ah_aft mt_A_law d A h0 o h2 858 [(0, .ref x0), (1, .ref x1), (2, .ref x2), (3, .ref x3), (4, .int x4)] [] h' o') : ah_At mt_A_law d A h0 o h2 850 [(0, .ref x0), (1, .ref x1), (2, .ref x2), (3, .ref x3), (4, .int x4)] [] h := by
  refine s_aload_n d_A_law_850 rfl rfl ?_
  refine s_aload_n d_A_law_851 rfl rfl ?_
  refine s_iload d_A_law_852 rfl ?_
  refine s_iconst (v := 1) d_A_law_854 (by decide) ?_
  refine s_iadd d_A_law_855 ?_
  refine s_saload d_A_law_856 i1 g1 ?_
  refine s_aload_n d_A_law_857 rfl rfl ?_
  exact ah_callS (av := [.ref x1, .int v1, .ref x3]) (st := []) d_A_law_858 ml_A_104 ms_A_standby hE hdd hAA rfl (Nat.le_of_ble_eq_true rfl) k
theorem b_A_law_861 {d : Nat} {A : Nat → Prop} {h2 : ah_H} {o : Outcome} {h0 : ah_H} {h : ah_H} {x0 : Nat} {x1 : Nat} {x2 : Nat} {x3 : Nat} {x4 : Int32} {s0 : Int32} {v1 : Int32} {j1 : Nat} {d' : Nat} {A' : Nat → Prop} {o' : Outcome} {h' : ah_H} (i1 : ah_ix (x4 + 1) j1) (g1 : ah_sel h x0 99 j1 = some (.int v1)) (hE : ah_Ev mt_M_standby d' A' [.ref x2, .int v1] h o' h') (hdd : d' + 1 ≤ d) (hAA : ∀ q, A' q → A q) (k : ah_aft mt_A_law d A h0 o h2 870 [(0, .ref x0), (1, .ref x1), (2, .ref x2), (3, .ref x3), (4, .int x4), (5, .int s0)] [] h' o') (hb : (ah_len h x2 7).isSome = true) : ah_At mt_A_law d A h0 o h2 861 [(0, .ref x0), (1, .ref x1), (2, .ref x2), (3, .ref x3), (4, .int x4)] [.int s0] h := by
  refine s_istore (lv' := [(0, .ref x0), (1, .ref x1), (2, .ref x2), (3, .ref x3), (4, .int x4), (5, .int s0)]) d_A_law_861 (by decide) rfl ?_
  refine s_aload_n d_A_law_863 rfl rfl ?_
  refine s_aload_n d_A_law_864 rfl rfl ?_
  refine s_iload d_A_law_865 rfl ?_
  refine s_iconst (v := 1) d_A_law_867 (by decide) ?_
  refine s_iadd d_A_law_868 ?_
  refine s_saload d_A_law_869 i1 g1 ?_
  exact ah_callV (av := [.int v1]) (st := []) d_A_law_870 ml_A_107 mi_M_standby mv_M_standby kc7 hb hE hdd hAA rfl (Nat.le_of_ble_eq_true rfl) k
theorem b_A_law_873 {d : Nat} {A : Nat → Prop} {h2 : ah_H} {o : Outcome} {h0 : ah_H} {h : ah_H} {x0 : Nat} {x1 : Nat} {x2 : Nat} {x3 : Nat} {x4 : Int32} {x5 : Int32} {s0 : Int32} {d' : Nat} {A' : Nat → Prop} {o' : Outcome} {h' : ah_H} (hE : ah_Ev mt_M_thrown d' A' [.ref x2] h o' h') (hdd : d' + 1 ≤ d) (hAA : ∀ q, A' q → A q) (k : ah_aft mt_A_law d A h0 o h2 876 [(0, .ref x0), (1, .ref x1), (2, .ref x2), (3, .ref x3), (4, .int x4), (5, .int x5), (6, .int s0)] [] h' o') (hb : (ah_len h x2 7).isSome = true) : ah_At mt_A_law d A h0 o h2 873 [(0, .ref x0), (1, .ref x1), (2, .ref x2), (3, .ref x3), (4, .int x4), (5, .int x5)] [.int s0] h := by
  refine s_istore (lv' := [(0, .ref x0), (1, .ref x1), (2, .ref x2), (3, .ref x3), (4, .int x4), (5, .int x5), (6, .int s0)]) d_A_law_873 (by decide) rfl ?_
  refine s_aload_n d_A_law_875 rfl rfl ?_
  exact ah_callV (av := []) (st := []) d_A_law_876 ml_A_64 mi_M_thrown mv_M_thrown kc7 hb hE hdd hAA rfl (Nat.le_of_ble_eq_true rfl) k
theorem b_A_law_879 {d : Nat} {A : Nat → Prop} {h2 : ah_H} {o : Outcome} {h0 : ah_H} {h : ah_H} {x0 : Nat} {x1 : Nat} {x2 : Nat} {x3 : Nat} {x4 : Int32} {x5 : Int32} {x6 : Int32} {s0 : Int32} (kt : s0 = x5 → ah_At mt_A_law d A h0 o h2 886 [(0, .ref x0), (1, .ref x1), (2, .ref x2), (3, .ref x3), (4, .int x4), (5, .int x5), (6, .int x6)] [] h) (kf : ¬ (s0 = x5) → ah_At mt_A_law d A h0 o h2 884 [] [] h) : ah_At mt_A_law d A h0 o h2 879 [(0, .ref x0), (1, .ref x1), (2, .ref x2), (3, .ref x3), (4, .int x4), (5, .int x5), (6, .int x6)] [.int s0] h := by
  refine s_iload d_A_law_879 rfl ?_
  refine s_if_icmpeq (t := 886) d_A_law_881 (by decide) (fun z => ?_) (fun z => ?_)
  · exact (kt z)
  · exact ah_At.sub [] rfl (kf z)
theorem b_A_law_884 {d : Nat} {A : Nat → Prop} {h0 : ah_H} {h : ah_H}   : ah_At mt_A_law d A h0 (.returned (some (.int 0))) h 884 [] [] h := by
  refine s_iconst (v := 0) d_A_law_884 (by decide) ?_
  exact e_iret (ty := .boolean) d_A_law_885 rfl (by decide +kernel)
theorem b_A_law_886 {d : Nat} {A : Nat → Prop} {h2 : ah_H} {o : Outcome} {h0 : ah_H} {h : ah_H} {x0 : Nat} {x1 : Nat} {x2 : Nat} {x3 : Nat} {x4 : Int32} {x5 : Int32} {x6 : Int32} (kt : ¬ x5 = 0 → ah_At mt_A_law d A h0 o h2 903 [(0, .ref x0), (1, .ref x1), (2, .ref x2), (3, .ref x3), (4, .int x4)] [] h) (kf : ¬ (¬ x5 = 0) → ah_At mt_A_law d A h0 o h2 891 [(0, .ref x0), (1, .ref x1), (2, .ref x2), (3, .ref x3), (4, .int x4), (6, .int x6)] [] h) : ah_At mt_A_law d A h0 o h2 886 [(0, .ref x0), (1, .ref x1), (2, .ref x2), (3, .ref x3), (4, .int x4), (5, .int x5), (6, .int x6)] [] h := by
  refine s_iload d_A_law_886 rfl ?_
  refine s_ifne (t := 903) d_A_law_888 (by decide) (fun z => ?_) (fun z => ?_)
  · exact ah_At.sub [0, 1, 2, 3, 4] rfl (kt z)
  · exact ah_At.sub [0, 1, 2, 3, 4, 6] rfl (kf z)
theorem b_A_law_891 {d : Nat} {A : Nat → Prop} {h2 : ah_H} {o : Outcome} {h0 : ah_H} {h : ah_H} {x0 : Nat} {x1 : Nat} {x2 : Nat} {x3 : Nat} {x4 : Int32} {x6 : Int32} {v1 : Int64} {j1 : Nat} (i1 : ah_ix 0 j1) (g1 : ah_sel h x3 101 j1 = some (.long v1)) (kt : (lg_cmp v1 (Int32.toInt64 x6)) = 0 → ah_At mt_A_law d A h0 o h2 903 [(0, .ref x0), (1, .ref x1), (2, .ref x2), (3, .ref x3), (4, .int x4)] [] h) (kf : ¬ ((lg_cmp v1 (Int32.toInt64 x6)) = 0) → ah_At mt_A_law d A h0 o h2 901 [] [] h) : ah_At mt_A_law d A h0 o h2 891 [(0, .ref x0), (1, .ref x1), (2, .ref x2), (3, .ref x3), (4, .int x4), (6, .int x6)] [] h := by
  refine s_aload_n d_A_law_891 rfl rfl ?_
  refine s_iconst (v := 0) d_A_law_892 (by decide) ?_
  refine s_laload d_A_law_893 i1 g1 ?_
  refine s_iload d_A_law_894 rfl ?_
  refine s_i2l d_A_law_896 ?_
  refine s_lcmp d_A_law_897 ?_
  refine s_ifeq (t := 903) d_A_law_898 (by decide) (fun z => ?_) (fun z => ?_)
  · exact ah_At.sub [0, 1, 2, 3, 4] rfl (kt z)
  · exact ah_At.sub [] rfl (kf z)
theorem b_A_law_901 {d : Nat} {A : Nat → Prop} {h0 : ah_H} {h : ah_H}   : ah_At mt_A_law d A h0 (.returned (some (.int 0))) h 901 [] [] h := by
  refine s_iconst (v := 0) d_A_law_901 (by decide) ?_
  exact e_iret (ty := .boolean) d_A_law_902 rfl (by decide +kernel)
theorem b_A_law_903 {d : Nat} {A : Nat → Prop} {h2 : ah_H} {o : Outcome} {h0 : ah_H} {h : ah_H} {x0 : Nat} {x1 : Nat} {x2 : Nat} {x3 : Nat} {x4 : Int32} (k : ah_At mt_A_law d A h0 o h2 1062 [(0, .ref x0), (1, .ref x1), (2, .ref x2), (3, .ref x3), (4, .int x4)] [] h) : ah_At mt_A_law d A h0 o h2 903 [(0, .ref x0), (1, .ref x1), (2, .ref x2), (3, .ref x3), (4, .int x4)] [] h := by
  refine s_goto (t := 1062) d_A_law_903 (by decide) ?_
  exact k
theorem b_A_law_906 {d : Nat} {A : Nat → Prop} {h2 : ah_H} {o : Outcome} {h0 : ah_H} {h : ah_H} {x0 : Nat} {x1 : Nat} {x2 : Nat} {x3 : Nat} {x4 : Int32} {v1 : Int32} {j1 : Nat} {d' : Nat} {A' : Nat → Prop} {o' : Outcome} {h' : ah_H} (i1 : ah_ix (x4 + 1) j1) (g1 : ah_sel h x0 99 j1 = some (.int v1)) (hE : ah_Ev mt_A_refused d' A' [.ref x1, .int v1, .ref x3] h o' h') (hdd : d' + 1 ≤ d) (hAA : ∀ q, A' q → A q) (k : ah_aft mt_A_law d A h0 o h2 914 [(0, .ref x0), (1, .ref x1), (2, .ref x2), (3, .ref x3), (4, .int x4)] [] h' o') : ah_At mt_A_law d A h0 o h2 906 [(0, .ref x0), (1, .ref x1), (2, .ref x2), (3, .ref x3), (4, .int x4)] [] h := by
  refine s_aload_n d_A_law_906 rfl rfl ?_
  refine s_aload_n d_A_law_907 rfl rfl ?_
  refine s_iload d_A_law_908 rfl ?_
  refine s_iconst (v := 1) d_A_law_910 (by decide) ?_
  refine s_iadd d_A_law_911 ?_
  refine s_saload d_A_law_912 i1 g1 ?_
  refine s_aload_n d_A_law_913 rfl rfl ?_
  exact ah_callS (av := [.ref x1, .int v1, .ref x3]) (st := []) d_A_law_914 ml_A_108 ms_A_refused hE hdd hAA rfl (Nat.le_of_ble_eq_true rfl) k
theorem b_A_law_917 {d : Nat} {A : Nat → Prop} {h2 : ah_H} {o : Outcome} {h0 : ah_H} {h : ah_H} {x0 : Nat} {x1 : Nat} {x2 : Nat} {x3 : Nat} {x4 : Int32} {s0 : Int32} {v1 : Int32} {j1 : Nat} {d' : Nat} {A' : Nat → Prop} {o' : Outcome} {h' : ah_H} (i1 : ah_ix (x4 + 1) j1) (g1 : ah_sel h x0 99 j1 = some (.int v1)) (hE : ah_Ev mt_M_refused d' A' [.ref x2, .int v1] h o' h') (hdd : d' + 1 ≤ d) (hAA : ∀ q, A' q → A q) (k : ah_aft mt_A_law d A h0 o h2 926 [(0, .ref x0), (1, .ref x1), (2, .ref x2), (3, .ref x3), (4, .int x4), (5, .int s0)] [] h' o') (hb : (ah_len h x2 7).isSome = true) : ah_At mt_A_law d A h0 o h2 917 [(0, .ref x0), (1, .ref x1), (2, .ref x2), (3, .ref x3), (4, .int x4)] [.int s0] h := by
  refine s_istore (lv' := [(0, .ref x0), (1, .ref x1), (2, .ref x2), (3, .ref x3), (4, .int x4), (5, .int s0)]) d_A_law_917 (by decide) rfl ?_
  refine s_aload_n d_A_law_919 rfl rfl ?_
  refine s_aload_n d_A_law_920 rfl rfl ?_
  refine s_iload d_A_law_921 rfl ?_
  refine s_iconst (v := 1) d_A_law_923 (by decide) ?_
  refine s_iadd d_A_law_924 ?_
  refine s_saload d_A_law_925 i1 g1 ?_
  exact ah_callV (av := [.int v1]) (st := []) d_A_law_926 ml_A_110 mi_M_refused mv_M_refused kc7 hb hE hdd hAA rfl (Nat.le_of_ble_eq_true rfl) k
theorem b_A_law_929 {d : Nat} {A : Nat → Prop} {h2 : ah_H} {o : Outcome} {h0 : ah_H} {h : ah_H} {x0 : Nat} {x1 : Nat} {x2 : Nat} {x3 : Nat} {x4 : Int32} {x5 : Int32} {s0 : Int32} {d' : Nat} {A' : Nat → Prop} {o' : Outcome} {h' : ah_H} (hE : ah_Ev mt_M_thrown d' A' [.ref x2] h o' h') (hdd : d' + 1 ≤ d) (hAA : ∀ q, A' q → A q) (k : ah_aft mt_A_law d A h0 o h2 932 [(0, .ref x0), (1, .ref x1), (2, .ref x2), (3, .ref x3), (4, .int x4), (5, .int x5), (6, .int s0)] [] h' o') (hb : (ah_len h x2 7).isSome = true) : ah_At mt_A_law d A h0 o h2 929 [(0, .ref x0), (1, .ref x1), (2, .ref x2), (3, .ref x3), (4, .int x4), (5, .int x5)] [.int s0] h := by
  refine s_istore (lv' := [(0, .ref x0), (1, .ref x1), (2, .ref x2), (3, .ref x3), (4, .int x4), (5, .int x5), (6, .int s0)]) d_A_law_929 (by decide) rfl ?_
  refine s_aload_n d_A_law_931 rfl rfl ?_
  exact ah_callV (av := []) (st := []) d_A_law_932 ml_A_64 mi_M_thrown mv_M_thrown kc7 hb hE hdd hAA rfl (Nat.le_of_ble_eq_true rfl) k
theorem b_A_law_935 {d : Nat} {A : Nat → Prop} {h2 : ah_H} {o : Outcome} {h0 : ah_H} {h : ah_H} {x0 : Nat} {x1 : Nat} {x2 : Nat} {x3 : Nat} {x4 : Int32} {x5 : Int32} {x6 : Int32} {s0 : Int32} (kt : s0 = x5 → ah_At mt_A_law d A h0 o h2 942 [(0, .ref x0), (1, .ref x1), (2, .ref x2), (3, .ref x3), (4, .int x4), (5, .int x5), (6, .int x6)] [] h) (kf : ¬ (s0 = x5) → ah_At mt_A_law d A h0 o h2 940 [] [] h) : ah_At mt_A_law d A h0 o h2 935 [(0, .ref x0), (1, .ref x1), (2, .ref x2), (3, .ref x3), (4, .int x4), (5, .int x5), (6, .int x6)] [.int s0] h := by
  refine s_iload d_A_law_935 rfl ?_
  refine s_if_icmpeq (t := 942) d_A_law_937 (by decide) (fun z => ?_) (fun z => ?_)
  · exact (kt z)
  · exact ah_At.sub [] rfl (kf z)
theorem b_A_law_940 {d : Nat} {A : Nat → Prop} {h0 : ah_H} {h : ah_H}   : ah_At mt_A_law d A h0 (.returned (some (.int 0))) h 940 [] [] h := by
  refine s_iconst (v := 0) d_A_law_940 (by decide) ?_
  exact e_iret (ty := .boolean) d_A_law_941 rfl (by decide +kernel)
theorem b_A_law_942 {d : Nat} {A : Nat → Prop} {h2 : ah_H} {o : Outcome} {h0 : ah_H} {h : ah_H} {x0 : Nat} {x1 : Nat} {x2 : Nat} {x3 : Nat} {x4 : Int32} {x5 : Int32} {x6 : Int32} (kt : ¬ x5 = 0 → ah_At mt_A_law d A h0 o h2 959 [(0, .ref x0), (1, .ref x1), (2, .ref x2), (3, .ref x3), (4, .int x4)] [] h) (kf : ¬ (¬ x5 = 0) → ah_At mt_A_law d A h0 o h2 947 [(0, .ref x0), (1, .ref x1), (2, .ref x2), (3, .ref x3), (4, .int x4), (6, .int x6)] [] h) : ah_At mt_A_law d A h0 o h2 942 [(0, .ref x0), (1, .ref x1), (2, .ref x2), (3, .ref x3), (4, .int x4), (5, .int x5), (6, .int x6)] [] h := by
  refine s_iload d_A_law_942 rfl ?_
  refine s_ifne (t := 959) d_A_law_944 (by decide) (fun z => ?_) (fun z => ?_)
  · exact ah_At.sub [0, 1, 2, 3, 4] rfl (kt z)
  · exact ah_At.sub [0, 1, 2, 3, 4, 6] rfl (kf z)
theorem b_A_law_947 {d : Nat} {A : Nat → Prop} {h2 : ah_H} {o : Outcome} {h0 : ah_H} {h : ah_H} {x0 : Nat} {x1 : Nat} {x2 : Nat} {x3 : Nat} {x4 : Int32} {x6 : Int32} {v1 : Int64} {j1 : Nat} (i1 : ah_ix 0 j1) (g1 : ah_sel h x3 101 j1 = some (.long v1)) (kt : (lg_cmp v1 (Int32.toInt64 x6)) = 0 → ah_At mt_A_law d A h0 o h2 959 [(0, .ref x0), (1, .ref x1), (2, .ref x2), (3, .ref x3), (4, .int x4)] [] h) (kf : ¬ ((lg_cmp v1 (Int32.toInt64 x6)) = 0) → ah_At mt_A_law d A h0 o h2 957 [] [] h) : ah_At mt_A_law d A h0 o h2 947 [(0, .ref x0), (1, .ref x1), (2, .ref x2), (3, .ref x3), (4, .int x4), (6, .int x6)] [] h := by
  refine s_aload_n d_A_law_947 rfl rfl ?_
  refine s_iconst (v := 0) d_A_law_948 (by decide) ?_
  refine s_laload d_A_law_949 i1 g1 ?_
  refine s_iload d_A_law_950 rfl ?_
  refine s_i2l d_A_law_952 ?_
  refine s_lcmp d_A_law_953 ?_
  refine s_ifeq (t := 959) d_A_law_954 (by decide) (fun z => ?_) (fun z => ?_)
  · exact ah_At.sub [0, 1, 2, 3, 4] rfl (kt z)
  · exact ah_At.sub [] rfl (kf z)
theorem b_A_law_957 {d : Nat} {A : Nat → Prop} {h0 : ah_H} {h : ah_H}   : ah_At mt_A_law d A h0 (.returned (some (.int 0))) h 957 [] [] h := by
  refine s_iconst (v := 0) d_A_law_957 (by decide) ?_
  exact e_iret (ty := .boolean) d_A_law_958 rfl (by decide +kernel)
theorem b_A_law_959 {d : Nat} {A : Nat → Prop} {h2 : ah_H} {o : Outcome} {h0 : ah_H} {h : ah_H} {x0 : Nat} {x1 : Nat} {x2 : Nat} {x3 : Nat} {x4 : Int32} (k : ah_At mt_A_law d A h0 o h2 1062 [(0, .ref x0), (1, .ref x1), (2, .ref x2), (3, .ref x3), (4, .int x4)] [] h) : ah_At mt_A_law d A h0 o h2 959 [(0, .ref x0), (1, .ref x1), (2, .ref x2), (3, .ref x3), (4, .int x4)] [] h := by
  refine s_goto (t := 1062) d_A_law_959 (by decide) ?_
  exact k
theorem b_A_law_962 {d : Nat} {A : Nat → Prop} {h2 : ah_H} {o : Outcome} {h0 : ah_H} {h : ah_H} {x0 : Nat} {x1 : Nat} {x2 : Nat} {x3 : Nat} {x4 : Int32} {v1 : Int32} {j1 : Nat} {v2 : Int32} {j2 : Nat} {d' : Nat} {A' : Nat → Prop} {o' : Outcome} {h' : ah_H} (i1 : ah_ix (x4 + 1) j1) (g1 : ah_sel h x0 99 j1 = some (.int v1)) (i2 : ah_ix (x4 + 2) j2) (g2 : ah_sel h x0 99 j2 = some (.int v2)) (hE : ah_Ev mt_A_together d' A' [.ref x1, .int v1, .int v2, .ref x3] h o' h') (hdd : d' + 1 ≤ d) (hAA : ∀ q, A' q → A q) (k : ah_aft mt_A_law d A h0 o h2 976 [(0, .ref x0), (1, .ref x1), (2, .ref x2), (3, .ref x3), (4, .int x4)] [] h' o') : ah_At mt_A_law d A h0 o h2 962 [(0, .ref x0), (1, .ref x1), (2, .ref x2), (3, .ref x3), (4, .int x4)] [] h := by
  refine s_aload_n d_A_law_962 rfl rfl ?_
  refine s_aload_n d_A_law_963 rfl rfl ?_
  refine s_iload d_A_law_964 rfl ?_
  refine s_iconst (v := 1) d_A_law_966 (by decide) ?_
  refine s_iadd d_A_law_967 ?_
  refine s_saload d_A_law_968 i1 g1 ?_
  refine s_aload_n d_A_law_969 rfl rfl ?_
  refine s_iload d_A_law_970 rfl ?_
  refine s_iconst (v := 2) d_A_law_972 (by decide) ?_
  refine s_iadd d_A_law_973 ?_
  refine s_saload d_A_law_974 i2 g2 ?_
  refine s_aload_n d_A_law_975 rfl rfl ?_
  exact ah_callS (av := [.ref x1, .int v1, .int v2, .ref x3]) (st := []) d_A_law_976 ml_A_111 ms_A_together hE hdd hAA rfl (Nat.le_of_ble_eq_true rfl) k
theorem b_A_law_979 {d : Nat} {A : Nat → Prop} {h2 : ah_H} {o : Outcome} {h0 : ah_H} {h : ah_H} {x0 : Nat} {x1 : Nat} {x2 : Nat} {x3 : Nat} {x4 : Int32} {s0 : Int32} {v1 : Int32} {j1 : Nat} {v2 : Int32} {j2 : Nat} {d' : Nat} {A' : Nat → Prop} {o' : Outcome} {h' : ah_H} (i1 : ah_ix (x4 + 1) j1) (g1 : ah_sel h x0 99 j1 = some (.int v1)) (i2 : ah_ix (x4 + 2) j2) (g2 : ah_sel h x0 99 j2 = some (.int v2)) (hE : ah_Ev mt_M_together d' A' [.ref x2, .int v1, .int v2] h o' h') (hdd : d' + 1 ≤ d) (hAA : ∀ q, A' q → A q) (k : ah_aft mt_A_law d A h0 o h2 994 [(0, .ref x0), (1, .ref x1), (2, .ref x2), (3, .ref x3), (4, .int x4), (5, .int s0)] [] h' o') (hb : (ah_len h x2 7).isSome = true) : ah_At mt_A_law d A h0 o h2 979 [(0, .ref x0), (1, .ref x1), (2, .ref x2), (3, .ref x3), (4, .int x4)] [.int s0] h := by
  refine s_istore (lv' := [(0, .ref x0), (1, .ref x1), (2, .ref x2), (3, .ref x3), (4, .int x4), (5, .int s0)]) d_A_law_979 (by decide) rfl ?_
  refine s_aload_n d_A_law_981 rfl rfl ?_
  refine s_aload_n d_A_law_982 rfl rfl ?_
  refine s_iload d_A_law_983 rfl ?_
  refine s_iconst (v := 1) d_A_law_985 (by decide) ?_
  refine s_iadd d_A_law_986 ?_
  refine s_saload d_A_law_987 i1 g1 ?_
  refine s_aload_n d_A_law_988 rfl rfl ?_
  refine s_iload d_A_law_989 rfl ?_
  refine s_iconst (v := 2) d_A_law_991 (by decide) ?_
  refine s_iadd d_A_law_992 ?_
  refine s_saload d_A_law_993 i2 g2 ?_
  exact ah_callV (av := [.int v1, .int v2]) (st := []) d_A_law_994 ml_A_113 mi_M_together mv_M_together kc7 hb hE hdd hAA rfl (Nat.le_of_ble_eq_true rfl) k
theorem b_A_law_997 {d : Nat} {A : Nat → Prop} {h2 : ah_H} {o : Outcome} {h0 : ah_H} {h : ah_H} {x0 : Nat} {x1 : Nat} {x2 : Nat} {x3 : Nat} {x4 : Int32} {x5 : Int32} {s0 : Int32} {d' : Nat} {A' : Nat → Prop} {o' : Outcome} {h' : ah_H} (hE : ah_Ev mt_M_thrown d' A' [.ref x2] h o' h') (hdd : d' + 1 ≤ d) (hAA : ∀ q, A' q → A q) (k : ah_aft mt_A_law d A h0 o h2 1000 [(0, .ref x0), (1, .ref x1), (2, .ref x2), (3, .ref x3), (4, .int x4), (5, .int x5), (6, .int s0)] [] h' o') (hb : (ah_len h x2 7).isSome = true) : ah_At mt_A_law d A h0 o h2 997 [(0, .ref x0), (1, .ref x1), (2, .ref x2), (3, .ref x3), (4, .int x4), (5, .int x5)] [.int s0] h := by
  refine s_istore (lv' := [(0, .ref x0), (1, .ref x1), (2, .ref x2), (3, .ref x3), (4, .int x4), (5, .int x5), (6, .int s0)]) d_A_law_997 (by decide) rfl ?_
  refine s_aload_n d_A_law_999 rfl rfl ?_
  exact ah_callV (av := []) (st := []) d_A_law_1000 ml_A_64 mi_M_thrown mv_M_thrown kc7 hb hE hdd hAA rfl (Nat.le_of_ble_eq_true rfl) k
theorem b_A_law_1003 {d : Nat} {A : Nat → Prop} {h2 : ah_H} {o : Outcome} {h0 : ah_H} {h : ah_H} {x0 : Nat} {x1 : Nat} {x2 : Nat} {x3 : Nat} {x4 : Int32} {x5 : Int32} {x6 : Int32} {s0 : Int32} (kt : s0 = x5 → ah_At mt_A_law d A h0 o h2 1010 [(0, .ref x0), (1, .ref x1), (2, .ref x2), (3, .ref x3), (4, .int x4), (5, .int x5), (6, .int x6)] [] h) (kf : ¬ (s0 = x5) → ah_At mt_A_law d A h0 o h2 1008 [] [] h) : ah_At mt_A_law d A h0 o h2 1003 [(0, .ref x0), (1, .ref x1), (2, .ref x2), (3, .ref x3), (4, .int x4), (5, .int x5), (6, .int x6)] [.int s0] h := by
  refine s_iload d_A_law_1003 rfl ?_
  refine s_if_icmpeq (t := 1010) d_A_law_1005 (by decide) (fun z => ?_) (fun z => ?_)
  · exact (kt z)
  · exact ah_At.sub [] rfl (kf z)
theorem b_A_law_1008 {d : Nat} {A : Nat → Prop} {h0 : ah_H} {h : ah_H}   : ah_At mt_A_law d A h0 (.returned (some (.int 0))) h 1008 [] [] h := by
  refine s_iconst (v := 0) d_A_law_1008 (by decide) ?_
  exact e_iret (ty := .boolean) d_A_law_1009 rfl (by decide +kernel)
theorem b_A_law_1010 {d : Nat} {A : Nat → Prop} {h2 : ah_H} {o : Outcome} {h0 : ah_H} {h : ah_H} {x0 : Nat} {x1 : Nat} {x2 : Nat} {x3 : Nat} {x4 : Int32} {x5 : Int32} {x6 : Int32} (kt : ¬ x5 = 0 → ah_At mt_A_law d A h0 o h2 1034 [(0, .ref x0), (1, .ref x1), (2, .ref x2), (3, .ref x3), (4, .int x4)] [] h) (kf : ¬ (¬ x5 = 0) → ah_At mt_A_law d A h0 o h2 1015 [(0, .ref x0), (1, .ref x1), (2, .ref x2), (3, .ref x3), (4, .int x4), (6, .int x6)] [] h) : ah_At mt_A_law d A h0 o h2 1010 [(0, .ref x0), (1, .ref x1), (2, .ref x2), (3, .ref x3), (4, .int x4), (5, .int x5), (6, .int x6)] [] h := by
  refine s_iload d_A_law_1010 rfl ?_
  refine s_ifne (t := 1034) d_A_law_1012 (by decide) (fun z => ?_) (fun z => ?_)
  · exact ah_At.sub [0, 1, 2, 3, 4] rfl (kt z)
  · exact ah_At.sub [0, 1, 2, 3, 4, 6] rfl (kf z)
