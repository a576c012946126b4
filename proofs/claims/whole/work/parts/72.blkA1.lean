/-! BLOCKS. Printed by wip/make.py. -/
theorem b_A_law_1015 {d : Nat} {A : Nat → Prop} {h2 : ah_H} {o : Outcome} {h0 : ah_H} {h : ah_H} {x0 : Nat} {x1 : Nat} {x2 : Nat} {x3 : Nat} {x4 : Int32} {x6 : Int32} {v1 : Int64} {j1 : Nat} (i1 : ah_ix 0 j1) (g1 : ah_sel h x3 101 j1 = some (.long v1)) (kt : x6 = 0 → ah_At mt_A_law d A h0 o h2 1027 [(0, .ref x0), (1, .ref x1), (2, .ref x2), (3, .ref x3), (4, .int x4)] [.long v1] h) (kf : ¬ (x6 = 0) → ah_At mt_A_law d A h0 o h2 1023 [(0, .ref x0), (1, .ref x1), (2, .ref x2), (3, .ref x3), (4, .int x4)] [.long v1] h) : ah_At mt_A_law d A h0 o h2 1015 [(0, .ref x0), (1, .ref x1), (2, .ref x2), (3, .ref x3), (4, .int x4), (6, .int x6)] [] h := by
  refine s_aload_n d_A_law_1015 rfl rfl ?_
  refine s_iconst (v := 0) d_A_law_1016 (by decide) ?_
  refine s_laload d_A_law_1017 i1 g1 ?_
  refine s_iload d_A_law_1018 rfl ?_
  refine s_ifeq (t := 1027) d_A_law_1020 (by decide) (fun z => ?_) (fun z => ?_)
  · exact ah_At.sub [0, 1, 2, 3, 4] rfl (kt z)
  · exact ah_At.sub [0, 1, 2, 3, 4] rfl (kf z)
theorem b_A_law_1023 {d : Nat} {A : Nat → Prop} {h2 : ah_H} {o : Outcome} {h0 : ah_H} {h : ah_H} {x0 : Nat} {x1 : Nat} {x2 : Nat} {x3 : Nat} {x4 : Int32} {s0 : Int64} (k : ah_At mt_A_law d A h0 o h2 1028 [(0, .ref x0), (1, .ref x1), (2, .ref x2), (3, .ref x3), (4, .int x4)] [.long 1, .long s0] h) : ah_At mt_A_law d A h0 o h2 1023 [(0, .ref x0), (1, .ref x1), (2, .ref x2), (3, .ref x3), (4, .int x4)] [.long s0] h := by
  refine s_lconst (v := 1) d_A_law_1023 (by decide) ?_
  refine s_goto (t := 1028) d_A_law_1024 (by decide) ?_
  exact k
theorem b_A_law_1027 {d : Nat} {A : Nat → Prop} {h2 : ah_H} {o : Outcome} {h0 : ah_H} {h : ah_H} {x0 : Nat} {x1 : Nat} {x2 : Nat} {x3 : Nat} {x4 : Int32} {s0 : Int64} (k : ah_At mt_A_law d A h0 o h2 1028 [(0, .ref x0), (1, .ref x1), (2, .ref x2), (3, .ref x3), (4, .int x4)] [.long 0, .long s0] h) : ah_At mt_A_law d A h0 o h2 1027 [(0, .ref x0), (1, .ref x1), (2, .ref x2), (3, .ref x3), (4, .int x4)] [.long s0] h := by
  refine s_lconst (v := 0) d_A_law_1027 (by decide) ?_
  exact k
theorem b_A_law_1028 {d : Nat} {A : Nat → Prop} {h2 : ah_H} {o : Outcome} {h0 : ah_H} {h : ah_H} {x0 : Nat} {x1 : Nat} {x2 : Nat} {x3 : Nat} {x4 : Int32} {s0 : Int64} {s1 : Int64} (kt : (lg_cmp s1 s0) = 0 → ah_At mt_A_law d A h0 o h2 1034 [(0, .ref x0), (1, .ref x1), (2, .ref x2), (3, .ref x3), (4, .int x4)] [] h) (kf : ¬ ((lg_cmp s1 s0) = 0) → ah_At mt_A_law d A h0 o h2 1032 [] [] h) : ah_At mt_A_law d A h0 o h2 1028 [(0, .ref x0), (1, .ref x1), (2, .ref x2), (3, .ref x3), (4, .int x4)] [.long s0, .long s1] h := by
  refine s_lcmp d_A_law_1028 ?_
  refine s_ifeq (t := 1034) d_A_law_1029 (by decide) (fun z => ?_) (fun z => ?_)
  · exact (kt z)
  · exact ah_At.sub [] rfl (kf z)
theorem b_A_law_1032 {d : Nat} {A : Nat → Prop} {h0 : ah_H} {h : ah_H}   : ah_At mt_A_law d A h0 (.returned (some (.int 0))) h 1032 [] [] h := by
  refine s_iconst (v := 0) d_A_law_1032 (by decide) ?_
  exact e_iret (ty := .boolean) d_A_law_1033 rfl (by decide +kernel)
theorem b_A_law_1034 {d : Nat} {A : Nat → Prop} {h2 : ah_H} {o : Outcome} {h0 : ah_H} {h : ah_H} {x0 : Nat} {x1 : Nat} {x2 : Nat} {x3 : Nat} {x4 : Int32} (k : ah_At mt_A_law d A h0 o h2 1062 [(0, .ref x0), (1, .ref x1), (2, .ref x2), (3, .ref x3), (4, .int x4)] [] h) : ah_At mt_A_law d A h0 o h2 1034 [(0, .ref x0), (1, .ref x1), (2, .ref x2), (3, .ref x3), (4, .int x4)] [] h := by
  refine s_goto (t := 1062) d_A_law_1034 (by decide) ?_
  exact k
theorem b_A_law_1037 {d : Nat} {A : Nat → Prop} {h2 : ah_H} {o : Outcome} {h0 : ah_H} {h : ah_H} {x0 : Nat} {x1 : Nat} {x2 : Nat} {x3 : Nat} {x4 : Int32} {v1 : Int32} {j1 : Nat} {d' : Nat} {A' : Nat → Prop} {o' : Outcome} {h' : ah_H} (i1 : ah_ix (x4 + 1) j1) (g1 : ah_sel h x0 99 j1 = some (.int v1)) (hE : ah_Ev mt_X_count d' A' [.ref x1, .int v1] h o' h') (hdd : d' + 1 ≤ d) (hAA : ∀ q, A' q → A q) (k : ah_aft mt_A_law d A h0 o h2 1044 [(0, .ref x0), (1, .ref x1), (2, .ref x2), (3, .ref x3), (4, .int x4)] [] h' o') (hb : (ah_len h x1 6).isSome = true) : ah_At mt_A_law d A h0 o h2 1037 [(0, .ref x0), (1, .ref x1), (2, .ref x2), (3, .ref x3), (4, .int x4)] [] h := by
  refine s_aload_n d_A_law_1037 rfl rfl ?_
  refine s_aload_n d_A_law_1038 rfl rfl ?_
  refine s_iload d_A_law_1039 rfl ?_
  refine s_iconst (v := 1) d_A_law_1041 (by decide) ?_
  refine s_iadd d_A_law_1042 ?_
  refine s_saload d_A_law_1043 i1 g1 ?_
  exact ah_callV (av := [.int v1]) (st := []) d_A_law_1044 ml_A_114 mi_X_count mv_X_count kc6 hb hE hdd hAA rfl (Nat.le_of_ble_eq_true rfl) k
theorem b_A_law_1047 {d : Nat} {A : Nat → Prop} {h2 : ah_H} {o : Outcome} {h0 : ah_H} {h : ah_H} {x0 : Nat} {x1 : Nat} {x2 : Nat} {x3 : Nat} {x4 : Int32} {s0 : Int32} {v1 : Int32} {j1 : Nat} {d' : Nat} {A' : Nat → Prop} {o' : Outcome} {h' : ah_H} (i1 : ah_ix (x4 + 1) j1) (g1 : ah_sel h x0 99 j1 = some (.int v1)) (hE : ah_Ev mt_M_count d' A' [.ref x2, .int v1] h o' h') (hdd : d' + 1 ≤ d) (hAA : ∀ q, A' q → A q) (k : ah_aft mt_A_law d A h0 o h2 1054 [(0, .ref x0), (1, .ref x1), (2, .ref x2), (3, .ref x3), (4, .int x4)] [.int s0] h' o') (hb : (ah_len h x2 7).isSome = true) : ah_At mt_A_law d A h0 o h2 1047 [(0, .ref x0), (1, .ref x1), (2, .ref x2), (3, .ref x3), (4, .int x4)] [.int s0] h := by
  refine s_aload_n d_A_law_1047 rfl rfl ?_
  refine s_aload_n d_A_law_1048 rfl rfl ?_
  refine s_iload d_A_law_1049 rfl ?_
  refine s_iconst (v := 1) d_A_law_1051 (by decide) ?_
  refine s_iadd d_A_law_1052 ?_
  refine s_saload d_A_law_1053 i1 g1 ?_
  exact ah_callV (av := [.int v1]) (st := [.int s0]) d_A_law_1054 ml_A_117 mi_M_count mv_M_count kc7 hb hE hdd hAA rfl (Nat.le_of_ble_eq_true rfl) k
theorem b_A_law_1057 {d : Nat} {A : Nat → Prop} {h2 : ah_H} {o : Outcome} {h0 : ah_H} {h : ah_H} {x0 : Nat} {x1 : Nat} {x2 : Nat} {x3 : Nat} {x4 : Int32} {s0 : Int32} {s1 : Int32} (kt : s1 = s0 → ah_At mt_A_law d A h0 o h2 1062 [(0, .ref x0), (1, .ref x1), (2, .ref x2), (3, .ref x3), (4, .int x4)] [] h) (kf : ¬ (s1 = s0) → ah_At mt_A_law d A h0 o h2 1060 [] [] h) : ah_At mt_A_law d A h0 o h2 1057 [(0, .ref x0), (1, .ref x1), (2, .ref x2), (3, .ref x3), (4, .int x4)] [.int s0, .int s1] h := by
  refine s_if_icmpeq (t := 1062) d_A_law_1057 (by decide) (fun z => ?_) (fun z => ?_)
  · exact (kt z)
  · exact ah_At.sub [] rfl (kf z)
theorem b_A_law_1060 {d : Nat} {A : Nat → Prop} {h0 : ah_H} {h : ah_H}   : ah_At mt_A_law d A h0 (.returned (some (.int 0))) h 1060 [] [] h := by
  refine s_iconst (v := 0) d_A_law_1060 (by decide) ?_
  exact e_iret (ty := .boolean) d_A_law_1061 rfl (by decide +kernel)
theorem b_A_law_1062 {d : Nat} {A : Nat → Prop} {h2 : ah_H} {o : Outcome} {h0 : ah_H} {h : ah_H} {x0 : Nat} {x1 : Nat} {x2 : Nat} {x3 : Nat} {x4 : Int32} (k : ah_At mt_A_law d A h0 o h2 23 [(0, .ref x0), (1, .ref x1), (2, .ref x2), (3, .ref x3), (4, .int (x4 + 8))] [] h) : ah_At mt_A_law d A h0 o h2 1062 [(0, .ref x0), (1, .ref x1), (2, .ref x2), (3, .ref x3), (4, .int x4)] [] h := by
  refine s_iinc (v := x4 + 8) (lv' := [(0, .ref x0), (1, .ref x1), (2, .ref x2), (3, .ref x3), (4, .int (x4 + 8))]) d_A_law_1062 rfl rfl (by decide) rfl ?_
  refine s_goto (t := 23) d_A_law_1065 (by decide) ?_
  exact k
theorem b_A_law_1068 {d : Nat} {A : Nat → Prop} {h0 : ah_H} {h : ah_H}   : ah_At mt_A_law d A h0 (.returned (some (.int 1))) h 1068 [] [] h := by
  refine s_iconst (v := 1) d_A_law_1068 (by decide) ?_
  exact e_iret (ty := .boolean) d_A_law_1069 rfl (by decide +kernel)
