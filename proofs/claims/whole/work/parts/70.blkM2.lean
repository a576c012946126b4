/-! BLOCKS. Printed by wip/make.py. -/
theorem b_M_load_129 {d : Nat} {A : Nat → Prop} {h2 : ah_H} {o : Outcome} {h0 : ah_H} {h : ah_H} {x0 : Nat} {x1 : Int32} {x2 : Int32} {x3 : Int64} (kt : ¬ x2 = 2 → ah_At mt_M_load d A h0 o h2 138 [(0, .ref x0), (1, .int x1)] [] h) (kf : ¬ (¬ x2 = 2) → ah_At mt_M_load d A h0 o h2 134 [(3, .long x3)] [] h) : ah_At mt_M_load d A h0 o h2 129 [(0, .ref x0), (1, .int x1), (2, .int x2), (3, .long x3)] [] h := by
  refine s_iload_n d_M_load_129 rfl rfl ?_
  refine s_iconst (v := 2) d_M_load_130 (by decide) ?_
  refine s_if_icmpne (t := 138) d_M_load_131 (by decide) (fun z => ?_) (fun z => ?_)
  · exact ah_At.sub [0, 1] rfl (kt z)
  · exact ah_At.sub [3] rfl (kf z)
theorem b_M_load_134 {d : Nat} {A : Nat → Prop} {h2 : ah_H} {o : Outcome} {h0 : ah_H} {h : ah_H} {x3 : Int64} (k : ah_At mt_M_load d A h0 o h2 143 [] [.long x3] h) : ah_At mt_M_load d A h0 o h2 134 [(3, .long x3)] [] h := by
  refine s_lload_n d_M_load_134 rfl rfl ?_
  refine s_goto (t := 143) d_M_load_135 (by decide) ?_
  exact ah_At.sub [] rfl k
theorem b_M_load_138 {d : Nat} {A : Nat → Prop} {h2 : ah_H} {o : Outcome} {h0 : ah_H} {h : ah_H} {x0 : Nat} {x1 : Int32} {d' : Nat} {A' : Nat → Prop} {o' : Outcome} {h' : ah_H} (hE : ah_Ev mt_M_weightOn d' A' [.ref x0, .int x1] h o' h') (hdd : d' + 1 ≤ d) (hAA : ∀ q, A' q → A q) (k : ah_aft mt_M_load d A h0 o h2 140 [] [] h' o') (hb : (ah_len h x0 7).isSome = true) : ah_At mt_M_load d A h0 o h2 138 [(0, .ref x0), (1, .int x1)] [] h := by
  refine s_aload_n d_M_load_138 rfl rfl ?_
  refine s_iload_n d_M_load_139 rfl rfl ?_
  refine ah_At.sub [] rfl ?_
  exact ah_callV (av := [.int x1]) (st := []) d_M_load_140 ml_M_150 mi_M_weightOn mv_M_weightOn kc7 hb hE hdd hAA rfl (Nat.le_of_ble_eq_true rfl) k
theorem b_M_load_143 {d : Nat} {A : Nat → Prop} {h0 : ah_H} {h : ah_H} {s0 : Int64}  : ah_At mt_M_load d A h0 (.returned (some (.long s0))) h 143 [] [.long s0] h := by
  exact e_lret d_M_load_143 rfl
theorem b_M_axle_0 {d : Nat} {A : Nat → Prop} {h2 : ah_H} {o : Outcome} {h0 : ah_H} {h : ah_H} {x0 : Nat} {x1 : Int32} {x2 : Int32} {d' : Nat} {A' : Nat → Prop} {o' : Outcome} {h' : ah_H} (hE : ah_Ev mt_M_isWagon d' A' [.ref x0, .int x1] h o' h') (hdd : d' + 1 ≤ d) (hAA : ∀ q, A' q → A q) (k : ah_aft mt_M_axle d A h0 o h2 3 [(0, .ref x0), (1, .int x1), (2, .int x2)] [.ref x0] h' o') (hb : (ah_len h x0 7).isSome = true) : ah_At mt_M_axle d A h0 o h2 0 [(0, .ref x0), (1, .int x1), (2, .int x2)] [] h := by
  refine s_aload_n d_M_axle_0 rfl rfl ?_
  refine s_aload_n d_M_axle_1 rfl rfl ?_
  refine s_iload_n d_M_axle_2 rfl rfl ?_
  exact ah_callV (av := [.int x1]) (st := [.ref x0]) d_M_axle_3 ml_M_89 mi_M_isWagon mv_M_isWagon kc7 hb hE hdd hAA rfl (Nat.le_of_ble_eq_true rfl) k
theorem b_M_axle_6 {d : Nat} {A : Nat → Prop} {h2 : ah_H} {o : Outcome} {h0 : ah_H} {h : ah_H} {x0 : Nat} {x1 : Int32} {x2 : Int32} {s0 : Int32} {s1 : Nat} (kt : s0 = 0 → ah_At mt_M_axle d A h0 o h2 18 [(0, .ref x0), (1, .int x1), (2, .int x2)] [.ref s1] h) (kf : ¬ (s0 = 0) → ah_At mt_M_axle d A h0 o h2 9 [(0, .ref x0), (1, .int x1), (2, .int x2)] [.ref s1] h) : ah_At mt_M_axle d A h0 o h2 6 [(0, .ref x0), (1, .int x1), (2, .int x2)] [.int s0, .ref s1] h := by
  refine s_ifeq (t := 18) d_M_axle_6 (by decide) (fun z => ?_) (fun z => ?_)
  · exact (kt z)
  · exact (kf z)
theorem b_M_axle_9 {d : Nat} {A : Nat → Prop} {h2 : ah_H} {o : Outcome} {h0 : ah_H} {h : ah_H} {x0 : Nat} {x1 : Int32} {x2 : Int32} {s0 : Nat} (kt : x2 < 0 → ah_At mt_M_axle d A h0 o h2 18 [(0, .ref x0), (1, .int x1), (2, .int x2)] [.ref s0] h) (kf : ¬ (x2 < 0) → ah_At mt_M_axle d A h0 o h2 13 [(0, .ref x0), (1, .int x1), (2, .int x2)] [.ref s0] h) : ah_At mt_M_axle d A h0 o h2 9 [(0, .ref x0), (1, .int x1), (2, .int x2)] [.ref s0] h := by
  refine s_iload_n d_M_axle_9 rfl rfl ?_
  refine s_iflt (t := 18) d_M_axle_10 (by decide) (fun z => ?_) (fun z => ?_)
  · exact (kt z)
  · exact (kf z)
theorem b_M_axle_13 {d : Nat} {A : Nat → Prop} {h2 : ah_H} {o : Outcome} {h0 : ah_H} {h : ah_H} {x0 : Nat} {x1 : Int32} {x2 : Int32} {s0 : Nat} (kt : x2 ≤ 1 → ah_At mt_M_axle d A h0 o h2 22 [(0, .ref x0), (1, .int x1), (2, .int x2)] [.ref s0] h) (kf : ¬ (x2 ≤ 1) → ah_At mt_M_axle d A h0 o h2 18 [(0, .ref x0), (1, .int x1), (2, .int x2)] [.ref s0] h) : ah_At mt_M_axle d A h0 o h2 13 [(0, .ref x0), (1, .int x1), (2, .int x2)] [.ref s0] h := by
  refine s_iload_n d_M_axle_13 rfl rfl ?_
  refine s_iconst (v := 1) d_M_axle_14 (by decide) ?_
  refine s_if_icmple (t := 22) d_M_axle_15 (by decide) (fun z => ?_) (fun z => ?_)
  · exact (kt z)
  · exact (kf z)
theorem b_M_axle_18 {d : Nat} {A : Nat → Prop} {h2 : ah_H} {o : Outcome} {h0 : ah_H} {h : ah_H} {x0 : Nat} {x1 : Int32} {x2 : Int32} {s0 : Nat} (k : ah_At mt_M_axle d A h0 o h2 59 [(0, .ref x0), (1, .int x1), (2, .int x2)] [.int 1, .ref s0] h) : ah_At mt_M_axle d A h0 o h2 18 [(0, .ref x0), (1, .int x1), (2, .int x2)] [.ref s0] h := by
  refine s_iconst (v := 1) d_M_axle_18 (by decide) ?_
  refine s_goto (t := 59) d_M_axle_19 (by decide) ?_
  exact k
theorem b_M_axle_22 {d : Nat} {A : Nat → Prop} {h2 : ah_H} {o : Outcome} {h0 : ah_H} {h : ah_H} {x0 : Nat} {x1 : Int32} {x2 : Int32} {s0 : Nat} {v1 : Int32} (g1 : ah_sel h x0 7 17 = some (.int v1)) (kt : ¬ v1 = 0 → ah_At mt_M_axle d A h0 o h2 33 [(0, .ref x0), (1, .int x1), (2, .int x2)] [.ref s0] h) (kf : ¬ (¬ v1 = 0) → ah_At mt_M_axle d A h0 o h2 29 [(0, .ref x0), (1, .int x1), (2, .int x2)] [.ref s0] h) : ah_At mt_M_axle d A h0 o h2 22 [(0, .ref x0), (1, .int x1), (2, .int x2)] [.ref s0] h := by
  refine s_aload_n d_M_axle_22 rfl rfl ?_
  refine s_getfield (k := 17) d_M_axle_23 kc7 (by decide) fl_M_85 g1 ?_
  refine s_ifne (t := 33) d_M_axle_26 (by decide) (fun z => ?_) (fun z => ?_)
  · exact (kt z)
  · exact (kf z)
theorem b_M_axle_29 {d : Nat} {A : Nat → Prop} {h2 : ah_H} {o : Outcome} {h0 : ah_H} {h : ah_H} {x0 : Nat} {x1 : Int32} {x2 : Int32} {s0 : Nat} (k : ah_At mt_M_axle d A h0 o h2 59 [(0, .ref x0), (1, .int x1), (2, .int x2)] [.int 2, .ref s0] h) : ah_At mt_M_axle d A h0 o h2 29 [(0, .ref x0), (1, .int x1), (2, .int x2)] [.ref s0] h := by
  refine s_iconst (v := 2) d_M_axle_29 (by decide) ?_
  refine s_goto (t := 59) d_M_axle_30 (by decide) ?_
  exact k
theorem b_M_axle_33 {d : Nat} {A : Nat → Prop} {h2 : ah_H} {o : Outcome} {h0 : ah_H} {h : ah_H} {x0 : Nat} {x1 : Int32} {x2 : Int32} {s0 : Nat} {v1 : Nat} {d' : Nat} {A' : Nat → Prop} {o' : Outcome} {h' : ah_H} (g1 : ah_sel h x0 7 5 = some (.ref v1)) (hE : ah_Ev mt_M_isWagon d' A' [.ref x0, .int x1] h o' h') (hdd : d' + 1 ≤ d) (hAA : ∀ q, A' q → A q) (k : ah_aft mt_M_axle d A h0 o h2 39 [(0, .ref x0), (1, .int x1), (2, .int x2)] [.ref v1, .ref s0] h' o') (hb : (ah_len h x0 7).isSome = true) : ah_At mt_M_axle d A h0 o h2 33 [(0, .ref x0), (1, .int x1), (2, .int x2)] [.ref s0] h := by
  refine s_aload_n d_M_axle_33 rfl rfl ?_
  refine s_getfield (k := 5) d_M_axle_34 kc7 (by decide) fl_M_17 g1 ?_
  refine s_aload_n d_M_axle_37 rfl rfl ?_
  refine s_iload_n d_M_axle_38 rfl rfl ?_
  exact ah_callV (av := [.int x1]) (st := [.ref v1, .ref s0]) d_M_axle_39 ml_M_89 mi_M_isWagon mv_M_isWagon kc7 hb hE hdd hAA rfl (Nat.le_of_ble_eq_true rfl) k
theorem b_M_axle_42 {d : Nat} {A : Nat → Prop} {h2 : ah_H} {o : Outcome} {h0 : ah_H} {h : ah_H} {x0 : Nat} {x1 : Int32} {x2 : Int32} {s0 : Int32} {s1 : Nat} {s2 : Nat} (kt : s0 = 0 → ah_At mt_M_axle d A h0 o h2 49 [(0, .ref x0), (1, .int x1), (2, .int x2)] [.ref s1, .ref s2] h) (kf : ¬ (s0 = 0) → ah_At mt_M_axle d A h0 o h2 45 [(0, .ref x0), (1, .int x1), (2, .int x2)] [.ref s1, .ref s2] h) : ah_At mt_M_axle d A h0 o h2 42 [(0, .ref x0), (1, .int x1), (2, .int x2)] [.int s0, .ref s1, .ref s2] h := by
  refine s_ifeq (t := 49) d_M_axle_42 (by decide) (fun z => ?_) (fun z => ?_)
  · exact (kt z)
  · exact (kf z)
theorem b_M_axle_45 {d : Nat} {A : Nat → Prop} {h2 : ah_H} {o : Outcome} {h0 : ah_H} {h : ah_H} {x0 : Nat} {x1 : Int32} {x2 : Int32} {s0 : Nat} {s1 : Nat} (k : ah_At mt_M_axle d A h0 o h2 50 [(0, .ref x0), (1, .int x1), (2, .int x2)] [.int x1, .ref s0, .ref s1] h) : ah_At mt_M_axle d A h0 o h2 45 [(0, .ref x0), (1, .int x1), (2, .int x2)] [.ref s0, .ref s1] h := by
  refine s_iload_n d_M_axle_45 rfl rfl ?_
  refine s_goto (t := 50) d_M_axle_46 (by decide) ?_
  exact k
theorem b_M_axle_49 {d : Nat} {A : Nat → Prop} {h2 : ah_H} {o : Outcome} {h0 : ah_H} {h : ah_H} {x0 : Nat} {x1 : Int32} {x2 : Int32} {s0 : Nat} {s1 : Nat} (k : ah_At mt_M_axle d A h0 o h2 50 [(0, .ref x0), (1, .int x1), (2, .int x2)] [.int 0, .ref s0, .ref s1] h) : ah_At mt_M_axle d A h0 o h2 49 [(0, .ref x0), (1, .int x1), (2, .int x2)] [.ref s0, .ref s1] h := by
  refine s_iconst (v := 0) d_M_axle_49 (by decide) ?_
  exact k
theorem b_M_axle_50 {d : Nat} {A : Nat → Prop} {h2 : ah_H} {o : Outcome} {h0 : ah_H} {h : ah_H} {x0 : Nat} {x1 : Int32} {x2 : Int32} {s0 : Int32} {s1 : Nat} {s2 : Nat} {v1 : Int32} {j1 : Nat} (i1 : ah_ix s0 j1) (g1 : ah_sel h s1 100 j1 = some (.int v1)) (kt : ¬ v1 = 0 → ah_At mt_M_axle d A h0 o h2 58 [(0, .ref x0), (1, .int x1), (2, .int x2)] [.ref s2] h) (kf : ¬ (¬ v1 = 0) → ah_At mt_M_axle d A h0 o h2 54 [(0, .ref x0), (1, .int x1), (2, .int x2)] [.ref s2] h) : ah_At mt_M_axle d A h0 o h2 50 [(0, .ref x0), (1, .int x1), (2, .int x2)] [.int s0, .ref s1, .ref s2] h := by
  refine s_iaload d_M_axle_50 i1 g1 ?_
  refine s_ifne (t := 58) d_M_axle_51 (by decide) (fun z => ?_) (fun z => ?_)
  · exact (kt z)
  · exact (kf z)
theorem b_M_axle_54 {d : Nat} {A : Nat → Prop} {h2 : ah_H} {o : Outcome} {h0 : ah_H} {h : ah_H} {x0 : Nat} {x1 : Int32} {x2 : Int32} {s0 : Nat} (k : ah_At mt_M_axle d A h0 o h2 59 [(0, .ref x0), (1, .int x1), (2, .int x2)] [.int 3, .ref s0] h) : ah_At mt_M_axle d A h0 o h2 54 [(0, .ref x0), (1, .int x1), (2, .int x2)] [.ref s0] h := by
  refine s_iconst (v := 3) d_M_axle_54 (by decide) ?_
  refine s_goto (t := 59) d_M_axle_55 (by decide) ?_
  exact k
theorem b_M_axle_58 {d : Nat} {A : Nat → Prop} {h2 : ah_H} {o : Outcome} {h0 : ah_H} {h : ah_H} {x0 : Nat} {x1 : Int32} {x2 : Int32} {s0 : Nat} (k : ah_At mt_M_axle d A h0 o h2 59 [(0, .ref x0), (1, .int x1), (2, .int x2)] [.int 0, .ref s0] h) : ah_At mt_M_axle d A h0 o h2 58 [(0, .ref x0), (1, .int x1), (2, .int x2)] [.ref s0] h := by
  refine s_iconst (v := 0) d_M_axle_58 (by decide) ?_
  exact k
theorem b_M_axle_59 {d : Nat} {A : Nat → Prop} {h2 : ah_H} {o : Outcome} {h0 : ah_H} {h : ah_H} {x0 : Nat} {x1 : Int32} {x2 : Int32} {s0 : Int32} {s1 : Nat} {v2 : Int32} (w1 : A s1) (e1 : (ah_sel h s1 7 0).isSome = true) (g2 : ah_sel (ah_sto h s1 0 (.int s0)) x0 7 0 = some (.int v2)) (kt : v2 ≤ 0 → ah_At mt_M_axle d A h0 o h2 73 [(0, .ref x0), (1, .int x1), (2, .int x2)] [] (ah_sto h s1 0 (.int s0))) (kf : ¬ (v2 ≤ 0) → ah_At mt_M_axle d A h0 o h2 69 [] [] (ah_sto h s1 0 (.int s0))) : ah_At mt_M_axle d A h0 o h2 59 [(0, .ref x0), (1, .int x1), (2, .int x2)] [.int s0, .ref s1] h := by
  refine s_putfield (k := 0) d_M_axle_59 kc7 (by decide) fl_M_63 (Or.inl rfl) w1 rfl e1 ?_
  refine s_aload_n d_M_axle_62 rfl rfl ?_
  refine s_getfield (k := 0) d_M_axle_63 kc7 (by decide) fl_M_63 g2 ?_
  refine s_ifle (t := 73) d_M_axle_66 (by decide) (fun z => ?_) (fun z => ?_)
  · exact (kt z)
  · exact ah_At.sub [] rfl (kf z)
theorem b_M_axle_69 {d : Nat} {A : Nat → Prop} {h2 : ah_H} {o : Outcome} {h0 : ah_H} {h : ah_H}  (k : ah_At mt_M_axle d A h0 o h2 106 [] [.long 0] h) : ah_At mt_M_axle d A h0 o h2 69 [] [] h := by
  refine s_lconst (v := 0) d_M_axle_69 (by decide) ?_
  refine s_goto (t := 106) d_M_axle_70 (by decide) ?_
  exact k
theorem b_M_axle_73 {d : Nat} {A : Nat → Prop} {h2 : ah_H} {o : Outcome} {h0 : ah_H} {h : ah_H} {x0 : Nat} {x1 : Int32} {x2 : Int32} (kt : ¬ x2 = 0 → ah_At mt_M_axle d A h0 o h2 93 [(0, .ref x0), (1, .int x1)] [] h) (kf : ¬ (¬ x2 = 0) → ah_At mt_M_axle d A h0 o h2 77 [(0, .ref x0), (1, .int x1)] [] h) : ah_At mt_M_axle d A h0 o h2 73 [(0, .ref x0), (1, .int x1), (2, .int x2)] [] h := by
  refine s_iload_n d_M_axle_73 rfl rfl ?_
  refine s_ifne (t := 93) d_M_axle_74 (by decide) (fun z => ?_) (fun z => ?_)
  · exact ah_At.sub [0, 1] rfl (kt z)
  · exact ah_At.sub [0, 1] rfl (kf z)
theorem b_M_axle_77 {d : Nat} {A : Nat → Prop} {h2 : ah_H} {o : Outcome} {h0 : ah_H} {h : ah_H} {x0 : Nat} {x1 : Int32} {d' : Nat} {A' : Nat → Prop} {o' : Outcome} {h' : ah_H} (hE : ah_Ev mt_M_weightOn d' A' [.ref x0, .int x1] h o' h') (hdd : d' + 1 ≤ d) (hAA : ∀ q, A' q → A q) (k : ah_aft mt_M_axle d A h0 o h2 79 [(0, .ref x0), (1, .int x1)] [] h' o') (hb : (ah_len h x0 7).isSome = true) : ah_At mt_M_axle d A h0 o h2 77 [(0, .ref x0), (1, .int x1)] [] h := by
  refine s_aload_n d_M_axle_77 rfl rfl ?_
  refine s_iload_n d_M_axle_78 rfl rfl ?_
  exact ah_callV (av := [.int x1]) (st := []) d_M_axle_79 ml_M_150 mi_M_weightOn mv_M_weightOn kc7 hb hE hdd hAA rfl (Nat.le_of_ble_eq_true rfl) k
theorem b_M_axle_82 {d : Nat} {A : Nat → Prop} {h2 : ah_H} {o : Outcome} {h0 : ah_H} {h : ah_H} {x0 : Nat} {x1 : Int32} {s0 : Int64} {v1 : Nat} {v2 : Int32} {j2 : Nat} (g1 : ah_sel h x0 7 5 = some (.ref v1)) (i2 : ah_ix x1 j2) (g2 : ah_sel h v1 100 j2 = some (.int v2)) (z3 : ¬ Int32.toInt64 v2 = 0) (k : ah_At mt_M_axle d A h0 o h2 106 [] [.long (s0 / (Int32.toInt64 v2))] h) : ah_At mt_M_axle d A h0 o h2 82 [(0, .ref x0), (1, .int x1)] [.long s0] h := by
  refine s_aload_n d_M_axle_82 rfl rfl ?_
  refine s_getfield (k := 5) d_M_axle_83 kc7 (by decide) fl_M_17 g1 ?_
  refine s_iload_n d_M_axle_86 rfl rfl ?_
  refine s_iaload d_M_axle_87 i2 g2 ?_
  refine s_i2l d_M_axle_88 ?_
  refine s_ldiv d_M_axle_89 z3 ?_
  refine s_goto (t := 106) d_M_axle_90 (by decide) ?_
  exact ah_At.sub [] rfl k
theorem b_M_axle_93 {d : Nat} {A : Nat → Prop} {h2 : ah_H} {o : Outcome} {h0 : ah_H} {h : ah_H} {x0 : Nat} {x1 : Int32} {d' : Nat} {A' : Nat → Prop} {o' : Outcome} {h' : ah_H} (hE : ah_Ev mt_M_weightOn d' A' [.ref x0, .int x1] h o' h') (hdd : d' + 1 ≤ d) (hAA : ∀ q, A' q → A q) (k : ah_aft mt_M_axle d A h0 o h2 95 [(0, .ref x0), (1, .int x1)] [] h' o') (hb : (ah_len h x0 7).isSome = true) : ah_At mt_M_axle d A h0 o h2 93 [(0, .ref x0), (1, .int x1)] [] h := by
  refine s_aload_n d_M_axle_93 rfl rfl ?_
  refine s_iload_n d_M_axle_94 rfl rfl ?_
  exact ah_callV (av := [.int x1]) (st := []) d_M_axle_95 ml_M_150 mi_M_weightOn mv_M_weightOn kc7 hb hE hdd hAA rfl (Nat.le_of_ble_eq_true rfl) k
theorem b_M_axle_98 {d : Nat} {A : Nat → Prop} {h2 : ah_H} {o : Outcome} {h0 : ah_H} {h : ah_H} {x0 : Nat} {x1 : Int32} {s0 : Int64} {v1 : Nat} {v2 : Int32} {j2 : Nat} (g1 : ah_sel h x0 7 5 = some (.ref v1)) (i2 : ah_ix x1 j2) (g2 : ah_sel h v1 100 j2 = some (.int v2)) (z3 : ¬ Int32.toInt64 v2 = 0) (k : ah_At mt_M_axle d A h0 o h2 106 [] [.long (s0 - s0 / (Int32.toInt64 v2) * (Int32.toInt64 v2))] h) : ah_At mt_M_axle d A h0 o h2 98 [(0, .ref x0), (1, .int x1)] [.long s0] h := by
  refine s_aload_n d_M_axle_98 rfl rfl ?_
  refine s_getfield (k := 5) d_M_axle_99 kc7 (by decide) fl_M_17 g1 ?_
  refine s_iload_n d_M_axle_102 rfl rfl ?_
  refine s_iaload d_M_axle_103 i2 g2 ?_
  refine s_i2l d_M_axle_104 ?_
  refine s_lrem d_M_axle_105 z3 ?_
  exact ah_At.sub [] rfl k
theorem b_M_axle_106 {d : Nat} {A : Nat → Prop} {h0 : ah_H} {h : ah_H} {s0 : Int64}  : ah_At mt_M_axle d A h0 (.returned (some (.long s0))) h 106 [] [.long s0] h := by
  exact e_lret d_M_axle_106 rfl
theorem b_M_standby_0 {d : Nat} {A : Nat → Prop} {h2 : ah_H} {o : Outcome} {h0 : ah_H} {h : ah_H} {x0 : Nat} {x1 : Int32} {v1 : Int32} (g1 : ah_sel h x0 7 17 = some (.int v1)) (kt : v1 = 0 → ah_At mt_M_standby d A h0 o h2 12 [(0, .ref x0), (1, .int x1)] [.ref x0] h) (kf : ¬ (v1 = 0) → ah_At mt_M_standby d A h0 o h2 8 [(0, .ref x0), (1, .int x1)] [.ref x0] h) : ah_At mt_M_standby d A h0 o h2 0 [(0, .ref x0), (1, .int x1)] [] h := by
  refine s_aload_n d_M_standby_0 rfl rfl ?_
  refine s_aload_n d_M_standby_1 rfl rfl ?_
  refine s_getfield (k := 17) d_M_standby_2 kc7 (by decide) fl_M_85 g1 ?_
  refine s_ifeq (t := 12) d_M_standby_5 (by decide) (fun z => ?_) (fun z => ?_)
  · exact (kt z)
  · exact (kf z)
theorem b_M_standby_8 {d : Nat} {A : Nat → Prop} {h2 : ah_H} {o : Outcome} {h0 : ah_H} {h : ah_H} {x0 : Nat} {x1 : Int32} {s0 : Nat} (k : ah_At mt_M_standby d A h0 o h2 13 [(0, .ref x0), (1, .int x1)] [.int 0, .ref s0] h) : ah_At mt_M_standby d A h0 o h2 8 [(0, .ref x0), (1, .int x1)] [.ref s0] h := by
  refine s_iconst (v := 0) d_M_standby_8 (by decide) ?_
  refine s_goto (t := 13) d_M_standby_9 (by decide) ?_
  exact k
theorem b_M_standby_12 {d : Nat} {A : Nat → Prop} {h2 : ah_H} {o : Outcome} {h0 : ah_H} {h : ah_H} {x0 : Nat} {x1 : Int32} {s0 : Nat} (k : ah_At mt_M_standby d A h0 o h2 13 [(0, .ref x0), (1, .int x1)] [.int 1, .ref s0] h) : ah_At mt_M_standby d A h0 o h2 12 [(0, .ref x0), (1, .int x1)] [.ref s0] h := by
  refine s_iconst (v := 1) d_M_standby_12 (by decide) ?_
  exact k
theorem b_M_standby_13 {d : Nat} {A : Nat → Prop} {h2 : ah_H} {o : Outcome} {h0 : ah_H} {h : ah_H} {x0 : Nat} {x1 : Int32} {s0 : Int32} {s1 : Nat} {v2 : Int32} (w1 : A s1) (e1 : (ah_sel h s1 7 0).isSome = true) (g2 : ah_sel (ah_sto h s1 0 (.int s0)) x0 7 0 = some (.int v2)) (kt : v2 ≤ 0 → ah_At mt_M_standby d A h0 o h2 25 [(0, .ref x0), (1, .int x1)] [] (ah_sto h s1 0 (.int s0))) (kf : ¬ (v2 ≤ 0) → ah_At mt_M_standby d A h0 o h2 23 [] [] (ah_sto h s1 0 (.int s0))) : ah_At mt_M_standby d A h0 o h2 13 [(0, .ref x0), (1, .int x1)] [.int s0, .ref s1] h := by
  refine s_putfield (k := 0) d_M_standby_13 kc7 (by decide) fl_M_63 (Or.inl rfl) w1 rfl e1 ?_
  refine s_aload_n d_M_standby_16 rfl rfl ?_
  refine s_getfield (k := 0) d_M_standby_17 kc7 (by decide) fl_M_63 g2 ?_
  refine s_ifle (t := 25) d_M_standby_20 (by decide) (fun z => ?_) (fun z => ?_)
  · exact (kt z)
  · exact ah_At.sub [] rfl (kf z)
theorem b_M_standby_23 {d : Nat} {A : Nat → Prop} {h0 : ah_H} {h : ah_H}   : ah_At mt_M_standby d A h0 (.returned (some (.int 0))) h 23 [] [] h := by
  refine s_iconst (v := 0) d_M_standby_23 (by decide) ?_
  exact e_iret (ty := .int) d_M_standby_24 rfl rfl
theorem b_M_standby_25 {d : Nat} {A : Nat → Prop} {h2 : ah_H} {o : Outcome} {h0 : ah_H} {h : ah_H} {x0 : Nat} {x1 : Int32} (k : ah_At mt_M_standby d A h0 o h2 32 [(0, .ref x0), (1, .int x1), (2, .int x1), (3, .int (-1)), (4, .int 0)] [] h) : ah_At mt_M_standby d A h0 o h2 25 [(0, .ref x0), (1, .int x1)] [] h := by
  refine s_iload_n d_M_standby_25 rfl rfl ?_
  refine s_istore_n (lv' := [(0, .ref x0), (1, .int x1), (2, .int x1)]) d_M_standby_26 rfl (by decide) rfl ?_
  refine s_iconst (v := -1) d_M_standby_27 (by decide) ?_
  refine s_istore_n (lv' := [(0, .ref x0), (1, .int x1), (2, .int x1), (3, .int (-1))]) d_M_standby_28 rfl (by decide) rfl ?_
  refine s_iconst (v := 0) d_M_standby_29 (by decide) ?_
  refine s_istore (lv' := [(0, .ref x0), (1, .int x1), (2, .int x1), (3, .int (-1)), (4, .int 0)]) d_M_standby_30 (by decide) rfl ?_
  exact k
theorem b_M_standby_32 {d : Nat} {A : Nat → Prop} {h2 : ah_H} {o : Outcome} {h0 : ah_H} {h : ah_H} {x0 : Nat} {x1 : Int32} {x2 : Int32} {x3 : Int32} {x4 : Int32} {v1 : Int32} (g1 : ah_sel h x0 7 2 = some (.int v1)) (kt : v1 ≤ x4 → ah_At mt_M_standby d A h0 o h2 98 [(3, .int x3)] [] h) (kf : ¬ (v1 ≤ x4) → ah_At mt_M_standby d A h0 o h2 41 [(0, .ref x0), (1, .int x1), (2, .int x2), (3, .int x3), (4, .int x4)] [] h) : ah_At mt_M_standby d A h0 o h2 32 [(0, .ref x0), (1, .int x1), (2, .int x2), (3, .int x3), (4, .int x4)] [] h := by
  refine s_iload d_M_standby_32 rfl ?_
  refine s_aload_n d_M_standby_34 rfl rfl ?_
  refine s_getfield (k := 2) d_M_standby_35 kc7 (by decide) fl_M_70 g1 ?_
  refine s_if_icmpge (t := 98) d_M_standby_38 (by decide) (fun z => ?_) (fun z => ?_)
  · exact ah_At.sub [3] rfl (kt z)
  · exact (kf z)
theorem b_M_standby_41 {d : Nat} {A : Nat → Prop} {h2 : ah_H} {o : Outcome} {h0 : ah_H} {h : ah_H} {x0 : Nat} {x1 : Int32} {x2 : Int32} {x3 : Int32} {x4 : Int32} (kt : x1 < 0 → ah_At mt_M_standby d A h0 o h2 98 [(3, .int x3)] [] h) (kf : ¬ (x1 < 0) → ah_At mt_M_standby d A h0 o h2 45 [(0, .ref x0), (1, .int x1), (2, .int x2), (3, .int x3), (4, .int x4)] [] h) : ah_At mt_M_standby d A h0 o h2 41 [(0, .ref x0), (1, .int x1), (2, .int x2), (3, .int x3), (4, .int x4)] [] h := by
  refine s_iload_n d_M_standby_41 rfl rfl ?_
  refine s_iflt (t := 98) d_M_standby_42 (by decide) (fun z => ?_) (fun z => ?_)
  · exact ah_At.sub [3] rfl (kt z)
  · exact (kf z)
theorem b_M_standby_45 {d : Nat} {A : Nat → Prop} {h2 : ah_H} {o : Outcome} {h0 : ah_H} {h : ah_H} {x0 : Nat} {x1 : Int32} {x2 : Int32} {x3 : Int32} {x4 : Int32} {d' : Nat} {A' : Nat → Prop} {o' : Outcome} {h' : ah_H} (hE : ah_Ev mt_M_boxAt d' A' [.ref x0, .int x4] h o' h') (hdd : d' + 1 ≤ d) (hAA : ∀ q, A' q → A q) (k : ah_aft mt_M_standby d A h0 o h2 48 [(0, .ref x0), (1, .int x1), (2, .int x2), (3, .int x3), (4, .int x4)] [] h' o') (hb : (ah_len h x0 7).isSome = true) : ah_At mt_M_standby d A h0 o h2 45 [(0, .ref x0), (1, .int x1), (2, .int x2), (3, .int x3), (4, .int x4)] [] h := by
  refine s_aload_n d_M_standby_45 rfl rfl ?_
  refine s_iload d_M_standby_46 rfl ?_
  exact ah_callV (av := [.int x4]) (st := []) d_M_standby_48 ml_M_124 mi_M_boxAt mv_M_boxAt kc7 hb hE hdd hAA rfl (Nat.le_of_ble_eq_true rfl) k
theorem b_M_standby_51 {d : Nat} {A : Nat → Prop} {h2 : ah_H} {o : Outcome} {h0 : ah_H} {h : ah_H} {x0 : Nat} {x1 : Int32} {x2 : Int32} {x3 : Int32} {x4 : Int32} {s0 : Int32} {v1 : Nat} {v2 : Int32} {j2 : Nat} (g1 : ah_sel h x0 7 19 = some (.ref v1)) (i2 : ah_ix s0 j2) (g2 : ah_sel h v1 100 j2 = some (.int v2)) (kt : ¬ v2 = 0 → ah_At mt_M_standby d A h0 o h2 72 [(0, .ref x0), (1, .int x1), (2, .int x2), (3, .int x3), (4, .int x4), (5, .int s0)] [] h) (kf : ¬ (¬ v2 = 0) → ah_At mt_M_standby d A h0 o h2 63 [(0, .ref x0), (1, .int x1), (2, .int x2), (3, .int x3), (4, .int x4), (5, .int s0)] [] h) : ah_At mt_M_standby d A h0 o h2 51 [(0, .ref x0), (1, .int x1), (2, .int x2), (3, .int x3), (4, .int x4)] [.int s0] h := by
  refine s_istore (lv' := [(0, .ref x0), (1, .int x1), (2, .int x2), (3, .int x3), (4, .int x4), (5, .int s0)]) d_M_standby_51 (by decide) rfl ?_
  refine s_aload_n d_M_standby_53 rfl rfl ?_
  refine s_getfield (k := 19) d_M_standby_54 kc7 (by decide) fl_M_60 g1 ?_
  refine s_iload d_M_standby_57 rfl ?_
  refine s_iaload d_M_standby_59 i2 g2 ?_
  refine s_ifne (t := 72) d_M_standby_60 (by decide) (fun z => ?_) (fun z => ?_)
  · exact (kt z)
  · exact (kf z)
theorem b_M_standby_63 {d : Nat} {A : Nat → Prop} {h2 : ah_H} {o : Outcome} {h0 : ah_H} {h : ah_H} {x0 : Nat} {x1 : Int32} {x2 : Int32} {x3 : Int32} {x4 : Int32} {x5 : Int32} (kt : ¬ x2 = 0 → ah_At mt_M_standby d A h0 o h2 72 [(0, .ref x0), (1, .int x1), (2, .int x2), (3, .int x3), (4, .int x4), (5, .int x5)] [] h) (kf : ¬ (¬ x2 = 0) → ah_At mt_M_standby d A h0 o h2 67 [(0, .ref x0), (1, .int x1), (2, .int x2), (4, .int x4), (5, .int x5)] [] h) : ah_At mt_M_standby d A h0 o h2 63 [(0, .ref x0), (1, .int x1), (2, .int x2), (3, .int x3), (4, .int x4), (5, .int x5)] [] h := by
  refine s_iload_n d_M_standby_63 rfl rfl ?_
  refine s_ifne (t := 72) d_M_standby_64 (by decide) (fun z => ?_) (fun z => ?_)
  · exact (kt z)
  · exact ah_At.sub [0, 1, 2, 4, 5] rfl (kf z)
theorem b_M_standby_67 {d : Nat} {A : Nat → Prop} {h2 : ah_H} {o : Outcome} {h0 : ah_H} {h : ah_H} {x0 : Nat} {x1 : Int32} {x2 : Int32} {x4 : Int32} {x5 : Int32} (k : ah_At mt_M_standby d A h0 o h2 73 [(0, .ref x0), (1, .int x1), (2, .int x2), (4, .int x4), (5, .int x5)] [.int x5] h) : ah_At mt_M_standby d A h0 o h2 67 [(0, .ref x0), (1, .int x1), (2, .int x2), (4, .int x4), (5, .int x5)] [] h := by
  refine s_iload d_M_standby_67 rfl ?_
  refine s_goto (t := 73) d_M_standby_69 (by decide) ?_
  exact k
theorem b_M_standby_72 {d : Nat} {A : Nat → Prop} {h2 : ah_H} {o : Outcome} {h0 : ah_H} {h : ah_H} {x0 : Nat} {x1 : Int32} {x2 : Int32} {x3 : Int32} {x4 : Int32} {x5 : Int32} (k : ah_At mt_M_standby d A h0 o h2 73 [(0, .ref x0), (1, .int x1), (2, .int x2), (4, .int x4), (5, .int x5)] [.int x3] h) : ah_At mt_M_standby d A h0 o h2 72 [(0, .ref x0), (1, .int x1), (2, .int x2), (3, .int x3), (4, .int x4), (5, .int x5)] [] h := by
  refine s_iload_n d_M_standby_72 rfl rfl ?_
  exact ah_At.sub [0, 1, 2, 4, 5] rfl k
theorem b_M_standby_73 {d : Nat} {A : Nat → Prop} {h2 : ah_H} {o : Outcome} {h0 : ah_H} {h : ah_H} {x0 : Nat} {x1 : Int32} {x2 : Int32} {x4 : Int32} {x5 : Int32} {s0 : Int32} {v1 : Nat} {v2 : Int32} {j2 : Nat} (g1 : ah_sel h x0 7 19 = some (.ref v1)) (i2 : ah_ix x5 j2) (g2 : ah_sel h v1 100 j2 = some (.int v2)) (kt : ¬ v2 = 0 → ah_At mt_M_standby d A h0 o h2 89 [(0, .ref x0), (1, .int x1), (3, .int s0), (4, .int x4)] [.int x2] h) (kf : ¬ (¬ v2 = 0) → ah_At mt_M_standby d A h0 o h2 85 [(0, .ref x0), (1, .int x1), (3, .int s0), (4, .int x4)] [.int x2] h) : ah_At mt_M_standby d A h0 o h2 73 [(0, .ref x0), (1, .int x1), (2, .int x2), (4, .int x4), (5, .int x5)] [.int s0] h := by
  refine s_istore_n (lv' := [(0, .ref x0), (1, .int x1), (2, .int x2), (4, .int x4), (5, .int x5), (3, .int s0)]) d_M_standby_73 rfl (by decide) rfl ?_
  refine s_iload_n d_M_standby_74 rfl rfl ?_
  refine s_aload_n d_M_standby_75 rfl rfl ?_
  refine s_getfield (k := 19) d_M_standby_76 kc7 (by decide) fl_M_60 g1 ?_
  refine s_iload d_M_standby_79 rfl ?_
  refine s_iaload d_M_standby_81 i2 g2 ?_
  refine s_ifne (t := 89) d_M_standby_82 (by decide) (fun z => ?_) (fun z => ?_)
  · exact ah_At.sub [0, 1, 5, 3] rfl (kt z)
  · exact ah_At.sub [0, 1, 5, 3] rfl (kf z)
theorem b_M_standby_85 {d : Nat} {A : Nat → Prop} {h2 : ah_H} {o : Outcome} {h0 : ah_H} {h : ah_H} {x0 : Nat} {x1 : Int32} {x3 : Int32} {x4 : Int32} {s0 : Int32} (k : ah_At mt_M_standby d A h0 o h2 90 [(0, .ref x0), (1, .int x1), (3, .int x3), (4, .int x4)] [.int 1, .int s0] h) : ah_At mt_M_standby d A h0 o h2 85 [(0, .ref x0), (1, .int x1), (3, .int x3), (4, .int x4)] [.int s0] h := by
  refine s_iconst (v := 1) d_M_standby_85 (by decide) ?_
  refine s_goto (t := 90) d_M_standby_86 (by decide) ?_
  exact k
theorem b_M_standby_89 {d : Nat} {A : Nat → Prop} {h2 : ah_H} {o : Outcome} {h0 : ah_H} {h : ah_H} {x0 : Nat} {x1 : Int32} {x3 : Int32} {x4 : Int32} {s0 : Int32} (k : ah_At mt_M_standby d A h0 o h2 90 [(0, .ref x0), (1, .int x1), (3, .int x3), (4, .int x4)] [.int 0, .int s0] h) : ah_At mt_M_standby d A h0 o h2 89 [(0, .ref x0), (1, .int x1), (3, .int x3), (4, .int x4)] [.int s0] h := by
  refine s_iconst (v := 0) d_M_standby_89 (by decide) ?_
  exact k
theorem b_M_standby_90 {d : Nat} {A : Nat → Prop} {h2 : ah_H} {o : Outcome} {h0 : ah_H} {h : ah_H} {x0 : Nat} {x1 : Int32} {x3 : Int32} {x4 : Int32} {s0 : Int32} {s1 : Int32} (k : ah_At mt_M_standby d A h0 o h2 32 [(0, .ref x0), (1, .int x1), (2, .int (s1 - s0)), (3, .int x3), (4, .int (x4 + 1))] [] h) : ah_At mt_M_standby d A h0 o h2 90 [(0, .ref x0), (1, .int x1), (3, .int x3), (4, .int x4)] [.int s0, .int s1] h := by
  refine s_isub d_M_standby_90 ?_
  refine s_istore_n (lv' := [(0, .ref x0), (1, .int x1), (3, .int x3), (4, .int x4), (2, .int (s1 - s0))]) d_M_standby_91 rfl (by decide) rfl ?_
  refine s_iinc (v := x4 + 1) (lv' := [(0, .ref x0), (1, .int x1), (3, .int x3), (4, .int (x4 + 1)), (2, .int (s1 - s0))]) d_M_standby_92 rfl rfl (by decide) rfl ?_
  refine s_goto (t := 32) d_M_standby_95 (by decide) ?_
  exact ah_At.sub [0, 1, 4, 2, 3] rfl k
theorem b_M_standby_98 {d : Nat} {A : Nat → Prop} {h0 : ah_H} {h : ah_H} {x3 : Int32}  : ah_At mt_M_standby d A h0 (.returned (some (.int x3))) h 98 [(3, .int x3)] [] h := by
  refine s_iload_n d_M_standby_98 rfl rfl ?_
  exact e_iret (ty := .int) d_M_standby_99 rfl rfl
theorem b_M_refused_0 {d : Nat} {A : Nat → Prop} {h2 : ah_H} {o : Outcome} {h0 : ah_H} {h : ah_H} {x0 : Nat} {x1 : Int32} {d' : Nat} {A' : Nat → Prop} {o' : Outcome} {h' : ah_H} (hE : ah_Ev mt_M_isBox d' A' [.ref x0, .int x1] h o' h') (hdd : d' + 1 ≤ d) (hAA : ∀ q, A' q → A q) (k : ah_aft mt_M_refused d A h0 o h2 3 [(0, .ref x0), (1, .int x1)] [.ref x0] h' o') (hb : (ah_len h x0 7).isSome = true) : ah_At mt_M_refused d A h0 o h2 0 [(0, .ref x0), (1, .int x1)] [] h := by
  refine s_aload_n d_M_refused_0 rfl rfl ?_
  refine s_aload_n d_M_refused_1 rfl rfl ?_
  refine s_iload_n d_M_refused_2 rfl rfl ?_
  exact ah_callV (av := [.int x1]) (st := [.ref x0]) d_M_refused_3 ml_M_144 mi_M_isBox mv_M_isBox kc7 hb hE hdd hAA rfl (Nat.le_of_ble_eq_true rfl) k
theorem b_M_refused_6 {d : Nat} {A : Nat → Prop} {h2 : ah_H} {o : Outcome} {h0 : ah_H} {h : ah_H} {x0 : Nat} {x1 : Int32} {s0 : Int32} {s1 : Nat} (kt : s0 = 0 → ah_At mt_M_refused d A h0 o h2 13 [(0, .ref x0), (1, .int x1)] [.ref s1] h) (kf : ¬ (s0 = 0) → ah_At mt_M_refused d A h0 o h2 9 [(0, .ref x0), (1, .int x1)] [.ref s1] h) : ah_At mt_M_refused d A h0 o h2 6 [(0, .ref x0), (1, .int x1)] [.int s0, .ref s1] h := by
  refine s_ifeq (t := 13) d_M_refused_6 (by decide) (fun z => ?_) (fun z => ?_)
  · exact (kt z)
  · exact (kf z)
theorem b_M_refused_9 {d : Nat} {A : Nat → Prop} {h2 : ah_H} {o : Outcome} {h0 : ah_H} {h : ah_H} {x0 : Nat} {x1 : Int32} {s0 : Nat} (k : ah_At mt_M_refused d A h0 o h2 14 [(0, .ref x0), (1, .int x1)] [.int 0, .ref s0] h) : ah_At mt_M_refused d A h0 o h2 9 [(0, .ref x0), (1, .int x1)] [.ref s0] h := by
  refine s_iconst (v := 0) d_M_refused_9 (by decide) ?_
  refine s_goto (t := 14) d_M_refused_10 (by decide) ?_
  exact k
theorem b_M_refused_13 {d : Nat} {A : Nat → Prop} {h2 : ah_H} {o : Outcome} {h0 : ah_H} {h : ah_H} {x0 : Nat} {x1 : Int32} {s0 : Nat} (k : ah_At mt_M_refused d A h0 o h2 14 [(0, .ref x0), (1, .int x1)] [.int 1, .ref s0] h) : ah_At mt_M_refused d A h0 o h2 13 [(0, .ref x0), (1, .int x1)] [.ref s0] h := by
  refine s_iconst (v := 1) d_M_refused_13 (by decide) ?_
  exact k
theorem b_M_refused_14 {d : Nat} {A : Nat → Prop} {h2 : ah_H} {o : Outcome} {h0 : ah_H} {h : ah_H} {x0 : Nat} {x1 : Int32} {s0 : Int32} {s1 : Nat} {v2 : Int32} (w1 : A s1) (e1 : (ah_sel h s1 7 0).isSome = true) (g2 : ah_sel (ah_sto h s1 0 (.int s0)) x0 7 0 = some (.int v2)) (kt : v2 ≤ 0 → ah_At mt_M_refused d A h0 o h2 26 [(0, .ref x0), (1, .int x1)] [] (ah_sto h s1 0 (.int s0))) (kf : ¬ (v2 ≤ 0) → ah_At mt_M_refused d A h0 o h2 24 [] [] (ah_sto h s1 0 (.int s0))) : ah_At mt_M_refused d A h0 o h2 14 [(0, .ref x0), (1, .int x1)] [.int s0, .ref s1] h := by
  refine s_putfield (k := 0) d_M_refused_14 kc7 (by decide) fl_M_63 (Or.inl rfl) w1 rfl e1 ?_
  refine s_aload_n d_M_refused_17 rfl rfl ?_
  refine s_getfield (k := 0) d_M_refused_18 kc7 (by decide) fl_M_63 g2 ?_
  refine s_ifle (t := 26) d_M_refused_21 (by decide) (fun z => ?_) (fun z => ?_)
  · exact (kt z)
  · exact ah_At.sub [] rfl (kf z)
theorem b_M_refused_24 {d : Nat} {A : Nat → Prop} {h0 : ah_H} {h : ah_H}   : ah_At mt_M_refused d A h0 (.returned (some (.int 0))) h 24 [] [] h := by
  refine s_iconst (v := 0) d_M_refused_24 (by decide) ?_
  exact e_iret (ty := .int) d_M_refused_25 rfl rfl
theorem b_M_refused_26 {d : Nat} {A : Nat → Prop} {h2 : ah_H} {o : Outcome} {h0 : ah_H} {h : ah_H} {x0 : Nat} {x1 : Int32} {v1 : Int32} (g1 : ah_sel h x0 7 1 = some (.int v1)) (kt : ¬ v1 = 0 → ah_At mt_M_refused d A h0 o h2 37 [(0, .ref x0), (1, .int x1)] [] h) (kf : ¬ (¬ v1 = 0) → ah_At mt_M_refused d A h0 o h2 33 [(0, .ref x0), (1, .int x1)] [] h) : ah_At mt_M_refused d A h0 o h2 26 [(0, .ref x0), (1, .int x1)] [] h := by
  refine s_aload_n d_M_refused_26 rfl rfl ?_
  refine s_getfield (k := 1) d_M_refused_27 kc7 (by decide) fl_M_67 g1 ?_
  refine s_ifne (t := 37) d_M_refused_30 (by decide) (fun z => ?_) (fun z => ?_)
  · exact (kt z)
  · exact (kf z)
theorem b_M_refused_33 {d : Nat} {A : Nat → Prop} {h2 : ah_H} {o : Outcome} {h0 : ah_H} {h : ah_H} {x0 : Nat} {x1 : Int32} (k : ah_At mt_M_refused d A h0 o h2 38 [(0, .ref x0), (1, .int x1)] [.int 4] h) : ah_At mt_M_refused d A h0 o h2 33 [(0, .ref x0), (1, .int x1)] [] h := by
  refine s_iconst (v := 4) d_M_refused_33 (by decide) ?_
  refine s_goto (t := 38) d_M_refused_34 (by decide) ?_
  exact k
theorem b_M_refused_37 {d : Nat} {A : Nat → Prop} {h2 : ah_H} {o : Outcome} {h0 : ah_H} {h : ah_H} {x0 : Nat} {x1 : Int32} (k : ah_At mt_M_refused d A h0 o h2 38 [(0, .ref x0), (1, .int x1)] [.int 0] h) : ah_At mt_M_refused d A h0 o h2 37 [(0, .ref x0), (1, .int x1)] [] h := by
  refine s_iconst (v := 0) d_M_refused_37 (by decide) ?_
  exact k
theorem b_M_refused_38 {d : Nat} {A : Nat → Prop} {h2 : ah_H} {o : Outcome} {h0 : ah_H} {h : ah_H} {x0 : Nat} {x1 : Int32} {s0 : Int32} (k : ah_At mt_M_refused d A h0 o h2 44 [(0, .ref x0), (1, .int x1), (2, .int s0), (3, .int 0), (4, .int 0)] [] h) : ah_At mt_M_refused d A h0 o h2 38 [(0, .ref x0), (1, .int x1)] [.int s0] h := by
  refine s_istore_n (lv' := [(0, .ref x0), (1, .int x1), (2, .int s0)]) d_M_refused_38 rfl (by decide) rfl ?_
  refine s_iconst (v := 0) d_M_refused_39 (by decide) ?_
  refine s_istore_n (lv' := [(0, .ref x0), (1, .int x1), (2, .int s0), (3, .int 0)]) d_M_refused_40 rfl (by decide) rfl ?_
  refine s_iconst (v := 0) d_M_refused_41 (by decide) ?_
  refine s_istore (lv' := [(0, .ref x0), (1, .int x1), (2, .int s0), (3, .int 0), (4, .int 0)]) d_M_refused_42 (by decide) rfl ?_
  exact k
theorem b_M_refused_44 {d : Nat} {A : Nat → Prop} {h2 : ah_H} {o : Outcome} {h0 : ah_H} {h : ah_H} {x0 : Nat} {x1 : Int32} {x2 : Int32} {x3 : Int32} {x4 : Int32} {v1 : Int32} (g1 : ah_sel h x0 7 1 = some (.int v1)) (kt : v1 ≤ x4 → ah_At mt_M_refused d A h0 o h2 201 [(2, .int x2), (3, .int x3)] [] h) (kf : ¬ (v1 ≤ x4) → ah_At mt_M_refused d A h0 o h2 53 [(0, .ref x0), (1, .int x1), (2, .int x2), (3, .int x3), (4, .int x4)] [] h) : ah_At mt_M_refused d A h0 o h2 44 [(0, .ref x0), (1, .int x1), (2, .int x2), (3, .int x3), (4, .int x4)] [] h := by
  refine s_iload d_M_refused_44 rfl ?_
  refine s_aload_n d_M_refused_46 rfl rfl ?_
  refine s_getfield (k := 1) d_M_refused_47 kc7 (by decide) fl_M_67 g1 ?_
  refine s_if_icmpge (t := 201) d_M_refused_50 (by decide) (fun z => ?_) (fun z => ?_)
  · exact ah_At.sub [2, 3] rfl (kt z)
  · exact (kf z)
theorem b_M_refused_53 {d : Nat} {A : Nat → Prop} {h2 : ah_H} {o : Outcome} {h0 : ah_H} {h : ah_H} {x0 : Nat} {x1 : Int32} {x2 : Int32} {x3 : Int32} {x4 : Int32} {v1 : Nat} {v2 : Int32} {j2 : Nat} (g1 : ah_sel h x0 7 10 = some (.ref v1)) (i2 : ah_ix x1 j2) (g2 : ah_sel h v1 100 j2 = some (.int v2)) (kt : ¬ v2 = 1 → ah_At mt_M_refused d A h0 o h2 70 [(0, .ref x0), (1, .int x1), (2, .int x2), (3, .int x3), (4, .int x4)] [.int x4, .ref x0] h) (kf : ¬ (¬ v2 = 1) → ah_At mt_M_refused d A h0 o h2 66 [(0, .ref x0), (1, .int x1), (2, .int x2), (3, .int x3), (4, .int x4)] [.int x4, .ref x0] h) : ah_At mt_M_refused d A h0 o h2 53 [(0, .ref x0), (1, .int x1), (2, .int x2), (3, .int x3), (4, .int x4)] [] h := by
  refine s_aload_n d_M_refused_53 rfl rfl ?_
  refine s_iload d_M_refused_54 rfl ?_
  refine s_aload_n d_M_refused_56 rfl rfl ?_
  refine s_getfield (k := 10) d_M_refused_57 kc7 (by decide) fl_M_33 g1 ?_
  refine s_iload_n d_M_refused_60 rfl rfl ?_
  refine s_iaload d_M_refused_61 i2 g2 ?_
  refine s_iconst (v := 1) d_M_refused_62 (by decide) ?_
  refine s_if_icmpne (t := 70) d_M_refused_63 (by decide) (fun z => ?_) (fun z => ?_)
  · exact (kt z)
  · exact (kf z)
theorem b_M_refused_66 {d : Nat} {A : Nat → Prop} {h2 : ah_H} {o : Outcome} {h0 : ah_H} {h : ah_H} {x0 : Nat} {x1 : Int32} {x2 : Int32} {x3 : Int32} {x4 : Int32} {s0 : Int32} {s1 : Nat} (k : ah_At mt_M_refused d A h0 o h2 71 [(0, .ref x0), (1, .int x1), (2, .int x2), (3, .int x3), (4, .int x4)] [.int 1, .int s0, .ref s1] h) : ah_At mt_M_refused d A h0 o h2 66 [(0, .ref x0), (1, .int x1), (2, .int x2), (3, .int x3), (4, .int x4)] [.int s0, .ref s1] h := by
  refine s_iconst (v := 1) d_M_refused_66 (by decide) ?_
  refine s_goto (t := 71) d_M_refused_67 (by decide) ?_
  exact k
theorem b_M_refused_70 {d : Nat} {A : Nat → Prop} {h2 : ah_H} {o : Outcome} {h0 : ah_H} {h : ah_H} {x0 : Nat} {x1 : Int32} {x2 : Int32} {x3 : Int32} {x4 : Int32} {s0 : Int32} {s1 : Nat} (k : ah_At mt_M_refused d A h0 o h2 71 [(0, .ref x0), (1, .int x1), (2, .int x2), (3, .int x3), (4, .int x4)] [.int 0, .int s0, .ref s1] h) : ah_At mt_M_refused d A h0 o h2 70 [(0, .ref x0), (1, .int x1), (2, .int x2), (3, .int x3), (4, .int x4)] [.int s0, .ref s1] h := by
  refine s_iconst (v := 0) d_M_refused_70 (by decide) ?_
  exact k
theorem b_M_refused_71 {d : Nat} {A : Nat → Prop} {h2 : ah_H} {o : Outcome} {h0 : ah_H} {h : ah_H} {x0 : Nat} {x1 : Int32} {x2 : Int32} {x3 : Int32} {x4 : Int32} {s0 : Int32} {s1 : Int32} {s2 : Nat} {v1 : Nat} {v2 : Int32} {j2 : Nat} (g1 : ah_sel h x0 7 10 = some (.ref v1)) (i2 : ah_ix x1 j2) (g2 : ah_sel h v1 100 j2 = some (.int v2)) (kt : ¬ v2 = 2 → ah_At mt_M_refused d A h0 o h2 85 [(0, .ref x0), (1, .int x1), (2, .int x2), (3, .int x3), (4, .int x4)] [.int s0, .int s1, .ref s2] h) (kf : ¬ (¬ v2 = 2) → ah_At mt_M_refused d A h0 o h2 81 [(0, .ref x0), (1, .int x1), (2, .int x2), (3, .int x3), (4, .int x4)] [.int s0, .int s1, .ref s2] h) : ah_At mt_M_refused d A h0 o h2 71 [(0, .ref x0), (1, .int x1), (2, .int x2), (3, .int x3), (4, .int x4)] [.int s0, .int s1, .ref s2] h := by
  refine s_aload_n d_M_refused_71 rfl rfl ?_
  refine s_getfield (k := 10) d_M_refused_72 kc7 (by decide) fl_M_33 g1 ?_
  refine s_iload_n d_M_refused_75 rfl rfl ?_
  refine s_iaload d_M_refused_76 i2 g2 ?_
  refine s_iconst (v := 2) d_M_refused_77 (by decide) ?_
  refine s_if_icmpne (t := 85) d_M_refused_78 (by decide) (fun z => ?_) (fun z => ?_)
  · exact (kt z)
  · exact (kf z)
theorem b_M_refused_81 {d : Nat} {A : Nat → Prop} {h2 : ah_H} {o : Outcome} {h0 : ah_H} {h : ah_H} {x0 : Nat} {x1 : Int32} {x2 : Int32} {x3 : Int32} {x4 : Int32} {s0 : Int32} {s1 : Int32} {s2 : Nat} (k : ah_At mt_M_refused d A h0 o h2 86 [(0, .ref x0), (1, .int x1), (2, .int x2), (3, .int x3), (4, .int x4)] [.int 1, .int s0, .int s1, .ref s2] h) : ah_At mt_M_refused d A h0 o h2 81 [(0, .ref x0), (1, .int x1), (2, .int x2), (3, .int x3), (4, .int x4)] [.int s0, .int s1, .ref s2] h := by
  refine s_iconst (v := 1) d_M_refused_81 (by decide) ?_
  refine s_goto (t := 86) d_M_refused_82 (by decide) ?_
  exact k
theorem b_M_refused_85 {d : Nat} {A : Nat → Prop} {h2 : ah_H} {o : Outcome} {h0 : ah_H} {h : ah_H} {x0 : Nat} {x1 : Int32} {x2 : Int32} {x3 : Int32} {x4 : Int32} {s0 : Int32} {s1 : Int32} {s2 : Nat} (k : ah_At mt_M_refused d A h0 o h2 86 [(0, .ref x0), (1, .int x1), (2, .int x2), (3, .int x3), (4, .int x4)] [.int 0, .int s0, .int s1, .ref s2] h) : ah_At mt_M_refused d A h0 o h2 85 [(0, .ref x0), (1, .int x1), (2, .int x2), (3, .int x3), (4, .int x4)] [.int s0, .int s1, .ref s2] h := by
  refine s_iconst (v := 0) d_M_refused_85 (by decide) ?_
  exact k
theorem b_M_refused_86 {d : Nat} {A : Nat → Prop} {h2 : ah_H} {o : Outcome} {h0 : ah_H} {h : ah_H} {x0 : Nat} {x1 : Int32} {x2 : Int32} {x3 : Int32} {x4 : Int32} {s0 : Int32} {s1 : Int32} {s2 : Int32} {s3 : Nat} {v1 : Nat} {v2 : Int32} {j2 : Nat} (g1 : ah_sel h x0 7 10 = some (.ref v1)) (i2 : ah_ix x1 j2) (g2 : ah_sel h v1 100 j2 = some (.int v2)) (kt : ¬ v2 = 3 → ah_At mt_M_refused d A h0 o h2 100 [(0, .ref x0), (1, .int x1), (2, .int x2), (3, .int x3), (4, .int x4)] [.int s0, .int s1, .int s2, .ref s3] h) (kf : ¬ (¬ v2 = 3) → ah_At mt_M_refused d A h0 o h2 96 [(0, .ref x0), (1, .int x1), (2, .int x2), (3, .int x3), (4, .int x4)] [.int s0, .int s1, .int s2, .ref s3] h) : ah_At mt_M_refused d A h0 o h2 86 [(0, .ref x0), (1, .int x1), (2, .int x2), (3, .int x3), (4, .int x4)] [.int s0, .int s1, .int s2, .ref s3] h := by
  refine s_aload_n d_M_refused_86 rfl rfl ?_
  refine s_getfield (k := 10) d_M_refused_87 kc7 (by decide) fl_M_33 g1 ?_
  refine s_iload_n d_M_refused_90 rfl rfl ?_
  refine s_iaload d_M_refused_91 i2 g2 ?_
  refine s_iconst (v := 3) d_M_refused_92 (by decide) ?_
  refine s_if_icmpne (t := 100) d_M_refused_93 (by decide) (fun z => ?_) (fun z => ?_)
  · exact (kt z)
  · exact (kf z)
theorem b_M_refused_96 {d : Nat} {A : Nat → Prop} {h2 : ah_H} {o : Outcome} {h0 : ah_H} {h : ah_H} {x0 : Nat} {x1 : Int32} {x2 : Int32} {x3 : Int32} {x4 : Int32} {s0 : Int32} {s1 : Int32} {s2 : Int32} {s3 : Nat} (k : ah_At mt_M_refused d A h0 o h2 101 [(0, .ref x0), (1, .int x1), (2, .int x2), (3, .int x3), (4, .int x4)] [.int 1, .int s0, .int s1, .int s2, .ref s3] h) : ah_At mt_M_refused d A h0 o h2 96 [(0, .ref x0), (1, .int x1), (2, .int x2), (3, .int x3), (4, .int x4)] [.int s0, .int s1, .int s2, .ref s3] h := by
  refine s_iconst (v := 1) d_M_refused_96 (by decide) ?_
  refine s_goto (t := 101) d_M_refused_97 (by decide) ?_
  exact k
theorem b_M_refused_100 {d : Nat} {A : Nat → Prop} {h2 : ah_H} {o : Outcome} {h0 : ah_H} {h : ah_H} {x0 : Nat} {x1 : Int32} {x2 : Int32} {x3 : Int32} {x4 : Int32} {s0 : Int32} {s1 : Int32} {s2 : Int32} {s3 : Nat} (k : ah_At mt_M_refused d A h0 o h2 101 [(0, .ref x0), (1, .int x1), (2, .int x2), (3, .int x3), (4, .int x4)] [.int 0, .int s0, .int s1, .int s2, .ref s3] h) : ah_At mt_M_refused d A h0 o h2 100 [(0, .ref x0), (1, .int x1), (2, .int x2), (3, .int x3), (4, .int x4)] [.int s0, .int s1, .int s2, .ref s3] h := by
  refine s_iconst (v := 0) d_M_refused_100 (by decide) ?_
  exact k
theorem b_M_refused_101 {d : Nat} {A : Nat → Prop} {h2 : ah_H} {o : Outcome} {h0 : ah_H} {h : ah_H} {x0 : Nat} {x1 : Int32} {x2 : Int32} {x3 : Int32} {x4 : Int32} {s0 : Int32} {s1 : Int32} {s2 : Int32} {s3 : Int32} {s4 : Nat} {d' : Nat} {A' : Nat → Prop} {o' : Outcome} {h' : ah_H} (hE : ah_Ev mt_M_patternFor d' A' [.ref s4, .int s3, .int s2, .int s1, .int s0] h o' h') (hdd : d' + 1 ≤ d) (hAA : ∀ q, A' q → A q) (k : ah_aft mt_M_refused d A h0 o h2 101 [(0, .ref x0), (1, .int x1), (2, .int x2), (3, .int x3), (4, .int x4)] [] h' o') (hb : (ah_len h s4 7).isSome = true) : ah_At mt_M_refused d A h0 o h2 101 [(0, .ref x0), (1, .int x1), (2, .int x2), (3, .int x3), (4, .int x4)] [.int s0, .int s1, .int s2, .int s3, .ref s4] h := by
  exact ah_callV (av := [.int s3, .int s2, .int s1, .int s0]) (st := []) d_M_refused_101 ml_M_111 mi_M_patternFor mv_M_patternFor kc7 hb hE hdd hAA rfl (Nat.le_of_ble_eq_true rfl) k
theorem b_M_refused_104 {d : Nat} {A : Nat → Prop} {h2 : ah_H} {o : Outcome} {h0 : ah_H} {h : ah_H} {x0 : Nat} {x1 : Int32} {x2 : Int32} {x3 : Int32} {x4 : Int32} {s0 : Int32} (kt : s0 < 0 → ah_At mt_M_refused d A h0 o h2 111 [(0, .ref x0), (1, .int x1), (2, .int x2), (3, .int x3), (4, .int x4)] [] h) (kf : ¬ (s0 < 0) → ah_At mt_M_refused d A h0 o h2 107 [(0, .ref x0), (1, .int x1), (2, .int x2), (3, .int x3), (4, .int x4)] [] h) : ah_At mt_M_refused d A h0 o h2 104 [(0, .ref x0), (1, .int x1), (2, .int x2), (3, .int x3), (4, .int x4)] [.int s0] h := by
  refine s_iflt (t := 111) d_M_refused_104 (by decide) (fun z => ?_) (fun z => ?_)
  · exact (kt z)
  · exact (kf z)
theorem b_M_refused_107 {d : Nat} {A : Nat → Prop} {h2 : ah_H} {o : Outcome} {h0 : ah_H} {h : ah_H} {x0 : Nat} {x1 : Int32} {x2 : Int32} {x3 : Int32} {x4 : Int32} (k : ah_At mt_M_refused d A h0 o h2 112 [(0, .ref x0), (1, .int x1), (2, .int x2), (3, .int x3), (4, .int x4)] [.int 1] h) : ah_At mt_M_refused d A h0 o h2 107 [(0, .ref x0), (1, .int x1), (2, .int x2), (3, .int x3), (4, .int x4)] [] h := by
  refine s_iconst (v := 1) d_M_refused_107 (by decide) ?_
  refine s_goto (t := 112) d_M_refused_108 (by decide) ?_
  exact k
theorem b_M_refused_111 {d : Nat} {A : Nat → Prop} {h2 : ah_H} {o : Outcome} {h0 : ah_H} {h : ah_H} {x0 : Nat} {x1 : Int32} {x2 : Int32} {x3 : Int32} {x4 : Int32} (k : ah_At mt_M_refused d A h0 o h2 112 [(0, .ref x0), (1, .int x1), (2, .int x2), (3, .int x3), (4, .int x4)] [.int 0] h) : ah_At mt_M_refused d A h0 o h2 111 [(0, .ref x0), (1, .int x1), (2, .int x2), (3, .int x3), (4, .int x4)] [] h := by
  refine s_iconst (v := 0) d_M_refused_111 (by decide) ?_
  exact k
theorem b_M_refused_112 {d : Nat} {A : Nat → Prop} {h2 : ah_H} {o : Outcome} {h0 : ah_H} {h : ah_H} {x0 : Nat} {x1 : Int32} {x2 : Int32} {x3 : Int32} {x4 : Int32} {s0 : Int32} (kt : ¬ s0 = 0 → ah_At mt_M_refused d A h0 o h2 123 [(0, .ref x0), (1, .int x1), (2, .int x2), (3, .int x3), (4, .int x4)] [] h) (kf : ¬ (¬ s0 = 0) → ah_At mt_M_refused d A h0 o h2 119 [(0, .ref x0), (1, .int x1), (2, .int x2), (3, .int x3), (4, .int x4)] [] h) : ah_At mt_M_refused d A h0 o h2 112 [(0, .ref x0), (1, .int x1), (2, .int x2), (3, .int x3), (4, .int x4)] [.int s0] h := by
  refine s_istore (lv' := [(0, .ref x0), (1, .int x1), (2, .int x2), (3, .int x3), (4, .int x4), (5, .int s0)]) d_M_refused_112 (by decide) rfl ?_
  refine s_iload d_M_refused_114 rfl ?_
  refine s_ifne (t := 123) d_M_refused_116 (by decide) (fun z => ?_) (fun z => ?_)
  · exact ah_At.sub [0, 1, 2, 3, 4] rfl (kt z)
  · exact ah_At.sub [0, 1, 2, 3, 4] rfl (kf z)
theorem b_M_refused_119 {d : Nat} {A : Nat → Prop} {h2 : ah_H} {o : Outcome} {h0 : ah_H} {h : ah_H} {x0 : Nat} {x1 : Int32} {x2 : Int32} {x3 : Int32} {x4 : Int32} (k : ah_At mt_M_refused d A h0 o h2 165 [(0, .ref x0), (1, .int x1), (2, .int x2), (3, .int x3), (4, .int x4)] [.int 1] h) : ah_At mt_M_refused d A h0 o h2 119 [(0, .ref x0), (1, .int x1), (2, .int x2), (3, .int x3), (4, .int x4)] [] h := by
  refine s_iconst (v := 1) d_M_refused_119 (by decide) ?_
  refine s_goto (t := 165) d_M_refused_120 (by decide) ?_
  exact k
theorem b_M_refused_123 {d : Nat} {A : Nat → Prop} {h2 : ah_H} {o : Outcome} {h0 : ah_H} {h : ah_H} {x0 : Nat} {x1 : Int32} {x2 : Int32} {x3 : Int32} {x4 : Int32} {v1 : Nat} {v2 : Int32} {j2 : Nat} {v3 : Nat} {v4 : Int32} {j4 : Nat} (g1 : ah_sel h x0 7 12 = some (.ref v1)) (i2 : ah_ix x1 j2) (g2 : ah_sel h v1 100 j2 = some (.int v2)) (g3 : ah_sel h x0 7 6 = some (.ref v3)) (i4 : ah_ix x4 j4) (g4 : ah_sel h v3 100 j4 = some (.int v4)) (kt : v2 ≤ v4 → ah_At mt_M_refused d A h0 o h2 143 [(0, .ref x0), (1, .int x1), (2, .int x2), (3, .int x3), (4, .int x4)] [] h) (kf : ¬ (v2 ≤ v4) → ah_At mt_M_refused d A h0 o h2 139 [(0, .ref x0), (1, .int x1), (2, .int x2), (3, .int x3), (4, .int x4)] [] h) : ah_At mt_M_refused d A h0 o h2 123 [(0, .ref x0), (1, .int x1), (2, .int x2), (3, .int x3), (4, .int x4)] [] h := by
  refine s_aload_n d_M_refused_123 rfl rfl ?_
  refine s_getfield (k := 12) d_M_refused_124 kc7 (by decide) fl_M_39 g1 ?_
  refine s_iload_n d_M_refused_127 rfl rfl ?_
  refine s_iaload d_M_refused_128 i2 g2 ?_
  refine s_aload_n d_M_refused_129 rfl rfl ?_
  refine s_getfield (k := 6) d_M_refused_130 kc7 (by decide) fl_M_20 g3 ?_
  refine s_iload d_M_refused_133 rfl ?_
  refine s_iaload d_M_refused_135 i4 g4 ?_
  refine s_if_icmple (t := 143) d_M_refused_136 (by decide) (fun z => ?_) (fun z => ?_)
  · exact (kt z)
  · exact (kf z)
theorem b_M_refused_139 {d : Nat} {A : Nat → Prop} {h2 : ah_H} {o : Outcome} {h0 : ah_H} {h : ah_H} {x0 : Nat} {x1 : Int32} {x2 : Int32} {x3 : Int32} {x4 : Int32} (k : ah_At mt_M_refused d A h0 o h2 165 [(0, .ref x0), (1, .int x1), (2, .int x2), (3, .int x3), (4, .int x4)] [.int 2] h) : ah_At mt_M_refused d A h0 o h2 139 [(0, .ref x0), (1, .int x1), (2, .int x2), (3, .int x3), (4, .int x4)] [] h := by
  refine s_iconst (v := 2) d_M_refused_139 (by decide) ?_
  refine s_goto (t := 165) d_M_refused_140 (by decide) ?_
  exact k
theorem b_M_refused_143 {d : Nat} {A : Nat → Prop} {h2 : ah_H} {o : Outcome} {h0 : ah_H} {h : ah_H} {x0 : Nat} {x1 : Int32} {x2 : Int32} {x3 : Int32} {x4 : Int32} {v1 : Nat} {v2 : Int64} {j2 : Nat} {v3 : Nat} {v4 : Int64} {j4 : Nat} (g1 : ah_sel h x0 7 11 = some (.ref v1)) (i2 : ah_ix x1 j2) (g2 : ah_sel h v1 101 j2 = some (.long v2)) (g3 : ah_sel h x0 7 4 = some (.ref v3)) (i4 : ah_ix x4 j4) (g4 : ah_sel h v3 101 j4 = some (.long v4)) (kt : (lg_cmp v2 v4) ≤ 0 → ah_At mt_M_refused d A h0 o h2 164 [(0, .ref x0), (1, .int x1), (2, .int x2), (3, .int x3), (4, .int x4)] [] h) (kf : ¬ ((lg_cmp v2 v4) ≤ 0) → ah_At mt_M_refused d A h0 o h2 160 [(0, .ref x0), (1, .int x1), (2, .int x2), (3, .int x3), (4, .int x4)] [] h) : ah_At mt_M_refused d A h0 o h2 143 [(0, .ref x0), (1, .int x1), (2, .int x2), (3, .int x3), (4, .int x4)] [] h := by
  refine s_aload_n d_M_refused_143 rfl rfl ?_
  refine s_getfield (k := 11) d_M_refused_144 kc7 (by decide) fl_M_36 g1 ?_
  refine s_iload_n d_M_refused_147 rfl rfl ?_
  refine s_laload d_M_refused_148 i2 g2 ?_
  refine s_aload_n d_M_refused_149 rfl rfl ?_
  refine s_getfield (k := 4) d_M_refused_150 kc7 (by decide) fl_M_13 g3 ?_
  refine s_iload d_M_refused_153 rfl ?_
  refine s_laload d_M_refused_155 i4 g4 ?_
  refine s_lcmp d_M_refused_156 ?_
  refine s_ifle (t := 164) d_M_refused_157 (by decide) (fun z => ?_) (fun z => ?_)
  · exact (kt z)
  · exact (kf z)
theorem b_M_refused_160 {d : Nat} {A : Nat → Prop} {h2 : ah_H} {o : Outcome} {h0 : ah_H} {h : ah_H} {x0 : Nat} {x1 : Int32} {x2 : Int32} {x3 : Int32} {x4 : Int32} (k : ah_At mt_M_refused d A h0 o h2 165 [(0, .ref x0), (1, .int x1), (2, .int x2), (3, .int x3), (4, .int x4)] [.int 3] h) : ah_At mt_M_refused d A h0 o h2 160 [(0, .ref x0), (1, .int x1), (2, .int x2), (3, .int x3), (4, .int x4)] [] h := by
  refine s_iconst (v := 3) d_M_refused_160 (by decide) ?_
  refine s_goto (t := 165) d_M_refused_161 (by decide) ?_
  exact k
theorem b_M_refused_164 {d : Nat} {A : Nat → Prop} {h2 : ah_H} {o : Outcome} {h0 : ah_H} {h : ah_H} {x0 : Nat} {x1 : Int32} {x2 : Int32} {x3 : Int32} {x4 : Int32} (k : ah_At mt_M_refused d A h0 o h2 165 [(0, .ref x0), (1, .int x1), (2, .int x2), (3, .int x3), (4, .int x4)] [.int 0] h) : ah_At mt_M_refused d A h0 o h2 164 [(0, .ref x0), (1, .int x1), (2, .int x2), (3, .int x3), (4, .int x4)] [] h := by
  refine s_iconst (v := 0) d_M_refused_164 (by decide) ?_
  exact k
theorem b_M_refused_165 {d : Nat} {A : Nat → Prop} {h2 : ah_H} {o : Outcome} {h0 : ah_H} {h : ah_H} {x0 : Nat} {x1 : Int32} {x2 : Int32} {x3 : Int32} {x4 : Int32} {s0 : Int32} (kt : ¬ x3 = 0 → ah_At mt_M_refused d A h0 o h2 176 [(0, .ref x0), (1, .int x1), (2, .int x2), (4, .int x4), (6, .int s0)] [] h) (kf : ¬ (¬ x3 = 0) → ah_At mt_M_refused d A h0 o h2 171 [(0, .ref x0), (1, .int x1), (2, .int x2), (4, .int x4), (6, .int s0)] [] h) : ah_At mt_M_refused d A h0 o h2 165 [(0, .ref x0), (1, .int x1), (2, .int x2), (3, .int x3), (4, .int x4)] [.int s0] h := by
  refine s_istore (lv' := [(0, .ref x0), (1, .int x1), (2, .int x2), (3, .int x3), (4, .int x4), (6, .int s0)]) d_M_refused_165 (by decide) rfl ?_
  refine s_iload_n d_M_refused_167 rfl rfl ?_
  refine s_ifne (t := 176) d_M_refused_168 (by decide) (fun z => ?_) (fun z => ?_)
  · exact ah_At.sub [0, 1, 2, 4, 5] rfl (kt z)
  · exact ah_At.sub [0, 1, 2, 4, 5] rfl (kf z)
theorem b_M_refused_171 {d : Nat} {A : Nat → Prop} {h2 : ah_H} {o : Outcome} {h0 : ah_H} {h : ah_H} {x0 : Nat} {x1 : Int32} {x2 : Int32} {x4 : Int32} {x6 : Int32} (kt : ¬ x6 = 0 → ah_At mt_M_refused d A h0 o h2 180 [(0, .ref x0), (1, .int x1), (2, .int x2), (4, .int x4), (6, .int x6)] [] h) (kf : ¬ (¬ x6 = 0) → ah_At mt_M_refused d A h0 o h2 176 [(0, .ref x0), (1, .int x1), (2, .int x2), (4, .int x4), (6, .int x6)] [] h) : ah_At mt_M_refused d A h0 o h2 171 [(0, .ref x0), (1, .int x1), (2, .int x2), (4, .int x4), (6, .int x6)] [] h := by
  refine s_iload d_M_refused_171 rfl ?_
  refine s_ifne (t := 180) d_M_refused_173 (by decide) (fun z => ?_) (fun z => ?_)
  · exact (kt z)
  · exact (kf z)
theorem b_M_refused_176 {d : Nat} {A : Nat → Prop} {h2 : ah_H} {o : Outcome} {h0 : ah_H} {h : ah_H} {x0 : Nat} {x1 : Int32} {x2 : Int32} {x4 : Int32} {x6 : Int32} (k : ah_At mt_M_refused d A h0 o h2 181 [(0, .ref x0), (1, .int x1), (2, .int x2), (4, .int x4), (6, .int x6)] [.int 1] h) : ah_At mt_M_refused d A h0 o h2 176 [(0, .ref x0), (1, .int x1), (2, .int x2), (4, .int x4), (6, .int x6)] [] h := by
  refine s_iconst (v := 1) d_M_refused_176 (by decide) ?_
  refine s_goto (t := 181) d_M_refused_177 (by decide) ?_
  exact k
theorem b_M_refused_180 {d : Nat} {A : Nat → Prop} {h2 : ah_H} {o : Outcome} {h0 : ah_H} {h : ah_H} {x0 : Nat} {x1 : Int32} {x2 : Int32} {x4 : Int32} {x6 : Int32} (k : ah_At mt_M_refused d A h0 o h2 181 [(0, .ref x0), (1, .int x1), (2, .int x2), (4, .int x4), (6, .int x6)] [.int 0] h) : ah_At mt_M_refused d A h0 o h2 180 [(0, .ref x0), (1, .int x1), (2, .int x2), (4, .int x4), (6, .int x6)] [] h := by
  refine s_iconst (v := 0) d_M_refused_180 (by decide) ?_
  exact k
theorem b_M_refused_181 {d : Nat} {A : Nat → Prop} {h2 : ah_H} {o : Outcome} {h0 : ah_H} {h : ah_H} {x0 : Nat} {x1 : Int32} {x2 : Int32} {x4 : Int32} {x6 : Int32} {s0 : Int32} (kt : x6 ≤ x2 → ah_At mt_M_refused d A h0 o h2 193 [(0, .ref x0), (1, .int x1), (2, .int x2), (3, .int s0), (4, .int x4)] [] h) (kf : ¬ (x6 ≤ x2) → ah_At mt_M_refused d A h0 o h2 188 [(0, .ref x0), (1, .int x1), (3, .int s0), (4, .int x4), (6, .int x6)] [] h) : ah_At mt_M_refused d A h0 o h2 181 [(0, .ref x0), (1, .int x1), (2, .int x2), (4, .int x4), (6, .int x6)] [.int s0] h := by
  refine s_istore_n (lv' := [(0, .ref x0), (1, .int x1), (2, .int x2), (4, .int x4), (6, .int x6), (3, .int s0)]) d_M_refused_181 rfl (by decide) rfl ?_
  refine s_iload d_M_refused_182 rfl ?_
  refine s_iload_n d_M_refused_184 rfl rfl ?_
  refine s_if_icmple (t := 193) d_M_refused_185 (by decide) (fun z => ?_) (fun z => ?_)
  · exact ah_At.sub [0, 1, 2, 5, 3] rfl (kt z)
  · exact ah_At.sub [0, 1, 5, 3, 4] rfl (kf z)
theorem b_M_refused_188 {d : Nat} {A : Nat → Prop} {h2 : ah_H} {o : Outcome} {h0 : ah_H} {h : ah_H} {x0 : Nat} {x1 : Int32} {x3 : Int32} {x4 : Int32} {x6 : Int32} (k : ah_At mt_M_refused d A h0 o h2 194 [(0, .ref x0), (1, .int x1), (3, .int x3), (4, .int x4)] [.int x6] h) : ah_At mt_M_refused d A h0 o h2 188 [(0, .ref x0), (1, .int x1), (3, .int x3), (4, .int x4), (6, .int x6)] [] h := by
  refine s_iload d_M_refused_188 rfl ?_
  refine s_goto (t := 194) d_M_refused_190 (by decide) ?_
  exact ah_At.sub [0, 1, 2, 3] rfl k
theorem b_M_refused_193 {d : Nat} {A : Nat → Prop} {h2 : ah_H} {o : Outcome} {h0 : ah_H} {h : ah_H} {x0 : Nat} {x1 : Int32} {x2 : Int32} {x3 : Int32} {x4 : Int32} (k : ah_At mt_M_refused d A h0 o h2 194 [(0, .ref x0), (1, .int x1), (3, .int x3), (4, .int x4)] [.int x2] h) : ah_At mt_M_refused d A h0 o h2 193 [(0, .ref x0), (1, .int x1), (2, .int x2), (3, .int x3), (4, .int x4)] [] h := by
  refine s_iload_n d_M_refused_193 rfl rfl ?_
  exact ah_At.sub [0, 1, 3, 4] rfl k
theorem b_M_refused_194 {d : Nat} {A : Nat → Prop} {h2 : ah_H} {o : Outcome} {h0 : ah_H} {h : ah_H} {x0 : Nat} {x1 : Int32} {x3 : Int32} {x4 : Int32} {s0 : Int32} (k : ah_At mt_M_refused d A h0 o h2 44 [(0, .ref x0), (1, .int x1), (2, .int s0), (3, .int x3), (4, .int (x4 + 1))] [] h) : ah_At mt_M_refused d A h0 o h2 194 [(0, .ref x0), (1, .int x1), (3, .int x3), (4, .int x4)] [.int s0] h := by
  refine s_istore_n (lv' := [(0, .ref x0), (1, .int x1), (3, .int x3), (4, .int x4), (2, .int s0)]) d_M_refused_194 rfl (by decide) rfl ?_
  refine s_iinc (v := x4 + 1) (lv' := [(0, .ref x0), (1, .int x1), (3, .int x3), (4, .int (x4 + 1)), (2, .int s0)]) d_M_refused_195 rfl rfl (by decide) rfl ?_
  refine s_goto (t := 44) d_M_refused_198 (by decide) ?_
  exact ah_At.sub [0, 1, 4, 2, 3] rfl k
theorem b_M_refused_201 {d : Nat} {A : Nat → Prop} {h2 : ah_H} {o : Outcome} {h0 : ah_H} {h : ah_H} {x2 : Int32} {x3 : Int32} (kt : x3 = 0 → ah_At mt_M_refused d A h0 o h2 209 [(2, .int x2)] [] h) (kf : ¬ (x3 = 0) → ah_At mt_M_refused d A h0 o h2 205 [] [] h) : ah_At mt_M_refused d A h0 o h2 201 [(2, .int x2), (3, .int x3)] [] h := by
  refine s_iload_n d_M_refused_201 rfl rfl ?_
  refine s_ifeq (t := 209) d_M_refused_202 (by decide) (fun z => ?_) (fun z => ?_)
  · exact ah_At.sub [0] rfl (kt z)
  · exact ah_At.sub [] rfl (kf z)
theorem b_M_refused_205 {d : Nat} {A : Nat → Prop} {h2 : ah_H} {o : Outcome} {h0 : ah_H} {h : ah_H}  (k : ah_At mt_M_refused d A h0 o h2 210 [] [.int 0] h) : ah_At mt_M_refused d A h0 o h2 205 [] [] h := by
  refine s_iconst (v := 0) d_M_refused_205 (by decide) ?_
  refine s_goto (t := 210) d_M_refused_206 (by decide) ?_
  exact k
theorem b_M_refused_209 {d : Nat} {A : Nat → Prop} {h2 : ah_H} {o : Outcome} {h0 : ah_H} {h : ah_H} {x2 : Int32} (k : ah_At mt_M_refused d A h0 o h2 210 [] [.int x2] h) : ah_At mt_M_refused d A h0 o h2 209 [(2, .int x2)] [] h := by
  refine s_iload_n d_M_refused_209 rfl rfl ?_
  exact ah_At.sub [] rfl k
theorem b_M_refused_210 {d : Nat} {A : Nat → Prop} {h0 : ah_H} {h : ah_H} {s0 : Int32}  : ah_At mt_M_refused d A h0 (.returned (some (.int s0))) h 210 [] [.int s0] h := by
  exact e_iret (ty := .int) d_M_refused_210 rfl rfl
theorem b_M_together_0 {d : Nat} {A : Nat → Prop} {h2 : ah_H} {o : Outcome} {h0 : ah_H} {h : ah_H} {x0 : Nat} {x1 : Int32} {x2 : Int32} {d' : Nat} {A' : Nat → Prop} {o' : Outcome} {h' : ah_H} (hE : ah_Ev mt_M_isBox d' A' [.ref x0, .int x1] h o' h') (hdd : d' + 1 ≤ d) (hAA : ∀ q, A' q → A q) (k : ah_aft mt_M_together d A h0 o h2 3 [(0, .ref x0), (1, .int x1), (2, .int x2)] [.ref x0] h' o') (hb : (ah_len h x0 7).isSome = true) : ah_At mt_M_together d A h0 o h2 0 [(0, .ref x0), (1, .int x1), (2, .int x2)] [] h := by
  refine s_aload_n d_M_together_0 rfl rfl ?_
  refine s_aload_n d_M_together_1 rfl rfl ?_
  refine s_iload_n d_M_together_2 rfl rfl ?_
  exact ah_callV (av := [.int x1]) (st := [.ref x0]) d_M_together_3 ml_M_144 mi_M_isBox mv_M_isBox kc7 hb hE hdd hAA rfl (Nat.le_of_ble_eq_true rfl) k
theorem b_M_together_6 {d : Nat} {A : Nat → Prop} {h2 : ah_H} {o : Outcome} {h0 : ah_H} {h : ah_H} {x0 : Nat} {x1 : Int32} {x2 : Int32} {s0 : Int32} {s1 : Nat} (kt : s0 = 0 → ah_At mt_M_together d A h0 o h2 21 [(0, .ref x0), (1, .int x1), (2, .int x2)] [.ref s1] h) (kf : ¬ (s0 = 0) → ah_At mt_M_together d A h0 o h2 9 [(0, .ref x0), (1, .int x1), (2, .int x2)] [.ref s1] h) : ah_At mt_M_together d A h0 o h2 6 [(0, .ref x0), (1, .int x1), (2, .int x2)] [.int s0, .ref s1] h := by
  refine s_ifeq (t := 21) d_M_together_6 (by decide) (fun z => ?_) (fun z => ?_)
  · exact (kt z)
  · exact (kf z)
theorem b_M_together_9 {d : Nat} {A : Nat → Prop} {h2 : ah_H} {o : Outcome} {h0 : ah_H} {h : ah_H} {x0 : Nat} {x1 : Int32} {x2 : Int32} {s0 : Nat} {d' : Nat} {A' : Nat → Prop} {o' : Outcome} {h' : ah_H} (hE : ah_Ev mt_M_isBox d' A' [.ref x0, .int x2] h o' h') (hdd : d' + 1 ≤ d) (hAA : ∀ q, A' q → A q) (k : ah_aft mt_M_together d A h0 o h2 11 [(0, .ref x0), (1, .int x1), (2, .int x2)] [.ref s0] h' o') (hb : (ah_len h x0 7).isSome = true) : ah_At mt_M_together d A h0 o h2 9 [(0, .ref x0), (1, .int x1), (2, .int x2)] [.ref s0] h := by
  refine s_aload_n d_M_together_9 rfl rfl ?_
  refine s_iload_n d_M_together_10 rfl rfl ?_
  exact ah_callV (av := [.int x2]) (st := [.ref s0]) d_M_together_11 ml_M_144 mi_M_isBox mv_M_isBox kc7 hb hE hdd hAA rfl (Nat.le_of_ble_eq_true rfl) k
theorem b_M_together_14 {d : Nat} {A : Nat → Prop} {h2 : ah_H} {o : Outcome} {h0 : ah_H} {h : ah_H} {x0 : Nat} {x1 : Int32} {x2 : Int32} {s0 : Int32} {s1 : Nat} (kt : s0 = 0 → ah_At mt_M_together d A h0 o h2 21 [(0, .ref x0), (1, .int x1), (2, .int x2)] [.ref s1] h) (kf : ¬ (s0 = 0) → ah_At mt_M_together d A h0 o h2 17 [(0, .ref x0), (1, .int x1), (2, .int x2)] [.ref s1] h) : ah_At mt_M_together d A h0 o h2 14 [(0, .ref x0), (1, .int x1), (2, .int x2)] [.int s0, .ref s1] h := by
  refine s_ifeq (t := 21) d_M_together_14 (by decide) (fun z => ?_) (fun z => ?_)
  · exact (kt z)
  · exact (kf z)
theorem b_M_together_17 {d : Nat} {A : Nat → Prop} {h2 : ah_H} {o : Outcome} {h0 : ah_H} {h : ah_H} {x0 : Nat} {x1 : Int32} {x2 : Int32} {s0 : Nat} (k : ah_At mt_M_together d A h0 o h2 22 [(0, .ref x0), (1, .int x1), (2, .int x2)] [.int 0, .ref s0] h) : ah_At mt_M_together d A h0 o h2 17 [(0, .ref x0), (1, .int x1), (2, .int x2)] [.ref s0] h := by
  refine s_iconst (v := 0) d_M_together_17 (by decide) ?_
  refine s_goto (t := 22) d_M_together_18 (by decide) ?_
  exact k
theorem b_M_together_21 {d : Nat} {A : Nat → Prop} {h2 : ah_H} {o : Outcome} {h0 : ah_H} {h : ah_H} {x0 : Nat} {x1 : Int32} {x2 : Int32} {s0 : Nat} (k : ah_At mt_M_together d A h0 o h2 22 [(0, .ref x0), (1, .int x1), (2, .int x2)] [.int 1, .ref s0] h) : ah_At mt_M_together d A h0 o h2 21 [(0, .ref x0), (1, .int x1), (2, .int x2)] [.ref s0] h := by
  refine s_iconst (v := 1) d_M_together_21 (by decide) ?_
  exact k
theorem b_M_together_22 {d : Nat} {A : Nat → Prop} {h2 : ah_H} {o : Outcome} {h0 : ah_H} {h : ah_H} {x0 : Nat} {x1 : Int32} {x2 : Int32} {s0 : Int32} {s1 : Nat} {v2 : Int32} (w1 : A s1) (e1 : (ah_sel h s1 7 0).isSome = true) (g2 : ah_sel (ah_sto h s1 0 (.int s0)) x0 7 0 = some (.int v2)) (kt : ¬ v2 = 0 → ah_At mt_M_together d A h0 o h2 45 [] [] (ah_sto h s1 0 (.int s0))) (kf : ¬ (¬ v2 = 0) → ah_At mt_M_together d A h0 o h2 32 [(0, .ref x0), (1, .int x1), (2, .int x2)] [] (ah_sto h s1 0 (.int s0))) : ah_At mt_M_together d A h0 o h2 22 [(0, .ref x0), (1, .int x1), (2, .int x2)] [.int s0, .ref s1] h := by
  refine s_putfield (k := 0) d_M_together_22 kc7 (by decide) fl_M_63 (Or.inl rfl) w1 rfl e1 ?_
  refine s_aload_n d_M_together_25 rfl rfl ?_
  refine s_getfield (k := 0) d_M_together_26 kc7 (by decide) fl_M_63 g2 ?_
  refine s_ifne (t := 45) d_M_together_29 (by decide) (fun z => ?_) (fun z => ?_)
  · exact ah_At.sub [] rfl (kt z)
  · exact (kf z)
theorem b_M_together_32 {d : Nat} {A : Nat → Prop} {h2 : ah_H} {o : Outcome} {h0 : ah_H} {h : ah_H} {x0 : Nat} {x1 : Int32} {x2 : Int32} {d' : Nat} {A' : Nat → Prop} {o' : Outcome} {h' : ah_H} (hE : ah_Ev mt_M_rulesOf d' A' [.ref x0, .int x1, .int x2] h o' h') (hdd : d' + 1 ≤ d) (hAA : ∀ q, A' q → A q) (k : ah_aft mt_M_together d A h0 o h2 35 [] [] h' o') (hb : (ah_len h x0 7).isSome = true) : ah_At mt_M_together d A h0 o h2 32 [(0, .ref x0), (1, .int x1), (2, .int x2)] [] h := by
  refine s_aload_n d_M_together_32 rfl rfl ?_
  refine s_iload_n d_M_together_33 rfl rfl ?_
  refine s_iload_n d_M_together_34 rfl rfl ?_
  refine ah_At.sub [] rfl ?_
  exact ah_callV (av := [.int x1, .int x2]) (st := []) d_M_together_35 ml_M_115 mi_M_rulesOf mv_M_rulesOf kc7 hb hE hdd hAA rfl (Nat.le_of_ble_eq_true rfl) k
theorem b_M_together_38 {d : Nat} {A : Nat → Prop} {h2 : ah_H} {o : Outcome} {h0 : ah_H} {h : ah_H} {s0 : Int32} (kt : ¬ s0 = 0 → ah_At mt_M_together d A h0 o h2 45 [] [] h) (kf : ¬ (¬ s0 = 0) → ah_At mt_M_together d A h0 o h2 41 [] [] h) : ah_At mt_M_together d A h0 o h2 38 [] [.int s0] h := by
  refine s_ifne (t := 45) d_M_together_38 (by decide) (fun z => ?_) (fun z => ?_)
  · exact (kt z)
  · exact (kf z)
theorem b_M_together_41 {d : Nat} {A : Nat → Prop} {h2 : ah_H} {o : Outcome} {h0 : ah_H} {h : ah_H}  (k : ah_At mt_M_together d A h0 o h2 46 [] [.int 1] h) : ah_At mt_M_together d A h0 o h2 41 [] [] h := by
  refine s_iconst (v := 1) d_M_together_41 (by decide) ?_
  refine s_goto (t := 46) d_M_together_42 (by decide) ?_
  exact k
theorem b_M_together_45 {d : Nat} {A : Nat → Prop} {h2 : ah_H} {o : Outcome} {h0 : ah_H} {h : ah_H}  (k : ah_At mt_M_together d A h0 o h2 46 [] [.int 0] h) : ah_At mt_M_together d A h0 o h2 45 [] [] h := by
  refine s_iconst (v := 0) d_M_together_45 (by decide) ?_
  exact k
theorem b_M_together_46 {d : Nat} {A : Nat → Prop} {h0 : ah_H} {h : ah_H} {s0 : Int32} (hz : narrow .boolean (.int s0) = .int s0) : ah_At mt_M_together d A h0 (.returned (some (.int s0))) h 46 [] [.int s0] h := by
  exact e_iret (ty := .boolean) d_M_together_46 rfl hz
theorem b_M_count_0 {d : Nat} {A : Nat → Prop} {h2 : ah_H} {o : Outcome} {h0 : ah_H} {h : ah_H} {x0 : Nat} {x1 : Int32} (w1 : A x0) (e1 : (ah_sel h x0 7 0).isSome = true) (kt : x1 < 10 → ah_At mt_M_count d A h0 o h2 36 [(0, .ref x0), (1, .int x1)] [] (ah_sto h x0 0 (.int 0))) (kf : ¬ (x1 < 10) → ah_At mt_M_count d A h0 o h2 11 [(0, .ref x0), (1, .int x1)] [] (ah_sto h x0 0 (.int 0))) : ah_At mt_M_count d A h0 o h2 0 [(0, .ref x0), (1, .int x1)] [] h := by
  refine s_aload_n d_M_count_0 rfl rfl ?_
  refine s_iconst (v := 0) d_M_count_1 (by decide) ?_
  refine s_putfield (k := 0) d_M_count_2 kc7 (by decide) fl_M_63 (Or.inl rfl) w1 rfl e1 ?_
  refine s_iload_n d_M_count_5 rfl rfl ?_
  refine s_bipush (v := 10) d_M_count_6 (by decide) ?_
  refine s_if_icmplt (t := 36) d_M_count_8 (by decide) (fun z => ?_) (fun z => ?_)
  · exact (kt z)
  · exact (kf z)
theorem b_M_count_11 {d : Nat} {A : Nat → Prop} {h2 : ah_H} {o : Outcome} {h0 : ah_H} {h : ah_H} {x0 : Nat} {x1 : Int32} {d' : Nat} {A' : Nat → Prop} {o' : Outcome} {h' : ah_H} (hE : ah_Ev mt_M_isWagon d' A' [.ref x0, .int (x1 - 10)] h o' h') (hdd : d' + 1 ≤ d) (hAA : ∀ q, A' q → A q) (k : ah_aft mt_M_count d A h0 o h2 16 [(0, .ref x0), (1, .int x1)] [] h' o') (hb : (ah_len h x0 7).isSome = true) : ah_At mt_M_count d A h0 o h2 11 [(0, .ref x0), (1, .int x1)] [] h := by
  refine s_aload_n d_M_count_11 rfl rfl ?_
  refine s_iload_n d_M_count_12 rfl rfl ?_
  refine s_bipush (v := 10) d_M_count_13 (by decide) ?_
  refine s_isub d_M_count_15 ?_
  exact ah_callV (av := [.int (x1 - 10)]) (st := []) d_M_count_16 ml_M_89 mi_M_isWagon mv_M_isWagon kc7 hb hE hdd hAA rfl (Nat.le_of_ble_eq_true rfl) k
theorem b_M_count_19 {d : Nat} {A : Nat → Prop} {h2 : ah_H} {o : Outcome} {h0 : ah_H} {h : ah_H} {x0 : Nat} {x1 : Int32} {s0 : Int32} (kt : s0 = 0 → ah_At mt_M_count d A h0 o h2 34 [] [] h) (kf : ¬ (s0 = 0) → ah_At mt_M_count d A h0 o h2 22 [(0, .ref x0), (1, .int x1)] [] h) : ah_At mt_M_count d A h0 o h2 19 [(0, .ref x0), (1, .int x1)] [.int s0] h := by
  refine s_ifeq (t := 34) d_M_count_19 (by decide) (fun z => ?_) (fun z => ?_)
  · exact ah_At.sub [] rfl (kt z)
  · exact (kf z)
theorem b_M_count_22 {d : Nat} {A : Nat → Prop} {h2 : ah_H} {o : Outcome} {h0 : ah_H} {h : ah_H} {x0 : Nat} {x1 : Int32} {v1 : Nat} {v2 : Int32} {j2 : Nat} (g1 : ah_sel h x0 7 8 = some (.ref v1)) (i2 : ah_ix (x1 - 10) j2) (g2 : ah_sel h v1 100 j2 = some (.int v2)) (k : ah_At mt_M_count d A h0 o h2 35 [] [.int v2] h) : ah_At mt_M_count d A h0 o h2 22 [(0, .ref x0), (1, .int x1)] [] h := by
  refine s_aload_n d_M_count_22 rfl rfl ?_
  refine s_getfield (k := 8) d_M_count_23 kc7 (by decide) fl_M_27 g1 ?_
  refine s_iload_n d_M_count_26 rfl rfl ?_
  refine s_bipush (v := 10) d_M_count_27 (by decide) ?_
  refine s_isub d_M_count_29 ?_
  refine s_iaload d_M_count_30 i2 g2 ?_
  refine s_goto (t := 35) d_M_count_31 (by decide) ?_
  exact ah_At.sub [] rfl k
theorem b_M_count_34 {d : Nat} {A : Nat → Prop} {h2 : ah_H} {o : Outcome} {h0 : ah_H} {h : ah_H}  (k : ah_At mt_M_count d A h0 o h2 35 [] [.int (-1)] h) : ah_At mt_M_count d A h0 o h2 34 [] [] h := by
  refine s_iconst (v := -1) d_M_count_34 (by decide) ?_
  exact k
theorem b_M_count_35 {d : Nat} {A : Nat → Prop} {h0 : ah_H} {h : ah_H} {s0 : Int32}  : ah_At mt_M_count d A h0 (.returned (some (.int s0))) h 35 [] [.int s0] h := by
  exact e_iret (ty := .int) d_M_count_35 rfl rfl
theorem b_M_count_36 {d : Nat} {A : Nat → Prop} {h2 : ah_H} {o : Outcome} {h0 : ah_H} {h : ah_H} {x0 : Nat} {x1 : Int32} (k : ah_At mt_M_count d A h0 o h2 40 [(0, .ref x0), (1, .int x1), (2, .int 0), (3, .int 0)] [] h) : ah_At mt_M_count d A h0 o h2 36 [(0, .ref x0), (1, .int x1)] [] h := by
  refine s_iconst (v := 0) d_M_count_36 (by decide) ?_
  refine s_istore_n (lv' := [(0, .ref x0), (1, .int x1), (2, .int 0)]) d_M_count_37 rfl (by decide) rfl ?_
  refine s_iconst (v := 0) d_M_count_38 (by decide) ?_
  refine s_istore_n (lv' := [(0, .ref x0), (1, .int x1), (2, .int 0), (3, .int 0)]) d_M_count_39 rfl (by decide) rfl ?_
  exact k
theorem b_M_count_40 {d : Nat} {A : Nat → Prop} {h2 : ah_H} {o : Outcome} {h0 : ah_H} {h : ah_H} {x0 : Nat} {x1 : Int32} {x2 : Int32} {x3 : Int32} {v1 : Int32} (g1 : ah_sel h x0 7 2 = some (.int v1)) (kt : v1 ≤ x3 → ah_At mt_M_count d A h0 o h2 71 [(0, .ref x0), (1, .int x1), (2, .int x2)] [] h) (kf : ¬ (v1 ≤ x3) → ah_At mt_M_count d A h0 o h2 48 [(0, .ref x0), (1, .int x1), (2, .int x2), (3, .int x3)] [] h) : ah_At mt_M_count d A h0 o h2 40 [(0, .ref x0), (1, .int x1), (2, .int x2), (3, .int x3)] [] h := by
  refine s_iload_n d_M_count_40 rfl rfl ?_
  refine s_aload_n d_M_count_41 rfl rfl ?_
  refine s_getfield (k := 2) d_M_count_42 kc7 (by decide) fl_M_70 g1 ?_
  refine s_if_icmpge (t := 71) d_M_count_45 (by decide) (fun z => ?_) (fun z => ?_)
  · exact ah_At.sub [0, 1, 2] rfl (kt z)
  · exact (kf z)
theorem b_M_count_48 {d : Nat} {A : Nat → Prop} {h2 : ah_H} {o : Outcome} {h0 : ah_H} {h : ah_H} {x0 : Nat} {x1 : Int32} {x2 : Int32} {x3 : Int32} {v1 : Nat} {v2 : Int32} {j2 : Nat} (g1 : ah_sel h x0 7 19 = some (.ref v1)) (i2 : ah_ix x3 j2) (g2 : ah_sel h v1 100 j2 = some (.int v2)) (kt : v2 ≤ 0 → ah_At mt_M_count d A h0 o h2 62 [(0, .ref x0), (1, .int x1), (3, .int x3)] [.int x2] h) (kf : ¬ (v2 ≤ 0) → ah_At mt_M_count d A h0 o h2 58 [(0, .ref x0), (1, .int x1), (3, .int x3)] [.int x2] h) : ah_At mt_M_count d A h0 o h2 48 [(0, .ref x0), (1, .int x1), (2, .int x2), (3, .int x3)] [] h := by
  refine s_iload_n d_M_count_48 rfl rfl ?_
  refine s_aload_n d_M_count_49 rfl rfl ?_
  refine s_getfield (k := 19) d_M_count_50 kc7 (by decide) fl_M_60 g1 ?_
  refine s_iload_n d_M_count_53 rfl rfl ?_
  refine s_iaload d_M_count_54 i2 g2 ?_
  refine s_ifle (t := 62) d_M_count_55 (by decide) (fun z => ?_) (fun z => ?_)
  · exact ah_At.sub [0, 1, 3] rfl (kt z)
  · exact ah_At.sub [0, 1, 3] rfl (kf z)
theorem b_M_count_58 {d : Nat} {A : Nat → Prop} {h2 : ah_H} {o : Outcome} {h0 : ah_H} {h : ah_H} {x0 : Nat} {x1 : Int32} {x3 : Int32} {s0 : Int32} (k : ah_At mt_M_count d A h0 o h2 63 [(0, .ref x0), (1, .int x1), (3, .int x3)] [.int 1, .int s0] h) : ah_At mt_M_count d A h0 o h2 58 [(0, .ref x0), (1, .int x1), (3, .int x3)] [.int s0] h := by
  refine s_iconst (v := 1) d_M_count_58 (by decide) ?_
  refine s_goto (t := 63) d_M_count_59 (by decide) ?_
  exact k
theorem b_M_count_62 {d : Nat} {A : Nat → Prop} {h2 : ah_H} {o : Outcome} {h0 : ah_H} {h : ah_H} {x0 : Nat} {x1 : Int32} {x3 : Int32} {s0 : Int32} (k : ah_At mt_M_count d A h0 o h2 63 [(0, .ref x0), (1, .int x1), (3, .int x3)] [.int 0, .int s0] h) : ah_At mt_M_count d A h0 o h2 62 [(0, .ref x0), (1, .int x1), (3, .int x3)] [.int s0] h := by
  refine s_iconst (v := 0) d_M_count_62 (by decide) ?_
  exact k
theorem b_M_count_63 {d : Nat} {A : Nat → Prop} {h2 : ah_H} {o : Outcome} {h0 : ah_H} {h : ah_H} {x0 : Nat} {x1 : Int32} {x3 : Int32} {s0 : Int32} {s1 : Int32} (k : ah_At mt_M_count d A h0 o h2 40 [(0, .ref x0), (1, .int x1), (2, .int (s1 + s0)), (3, .int (x3 + 1))] [] h) : ah_At mt_M_count d A h0 o h2 63 [(0, .ref x0), (1, .int x1), (3, .int x3)] [.int s0, .int s1] h := by
  refine s_iadd d_M_count_63 ?_
  refine s_istore_n (lv' := [(0, .ref x0), (1, .int x1), (3, .int x3), (2, .int (s1 + s0))]) d_M_count_64 rfl (by decide) rfl ?_
  refine s_iinc (v := x3 + 1) (lv' := [(0, .ref x0), (1, .int x1), (3, .int (x3 + 1)), (2, .int (s1 + s0))]) d_M_count_65 rfl rfl (by decide) rfl ?_
  refine s_goto (t := 40) d_M_count_68 (by decide) ?_
  exact ah_At.sub [0, 1, 3, 2] rfl k
theorem b_M_count_71 {d : Nat} {A : Nat → Prop} {h2 : ah_H} {o : Outcome} {h0 : ah_H} {h : ah_H} {x0 : Nat} {x1 : Int32} {x2 : Int32} (kd : (Int32.toInt x1 < 0 ∨ 4 < Int32.toInt x1) → ah_At mt_M_count d A h0 o h2 160 [] [] h) (k0 : x1 = 0 → ah_At mt_M_count d A h0 o h2 108 [(0, .ref x0)] [] h) (k1 : x1 = 1 → ah_At mt_M_count d A h0 o h2 113 [(0, .ref x0)] [] h) (k2 : x1 = 2 → ah_At mt_M_count d A h0 o h2 118 [(0, .ref x0), (2, .int x2)] [] h) (k3 : x1 = 3 → ah_At mt_M_count d A h0 o h2 131 [(0, .ref x0)] [] h) (k4 : x1 = 4 → ah_At mt_M_count d A h0 o h2 147 [(0, .ref x0)] [] h) : ah_At mt_M_count d A h0 o h2 71 [(0, .ref x0), (1, .int x1), (2, .int x2)] [] h := by
  refine s_iload_n d_M_count_71 rfl rfl ?_
  by_cases y0 : Int32.toInt x1 < 0 ∨ 4 < Int32.toInt x1
  · refine ah_tabOut (t := 160) d_M_count_72 y0 (by decide) ?_
    exact ah_At.sub [] rfl (kd y0)
  · rcases (show x1 = 0 ∨ x1 = 1 ∨ x1 = 2 ∨ x1 = 3 ∨ x1 = 4 from by have q := ah_sw [0, 1, 2, 3, 4] y0 (by decide); simp only [List.mem_cons, List.not_mem_nil, or_false] at q; exact q) with y | y | y | y | y
    · refine ah_tabIn (off := 36) (t := 108) d_M_count_72 (by rw [y]; decide) (by rw [y]; decide) (by rw [y]; decide +kernel) (by decide) ?_
      exact ah_At.sub [0] rfl (k0 y)
    · refine ah_tabIn (off := 41) (t := 113) d_M_count_72 (by rw [y]; decide) (by rw [y]; decide) (by rw [y]; decide +kernel) (by decide) ?_
      exact ah_At.sub [0] rfl (k1 y)
    · refine ah_tabIn (off := 46) (t := 118) d_M_count_72 (by rw [y]; decide) (by rw [y]; decide) (by rw [y]; decide +kernel) (by decide) ?_
      exact ah_At.sub [0, 2] rfl (k2 y)
    · refine ah_tabIn (off := 59) (t := 131) d_M_count_72 (by rw [y]; decide) (by rw [y]; decide) (by rw [y]; decide +kernel) (by decide) ?_
      exact ah_At.sub [0] rfl (k3 y)
    · refine ah_tabIn (off := 75) (t := 147) d_M_count_72 (by rw [y]; decide) (by rw [y]; decide) (by rw [y]; decide +kernel) (by decide) ?_
      exact ah_At.sub [0] rfl (k4 y)
theorem b_M_count_108 {d : Nat} {A : Nat → Prop} {h0 : ah_H} {h : ah_H} {x0 : Nat} {v1 : Int32} (g1 : ah_sel h x0 7 1 = some (.int v1)) : ah_At mt_M_count d A h0 (.returned (some (.int v1))) h 108 [(0, .ref x0)] [] h := by
  refine s_aload_n d_M_count_108 rfl rfl ?_
  refine s_getfield (k := 1) d_M_count_109 kc7 (by decide) fl_M_67 g1 ?_
  exact e_iret (ty := .int) d_M_count_112 rfl rfl
theorem b_M_count_113 {d : Nat} {A : Nat → Prop} {h0 : ah_H} {h : ah_H} {x0 : Nat} {v1 : Int32} (g1 : ah_sel h x0 7 2 = some (.int v1)) : ah_At mt_M_count d A h0 (.returned (some (.int v1))) h 113 [(0, .ref x0)] [] h := by
  refine s_aload_n d_M_count_113 rfl rfl ?_
  refine s_getfield (k := 2) d_M_count_114 kc7 (by decide) fl_M_70 g1 ?_
  exact e_iret (ty := .int) d_M_count_117 rfl rfl
theorem b_M_count_118 {d : Nat} {A : Nat → Prop} {h2 : ah_H} {o : Outcome} {h0 : ah_H} {h : ah_H} {x0 : Nat} {x2 : Int32} {v1 : Int32} (g1 : ah_sel h x0 7 17 = some (.int v1)) (kt : v1 = 0 → ah_At mt_M_count d A h0 o h2 129 [] [] h) (kf : ¬ (v1 = 0) → ah_At mt_M_count d A h0 o h2 125 [(2, .int x2)] [] h) : ah_At mt_M_count d A h0 o h2 118 [(0, .ref x0), (2, .int x2)] [] h := by
  refine s_aload_n d_M_count_118 rfl rfl ?_
  refine s_getfield (k := 17) d_M_count_119 kc7 (by decide) fl_M_85 g1 ?_
  refine s_ifeq (t := 129) d_M_count_122 (by decide) (fun z => ?_) (fun z => ?_)
  · exact ah_At.sub [] rfl (kt z)
  · exact ah_At.sub [1] rfl (kf z)
theorem b_M_count_125 {d : Nat} {A : Nat → Prop} {h2 : ah_H} {o : Outcome} {h0 : ah_H} {h : ah_H} {x2 : Int32} (k : ah_At mt_M_count d A h0 o h2 130 [] [.int x2] h) : ah_At mt_M_count d A h0 o h2 125 [(2, .int x2)] [] h := by
  refine s_iload_n d_M_count_125 rfl rfl ?_
  refine s_goto (t := 130) d_M_count_126 (by decide) ?_
  exact ah_At.sub [] rfl k
theorem b_M_count_129 {d : Nat} {A : Nat → Prop} {h2 : ah_H} {o : Outcome} {h0 : ah_H} {h : ah_H}  (k : ah_At mt_M_count d A h0 o h2 130 [] [.int (-1)] h) : ah_At mt_M_count d A h0 o h2 129 [] [] h := by
  refine s_iconst (v := -1) d_M_count_129 (by decide) ?_
  exact k
theorem b_M_count_130 {d : Nat} {A : Nat → Prop} {h0 : ah_H} {h : ah_H} {s0 : Int32}  : ah_At mt_M_count d A h0 (.returned (some (.int s0))) h 130 [] [.int s0] h := by
  exact e_iret (ty := .int) d_M_count_130 rfl rfl
theorem b_M_count_131 {d : Nat} {A : Nat → Prop} {h2 : ah_H} {o : Outcome} {h0 : ah_H} {h : ah_H} {x0 : Nat} {v1 : Int32} (g1 : ah_sel h x0 7 17 = some (.int v1)) (kt : v1 = 0 → ah_At mt_M_count d A h0 o h2 145 [] [] h) (kf : ¬ (v1 = 0) → ah_At mt_M_count d A h0 o h2 138 [(0, .ref x0)] [] h) : ah_At mt_M_count d A h0 o h2 131 [(0, .ref x0)] [] h := by
  refine s_aload_n d_M_count_131 rfl rfl ?_
  refine s_getfield (k := 17) d_M_count_132 kc7 (by decide) fl_M_85 g1 ?_
  refine s_ifeq (t := 145) d_M_count_135 (by decide) (fun z => ?_) (fun z => ?_)
  · exact ah_At.sub [] rfl (kt z)
  · exact (kf z)
theorem b_M_count_138 {d : Nat} {A : Nat → Prop} {h2 : ah_H} {o : Outcome} {h0 : ah_H} {h : ah_H} {x0 : Nat} {v1 : Int32} (g1 : ah_sel h x0 7 20 = some (.int v1)) (k : ah_At mt_M_count d A h0 o h2 146 [] [.int v1] h) : ah_At mt_M_count d A h0 o h2 138 [(0, .ref x0)] [] h := by
  refine s_aload_n d_M_count_138 rfl rfl ?_
  refine s_getfield (k := 20) d_M_count_139 kc7 (by decide) fl_M_127 g1 ?_
  refine s_goto (t := 146) d_M_count_142 (by decide) ?_
  exact ah_At.sub [] rfl k
theorem b_M_count_145 {d : Nat} {A : Nat → Prop} {h2 : ah_H} {o : Outcome} {h0 : ah_H} {h : ah_H}  (k : ah_At mt_M_count d A h0 o h2 146 [] [.int (-1)] h) : ah_At mt_M_count d A h0 o h2 145 [] [] h := by
  refine s_iconst (v := -1) d_M_count_145 (by decide) ?_
  exact k
theorem b_M_count_146 {d : Nat} {A : Nat → Prop} {h0 : ah_H} {h : ah_H} {s0 : Int32}  : ah_At mt_M_count d A h0 (.returned (some (.int s0))) h 146 [] [.int s0] h := by
  exact e_iret (ty := .int) d_M_count_146 rfl rfl
theorem b_M_count_147 {d : Nat} {A : Nat → Prop} {h2 : ah_H} {o : Outcome} {h0 : ah_H} {h : ah_H} {x0 : Nat} {v1 : Int32} (g1 : ah_sel h x0 7 17 = some (.int v1)) (kt : v1 = 0 → ah_At mt_M_count d A h0 o h2 158 [] [] h) (kf : ¬ (v1 = 0) → ah_At mt_M_count d A h0 o h2 154 [] [] h) : ah_At mt_M_count d A h0 o h2 147 [(0, .ref x0)] [] h := by
  refine s_aload_n d_M_count_147 rfl rfl ?_
  refine s_getfield (k := 17) d_M_count_148 kc7 (by decide) fl_M_85 g1 ?_
  refine s_ifeq (t := 158) d_M_count_151 (by decide) (fun z => ?_) (fun z => ?_)
  · exact ah_At.sub [] rfl (kt z)
  · exact ah_At.sub [] rfl (kf z)
theorem b_M_count_154 {d : Nat} {A : Nat → Prop} {h2 : ah_H} {o : Outcome} {h0 : ah_H} {h : ah_H}  (k : ah_At mt_M_count d A h0 o h2 159 [] [.int 1] h) : ah_At mt_M_count d A h0 o h2 154 [] [] h := by
  refine s_iconst (v := 1) d_M_count_154 (by decide) ?_
  refine s_goto (t := 159) d_M_count_155 (by decide) ?_
  exact k
theorem b_M_count_158 {d : Nat} {A : Nat → Prop} {h2 : ah_H} {o : Outcome} {h0 : ah_H} {h : ah_H}  (k : ah_At mt_M_count d A h0 o h2 159 [] [.int 0] h) : ah_At mt_M_count d A h0 o h2 158 [] [] h := by
  refine s_iconst (v := 0) d_M_count_158 (by decide) ?_
  exact k
theorem b_M_count_159 {d : Nat} {A : Nat → Prop} {h0 : ah_H} {h : ah_H} {s0 : Int32}  : ah_At mt_M_count d A h0 (.returned (some (.int s0))) h 159 [] [.int s0] h := by
  exact e_iret (ty := .int) d_M_count_159 rfl rfl
theorem b_M_count_160 {d : Nat} {A : Nat → Prop} {h0 : ah_H} {h : ah_H}   : ah_At mt_M_count d A h0 (.returned (some (.int (-1)))) h 160 [] [] h := by
  refine s_iconst (v := -1) d_M_count_160 (by decide) ?_
  exact e_iret (ty := .int) d_M_count_161 rfl rfl
