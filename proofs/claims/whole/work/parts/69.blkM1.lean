/-! BLOCKS. Printed by wip/make.py. -/
theorem b_M_isGood_146 {d : Nat} {A : Nat → Prop} {h2 : ah_H} {o : Outcome} {h0 : ah_H} {h : ah_H} {x0 : Nat} {x1 : Int32} {x2 : Int64} {x5 : Int32} (k : ah_At mt_M_isGood d A h0 o h2 147 [(0, .ref x0), (1, .int x1), (2, .long x2), (5, .int x5)] [.int 0] h) : ah_At mt_M_isGood d A h0 o h2 146 [(0, .ref x0), (1, .int x1), (2, .long x2), (5, .int x5)] [] h := by
  refine s_iconst (v := 0) d_M_isGood_146 (by decide) ?_
  exact k
theorem b_M_isGood_147 {d : Nat} {A : Nat → Prop} {h2 : ah_H} {o : Outcome} {h0 : ah_H} {h : ah_H} {x0 : Nat} {x1 : Int32} {x2 : Int64} {x5 : Int32} {s0 : Int32} (k : ah_At mt_M_isGood d A h0 o h2 72 [(0, .ref x0), (1, .int x1), (2, .long x2), (4, .int s0), (5, .int (x5 + 1))] [] h) : ah_At mt_M_isGood d A h0 o h2 147 [(0, .ref x0), (1, .int x1), (2, .long x2), (5, .int x5)] [.int s0] h := by
  refine s_istore (lv' := [(0, .ref x0), (1, .int x1), (2, .long x2), (5, .int x5), (4, .int s0)]) d_M_isGood_147 (by decide) rfl ?_
  refine s_iinc (v := x5 + 1) (lv' := [(0, .ref x0), (1, .int x1), (2, .long x2), (5, .int (x5 + 1)), (4, .int s0)]) d_M_isGood_149 rfl rfl (by decide) rfl ?_
  refine s_goto (t := 72) d_M_isGood_152 (by decide) ?_
  exact ah_At.sub [0, 1, 2, 4, 3] rfl k
theorem b_M_isGood_155 {d : Nat} {A : Nat → Prop} {h2 : ah_H} {o : Outcome} {h0 : ah_H} {h : ah_H} {x0 : Nat} {x1 : Int32} {x2 : Int64} {x4 : Int32} (kt : x4 = 0 → ah_At mt_M_isGood d A h0 o h2 175 [] [] h) (kf : ¬ (x4 = 0) → ah_At mt_M_isGood d A h0 o h2 160 [(0, .ref x0), (1, .int x1), (2, .long x2)] [] h) : ah_At mt_M_isGood d A h0 o h2 155 [(0, .ref x0), (1, .int x1), (2, .long x2), (4, .int x4)] [] h := by
  refine s_iload d_M_isGood_155 rfl ?_
  refine s_ifeq (t := 175) d_M_isGood_157 (by decide) (fun z => ?_) (fun z => ?_)
  · exact ah_At.sub [] rfl (kt z)
  · exact ah_At.sub [0, 1, 2] rfl (kf z)
theorem b_M_isGood_160 {d : Nat} {A : Nat → Prop} {h2 : ah_H} {o : Outcome} {h0 : ah_H} {h : ah_H} {x0 : Nat} {x1 : Int32} {x2 : Int64} {v1 : Nat} {v2 : Int64} {j2 : Nat} (g1 : ah_sel h x0 7 4 = some (.ref v1)) (i2 : ah_ix x1 j2) (g2 : ah_sel h v1 101 j2 = some (.long v2)) (kt : 0 < (lg_cmp x2 v2) → ah_At mt_M_isGood d A h0 o h2 175 [] [] h) (kf : ¬ (0 < (lg_cmp x2 v2)) → ah_At mt_M_isGood d A h0 o h2 171 [] [] h) : ah_At mt_M_isGood d A h0 o h2 160 [(0, .ref x0), (1, .int x1), (2, .long x2)] [] h := by
  refine s_lload_n d_M_isGood_160 rfl rfl ?_
  refine s_aload_n d_M_isGood_161 rfl rfl ?_
  refine s_getfield (k := 4) d_M_isGood_162 kc7 (by decide) fl_M_13 g1 ?_
  refine s_iload_n d_M_isGood_165 rfl rfl ?_
  refine s_laload d_M_isGood_166 i2 g2 ?_
  refine s_lcmp d_M_isGood_167 ?_
  refine s_ifgt (t := 175) d_M_isGood_168 (by decide) (fun z => ?_) (fun z => ?_)
  · exact ah_At.sub [] rfl (kt z)
  · exact ah_At.sub [] rfl (kf z)
theorem b_M_isGood_171 {d : Nat} {A : Nat → Prop} {h2 : ah_H} {o : Outcome} {h0 : ah_H} {h : ah_H}  (k : ah_At mt_M_isGood d A h0 o h2 176 [] [.int 1] h) : ah_At mt_M_isGood d A h0 o h2 171 [] [] h := by
  refine s_iconst (v := 1) d_M_isGood_171 (by decide) ?_
  refine s_goto (t := 176) d_M_isGood_172 (by decide) ?_
  exact k
theorem b_M_isGood_175 {d : Nat} {A : Nat → Prop} {h2 : ah_H} {o : Outcome} {h0 : ah_H} {h : ah_H}  (k : ah_At mt_M_isGood d A h0 o h2 176 [] [.int 0] h) : ah_At mt_M_isGood d A h0 o h2 175 [] [] h := by
  refine s_iconst (v := 0) d_M_isGood_175 (by decide) ?_
  exact k
theorem b_M_isGood_176 {d : Nat} {A : Nat → Prop} {h0 : ah_H} {h : ah_H} {s0 : Int32} (hz : narrow .boolean (.int s0) = .int s0) : ah_At mt_M_isGood d A h0 (.returned (some (.int s0))) h 176 [] [.int s0] h := by
  exact e_iret (ty := .boolean) d_M_isGood_176 rfl hz
theorem b_M_mayBe_0 {d : Nat} {A : Nat → Prop} {h2 : ah_H} {o : Outcome} {h0 : ah_H} {h : ah_H} {x0 : Nat} (k : ah_At mt_M_mayBe d A h0 o h2 4 [(0, .ref x0), (1, .int 1), (2, .int 0)] [] h) : ah_At mt_M_mayBe d A h0 o h2 0 [(0, .ref x0)] [] h := by
  refine s_iconst (v := 1) d_M_mayBe_0 (by decide) ?_
  refine s_istore_n (lv' := [(0, .ref x0), (1, .int 1)]) d_M_mayBe_1 rfl (by decide) rfl ?_
  refine s_iconst (v := 0) d_M_mayBe_2 (by decide) ?_
  refine s_istore_n (lv' := [(0, .ref x0), (1, .int 1), (2, .int 0)]) d_M_mayBe_3 rfl (by decide) rfl ?_
  exact k
theorem b_M_mayBe_4 {d : Nat} {A : Nat → Prop} {h2 : ah_H} {o : Outcome} {h0 : ah_H} {h : ah_H} {x0 : Nat} {x1 : Int32} {x2 : Int32} {v1 : Int32} (g1 : ah_sel h x0 7 2 = some (.int v1)) (kt : v1 ≤ x2 → ah_At mt_M_mayBe d A h0 o h2 158 [(0, .ref x0), (1, .int x1)] [] h) (kf : ¬ (v1 ≤ x2) → ah_At mt_M_mayBe d A h0 o h2 12 [(0, .ref x0), (1, .int x1), (2, .int x2)] [] h) : ah_At mt_M_mayBe d A h0 o h2 4 [(0, .ref x0), (1, .int x1), (2, .int x2)] [] h := by
  refine s_iload_n d_M_mayBe_4 rfl rfl ?_
  refine s_aload_n d_M_mayBe_5 rfl rfl ?_
  refine s_getfield (k := 2) d_M_mayBe_6 kc7 (by decide) fl_M_70 g1 ?_
  refine s_if_icmpge (t := 158) d_M_mayBe_9 (by decide) (fun z => ?_) (fun z => ?_)
  · exact ah_At.sub [0, 1] rfl (kt z)
  · exact (kf z)
theorem b_M_mayBe_12 {d : Nat} {A : Nat → Prop} {h2 : ah_H} {o : Outcome} {h0 : ah_H} {h : ah_H} {x0 : Nat} {x1 : Int32} {x2 : Int32} (kt : x1 = 0 → ah_At mt_M_mayBe d A h0 o h2 158 [(0, .ref x0), (1, .int x1)] [] h) (kf : ¬ (x1 = 0) → ah_At mt_M_mayBe d A h0 o h2 16 [(0, .ref x0), (2, .int x2)] [] h) : ah_At mt_M_mayBe d A h0 o h2 12 [(0, .ref x0), (1, .int x1), (2, .int x2)] [] h := by
  refine s_iload_n d_M_mayBe_12 rfl rfl ?_
  refine s_ifeq (t := 158) d_M_mayBe_13 (by decide) (fun z => ?_) (fun z => ?_)
  · exact ah_At.sub [0, 1] rfl (kt z)
  · exact ah_At.sub [0, 2] rfl (kf z)
theorem b_M_mayBe_16 {d : Nat} {A : Nat → Prop} {h2 : ah_H} {o : Outcome} {h0 : ah_H} {h : ah_H} {x0 : Nat} {x2 : Int32} {v1 : Nat} {v2 : Int32} {j2 : Nat} (g1 : ah_sel h x0 7 18 = some (.ref v1)) (i2 : ah_ix x2 j2) (g2 : ah_sel h v1 100 j2 = some (.int v2)) (kt : v2 = 0 → ah_At mt_M_mayBe d A h0 o h2 39 [(0, .ref x0), (2, .int x2)] [] h) (kf : ¬ (v2 = 0) → ah_At mt_M_mayBe d A h0 o h2 25 [(0, .ref x0), (2, .int x2)] [] h) : ah_At mt_M_mayBe d A h0 o h2 16 [(0, .ref x0), (2, .int x2)] [] h := by
  refine s_aload_n d_M_mayBe_16 rfl rfl ?_
  refine s_getfield (k := 18) d_M_mayBe_17 kc7 (by decide) fl_M_57 g1 ?_
  refine s_iload_n d_M_mayBe_20 rfl rfl ?_
  refine s_iaload d_M_mayBe_21 i2 g2 ?_
  refine s_ifeq (t := 39) d_M_mayBe_22 (by decide) (fun z => ?_) (fun z => ?_)
  · exact (kt z)
  · exact (kf z)
theorem b_M_mayBe_25 {d : Nat} {A : Nat → Prop} {h2 : ah_H} {o : Outcome} {h0 : ah_H} {h : ah_H} {x0 : Nat} {x2 : Int32} {v1 : Nat} {v2 : Int64} {j2 : Nat} {v3 : Int64} (g1 : ah_sel h x0 7 14 = some (.ref v1)) (i2 : ah_ix x2 j2) (g2 : ah_sel h v1 101 j2 = some (.long v2)) (g3 : ah_sel h x0 7 16 = some (.long v3)) (kt : 0 < (lg_cmp v2 v3) → ah_At mt_M_mayBe d A h0 o h2 43 [(0, .ref x0), (2, .int x2)] [] h) (kf : ¬ (0 < (lg_cmp v2 v3)) → ah_At mt_M_mayBe d A h0 o h2 39 [(0, .ref x0), (2, .int x2)] [] h) : ah_At mt_M_mayBe d A h0 o h2 25 [(0, .ref x0), (2, .int x2)] [] h := by
  refine s_aload_n d_M_mayBe_25 rfl rfl ?_
  refine s_getfield (k := 14) d_M_mayBe_26 kc7 (by decide) fl_M_45 g1 ?_
  refine s_iload_n d_M_mayBe_29 rfl rfl ?_
  refine s_laload d_M_mayBe_30 i2 g2 ?_
  refine s_aload_n d_M_mayBe_31 rfl rfl ?_
  refine s_getfield (k := 16) d_M_mayBe_32 kc7 (by decide) fl_M_53 g3 ?_
  refine s_lcmp d_M_mayBe_35 ?_
  refine s_ifgt (t := 43) d_M_mayBe_36 (by decide) (fun z => ?_) (fun z => ?_)
  · exact (kt z)
  · exact (kf z)
theorem b_M_mayBe_39 {d : Nat} {A : Nat → Prop} {h2 : ah_H} {o : Outcome} {h0 : ah_H} {h : ah_H} {x0 : Nat} {x2 : Int32} (k : ah_At mt_M_mayBe d A h0 o h2 44 [(0, .ref x0), (2, .int x2)] [.int 1] h) : ah_At mt_M_mayBe d A h0 o h2 39 [(0, .ref x0), (2, .int x2)] [] h := by
  refine s_iconst (v := 1) d_M_mayBe_39 (by decide) ?_
  refine s_goto (t := 44) d_M_mayBe_40 (by decide) ?_
  exact k
theorem b_M_mayBe_43 {d : Nat} {A : Nat → Prop} {h2 : ah_H} {o : Outcome} {h0 : ah_H} {h : ah_H} {x0 : Nat} {x2 : Int32} (k : ah_At mt_M_mayBe d A h0 o h2 44 [(0, .ref x0), (2, .int x2)] [.int 0] h) : ah_At mt_M_mayBe d A h0 o h2 43 [(0, .ref x0), (2, .int x2)] [] h := by
  refine s_iconst (v := 0) d_M_mayBe_43 (by decide) ?_
  exact k
theorem b_M_mayBe_44 {d : Nat} {A : Nat → Prop} {h2 : ah_H} {o : Outcome} {h0 : ah_H} {h : ah_H} {x0 : Nat} {x2 : Int32} {s0 : Int32} (k : ah_At mt_M_mayBe d A h0 o h2 47 [(0, .ref x0), (1, .int s0), (2, .int x2), (3, .int 0)] [] h) : ah_At mt_M_mayBe d A h0 o h2 44 [(0, .ref x0), (2, .int x2)] [.int s0] h := by
  refine s_istore_n (lv' := [(0, .ref x0), (2, .int x2), (1, .int s0)]) d_M_mayBe_44 rfl (by decide) rfl ?_
  refine s_iconst (v := 0) d_M_mayBe_45 (by decide) ?_
  refine s_istore_n (lv' := [(0, .ref x0), (2, .int x2), (1, .int s0), (3, .int 0)]) d_M_mayBe_46 rfl (by decide) rfl ?_
  exact ah_At.sub [0, 2, 1, 3] rfl k
theorem b_M_mayBe_47 {d : Nat} {A : Nat → Prop} {h2 : ah_H} {o : Outcome} {h0 : ah_H} {h : ah_H} {x0 : Nat} {x1 : Int32} {x2 : Int32} {x3 : Int32} (kt : x2 ≤ x3 → ah_At mt_M_mayBe d A h0 o h2 152 [(0, .ref x0), (1, .int x1), (2, .int x2)] [] h) (kf : ¬ (x2 ≤ x3) → ah_At mt_M_mayBe d A h0 o h2 52 [(0, .ref x0), (1, .int x1), (2, .int x2), (3, .int x3)] [] h) : ah_At mt_M_mayBe d A h0 o h2 47 [(0, .ref x0), (1, .int x1), (2, .int x2), (3, .int x3)] [] h := by
  refine s_iload_n d_M_mayBe_47 rfl rfl ?_
  refine s_iload_n d_M_mayBe_48 rfl rfl ?_
  refine s_if_icmpge (t := 152) d_M_mayBe_49 (by decide) (fun z => ?_) (fun z => ?_)
  · exact ah_At.sub [0, 1, 2] rfl (kt z)
  · exact (kf z)
theorem b_M_mayBe_52 {d : Nat} {A : Nat → Prop} {h2 : ah_H} {o : Outcome} {h0 : ah_H} {h : ah_H} {x0 : Nat} {x1 : Int32} {x2 : Int32} {x3 : Int32} (kt : x1 = 0 → ah_At mt_M_mayBe d A h0 o h2 152 [(0, .ref x0), (1, .int x1), (2, .int x2)] [] h) (kf : ¬ (x1 = 0) → ah_At mt_M_mayBe d A h0 o h2 56 [(0, .ref x0), (2, .int x2), (3, .int x3)] [] h) : ah_At mt_M_mayBe d A h0 o h2 52 [(0, .ref x0), (1, .int x1), (2, .int x2), (3, .int x3)] [] h := by
  refine s_iload_n d_M_mayBe_52 rfl rfl ?_
  refine s_ifeq (t := 152) d_M_mayBe_53 (by decide) (fun z => ?_) (fun z => ?_)
  · exact ah_At.sub [0, 1, 2] rfl (kt z)
  · exact ah_At.sub [0, 2, 3] rfl (kf z)
theorem b_M_mayBe_56 {d : Nat} {A : Nat → Prop} {h2 : ah_H} {o : Outcome} {h0 : ah_H} {h : ah_H} {x0 : Nat} {x2 : Int32} {x3 : Int32} {d' : Nat} {A' : Nat → Prop} {o' : Outcome} {h' : ah_H} (hE : ah_Ev mt_M_rulesOf d' A' [.ref x0, .int x2, .int x3] h o' h') (hdd : d' + 1 ≤ d) (hAA : ∀ q, A' q → A q) (k : ah_aft mt_M_mayBe d A h0 o h2 59 [(0, .ref x0), (2, .int x2), (3, .int x3)] [] h' o') (hb : (ah_len h x0 7).isSome = true) : ah_At mt_M_mayBe d A h0 o h2 56 [(0, .ref x0), (2, .int x2), (3, .int x3)] [] h := by
  refine s_aload_n d_M_mayBe_56 rfl rfl ?_
  refine s_iload_n d_M_mayBe_57 rfl rfl ?_
  refine s_iload_n d_M_mayBe_58 rfl rfl ?_
  exact ah_callV (av := [.int x2, .int x3]) (st := []) d_M_mayBe_59 ml_M_115 mi_M_rulesOf mv_M_rulesOf kc7 hb hE hdd hAA rfl (Nat.le_of_ble_eq_true rfl) k
theorem b_M_mayBe_62 {d : Nat} {A : Nat → Prop} {h2 : ah_H} {o : Outcome} {h0 : ah_H} {h : ah_H} {x0 : Nat} {x2 : Int32} {x3 : Int32} {s0 : Int32} {v1 : Nat} {v2 : Int32} {j2 : Nat} {v3 : Nat} {v4 : Int32} {j4 : Nat} (g1 : ah_sel h x0 7 18 = some (.ref v1)) (i2 : ah_ix x2 j2) (g2 : ah_sel h v1 100 j2 = some (.int v2)) (g3 : ah_sel h x0 7 18 = some (.ref v3)) (i4 : ah_ix x3 j4) (g4 : ah_sel h v3 100 j4 = some (.int v4)) (kt : v2 ≤ v4 → ah_At mt_M_mayBe d A h0 o h2 95 [(0, .ref x0), (2, .int x2), (3, .int x3), (4, .int s0)] [] h) (kf : ¬ (v2 ≤ v4) → ah_At mt_M_mayBe d A h0 o h2 79 [(0, .ref x0), (2, .int x2), (3, .int x3), (4, .int s0)] [] h) : ah_At mt_M_mayBe d A h0 o h2 62 [(0, .ref x0), (2, .int x2), (3, .int x3)] [.int s0] h := by
  refine s_istore (lv' := [(0, .ref x0), (2, .int x2), (3, .int x3), (4, .int s0)]) d_M_mayBe_62 (by decide) rfl ?_
  refine s_aload_n d_M_mayBe_64 rfl rfl ?_
  refine s_getfield (k := 18) d_M_mayBe_65 kc7 (by decide) fl_M_57 g1 ?_
  refine s_iload_n d_M_mayBe_68 rfl rfl ?_
  refine s_iaload d_M_mayBe_69 i2 g2 ?_
  refine s_aload_n d_M_mayBe_70 rfl rfl ?_
  refine s_getfield (k := 18) d_M_mayBe_71 kc7 (by decide) fl_M_57 g3 ?_
  refine s_iload_n d_M_mayBe_74 rfl rfl ?_
  refine s_iaload d_M_mayBe_75 i4 g4 ?_
  refine s_if_icmple (t := 95) d_M_mayBe_76 (by decide) (fun z => ?_) (fun z => ?_)
  · exact (kt z)
  · exact (kf z)
theorem b_M_mayBe_79 {d : Nat} {A : Nat → Prop} {h2 : ah_H} {o : Outcome} {h0 : ah_H} {h : ah_H} {x0 : Nat} {x2 : Int32} {x3 : Int32} {x4 : Int32} {v1 : Nat} {v2 : Int32} {j2 : Nat} {v3 : Nat} {v4 : Int32} {j4 : Nat} (g1 : ah_sel h x0 7 18 = some (.ref v1)) (i2 : ah_ix x2 j2) (g2 : ah_sel h v1 100 j2 = some (.int v2)) (g3 : ah_sel h x0 7 18 = some (.ref v3)) (i4 : ah_ix x3 j4) (g4 : ah_sel h v3 100 j4 = some (.int v4)) (k : ah_At mt_M_mayBe d A h0 o h2 108 [(0, .ref x0), (2, .int x2), (3, .int x3), (4, .int x4)] [.int (v2 - v4)] h) : ah_At mt_M_mayBe d A h0 o h2 79 [(0, .ref x0), (2, .int x2), (3, .int x3), (4, .int x4)] [] h := by
  refine s_aload_n d_M_mayBe_79 rfl rfl ?_
  refine s_getfield (k := 18) d_M_mayBe_80 kc7 (by decide) fl_M_57 g1 ?_
  refine s_iload_n d_M_mayBe_83 rfl rfl ?_
  refine s_iaload d_M_mayBe_84 i2 g2 ?_
  refine s_aload_n d_M_mayBe_85 rfl rfl ?_
  refine s_getfield (k := 18) d_M_mayBe_86 kc7 (by decide) fl_M_57 g3 ?_
  refine s_iload_n d_M_mayBe_89 rfl rfl ?_
  refine s_iaload d_M_mayBe_90 i4 g4 ?_
  refine s_isub d_M_mayBe_91 ?_
  refine s_goto (t := 108) d_M_mayBe_92 (by decide) ?_
  exact k
theorem b_M_mayBe_95 {d : Nat} {A : Nat → Prop} {h2 : ah_H} {o : Outcome} {h0 : ah_H} {h : ah_H} {x0 : Nat} {x2 : Int32} {x3 : Int32} {x4 : Int32} {v1 : Nat} {v2 : Int32} {j2 : Nat} {v3 : Nat} {v4 : Int32} {j4 : Nat} (g1 : ah_sel h x0 7 18 = some (.ref v1)) (i2 : ah_ix x3 j2) (g2 : ah_sel h v1 100 j2 = some (.int v2)) (g3 : ah_sel h x0 7 18 = some (.ref v3)) (i4 : ah_ix x2 j4) (g4 : ah_sel h v3 100 j4 = some (.int v4)) (k : ah_At mt_M_mayBe d A h0 o h2 108 [(0, .ref x0), (2, .int x2), (3, .int x3), (4, .int x4)] [.int (v2 - v4)] h) : ah_At mt_M_mayBe d A h0 o h2 95 [(0, .ref x0), (2, .int x2), (3, .int x3), (4, .int x4)] [] h := by
  refine s_aload_n d_M_mayBe_95 rfl rfl ?_
  refine s_getfield (k := 18) d_M_mayBe_96 kc7 (by decide) fl_M_57 g1 ?_
  refine s_iload_n d_M_mayBe_99 rfl rfl ?_
  refine s_iaload d_M_mayBe_100 i2 g2 ?_
  refine s_aload_n d_M_mayBe_101 rfl rfl ?_
  refine s_getfield (k := 18) d_M_mayBe_102 kc7 (by decide) fl_M_57 g3 ?_
  refine s_iload_n d_M_mayBe_105 rfl rfl ?_
  refine s_iaload d_M_mayBe_106 i4 g4 ?_
  refine s_isub d_M_mayBe_107 ?_
  exact k
theorem b_M_mayBe_108 {d : Nat} {A : Nat → Prop} {h2 : ah_H} {o : Outcome} {h0 : ah_H} {h : ah_H} {x0 : Nat} {x2 : Int32} {x3 : Int32} {x4 : Int32} {s0 : Int32} (kt : x4 = 0 → ah_At mt_M_mayBe d A h0 o h2 140 [(0, .ref x0), (2, .int x2), (3, .int x3)] [] h) (kf : ¬ (x4 = 0) → ah_At mt_M_mayBe d A h0 o h2 115 [(0, .ref x0), (2, .int x2), (3, .int x3), (4, .int x4), (5, .int s0)] [] h) : ah_At mt_M_mayBe d A h0 o h2 108 [(0, .ref x0), (2, .int x2), (3, .int x3), (4, .int x4)] [.int s0] h := by
  refine s_istore (lv' := [(0, .ref x0), (2, .int x2), (3, .int x3), (4, .int x4), (5, .int s0)]) d_M_mayBe_108 (by decide) rfl ?_
  refine s_iload d_M_mayBe_110 rfl ?_
  refine s_ifeq (t := 140) d_M_mayBe_112 (by decide) (fun z => ?_) (fun z => ?_)
  · exact ah_At.sub [0, 1, 2] rfl (kt z)
  · exact (kf z)
theorem b_M_mayBe_115 {d : Nat} {A : Nat → Prop} {h2 : ah_H} {o : Outcome} {h0 : ah_H} {h : ah_H} {x0 : Nat} {x2 : Int32} {x3 : Int32} {x4 : Int32} {x5 : Int32} {v1 : Nat} {v2 : Int32} {j2 : Nat} (g1 : ah_sel h x0 7 18 = some (.ref v1)) (i2 : ah_ix x2 j2) (g2 : ah_sel h v1 100 j2 = some (.int v2)) (kt : v2 = 0 → ah_At mt_M_mayBe d A h0 o h2 140 [(0, .ref x0), (2, .int x2), (3, .int x3)] [] h) (kf : ¬ (v2 = 0) → ah_At mt_M_mayBe d A h0 o h2 124 [(0, .ref x0), (2, .int x2), (3, .int x3), (4, .int x4), (5, .int x5)] [] h) : ah_At mt_M_mayBe d A h0 o h2 115 [(0, .ref x0), (2, .int x2), (3, .int x3), (4, .int x4), (5, .int x5)] [] h := by
  refine s_aload_n d_M_mayBe_115 rfl rfl ?_
  refine s_getfield (k := 18) d_M_mayBe_116 kc7 (by decide) fl_M_57 g1 ?_
  refine s_iload_n d_M_mayBe_119 rfl rfl ?_
  refine s_iaload d_M_mayBe_120 i2 g2 ?_
  refine s_ifeq (t := 140) d_M_mayBe_121 (by decide) (fun z => ?_) (fun z => ?_)
  · exact ah_At.sub [0, 1, 2] rfl (kt z)
  · exact (kf z)
theorem b_M_mayBe_124 {d : Nat} {A : Nat → Prop} {h2 : ah_H} {o : Outcome} {h0 : ah_H} {h : ah_H} {x0 : Nat} {x2 : Int32} {x3 : Int32} {x4 : Int32} {x5 : Int32} {v1 : Nat} {v2 : Int32} {j2 : Nat} (g1 : ah_sel h x0 7 18 = some (.ref v1)) (i2 : ah_ix x3 j2) (g2 : ah_sel h v1 100 j2 = some (.int v2)) (kt : v2 = 0 → ah_At mt_M_mayBe d A h0 o h2 140 [(0, .ref x0), (2, .int x2), (3, .int x3)] [] h) (kf : ¬ (v2 = 0) → ah_At mt_M_mayBe d A h0 o h2 133 [(0, .ref x0), (2, .int x2), (3, .int x3), (4, .int x4), (5, .int x5)] [] h) : ah_At mt_M_mayBe d A h0 o h2 124 [(0, .ref x0), (2, .int x2), (3, .int x3), (4, .int x4), (5, .int x5)] [] h := by
  refine s_aload_n d_M_mayBe_124 rfl rfl ?_
  refine s_getfield (k := 18) d_M_mayBe_125 kc7 (by decide) fl_M_57 g1 ?_
  refine s_iload_n d_M_mayBe_128 rfl rfl ?_
  refine s_iaload d_M_mayBe_129 i2 g2 ?_
  refine s_ifeq (t := 140) d_M_mayBe_130 (by decide) (fun z => ?_) (fun z => ?_)
  · exact ah_At.sub [0, 1, 2] rfl (kt z)
  · exact (kf z)
theorem b_M_mayBe_133 {d : Nat} {A : Nat → Prop} {h2 : ah_H} {o : Outcome} {h0 : ah_H} {h : ah_H} {x0 : Nat} {x2 : Int32} {x3 : Int32} {x4 : Int32} {x5 : Int32} (kt : x5 < x4 → ah_At mt_M_mayBe d A h0 o h2 144 [(0, .ref x0), (2, .int x2), (3, .int x3)] [] h) (kf : ¬ (x5 < x4) → ah_At mt_M_mayBe d A h0 o h2 140 [(0, .ref x0), (2, .int x2), (3, .int x3)] [] h) : ah_At mt_M_mayBe d A h0 o h2 133 [(0, .ref x0), (2, .int x2), (3, .int x3), (4, .int x4), (5, .int x5)] [] h := by
  refine s_iload d_M_mayBe_133 rfl ?_
  refine s_iload d_M_mayBe_135 rfl ?_
  refine s_if_icmplt (t := 144) d_M_mayBe_137 (by decide) (fun z => ?_) (fun z => ?_)
  · exact ah_At.sub [0, 1, 2] rfl (kt z)
  · exact ah_At.sub [0, 1, 2] rfl (kf z)
theorem b_M_mayBe_140 {d : Nat} {A : Nat → Prop} {h2 : ah_H} {o : Outcome} {h0 : ah_H} {h : ah_H} {x0 : Nat} {x2 : Int32} {x3 : Int32} (k : ah_At mt_M_mayBe d A h0 o h2 145 [(0, .ref x0), (2, .int x2), (3, .int x3)] [.int 1] h) : ah_At mt_M_mayBe d A h0 o h2 140 [(0, .ref x0), (2, .int x2), (3, .int x3)] [] h := by
  refine s_iconst (v := 1) d_M_mayBe_140 (by decide) ?_
  refine s_goto (t := 145) d_M_mayBe_141 (by decide) ?_
  exact k
theorem b_M_mayBe_144 {d : Nat} {A : Nat → Prop} {h2 : ah_H} {o : Outcome} {h0 : ah_H} {h : ah_H} {x0 : Nat} {x2 : Int32} {x3 : Int32} (k : ah_At mt_M_mayBe d A h0 o h2 145 [(0, .ref x0), (2, .int x2), (3, .int x3)] [.int 0] h) : ah_At mt_M_mayBe d A h0 o h2 144 [(0, .ref x0), (2, .int x2), (3, .int x3)] [] h := by
  refine s_iconst (v := 0) d_M_mayBe_144 (by decide) ?_
  exact k
theorem b_M_mayBe_145 {d : Nat} {A : Nat → Prop} {h2 : ah_H} {o : Outcome} {h0 : ah_H} {h : ah_H} {x0 : Nat} {x2 : Int32} {x3 : Int32} {s0 : Int32} (k : ah_At mt_M_mayBe d A h0 o h2 47 [(0, .ref x0), (1, .int s0), (2, .int x2), (3, .int (x3 + 1))] [] h) : ah_At mt_M_mayBe d A h0 o h2 145 [(0, .ref x0), (2, .int x2), (3, .int x3)] [.int s0] h := by
  refine s_istore_n (lv' := [(0, .ref x0), (2, .int x2), (3, .int x3), (1, .int s0)]) d_M_mayBe_145 rfl (by decide) rfl ?_
  refine s_iinc (v := x3 + 1) (lv' := [(0, .ref x0), (2, .int x2), (3, .int (x3 + 1)), (1, .int s0)]) d_M_mayBe_146 rfl rfl (by decide) rfl ?_
  refine s_goto (t := 47) d_M_mayBe_149 (by decide) ?_
  exact ah_At.sub [0, 3, 1, 2] rfl k
theorem b_M_mayBe_152 {d : Nat} {A : Nat → Prop} {h2 : ah_H} {o : Outcome} {h0 : ah_H} {h : ah_H} {x0 : Nat} {x1 : Int32} {x2 : Int32} (k : ah_At mt_M_mayBe d A h0 o h2 4 [(0, .ref x0), (1, .int x1), (2, .int (x2 + 1))] [] h) : ah_At mt_M_mayBe d A h0 o h2 152 [(0, .ref x0), (1, .int x1), (2, .int x2)] [] h := by
  refine s_iinc (v := x2 + 1) (lv' := [(0, .ref x0), (1, .int x1), (2, .int (x2 + 1))]) d_M_mayBe_152 rfl rfl (by decide) rfl ?_
  refine s_goto (t := 4) d_M_mayBe_155 (by decide) ?_
  exact k
theorem b_M_mayBe_158 {d : Nat} {A : Nat → Prop} {h2 : ah_H} {o : Outcome} {h0 : ah_H} {h : ah_H} {x0 : Nat} {x1 : Int32} (k : ah_At mt_M_mayBe d A h0 o h2 160 [(0, .ref x0), (1, .int x1), (2, .int 0)] [] h) : ah_At mt_M_mayBe d A h0 o h2 158 [(0, .ref x0), (1, .int x1)] [] h := by
  refine s_iconst (v := 0) d_M_mayBe_158 (by decide) ?_
  refine s_istore_n (lv' := [(0, .ref x0), (1, .int x1), (2, .int 0)]) d_M_mayBe_159 rfl (by decide) rfl ?_
  exact k
theorem b_M_mayBe_160 {d : Nat} {A : Nat → Prop} {h2 : ah_H} {o : Outcome} {h0 : ah_H} {h : ah_H} {x0 : Nat} {x1 : Int32} {x2 : Int32} {v1 : Int32} (g1 : ah_sel h x0 7 1 = some (.int v1)) (kt : v1 ≤ x2 → ah_At mt_M_mayBe d A h0 o h2 184 [(1, .int x1)] [] h) (kf : ¬ (v1 ≤ x2) → ah_At mt_M_mayBe d A h0 o h2 168 [(0, .ref x0), (1, .int x1), (2, .int x2)] [] h) : ah_At mt_M_mayBe d A h0 o h2 160 [(0, .ref x0), (1, .int x1), (2, .int x2)] [] h := by
  refine s_iload_n d_M_mayBe_160 rfl rfl ?_
  refine s_aload_n d_M_mayBe_161 rfl rfl ?_
  refine s_getfield (k := 1) d_M_mayBe_162 kc7 (by decide) fl_M_67 g1 ?_
  refine s_if_icmpge (t := 184) d_M_mayBe_165 (by decide) (fun z => ?_) (fun z => ?_)
  · exact ah_At.sub [1] rfl (kt z)
  · exact (kf z)
theorem b_M_mayBe_168 {d : Nat} {A : Nat → Prop} {h2 : ah_H} {o : Outcome} {h0 : ah_H} {h : ah_H} {x0 : Nat} {x1 : Int32} {x2 : Int32} (kt : x1 = 0 → ah_At mt_M_mayBe d A h0 o h2 184 [(1, .int x1)] [] h) (kf : ¬ (x1 = 0) → ah_At mt_M_mayBe d A h0 o h2 172 [(0, .ref x0), (2, .int x2)] [] h) : ah_At mt_M_mayBe d A h0 o h2 168 [(0, .ref x0), (1, .int x1), (2, .int x2)] [] h := by
  refine s_iload_n d_M_mayBe_168 rfl rfl ?_
  refine s_ifeq (t := 184) d_M_mayBe_169 (by decide) (fun z => ?_) (fun z => ?_)
  · exact ah_At.sub [1] rfl (kt z)
  · exact ah_At.sub [0, 2] rfl (kf z)
theorem b_M_mayBe_172 {d : Nat} {A : Nat → Prop} {h2 : ah_H} {o : Outcome} {h0 : ah_H} {h : ah_H} {x0 : Nat} {x2 : Int32} {d' : Nat} {A' : Nat → Prop} {o' : Outcome} {h' : ah_H} (hE : ah_Ev mt_M_isGood d' A' [.ref x0, .int x2] h o' h') (hdd : d' + 1 ≤ d) (hAA : ∀ q, A' q → A q) (k : ah_aft mt_M_mayBe d A h0 o h2 174 [(0, .ref x0), (2, .int x2)] [] h' o') (hb : (ah_len h x0 7).isSome = true) : ah_At mt_M_mayBe d A h0 o h2 172 [(0, .ref x0), (2, .int x2)] [] h := by
  refine s_aload_n d_M_mayBe_172 rfl rfl ?_
  refine s_iload_n d_M_mayBe_173 rfl rfl ?_
  exact ah_callV (av := [.int x2]) (st := []) d_M_mayBe_174 ml_M_118 mi_M_isGood mv_M_isGood kc7 hb hE hdd hAA rfl (Nat.le_of_ble_eq_true rfl) k
theorem b_M_mayBe_177 {d : Nat} {A : Nat → Prop} {h2 : ah_H} {o : Outcome} {h0 : ah_H} {h : ah_H} {x0 : Nat} {x2 : Int32} {s0 : Int32} (k : ah_At mt_M_mayBe d A h0 o h2 160 [(0, .ref x0), (1, .int s0), (2, .int (x2 + 1))] [] h) : ah_At mt_M_mayBe d A h0 o h2 177 [(0, .ref x0), (2, .int x2)] [.int s0] h := by
  refine s_istore_n (lv' := [(0, .ref x0), (2, .int x2), (1, .int s0)]) d_M_mayBe_177 rfl (by decide) rfl ?_
  refine s_iinc (v := x2 + 1) (lv' := [(0, .ref x0), (2, .int (x2 + 1)), (1, .int s0)]) d_M_mayBe_178 rfl rfl (by decide) rfl ?_
  refine s_goto (t := 160) d_M_mayBe_181 (by decide) ?_
  exact ah_At.sub [0, 2, 1] rfl k
theorem b_M_mayBe_184 {d : Nat} {A : Nat → Prop} {h0 : ah_H} {h : ah_H} {x1 : Int32} (hz : narrow .boolean (.int x1) = .int x1) : ah_At mt_M_mayBe d A h0 (.returned (some (.int x1))) h 184 [(1, .int x1)] [] h := by
  refine s_iload_n d_M_mayBe_184 rfl rfl ?_
  exact e_iret (ty := .boolean) d_M_mayBe_185 rfl hz
theorem b_M_used_0 {d : Nat} {A : Nat → Prop} {h2 : ah_H} {o : Outcome} {h0 : ah_H} {h : ah_H} {x0 : Nat} (k : ah_At mt_M_used d A h0 o h2 4 [(0, .ref x0), (1, .int 0), (2, .int 0)] [] h) : ah_At mt_M_used d A h0 o h2 0 [(0, .ref x0)] [] h := by
  refine s_iconst (v := 0) d_M_used_0 (by decide) ?_
  refine s_istore_n (lv' := [(0, .ref x0), (1, .int 0)]) d_M_used_1 rfl (by decide) rfl ?_
  refine s_iconst (v := 0) d_M_used_2 (by decide) ?_
  refine s_istore_n (lv' := [(0, .ref x0), (1, .int 0), (2, .int 0)]) d_M_used_3 rfl (by decide) rfl ?_
  exact k
theorem b_M_used_4 {d : Nat} {A : Nat → Prop} {h2 : ah_H} {o : Outcome} {h0 : ah_H} {h : ah_H} {x0 : Nat} {x1 : Int32} {x2 : Int32} {v1 : Int32} (g1 : ah_sel h x0 7 2 = some (.int v1)) (kt : v1 ≤ x2 → ah_At mt_M_used d A h0 o h2 43 [(1, .int x1)] [] h) (kf : ¬ (v1 ≤ x2) → ah_At mt_M_used d A h0 o h2 12 [(0, .ref x0), (1, .int x1), (2, .int x2)] [] h) : ah_At mt_M_used d A h0 o h2 4 [(0, .ref x0), (1, .int x1), (2, .int x2)] [] h := by
  refine s_iload_n d_M_used_4 rfl rfl ?_
  refine s_aload_n d_M_used_5 rfl rfl ?_
  refine s_getfield (k := 2) d_M_used_6 kc7 (by decide) fl_M_70 g1 ?_
  refine s_if_icmpge (t := 43) d_M_used_9 (by decide) (fun z => ?_) (fun z => ?_)
  · exact ah_At.sub [1] rfl (kt z)
  · exact (kf z)
theorem b_M_used_12 {d : Nat} {A : Nat → Prop} {h2 : ah_H} {o : Outcome} {h0 : ah_H} {h : ah_H} {x0 : Nat} {x1 : Int32} {x2 : Int32} {v1 : Nat} {v2 : Int32} {j2 : Nat} (g1 : ah_sel h x0 7 18 = some (.ref v1)) (i2 : ah_ix x2 j2) (g2 : ah_sel h v1 100 j2 = some (.int v2)) (kt : v2 ≤ 0 → ah_At mt_M_used d A h0 o h2 34 [(0, .ref x0), (2, .int x2)] [.int x1] h) (kf : ¬ (v2 ≤ 0) → ah_At mt_M_used d A h0 o h2 22 [(0, .ref x0), (2, .int x2)] [.int x1] h) : ah_At mt_M_used d A h0 o h2 12 [(0, .ref x0), (1, .int x1), (2, .int x2)] [] h := by
  refine s_iload_n d_M_used_12 rfl rfl ?_
  refine s_aload_n d_M_used_13 rfl rfl ?_
  refine s_getfield (k := 18) d_M_used_14 kc7 (by decide) fl_M_57 g1 ?_
  refine s_iload_n d_M_used_17 rfl rfl ?_
  refine s_iaload d_M_used_18 i2 g2 ?_
  refine s_ifle (t := 34) d_M_used_19 (by decide) (fun z => ?_) (fun z => ?_)
  · exact ah_At.sub [0, 2] rfl (kt z)
  · exact ah_At.sub [0, 2] rfl (kf z)
theorem b_M_used_22 {d : Nat} {A : Nat → Prop} {h2 : ah_H} {o : Outcome} {h0 : ah_H} {h : ah_H} {x0 : Nat} {x2 : Int32} {s0 : Int32} {v1 : Nat} {v2 : Int32} {j2 : Nat} {d' : Nat} {A' : Nat → Prop} {o' : Outcome} {h' : ah_H} (g1 : ah_sel h x0 7 10 = some (.ref v1)) (i2 : ah_ix x2 j2) (g2 : ah_sel h v1 100 j2 = some (.int v2)) (hE : ah_Ev mt_M_lengthOf d' A' [.int v2] h o' h') (hdd : d' + 1 ≤ d) (hAA : ∀ q, A' q → A q) (k : ah_aft mt_M_used d A h0 o h2 28 [(0, .ref x0), (2, .int x2)] [.int s0] h' o') : ah_At mt_M_used d A h0 o h2 22 [(0, .ref x0), (2, .int x2)] [.int s0] h := by
  refine s_aload_n d_M_used_22 rfl rfl ?_
  refine s_getfield (k := 10) d_M_used_23 kc7 (by decide) fl_M_33 g1 ?_
  refine s_iload_n d_M_used_26 rfl rfl ?_
  refine s_iaload d_M_used_27 i2 g2 ?_
  exact ah_callS (av := [.int v2]) (st := [.int s0]) d_M_used_28 ml_M_97 ms_M_lengthOf hE hdd hAA rfl (Nat.le_of_ble_eq_true rfl) k
theorem b_M_used_31 {d : Nat} {A : Nat → Prop} {h2 : ah_H} {o : Outcome} {h0 : ah_H} {h : ah_H} {x0 : Nat} {x2 : Int32} {s0 : Int32} {s1 : Int32} (k : ah_At mt_M_used d A h0 o h2 35 [(0, .ref x0), (2, .int x2)] [.int s0, .int s1] h) : ah_At mt_M_used d A h0 o h2 31 [(0, .ref x0), (2, .int x2)] [.int s0, .int s1] h := by
  refine s_goto (t := 35) d_M_used_31 (by decide) ?_
  exact k
theorem b_M_used_34 {d : Nat} {A : Nat → Prop} {h2 : ah_H} {o : Outcome} {h0 : ah_H} {h : ah_H} {x0 : Nat} {x2 : Int32} {s0 : Int32} (k : ah_At mt_M_used d A h0 o h2 35 [(0, .ref x0), (2, .int x2)] [.int 0, .int s0] h) : ah_At mt_M_used d A h0 o h2 34 [(0, .ref x0), (2, .int x2)] [.int s0] h := by
  refine s_iconst (v := 0) d_M_used_34 (by decide) ?_
  exact k
theorem b_M_used_35 {d : Nat} {A : Nat → Prop} {h2 : ah_H} {o : Outcome} {h0 : ah_H} {h : ah_H} {x0 : Nat} {x2 : Int32} {s0 : Int32} {s1 : Int32} (k : ah_At mt_M_used d A h0 o h2 4 [(0, .ref x0), (1, .int (s1 + s0)), (2, .int (x2 + 1))] [] h) : ah_At mt_M_used d A h0 o h2 35 [(0, .ref x0), (2, .int x2)] [.int s0, .int s1] h := by
  refine s_iadd d_M_used_35 ?_
  refine s_istore_n (lv' := [(0, .ref x0), (2, .int x2), (1, .int (s1 + s0))]) d_M_used_36 rfl (by decide) rfl ?_
  refine s_iinc (v := x2 + 1) (lv' := [(0, .ref x0), (2, .int (x2 + 1)), (1, .int (s1 + s0))]) d_M_used_37 rfl rfl (by decide) rfl ?_
  refine s_goto (t := 4) d_M_used_40 (by decide) ?_
  exact ah_At.sub [0, 2, 1] rfl k
theorem b_M_used_43 {d : Nat} {A : Nat → Prop} {h0 : ah_H} {h : ah_H} {x1 : Int32}  : ah_At mt_M_used d A h0 (.returned (some (.int x1))) h 43 [(1, .int x1)] [] h := by
  refine s_iload_n d_M_used_43 rfl rfl ?_
  exact e_iret (ty := .int) d_M_used_44 rfl rfl
theorem b_M_placeOf_0 {d : Nat} {A : Nat → Prop} {h2 : ah_H} {o : Outcome} {h0 : ah_H} {h : ah_H} {x0 : Nat} {x1 : Int32} (k : ah_At mt_M_placeOf d A h0 o h2 4 [(0, .ref x0), (1, .int x1), (2, .int 0), (3, .int 0)] [] h) : ah_At mt_M_placeOf d A h0 o h2 0 [(0, .ref x0), (1, .int x1)] [] h := by
  refine s_iconst (v := 0) d_M_placeOf_0 (by decide) ?_
  refine s_istore_n (lv' := [(0, .ref x0), (1, .int x1), (2, .int 0)]) d_M_placeOf_1 rfl (by decide) rfl ?_
  refine s_iconst (v := 0) d_M_placeOf_2 (by decide) ?_
  refine s_istore_n (lv' := [(0, .ref x0), (1, .int x1), (2, .int 0), (3, .int 0)]) d_M_placeOf_3 rfl (by decide) rfl ?_
  exact k
theorem b_M_placeOf_4 {d : Nat} {A : Nat → Prop} {h2 : ah_H} {o : Outcome} {h0 : ah_H} {h : ah_H} {x0 : Nat} {x1 : Int32} {x2 : Int32} {x3 : Int32} {v1 : Int32} (g1 : ah_sel h x0 7 2 = some (.int v1)) (kt : v1 ≤ x3 → ah_At mt_M_placeOf d A h0 o h2 63 [(2, .int x2)] [] h) (kf : ¬ (v1 ≤ x3) → ah_At mt_M_placeOf d A h0 o h2 12 [(0, .ref x0), (1, .int x1), (2, .int x2), (3, .int x3)] [] h) : ah_At mt_M_placeOf d A h0 o h2 4 [(0, .ref x0), (1, .int x1), (2, .int x2), (3, .int x3)] [] h := by
  refine s_iload_n d_M_placeOf_4 rfl rfl ?_
  refine s_aload_n d_M_placeOf_5 rfl rfl ?_
  refine s_getfield (k := 2) d_M_placeOf_6 kc7 (by decide) fl_M_70 g1 ?_
  refine s_if_icmpge (t := 63) d_M_placeOf_9 (by decide) (fun z => ?_) (fun z => ?_)
  · exact ah_At.sub [2] rfl (kt z)
  · exact (kf z)
theorem b_M_placeOf_12 {d : Nat} {A : Nat → Prop} {h2 : ah_H} {o : Outcome} {h0 : ah_H} {h : ah_H} {x0 : Nat} {x1 : Int32} {x2 : Int32} {x3 : Int32} {v1 : Nat} {v2 : Int64} {j2 : Nat} {v3 : Nat} {v4 : Int64} {j4 : Nat} (g1 : ah_sel h x0 7 14 = some (.ref v1)) (i2 : ah_ix x3 j2) (g2 : ah_sel h v1 101 j2 = some (.long v2)) (g3 : ah_sel h x0 7 14 = some (.ref v3)) (i4 : ah_ix x1 j4) (g4 : ah_sel h v3 101 j4 = some (.long v4)) (kt : (lg_cmp v2 v4) < 0 → ah_At mt_M_placeOf d A h0 o h2 50 [(0, .ref x0), (1, .int x1), (3, .int x3)] [.int x2] h) (kf : ¬ ((lg_cmp v2 v4) < 0) → ah_At mt_M_placeOf d A h0 o h2 29 [(0, .ref x0), (1, .int x1), (3, .int x3)] [.int x2] h) : ah_At mt_M_placeOf d A h0 o h2 12 [(0, .ref x0), (1, .int x1), (2, .int x2), (3, .int x3)] [] h := by
  refine s_iload_n d_M_placeOf_12 rfl rfl ?_
  refine s_aload_n d_M_placeOf_13 rfl rfl ?_
  refine s_getfield (k := 14) d_M_placeOf_14 kc7 (by decide) fl_M_45 g1 ?_
  refine s_iload_n d_M_placeOf_17 rfl rfl ?_
  refine s_laload d_M_placeOf_18 i2 g2 ?_
  refine s_aload_n d_M_placeOf_19 rfl rfl ?_
  refine s_getfield (k := 14) d_M_placeOf_20 kc7 (by decide) fl_M_45 g3 ?_
  refine s_iload_n d_M_placeOf_23 rfl rfl ?_
  refine s_laload d_M_placeOf_24 i4 g4 ?_
  refine s_lcmp d_M_placeOf_25 ?_
  refine s_iflt (t := 50) d_M_placeOf_26 (by decide) (fun z => ?_) (fun z => ?_)
  · exact ah_At.sub [0, 1, 3] rfl (kt z)
  · exact ah_At.sub [0, 1, 3] rfl (kf z)
theorem b_M_placeOf_29 {d : Nat} {A : Nat → Prop} {h2 : ah_H} {o : Outcome} {h0 : ah_H} {h : ah_H} {x0 : Nat} {x1 : Int32} {x3 : Int32} {s0 : Int32} {v1 : Nat} {v2 : Int64} {j2 : Nat} {v3 : Nat} {v4 : Int64} {j4 : Nat} (g1 : ah_sel h x0 7 14 = some (.ref v1)) (i2 : ah_ix x3 j2) (g2 : ah_sel h v1 101 j2 = some (.long v2)) (g3 : ah_sel h x0 7 14 = some (.ref v3)) (i4 : ah_ix x1 j4) (g4 : ah_sel h v3 101 j4 = some (.long v4)) (kt : ¬ (lg_cmp v2 v4) = 0 → ah_At mt_M_placeOf d A h0 o h2 54 [(0, .ref x0), (1, .int x1), (3, .int x3)] [.int s0] h) (kf : ¬ (¬ (lg_cmp v2 v4) = 0) → ah_At mt_M_placeOf d A h0 o h2 45 [(0, .ref x0), (1, .int x1), (3, .int x3)] [.int s0] h) : ah_At mt_M_placeOf d A h0 o h2 29 [(0, .ref x0), (1, .int x1), (3, .int x3)] [.int s0] h := by
  refine s_aload_n d_M_placeOf_29 rfl rfl ?_
  refine s_getfield (k := 14) d_M_placeOf_30 kc7 (by decide) fl_M_45 g1 ?_
  refine s_iload_n d_M_placeOf_33 rfl rfl ?_
  refine s_laload d_M_placeOf_34 i2 g2 ?_
  refine s_aload_n d_M_placeOf_35 rfl rfl ?_
  refine s_getfield (k := 14) d_M_placeOf_36 kc7 (by decide) fl_M_45 g3 ?_
  refine s_iload_n d_M_placeOf_39 rfl rfl ?_
  refine s_laload d_M_placeOf_40 i4 g4 ?_
  refine s_lcmp d_M_placeOf_41 ?_
  refine s_ifne (t := 54) d_M_placeOf_42 (by decide) (fun z => ?_) (fun z => ?_)
  · exact (kt z)
  · exact (kf z)
theorem b_M_placeOf_45 {d : Nat} {A : Nat → Prop} {h2 : ah_H} {o : Outcome} {h0 : ah_H} {h : ah_H} {x0 : Nat} {x1 : Int32} {x3 : Int32} {s0 : Int32} (kt : x1 ≤ x3 → ah_At mt_M_placeOf d A h0 o h2 54 [(0, .ref x0), (1, .int x1), (3, .int x3)] [.int s0] h) (kf : ¬ (x1 ≤ x3) → ah_At mt_M_placeOf d A h0 o h2 50 [(0, .ref x0), (1, .int x1), (3, .int x3)] [.int s0] h) : ah_At mt_M_placeOf d A h0 o h2 45 [(0, .ref x0), (1, .int x1), (3, .int x3)] [.int s0] h := by
  refine s_iload_n d_M_placeOf_45 rfl rfl ?_
  refine s_iload_n d_M_placeOf_46 rfl rfl ?_
  refine s_if_icmpge (t := 54) d_M_placeOf_47 (by decide) (fun z => ?_) (fun z => ?_)
  · exact (kt z)
  · exact (kf z)
theorem b_M_placeOf_50 {d : Nat} {A : Nat → Prop} {h2 : ah_H} {o : Outcome} {h0 : ah_H} {h : ah_H} {x0 : Nat} {x1 : Int32} {x3 : Int32} {s0 : Int32} (k : ah_At mt_M_placeOf d A h0 o h2 55 [(0, .ref x0), (1, .int x1), (3, .int x3)] [.int 1, .int s0] h) : ah_At mt_M_placeOf d A h0 o h2 50 [(0, .ref x0), (1, .int x1), (3, .int x3)] [.int s0] h := by
  refine s_iconst (v := 1) d_M_placeOf_50 (by decide) ?_
  refine s_goto (t := 55) d_M_placeOf_51 (by decide) ?_
  exact k
theorem b_M_placeOf_54 {d : Nat} {A : Nat → Prop} {h2 : ah_H} {o : Outcome} {h0 : ah_H} {h : ah_H} {x0 : Nat} {x1 : Int32} {x3 : Int32} {s0 : Int32} (k : ah_At mt_M_placeOf d A h0 o h2 55 [(0, .ref x0), (1, .int x1), (3, .int x3)] [.int 0, .int s0] h) : ah_At mt_M_placeOf d A h0 o h2 54 [(0, .ref x0), (1, .int x1), (3, .int x3)] [.int s0] h := by
  refine s_iconst (v := 0) d_M_placeOf_54 (by decide) ?_
  exact k
theorem b_M_placeOf_55 {d : Nat} {A : Nat → Prop} {h2 : ah_H} {o : Outcome} {h0 : ah_H} {h : ah_H} {x0 : Nat} {x1 : Int32} {x3 : Int32} {s0 : Int32} {s1 : Int32} (k : ah_At mt_M_placeOf d A h0 o h2 4 [(0, .ref x0), (1, .int x1), (2, .int (s1 + s0)), (3, .int (x3 + 1))] [] h) : ah_At mt_M_placeOf d A h0 o h2 55 [(0, .ref x0), (1, .int x1), (3, .int x3)] [.int s0, .int s1] h := by
  refine s_iadd d_M_placeOf_55 ?_
  refine s_istore_n (lv' := [(0, .ref x0), (1, .int x1), (3, .int x3), (2, .int (s1 + s0))]) d_M_placeOf_56 rfl (by decide) rfl ?_
  refine s_iinc (v := x3 + 1) (lv' := [(0, .ref x0), (1, .int x1), (3, .int (x3 + 1)), (2, .int (s1 + s0))]) d_M_placeOf_57 rfl rfl (by decide) rfl ?_
  refine s_goto (t := 4) d_M_placeOf_60 (by decide) ?_
  exact ah_At.sub [0, 1, 3, 2] rfl k
theorem b_M_placeOf_63 {d : Nat} {A : Nat → Prop} {h0 : ah_H} {h : ah_H} {x2 : Int32}  : ah_At mt_M_placeOf d A h0 (.returned (some (.int x2))) h 63 [(2, .int x2)] [] h := by
  refine s_iload_n d_M_placeOf_63 rfl rfl ?_
  exact e_iret (ty := .int) d_M_placeOf_64 rfl rfl
theorem b_M_boxAt_0 {d : Nat} {A : Nat → Prop} {h2 : ah_H} {o : Outcome} {h0 : ah_H} {h : ah_H} {x0 : Nat} {x1 : Int32} (k : ah_At mt_M_boxAt d A h0 o h2 2 [(0, .ref x0), (1, .int x1), (2, .int 0)] [] h) : ah_At mt_M_boxAt d A h0 o h2 0 [(0, .ref x0), (1, .int x1)] [] h := by
  refine s_iconst (v := 0) d_M_boxAt_0 (by decide) ?_
  refine s_istore_n (lv' := [(0, .ref x0), (1, .int x1), (2, .int 0)]) d_M_boxAt_1 rfl (by decide) rfl ?_
  exact k
theorem b_M_boxAt_2 {d : Nat} {A : Nat → Prop} {h2 : ah_H} {o : Outcome} {h0 : ah_H} {h : ah_H} {x0 : Nat} {x1 : Int32} {x2 : Int32} {d' : Nat} {A' : Nat → Prop} {o' : Outcome} {h' : ah_H} (hE : ah_Ev mt_M_placeOf d' A' [.ref x0, .int x2] h o' h') (hdd : d' + 1 ≤ d) (hAA : ∀ q, A' q → A q) (k : ah_aft mt_M_boxAt d A h0 o h2 4 [(0, .ref x0), (1, .int x1), (2, .int x2)] [] h' o') (hb : (ah_len h x0 7).isSome = true) : ah_At mt_M_boxAt d A h0 o h2 2 [(0, .ref x0), (1, .int x1), (2, .int x2)] [] h := by
  refine s_aload_n d_M_boxAt_2 rfl rfl ?_
  refine s_iload_n d_M_boxAt_3 rfl rfl ?_
  exact ah_callV (av := [.int x2]) (st := []) d_M_boxAt_4 ml_M_121 mi_M_placeOf mv_M_placeOf kc7 hb hE hdd hAA rfl (Nat.le_of_ble_eq_true rfl) k
theorem b_M_boxAt_7 {d : Nat} {A : Nat → Prop} {h2 : ah_H} {o : Outcome} {h0 : ah_H} {h : ah_H} {x0 : Nat} {x1 : Int32} {x2 : Int32} {s0 : Int32} (kt : s0 = x1 → ah_At mt_M_boxAt d A h0 o h2 17 [(2, .int x2)] [] h) (kf : ¬ (s0 = x1) → ah_At mt_M_boxAt d A h0 o h2 11 [(0, .ref x0), (1, .int x1), (2, .int x2)] [] h) : ah_At mt_M_boxAt d A h0 o h2 7 [(0, .ref x0), (1, .int x1), (2, .int x2)] [.int s0] h := by
  refine s_iload_n d_M_boxAt_7 rfl rfl ?_
  refine s_if_icmpeq (t := 17) d_M_boxAt_8 (by decide) (fun z => ?_) (fun z => ?_)
  · exact ah_At.sub [2] rfl (kt z)
  · exact (kf z)
theorem b_M_boxAt_11 {d : Nat} {A : Nat → Prop} {h2 : ah_H} {o : Outcome} {h0 : ah_H} {h : ah_H} {x0 : Nat} {x1 : Int32} {x2 : Int32} (k : ah_At mt_M_boxAt d A h0 o h2 2 [(0, .ref x0), (1, .int x1), (2, .int (x2 + 1))] [] h) : ah_At mt_M_boxAt d A h0 o h2 11 [(0, .ref x0), (1, .int x1), (2, .int x2)] [] h := by
  refine s_iinc (v := x2 + 1) (lv' := [(0, .ref x0), (1, .int x1), (2, .int (x2 + 1))]) d_M_boxAt_11 rfl rfl (by decide) rfl ?_
  refine s_goto (t := 2) d_M_boxAt_14 (by decide) ?_
  exact k
theorem b_M_boxAt_17 {d : Nat} {A : Nat → Prop} {h0 : ah_H} {h : ah_H} {x2 : Int32}  : ah_At mt_M_boxAt d A h0 (.returned (some (.int x2))) h 17 [(2, .int x2)] [] h := by
  refine s_iload_n d_M_boxAt_17 rfl rfl ?_
  exact e_iret (ty := .int) d_M_boxAt_18 rfl rfl
theorem b_M_isAhead_0 {d : Nat} {A : Nat → Prop} {h2 : ah_H} {o : Outcome} {h0 : ah_H} {h : ah_H} {x0 : Nat} (k : ah_At mt_M_isAhead d A h0 o h2 2 [(0, .ref x0), (1, .int 0)] [] h) : ah_At mt_M_isAhead d A h0 o h2 0 [(0, .ref x0)] [] h := by
  refine s_iconst (v := 0) d_M_isAhead_0 (by decide) ?_
  refine s_istore_n (lv' := [(0, .ref x0), (1, .int 0)]) d_M_isAhead_1 rfl (by decide) rfl ?_
  exact k
theorem b_M_isAhead_2 {d : Nat} {A : Nat → Prop} {h2 : ah_H} {o : Outcome} {h0 : ah_H} {h : ah_H} {x0 : Nat} {x1 : Int32} {v1 : Int32} (g1 : ah_sel h x0 7 2 = some (.int v1)) (kt : v1 ≤ x1 → ah_At mt_M_isAhead d A h0 o h2 68 [(0, .ref x0)] [] h) (kf : ¬ (v1 ≤ x1) → ah_At mt_M_isAhead d A h0 o h2 10 [(0, .ref x0), (1, .int x1)] [] h) : ah_At mt_M_isAhead d A h0 o h2 2 [(0, .ref x0), (1, .int x1)] [] h := by
  refine s_iload_n d_M_isAhead_2 rfl rfl ?_
  refine s_aload_n d_M_isAhead_3 rfl rfl ?_
  refine s_getfield (k := 2) d_M_isAhead_4 kc7 (by decide) fl_M_70 g1 ?_
  refine s_if_icmpge (t := 68) d_M_isAhead_7 (by decide) (fun z => ?_) (fun z => ?_)
  · exact ah_At.sub [0] rfl (kt z)
  · exact (kf z)
theorem b_M_isAhead_10 {d : Nat} {A : Nat → Prop} {h2 : ah_H} {o : Outcome} {h0 : ah_H} {h : ah_H} {x0 : Nat} {x1 : Int32} {d' : Nat} {A' : Nat → Prop} {o' : Outcome} {h' : ah_H} (hE : ah_Ev mt_M_boxAt d' A' [.ref x0, .int x1] h o' h') (hdd : d' + 1 ≤ d) (hAA : ∀ q, A' q → A q) (k : ah_aft mt_M_isAhead d A h0 o h2 12 [(0, .ref x0), (1, .int x1)] [] h' o') (hb : (ah_len h x0 7).isSome = true) : ah_At mt_M_isAhead d A h0 o h2 10 [(0, .ref x0), (1, .int x1)] [] h := by
  refine s_aload_n d_M_isAhead_10 rfl rfl ?_
  refine s_iload_n d_M_isAhead_11 rfl rfl ?_
  exact ah_callV (av := [.int x1]) (st := []) d_M_isAhead_12 ml_M_124 mi_M_boxAt mv_M_boxAt kc7 hb hE hdd hAA rfl (Nat.le_of_ble_eq_true rfl) k
theorem b_M_isAhead_15 {d : Nat} {A : Nat → Prop} {h2 : ah_H} {o : Outcome} {h0 : ah_H} {h : ah_H} {x0 : Nat} {x1 : Int32} {s0 : Int32} {v1 : Nat} {v2 : Int32} {j2 : Nat} (g1 : ah_sel h x0 7 18 = some (.ref v1)) (i2 : ah_ix s0 j2) (g2 : ah_sel h v1 100 j2 = some (.int v2)) (kt : v2 ≤ 0 → ah_At mt_M_isAhead d A h0 o h2 29 [(0, .ref x0), (1, .int x1), (2, .int s0)] [] h) (kf : ¬ (v2 ≤ 0) → ah_At mt_M_isAhead d A h0 o h2 25 [(0, .ref x0), (1, .int x1), (2, .int s0)] [] h) : ah_At mt_M_isAhead d A h0 o h2 15 [(0, .ref x0), (1, .int x1)] [.int s0] h := by
  refine s_istore_n (lv' := [(0, .ref x0), (1, .int x1), (2, .int s0)]) d_M_isAhead_15 rfl (by decide) rfl ?_
  refine s_aload_n d_M_isAhead_16 rfl rfl ?_
  refine s_getfield (k := 18) d_M_isAhead_17 kc7 (by decide) fl_M_57 g1 ?_
  refine s_iload_n d_M_isAhead_20 rfl rfl ?_
  refine s_iaload d_M_isAhead_21 i2 g2 ?_
  refine s_ifle (t := 29) d_M_isAhead_22 (by decide) (fun z => ?_) (fun z => ?_)
  · exact (kt z)
  · exact (kf z)
theorem b_M_isAhead_25 {d : Nat} {A : Nat → Prop} {h2 : ah_H} {o : Outcome} {h0 : ah_H} {h : ah_H} {x0 : Nat} {x1 : Int32} {x2 : Int32} (k : ah_At mt_M_isAhead d A h0 o h2 30 [(0, .ref x0), (1, .int x1), (2, .int x2)] [.int 1] h) : ah_At mt_M_isAhead d A h0 o h2 25 [(0, .ref x0), (1, .int x1), (2, .int x2)] [] h := by
  refine s_iconst (v := 1) d_M_isAhead_25 (by decide) ?_
  refine s_goto (t := 30) d_M_isAhead_26 (by decide) ?_
  exact k
theorem b_M_isAhead_29 {d : Nat} {A : Nat → Prop} {h2 : ah_H} {o : Outcome} {h0 : ah_H} {h : ah_H} {x0 : Nat} {x1 : Int32} {x2 : Int32} (k : ah_At mt_M_isAhead d A h0 o h2 30 [(0, .ref x0), (1, .int x1), (2, .int x2)] [.int 0] h) : ah_At mt_M_isAhead d A h0 o h2 29 [(0, .ref x0), (1, .int x1), (2, .int x2)] [] h := by
  refine s_iconst (v := 0) d_M_isAhead_29 (by decide) ?_
  exact k
theorem b_M_isAhead_30 {d : Nat} {A : Nat → Prop} {h2 : ah_H} {o : Outcome} {h0 : ah_H} {h : ah_H} {x0 : Nat} {x1 : Int32} {x2 : Int32} {s0 : Int32} {v1 : Nat} {v2 : Int32} {j2 : Nat} (g1 : ah_sel h x0 7 19 = some (.ref v1)) (i2 : ah_ix x2 j2) (g2 : ah_sel h v1 100 j2 = some (.int v2)) (kt : v2 ≤ 0 → ah_At mt_M_isAhead d A h0 o h2 43 [(0, .ref x0), (1, .int x1), (2, .int x2)] [.int s0] h) (kf : ¬ (v2 ≤ 0) → ah_At mt_M_isAhead d A h0 o h2 39 [(0, .ref x0), (1, .int x1), (2, .int x2)] [.int s0] h) : ah_At mt_M_isAhead d A h0 o h2 30 [(0, .ref x0), (1, .int x1), (2, .int x2)] [.int s0] h := by
  refine s_aload_n d_M_isAhead_30 rfl rfl ?_
  refine s_getfield (k := 19) d_M_isAhead_31 kc7 (by decide) fl_M_60 g1 ?_
  refine s_iload_n d_M_isAhead_34 rfl rfl ?_
  refine s_iaload d_M_isAhead_35 i2 g2 ?_
  refine s_ifle (t := 43) d_M_isAhead_36 (by decide) (fun z => ?_) (fun z => ?_)
  · exact (kt z)
  · exact (kf z)
theorem b_M_isAhead_39 {d : Nat} {A : Nat → Prop} {h2 : ah_H} {o : Outcome} {h0 : ah_H} {h : ah_H} {x0 : Nat} {x1 : Int32} {x2 : Int32} {s0 : Int32} (k : ah_At mt_M_isAhead d A h0 o h2 44 [(0, .ref x0), (1, .int x1), (2, .int x2)] [.int 1, .int s0] h) : ah_At mt_M_isAhead d A h0 o h2 39 [(0, .ref x0), (1, .int x1), (2, .int x2)] [.int s0] h := by
  refine s_iconst (v := 1) d_M_isAhead_39 (by decide) ?_
  refine s_goto (t := 44) d_M_isAhead_40 (by decide) ?_
  exact k
theorem b_M_isAhead_43 {d : Nat} {A : Nat → Prop} {h2 : ah_H} {o : Outcome} {h0 : ah_H} {h : ah_H} {x0 : Nat} {x1 : Int32} {x2 : Int32} {s0 : Int32} (k : ah_At mt_M_isAhead d A h0 o h2 44 [(0, .ref x0), (1, .int x1), (2, .int x2)] [.int 0, .int s0] h) : ah_At mt_M_isAhead d A h0 o h2 43 [(0, .ref x0), (1, .int x1), (2, .int x2)] [.int s0] h := by
  refine s_iconst (v := 0) d_M_isAhead_43 (by decide) ?_
  exact k
theorem b_M_isAhead_44 {d : Nat} {A : Nat → Prop} {h2 : ah_H} {o : Outcome} {h0 : ah_H} {h : ah_H} {x0 : Nat} {x1 : Int32} {x2 : Int32} {s0 : Int32} {s1 : Int32} (kt : s1 = s0 → ah_At mt_M_isAhead d A h0 o h2 62 [(0, .ref x0), (1, .int x1)] [] h) (kf : ¬ (s1 = s0) → ah_At mt_M_isAhead d A h0 o h2 47 [(0, .ref x0), (2, .int x2)] [] h) : ah_At mt_M_isAhead d A h0 o h2 44 [(0, .ref x0), (1, .int x1), (2, .int x2)] [.int s0, .int s1] h := by
  refine s_if_icmpeq (t := 62) d_M_isAhead_44 (by decide) (fun z => ?_) (fun z => ?_)
  · exact ah_At.sub [0, 1] rfl (kt z)
  · exact ah_At.sub [0, 2] rfl (kf z)
theorem b_M_isAhead_47 {d : Nat} {A : Nat → Prop} {h2 : ah_H} {o : Outcome} {h0 : ah_H} {h : ah_H} {x0 : Nat} {x2 : Int32} {v1 : Nat} {v2 : Int32} {j2 : Nat} (g1 : ah_sel h x0 7 18 = some (.ref v1)) (i2 : ah_ix x2 j2) (g2 : ah_sel h v1 100 j2 = some (.int v2)) (kt : v2 ≤ 0 → ah_At mt_M_isAhead d A h0 o h2 60 [] [] h) (kf : ¬ (v2 ≤ 0) → ah_At mt_M_isAhead d A h0 o h2 56 [] [] h) : ah_At mt_M_isAhead d A h0 o h2 47 [(0, .ref x0), (2, .int x2)] [] h := by
  refine s_aload_n d_M_isAhead_47 rfl rfl ?_
  refine s_getfield (k := 18) d_M_isAhead_48 kc7 (by decide) fl_M_57 g1 ?_
  refine s_iload_n d_M_isAhead_51 rfl rfl ?_
  refine s_iaload d_M_isAhead_52 i2 g2 ?_
  refine s_ifle (t := 60) d_M_isAhead_53 (by decide) (fun z => ?_) (fun z => ?_)
  · exact ah_At.sub [] rfl (kt z)
  · exact ah_At.sub [] rfl (kf z)
theorem b_M_isAhead_56 {d : Nat} {A : Nat → Prop} {h2 : ah_H} {o : Outcome} {h0 : ah_H} {h : ah_H}  (k : ah_At mt_M_isAhead d A h0 o h2 61 [] [.int 1] h) : ah_At mt_M_isAhead d A h0 o h2 56 [] [] h := by
  refine s_iconst (v := 1) d_M_isAhead_56 (by decide) ?_
  refine s_goto (t := 61) d_M_isAhead_57 (by decide) ?_
  exact k
theorem b_M_isAhead_60 {d : Nat} {A : Nat → Prop} {h2 : ah_H} {o : Outcome} {h0 : ah_H} {h : ah_H}  (k : ah_At mt_M_isAhead d A h0 o h2 61 [] [.int 0] h) : ah_At mt_M_isAhead d A h0 o h2 60 [] [] h := by
  refine s_iconst (v := 0) d_M_isAhead_60 (by decide) ?_
  exact k
theorem b_M_isAhead_61 {d : Nat} {A : Nat → Prop} {h0 : ah_H} {h : ah_H} {s0 : Int32} (hz : narrow .boolean (.int s0) = .int s0) : ah_At mt_M_isAhead d A h0 (.returned (some (.int s0))) h 61 [] [.int s0] h := by
  exact e_iret (ty := .boolean) d_M_isAhead_61 rfl hz
theorem b_M_isAhead_62 {d : Nat} {A : Nat → Prop} {h2 : ah_H} {o : Outcome} {h0 : ah_H} {h : ah_H} {x0 : Nat} {x1 : Int32} (k : ah_At mt_M_isAhead d A h0 o h2 2 [(0, .ref x0), (1, .int (x1 + 1))] [] h) : ah_At mt_M_isAhead d A h0 o h2 62 [(0, .ref x0), (1, .int x1)] [] h := by
  refine s_iinc (v := x1 + 1) (lv' := [(0, .ref x0), (1, .int (x1 + 1))]) d_M_isAhead_62 rfl rfl (by decide) rfl ?_
  refine s_goto (t := 2) d_M_isAhead_65 (by decide) ?_
  exact k
theorem b_M_isAhead_68 {d : Nat} {A : Nat → Prop} {h2 : ah_H} {o : Outcome} {h0 : ah_H} {h : ah_H} {x0 : Nat} (k : ah_At mt_M_isAhead d A h0 o h2 70 [(0, .ref x0), (1, .int 0)] [] h) : ah_At mt_M_isAhead d A h0 o h2 68 [(0, .ref x0)] [] h := by
  refine s_iconst (v := 0) d_M_isAhead_68 (by decide) ?_
  refine s_istore_n (lv' := [(0, .ref x0), (1, .int 0)]) d_M_isAhead_69 rfl (by decide) rfl ?_
  exact k
theorem b_M_isAhead_70 {d : Nat} {A : Nat → Prop} {h2 : ah_H} {o : Outcome} {h0 : ah_H} {h : ah_H} {x0 : Nat} {x1 : Int32} {v1 : Int32} (g1 : ah_sel h x0 7 2 = some (.int v1)) (kt : v1 ≤ x1 → ah_At mt_M_isAhead d A h0 o h2 120 [] [] h) (kf : ¬ (v1 ≤ x1) → ah_At mt_M_isAhead d A h0 o h2 78 [(0, .ref x0), (1, .int x1)] [] h) : ah_At mt_M_isAhead d A h0 o h2 70 [(0, .ref x0), (1, .int x1)] [] h := by
  refine s_iload_n d_M_isAhead_70 rfl rfl ?_
  refine s_aload_n d_M_isAhead_71 rfl rfl ?_
  refine s_getfield (k := 2) d_M_isAhead_72 kc7 (by decide) fl_M_70 g1 ?_
  refine s_if_icmpge (t := 120) d_M_isAhead_75 (by decide) (fun z => ?_) (fun z => ?_)
  · exact ah_At.sub [] rfl (kt z)
  · exact (kf z)
theorem b_M_isAhead_78 {d : Nat} {A : Nat → Prop} {h2 : ah_H} {o : Outcome} {h0 : ah_H} {h : ah_H} {x0 : Nat} {x1 : Int32} {v1 : Nat} {v2 : Int32} {j2 : Nat} {v3 : Nat} {v4 : Int32} {j4 : Nat} (g1 : ah_sel h x0 7 18 = some (.ref v1)) (i2 : ah_ix x1 j2) (g2 : ah_sel h v1 100 j2 = some (.int v2)) (g3 : ah_sel h x0 7 19 = some (.ref v3)) (i4 : ah_ix x1 j4) (g4 : ah_sel h v3 100 j4 = some (.int v4)) (kt : v2 = v4 → ah_At mt_M_isAhead d A h0 o h2 114 [(0, .ref x0), (1, .int x1)] [] h) (kf : ¬ (v2 = v4) → ah_At mt_M_isAhead d A h0 o h2 93 [(0, .ref x0), (1, .int x1)] [] h) : ah_At mt_M_isAhead d A h0 o h2 78 [(0, .ref x0), (1, .int x1)] [] h := by
  refine s_aload_n d_M_isAhead_78 rfl rfl ?_
  refine s_getfield (k := 18) d_M_isAhead_79 kc7 (by decide) fl_M_57 g1 ?_
  refine s_iload_n d_M_isAhead_82 rfl rfl ?_
  refine s_iaload d_M_isAhead_83 i2 g2 ?_
  refine s_aload_n d_M_isAhead_84 rfl rfl ?_
  refine s_getfield (k := 19) d_M_isAhead_85 kc7 (by decide) fl_M_60 g3 ?_
  refine s_iload_n d_M_isAhead_88 rfl rfl ?_
  refine s_iaload d_M_isAhead_89 i4 g4 ?_
  refine s_if_icmpeq (t := 114) d_M_isAhead_90 (by decide) (fun z => ?_) (fun z => ?_)
  · exact (kt z)
  · exact (kf z)
theorem b_M_isAhead_93 {d : Nat} {A : Nat → Prop} {h2 : ah_H} {o : Outcome} {h0 : ah_H} {h : ah_H} {x0 : Nat} {x1 : Int32} {v1 : Nat} {v2 : Int32} {j2 : Nat} {v3 : Nat} {v4 : Int32} {j4 : Nat} (g1 : ah_sel h x0 7 18 = some (.ref v1)) (i2 : ah_ix x1 j2) (g2 : ah_sel h v1 100 j2 = some (.int v2)) (g3 : ah_sel h x0 7 19 = some (.ref v3)) (i4 : ah_ix x1 j4) (g4 : ah_sel h v3 100 j4 = some (.int v4)) (kt : v4 ≤ v2 → ah_At mt_M_isAhead d A h0 o h2 112 [] [] h) (kf : ¬ (v4 ≤ v2) → ah_At mt_M_isAhead d A h0 o h2 108 [] [] h) : ah_At mt_M_isAhead d A h0 o h2 93 [(0, .ref x0), (1, .int x1)] [] h := by
  refine s_aload_n d_M_isAhead_93 rfl rfl ?_
  refine s_getfield (k := 18) d_M_isAhead_94 kc7 (by decide) fl_M_57 g1 ?_
  refine s_iload_n d_M_isAhead_97 rfl rfl ?_
  refine s_iaload d_M_isAhead_98 i2 g2 ?_
  refine s_aload_n d_M_isAhead_99 rfl rfl ?_
  refine s_getfield (k := 19) d_M_isAhead_100 kc7 (by decide) fl_M_60 g3 ?_
  refine s_iload_n d_M_isAhead_103 rfl rfl ?_
  refine s_iaload d_M_isAhead_104 i4 g4 ?_
  refine s_if_icmpge (t := 112) d_M_isAhead_105 (by decide) (fun z => ?_) (fun z => ?_)
  · exact ah_At.sub [] rfl (kt z)
  · exact ah_At.sub [] rfl (kf z)
theorem b_M_isAhead_108 {d : Nat} {A : Nat → Prop} {h2 : ah_H} {o : Outcome} {h0 : ah_H} {h : ah_H}  (k : ah_At mt_M_isAhead d A h0 o h2 113 [] [.int 1] h) : ah_At mt_M_isAhead d A h0 o h2 108 [] [] h := by
  refine s_iconst (v := 1) d_M_isAhead_108 (by decide) ?_
  refine s_goto (t := 113) d_M_isAhead_109 (by decide) ?_
  exact k
theorem b_M_isAhead_112 {d : Nat} {A : Nat → Prop} {h2 : ah_H} {o : Outcome} {h0 : ah_H} {h : ah_H}  (k : ah_At mt_M_isAhead d A h0 o h2 113 [] [.int 0] h) : ah_At mt_M_isAhead d A h0 o h2 112 [] [] h := by
  refine s_iconst (v := 0) d_M_isAhead_112 (by decide) ?_
  exact k
theorem b_M_isAhead_113 {d : Nat} {A : Nat → Prop} {h0 : ah_H} {h : ah_H} {s0 : Int32} (hz : narrow .boolean (.int s0) = .int s0) : ah_At mt_M_isAhead d A h0 (.returned (some (.int s0))) h 113 [] [.int s0] h := by
  exact e_iret (ty := .boolean) d_M_isAhead_113 rfl hz
theorem b_M_isAhead_114 {d : Nat} {A : Nat → Prop} {h2 : ah_H} {o : Outcome} {h0 : ah_H} {h : ah_H} {x0 : Nat} {x1 : Int32} (k : ah_At mt_M_isAhead d A h0 o h2 70 [(0, .ref x0), (1, .int (x1 + 1))] [] h) : ah_At mt_M_isAhead d A h0 o h2 114 [(0, .ref x0), (1, .int x1)] [] h := by
  refine s_iinc (v := x1 + 1) (lv' := [(0, .ref x0), (1, .int (x1 + 1))]) d_M_isAhead_114 rfl rfl (by decide) rfl ?_
  refine s_goto (t := 70) d_M_isAhead_117 (by decide) ?_
  exact k
theorem b_M_isAhead_120 {d : Nat} {A : Nat → Prop} {h0 : ah_H} {h : ah_H}   : ah_At mt_M_isAhead d A h0 (.returned (some (.int 0))) h 120 [] [] h := by
  refine s_iconst (v := 0) d_M_isAhead_120 (by decide) ?_
  exact e_iret (ty := .boolean) d_M_isAhead_121 rfl (by decide +kernel)
theorem b_M_plan_0 {d : Nat} {A : Nat → Prop} {h2 : ah_H} {o : Outcome} {h0 : ah_H} {h : ah_H} {x0 : Nat} (w1 : A x0) (e1 : (ah_sel h x0 7 0).isSome = true) (k : ah_At mt_M_plan d A h0 o h2 9 [(0, .ref x0), (1, .int 1), (2, .int 0)] [] (ah_sto h x0 0 (.int 0))) : ah_At mt_M_plan d A h0 o h2 0 [(0, .ref x0)] [] h := by
  refine s_aload_n d_M_plan_0 rfl rfl ?_
  refine s_iconst (v := 0) d_M_plan_1 (by decide) ?_
  refine s_putfield (k := 0) d_M_plan_2 kc7 (by decide) fl_M_63 (Or.inl rfl) w1 rfl e1 ?_
  refine s_iconst (v := 1) d_M_plan_5 (by decide) ?_
  refine s_istore_n (lv' := [(0, .ref x0), (1, .int 1)]) d_M_plan_6 rfl (by decide) rfl ?_
  refine s_iconst (v := 0) d_M_plan_7 (by decide) ?_
  refine s_istore_n (lv' := [(0, .ref x0), (1, .int 1), (2, .int 0)]) d_M_plan_8 rfl (by decide) rfl ?_
  exact k
theorem b_M_plan_9 {d : Nat} {A : Nat → Prop} {h2 : ah_H} {o : Outcome} {h0 : ah_H} {h : ah_H} {x0 : Nat} {x1 : Int32} {x2 : Int32} {v1 : Int32} (g1 : ah_sel h x0 7 2 = some (.int v1)) (kt : v1 ≤ x2 → ah_At mt_M_plan d A h0 o h2 39 [(0, .ref x0), (1, .int x1)] [] h) (kf : ¬ (v1 ≤ x2) → ah_At mt_M_plan d A h0 o h2 17 [(0, .ref x0), (1, .int x1), (2, .int x2)] [] h) : ah_At mt_M_plan d A h0 o h2 9 [(0, .ref x0), (1, .int x1), (2, .int x2)] [] h := by
  refine s_iload_n d_M_plan_9 rfl rfl ?_
  refine s_aload_n d_M_plan_10 rfl rfl ?_
  refine s_getfield (k := 2) d_M_plan_11 kc7 (by decide) fl_M_70 g1 ?_
  refine s_if_icmpge (t := 39) d_M_plan_14 (by decide) (fun z => ?_) (fun z => ?_)
  · exact ah_At.sub [0, 1] rfl (kt z)
  · exact (kf z)
theorem b_M_plan_17 {d : Nat} {A : Nat → Prop} {h2 : ah_H} {o : Outcome} {h0 : ah_H} {h : ah_H} {x0 : Nat} {x1 : Int32} {x2 : Int32} {v1 : Int32} {v2 : Nat} {j3 : Nat} (g1 : ah_sel h x0 7 1 = some (.int v1)) (g2 : ah_sel h x0 7 19 = some (.ref v2)) (w3 : A v2) (i3 : ah_ix x2 j3) (e3 : (ah_sel h v2 100 j3).isSome = true) (k : ah_At mt_M_plan d A h0 o h2 9 [(0, .ref x0), (1, .int (x1 * (v1 + 1))), (2, .int (x2 + 1))] [] (ah_sto h v2 j3 (.int 0))) : ah_At mt_M_plan d A h0 o h2 17 [(0, .ref x0), (1, .int x1), (2, .int x2)] [] h := by
  refine s_iload_n d_M_plan_17 rfl rfl ?_
  refine s_aload_n d_M_plan_18 rfl rfl ?_
  refine s_getfield (k := 1) d_M_plan_19 kc7 (by decide) fl_M_67 g1 ?_
  refine s_iconst (v := 1) d_M_plan_22 (by decide) ?_
  refine s_iadd d_M_plan_23 ?_
  refine s_imul d_M_plan_24 ?_
  refine s_istore_n (lv' := [(0, .ref x0), (1, .int (x1 * (v1 + 1))), (2, .int x2)]) d_M_plan_25 rfl (by decide) rfl ?_
  refine s_aload_n d_M_plan_26 rfl rfl ?_
  refine s_getfield (k := 19) d_M_plan_27 kc7 (by decide) fl_M_60 g2 ?_
  refine s_iload_n d_M_plan_30 rfl rfl ?_
  refine s_iconst (v := 0) d_M_plan_31 (by decide) ?_
  refine s_iastore d_M_plan_32 w3 i3 e3 ?_
  refine s_iinc (v := x2 + 1) (lv' := [(0, .ref x0), (1, .int (x1 * (v1 + 1))), (2, .int (x2 + 1))]) d_M_plan_33 rfl rfl (by decide) rfl ?_
  refine s_goto (t := 9) d_M_plan_36 (by decide) ?_
  exact k
theorem b_M_plan_39 {d : Nat} {A : Nat → Prop} {h2 : ah_H} {o : Outcome} {h0 : ah_H} {h : ah_H} {x0 : Nat} {x1 : Int32} (w1 : A x0) (e1 : (ah_sel h x0 7 20).isSome = true) (k : ah_At mt_M_plan d A h0 o h2 46 [(0, .ref x0), (1, .int x1), (2, .int 0)] [] (ah_sto h x0 20 (.int 0))) : ah_At mt_M_plan d A h0 o h2 39 [(0, .ref x0), (1, .int x1)] [] h := by
  refine s_aload_n d_M_plan_39 rfl rfl ?_
  refine s_iconst (v := 0) d_M_plan_40 (by decide) ?_
  refine s_putfield (k := 20) d_M_plan_41 kc7 (by decide) fl_M_127 (Or.inl rfl) w1 rfl e1 ?_
  refine s_iconst (v := 0) d_M_plan_44 (by decide) ?_
  refine s_istore_n (lv' := [(0, .ref x0), (1, .int x1), (2, .int 0)]) d_M_plan_45 rfl (by decide) rfl ?_
  exact k
theorem b_M_plan_46 {d : Nat} {A : Nat → Prop} {h2 : ah_H} {o : Outcome} {h0 : ah_H} {h : ah_H} {x0 : Nat} {x1 : Int32} {x2 : Int32} (kt : x1 ≤ x2 → ah_At mt_M_plan d A h0 o h2 180 [(0, .ref x0)] [] h) (kf : ¬ (x1 ≤ x2) → ah_At mt_M_plan d A h0 o h2 51 [(0, .ref x0), (1, .int x1), (2, .int x2)] [] h) : ah_At mt_M_plan d A h0 o h2 46 [(0, .ref x0), (1, .int x1), (2, .int x2)] [] h := by
  refine s_iload_n d_M_plan_46 rfl rfl ?_
  refine s_iload_n d_M_plan_47 rfl rfl ?_
  refine s_if_icmpge (t := 180) d_M_plan_48 (by decide) (fun z => ?_) (fun z => ?_)
  · exact ah_At.sub [0] rfl (kt z)
  · exact (kf z)
theorem b_M_plan_51 {d : Nat} {A : Nat → Prop} {h2 : ah_H} {o : Outcome} {h0 : ah_H} {h : ah_H} {x0 : Nat} {x1 : Int32} {x2 : Int32} (k : ah_At mt_M_plan d A h0 o h2 56 [(0, .ref x0), (1, .int x1), (2, .int x2), (3, .int x2), (4, .int 0)] [] h) : ah_At mt_M_plan d A h0 o h2 51 [(0, .ref x0), (1, .int x1), (2, .int x2)] [] h := by
  refine s_iload_n d_M_plan_51 rfl rfl ?_
  refine s_istore_n (lv' := [(0, .ref x0), (1, .int x1), (2, .int x2), (3, .int x2)]) d_M_plan_52 rfl (by decide) rfl ?_
  refine s_iconst (v := 0) d_M_plan_53 (by decide) ?_
  refine s_istore (lv' := [(0, .ref x0), (1, .int x1), (2, .int x2), (3, .int x2), (4, .int 0)]) d_M_plan_54 (by decide) rfl ?_
  exact k
theorem b_M_plan_56 {d : Nat} {A : Nat → Prop} {h2 : ah_H} {o : Outcome} {h0 : ah_H} {h : ah_H} {x0 : Nat} {x1 : Int32} {x2 : Int32} {x3 : Int32} {x4 : Int32} {v1 : Int32} (g1 : ah_sel h x0 7 2 = some (.int v1)) (kt : v1 ≤ x4 → ah_At mt_M_plan d A h0 o h2 95 [(0, .ref x0), (1, .int x1), (2, .int x2)] [] h) (kf : ¬ (v1 ≤ x4) → ah_At mt_M_plan d A h0 o h2 65 [(0, .ref x0), (1, .int x1), (2, .int x2), (3, .int x3), (4, .int x4)] [] h) : ah_At mt_M_plan d A h0 o h2 56 [(0, .ref x0), (1, .int x1), (2, .int x2), (3, .int x3), (4, .int x4)] [] h := by
  refine s_iload d_M_plan_56 rfl ?_
  refine s_aload_n d_M_plan_58 rfl rfl ?_
  refine s_getfield (k := 2) d_M_plan_59 kc7 (by decide) fl_M_70 g1 ?_
  refine s_if_icmpge (t := 95) d_M_plan_62 (by decide) (fun z => ?_) (fun z => ?_)
  · exact ah_At.sub [0, 1, 2] rfl (kt z)
  · exact (kf z)
theorem b_M_plan_65 {d : Nat} {A : Nat → Prop} {h2 : ah_H} {o : Outcome} {h0 : ah_H} {h : ah_H} {x0 : Nat} {x1 : Int32} {x2 : Int32} {x3 : Int32} {x4 : Int32} {v1 : Nat} {v2 : Int32} {j4 : Nat} {v5 : Int32} (g1 : ah_sel h x0 7 18 = some (.ref v1)) (g2 : ah_sel h x0 7 1 = some (.int v2)) (z3 : ¬ v2 + 1 = 0) (w4 : A v1) (i4 : ah_ix x4 j4) (e4 : (ah_sel h v1 100 j4).isSome = true) (g5 : ah_sel (ah_sto h v1 j4 (.int (x3 - x3 / (v2 + 1) * (v2 + 1)))) x0 7 1 = some (.int v5)) (z6 : ¬ v5 + 1 = 0) (k : ah_At mt_M_plan d A h0 o h2 56 [(0, .ref x0), (1, .int x1), (2, .int x2), (3, .int (x3 / (v5 + 1))), (4, .int (x4 + 1))] [] (ah_sto h v1 j4 (.int (x3 - x3 / (v2 + 1) * (v2 + 1))))) : ah_At mt_M_plan d A h0 o h2 65 [(0, .ref x0), (1, .int x1), (2, .int x2), (3, .int x3), (4, .int x4)] [] h := by
  refine s_aload_n d_M_plan_65 rfl rfl ?_
  refine s_getfield (k := 18) d_M_plan_66 kc7 (by decide) fl_M_57 g1 ?_
  refine s_iload d_M_plan_69 rfl ?_
  refine s_iload_n d_M_plan_71 rfl rfl ?_
  refine s_aload_n d_M_plan_72 rfl rfl ?_
  refine s_getfield (k := 1) d_M_plan_73 kc7 (by decide) fl_M_67 g2 ?_
  refine s_iconst (v := 1) d_M_plan_76 (by decide) ?_
  refine s_iadd d_M_plan_77 ?_
  refine s_irem d_M_plan_78 z3 ?_
  refine s_iastore d_M_plan_79 w4 i4 e4 ?_
  refine s_iload_n d_M_plan_80 rfl rfl ?_
  refine s_aload_n d_M_plan_81 rfl rfl ?_
  refine s_getfield (k := 1) d_M_plan_82 kc7 (by decide) fl_M_67 g5 ?_
  refine s_iconst (v := 1) d_M_plan_85 (by decide) ?_
  refine s_iadd d_M_plan_86 ?_
  refine s_idiv d_M_plan_87 z6 ?_
  refine s_istore_n (lv' := [(0, .ref x0), (1, .int x1), (2, .int x2), (3, .int (x3 / (v5 + 1))), (4, .int x4)]) d_M_plan_88 rfl (by decide) rfl ?_
  refine s_iinc (v := x4 + 1) (lv' := [(0, .ref x0), (1, .int x1), (2, .int x2), (3, .int (x3 / (v5 + 1))), (4, .int (x4 + 1))]) d_M_plan_89 rfl rfl (by decide) rfl ?_
  refine s_goto (t := 56) d_M_plan_92 (by decide) ?_
  exact k
theorem b_M_plan_95 {d : Nat} {A : Nat → Prop} {h2 : ah_H} {o : Outcome} {h0 : ah_H} {h : ah_H} {x0 : Nat} {x1 : Int32} {x2 : Int32} {d' : Nat} {A' : Nat → Prop} {o' : Outcome} {h' : ah_H} (hE : ah_Ev mt_M_used d' A' [.ref x0] h o' h') (hdd : d' + 1 ≤ d) (hAA : ∀ q, A' q → A q) (k : ah_aft mt_M_plan d A h0 o h2 96 [(0, .ref x0), (1, .int x1), (2, .int x2)] [] h' o') (hb : (ah_len h x0 7).isSome = true) : ah_At mt_M_plan d A h0 o h2 95 [(0, .ref x0), (1, .int x1), (2, .int x2)] [] h := by
  refine s_aload_n d_M_plan_95 rfl rfl ?_
  exact ah_callV (av := []) (st := []) d_M_plan_96 ml_M_130 mi_M_used mv_M_used kc7 hb hE hdd hAA rfl (Nat.le_of_ble_eq_true rfl) k
theorem b_M_plan_99 {d : Nat} {A : Nat → Prop} {h2 : ah_H} {o : Outcome} {h0 : ah_H} {h : ah_H} {x0 : Nat} {x1 : Int32} {x2 : Int32} {s0 : Int32} {v1 : Int32} (g1 : ah_sel h x0 7 20 = some (.int v1)) (kt : s0 < v1 → ah_At mt_M_plan d A h0 o h2 174 [(0, .ref x0), (1, .int x1), (2, .int x2)] [] h) (kf : ¬ (s0 < v1) → ah_At mt_M_plan d A h0 o h2 110 [(0, .ref x0), (1, .int x1), (2, .int x2), (4, .int s0)] [] h) : ah_At mt_M_plan d A h0 o h2 99 [(0, .ref x0), (1, .int x1), (2, .int x2)] [.int s0] h := by
  refine s_istore (lv' := [(0, .ref x0), (1, .int x1), (2, .int x2), (4, .int s0)]) d_M_plan_99 (by decide) rfl ?_
  refine s_iload d_M_plan_101 rfl ?_
  refine s_aload_n d_M_plan_103 rfl rfl ?_
  refine s_getfield (k := 20) d_M_plan_104 kc7 (by decide) fl_M_127 g1 ?_
  refine s_if_icmplt (t := 174) d_M_plan_107 (by decide) (fun z => ?_) (fun z => ?_)
  · exact ah_At.sub [0, 1, 2] rfl (kt z)
  · exact (kf z)
theorem b_M_plan_110 {d : Nat} {A : Nat → Prop} {h2 : ah_H} {o : Outcome} {h0 : ah_H} {h : ah_H} {x0 : Nat} {x1 : Int32} {x2 : Int32} {x4 : Int32} {v1 : Int32} (g1 : ah_sel h x0 7 20 = some (.int v1)) (kt : ¬ x4 = v1 → ah_At mt_M_plan d A h0 o h2 126 [(0, .ref x0), (1, .int x1), (2, .int x2), (4, .int x4)] [] h) (kf : ¬ (¬ x4 = v1) → ah_At mt_M_plan d A h0 o h2 119 [(0, .ref x0), (1, .int x1), (2, .int x2), (4, .int x4)] [] h) : ah_At mt_M_plan d A h0 o h2 110 [(0, .ref x0), (1, .int x1), (2, .int x2), (4, .int x4)] [] h := by
  refine s_iload d_M_plan_110 rfl ?_
  refine s_aload_n d_M_plan_112 rfl rfl ?_
  refine s_getfield (k := 20) d_M_plan_113 kc7 (by decide) fl_M_127 g1 ?_
  refine s_if_icmpne (t := 126) d_M_plan_116 (by decide) (fun z => ?_) (fun z => ?_)
  · exact (kt z)
  · exact (kf z)
theorem b_M_plan_119 {d : Nat} {A : Nat → Prop} {h2 : ah_H} {o : Outcome} {h0 : ah_H} {h : ah_H} {x0 : Nat} {x1 : Int32} {x2 : Int32} {x4 : Int32} {d' : Nat} {A' : Nat → Prop} {o' : Outcome} {h' : ah_H} (hE : ah_Ev mt_M_isAhead d' A' [.ref x0] h o' h') (hdd : d' + 1 ≤ d) (hAA : ∀ q, A' q → A q) (k : ah_aft mt_M_plan d A h0 o h2 120 [(0, .ref x0), (1, .int x1), (2, .int x2), (4, .int x4)] [] h' o') (hb : (ah_len h x0 7).isSome = true) : ah_At mt_M_plan d A h0 o h2 119 [(0, .ref x0), (1, .int x1), (2, .int x2), (4, .int x4)] [] h := by
  refine s_aload_n d_M_plan_119 rfl rfl ?_
  exact ah_callV (av := []) (st := []) d_M_plan_120 ml_M_134 mi_M_isAhead mv_M_isAhead kc7 hb hE hdd hAA rfl (Nat.le_of_ble_eq_true rfl) k
theorem b_M_plan_123 {d : Nat} {A : Nat → Prop} {h2 : ah_H} {o : Outcome} {h0 : ah_H} {h : ah_H} {x0 : Nat} {x1 : Int32} {x2 : Int32} {x4 : Int32} {s0 : Int32} (kt : s0 = 0 → ah_At mt_M_plan d A h0 o h2 174 [(0, .ref x0), (1, .int x1), (2, .int x2)] [] h) (kf : ¬ (s0 = 0) → ah_At mt_M_plan d A h0 o h2 126 [(0, .ref x0), (1, .int x1), (2, .int x2), (4, .int x4)] [] h) : ah_At mt_M_plan d A h0 o h2 123 [(0, .ref x0), (1, .int x1), (2, .int x2), (4, .int x4)] [.int s0] h := by
  refine s_ifeq (t := 174) d_M_plan_123 (by decide) (fun z => ?_) (fun z => ?_)
  · exact ah_At.sub [0, 1, 2] rfl (kt z)
  · exact (kf z)
theorem b_M_plan_126 {d : Nat} {A : Nat → Prop} {h2 : ah_H} {o : Outcome} {h0 : ah_H} {h : ah_H} {x0 : Nat} {x1 : Int32} {x2 : Int32} {x4 : Int32} {d' : Nat} {A' : Nat → Prop} {o' : Outcome} {h' : ah_H} (hE : ah_Ev mt_M_mayBe d' A' [.ref x0] h o' h') (hdd : d' + 1 ≤ d) (hAA : ∀ q, A' q → A q) (k : ah_aft mt_M_plan d A h0 o h2 127 [(0, .ref x0), (1, .int x1), (2, .int x2), (4, .int x4)] [] h' o') (hb : (ah_len h x0 7).isSome = true) : ah_At mt_M_plan d A h0 o h2 126 [(0, .ref x0), (1, .int x1), (2, .int x2), (4, .int x4)] [] h := by
  refine s_aload_n d_M_plan_126 rfl rfl ?_
  exact ah_callV (av := []) (st := []) d_M_plan_127 ml_M_138 mi_M_mayBe mv_M_mayBe kc7 hb hE hdd hAA rfl (Nat.le_of_ble_eq_true rfl) k
theorem b_M_plan_130 {d : Nat} {A : Nat → Prop} {h2 : ah_H} {o : Outcome} {h0 : ah_H} {h : ah_H} {x0 : Nat} {x1 : Int32} {x2 : Int32} {x4 : Int32} {s0 : Int32} (kt : ¬ s0 = 0 → ah_At mt_M_plan d A h0 o h2 136 [(0, .ref x0), (1, .int x1), (2, .int x2), (4, .int x4)] [] h) (kf : ¬ (¬ s0 = 0) → ah_At mt_M_plan d A h0 o h2 133 [(0, .ref x0), (1, .int x1), (2, .int x2)] [] h) : ah_At mt_M_plan d A h0 o h2 130 [(0, .ref x0), (1, .int x1), (2, .int x2), (4, .int x4)] [.int s0] h := by
  refine s_ifne (t := 136) d_M_plan_130 (by decide) (fun z => ?_) (fun z => ?_)
  · exact (kt z)
  · exact ah_At.sub [0, 1, 2] rfl (kf z)
theorem b_M_plan_133 {d : Nat} {A : Nat → Prop} {h2 : ah_H} {o : Outcome} {h0 : ah_H} {h : ah_H} {x0 : Nat} {x1 : Int32} {x2 : Int32} (k : ah_At mt_M_plan d A h0 o h2 174 [(0, .ref x0), (1, .int x1), (2, .int x2)] [] h) : ah_At mt_M_plan d A h0 o h2 133 [(0, .ref x0), (1, .int x1), (2, .int x2)] [] h := by
  refine s_goto (t := 174) d_M_plan_133 (by decide) ?_
  exact k
theorem b_M_plan_136 {d : Nat} {A : Nat → Prop} {h2 : ah_H} {o : Outcome} {h0 : ah_H} {h : ah_H} {x0 : Nat} {x1 : Int32} {x2 : Int32} {x4 : Int32} (w1 : A x0) (e1 : (ah_sel h x0 7 20).isSome = true) (k : ah_At mt_M_plan d A h0 o h2 145 [(0, .ref x0), (1, .int x1), (2, .int x2), (5, .int 0)] [] (ah_sto h x0 20 (.int x4))) : ah_At mt_M_plan d A h0 o h2 136 [(0, .ref x0), (1, .int x1), (2, .int x2), (4, .int x4)] [] h := by
  refine s_aload_n d_M_plan_136 rfl rfl ?_
  refine s_iload d_M_plan_137 rfl ?_
  refine s_putfield (k := 20) d_M_plan_139 kc7 (by decide) fl_M_127 (Or.inl rfl) w1 rfl e1 ?_
  refine s_iconst (v := 0) d_M_plan_142 (by decide) ?_
  refine s_istore (lv' := [(0, .ref x0), (1, .int x1), (2, .int x2), (4, .int x4), (5, .int 0)]) d_M_plan_143 (by decide) rfl ?_
  exact ah_At.sub [0, 1, 2, 4] rfl k
theorem b_M_plan_145 {d : Nat} {A : Nat → Prop} {h2 : ah_H} {o : Outcome} {h0 : ah_H} {h : ah_H} {x0 : Nat} {x1 : Int32} {x2 : Int32} {x5 : Int32} {v1 : Int32} (g1 : ah_sel h x0 7 2 = some (.int v1)) (kt : v1 ≤ x5 → ah_At mt_M_plan d A h0 o h2 174 [(0, .ref x0), (1, .int x1), (2, .int x2)] [] h) (kf : ¬ (v1 ≤ x5) → ah_At mt_M_plan d A h0 o h2 154 [(0, .ref x0), (1, .int x1), (2, .int x2), (5, .int x5)] [] h) : ah_At mt_M_plan d A h0 o h2 145 [(0, .ref x0), (1, .int x1), (2, .int x2), (5, .int x5)] [] h := by
  refine s_iload d_M_plan_145 rfl ?_
  refine s_aload_n d_M_plan_147 rfl rfl ?_
  refine s_getfield (k := 2) d_M_plan_148 kc7 (by decide) fl_M_70 g1 ?_
  refine s_if_icmpge (t := 174) d_M_plan_151 (by decide) (fun z => ?_) (fun z => ?_)
  · exact ah_At.sub [0, 1, 2] rfl (kt z)
  · exact (kf z)
theorem b_M_plan_154 {d : Nat} {A : Nat → Prop} {h2 : ah_H} {o : Outcome} {h0 : ah_H} {h : ah_H} {x0 : Nat} {x1 : Int32} {x2 : Int32} {x5 : Int32} {v1 : Nat} {v2 : Nat} {v3 : Int32} {j3 : Nat} {j4 : Nat} (g1 : ah_sel h x0 7 19 = some (.ref v1)) (g2 : ah_sel h x0 7 18 = some (.ref v2)) (i3 : ah_ix x5 j3) (g3 : ah_sel h v2 100 j3 = some (.int v3)) (w4 : A v1) (i4 : ah_ix x5 j4) (e4 : (ah_sel h v1 100 j4).isSome = true) (k : ah_At mt_M_plan d A h0 o h2 145 [(0, .ref x0), (1, .int x1), (2, .int x2), (5, .int (x5 + 1))] [] (ah_sto h v1 j4 (.int v3))) : ah_At mt_M_plan d A h0 o h2 154 [(0, .ref x0), (1, .int x1), (2, .int x2), (5, .int x5)] [] h := by
  refine s_aload_n d_M_plan_154 rfl rfl ?_
  refine s_getfield (k := 19) d_M_plan_155 kc7 (by decide) fl_M_60 g1 ?_
  refine s_iload d_M_plan_158 rfl ?_
  refine s_aload_n d_M_plan_160 rfl rfl ?_
  refine s_getfield (k := 18) d_M_plan_161 kc7 (by decide) fl_M_57 g2 ?_
  refine s_iload d_M_plan_164 rfl ?_
  refine s_iaload d_M_plan_166 i3 g3 ?_
  refine s_iastore d_M_plan_167 w4 i4 e4 ?_
  refine s_iinc (v := x5 + 1) (lv' := [(0, .ref x0), (1, .int x1), (2, .int x2), (5, .int (x5 + 1))]) d_M_plan_168 rfl rfl (by decide) rfl ?_
  refine s_goto (t := 145) d_M_plan_171 (by decide) ?_
  exact k
theorem b_M_plan_174 {d : Nat} {A : Nat → Prop} {h2 : ah_H} {o : Outcome} {h0 : ah_H} {h : ah_H} {x0 : Nat} {x1 : Int32} {x2 : Int32} (k : ah_At mt_M_plan d A h0 o h2 46 [(0, .ref x0), (1, .int x1), (2, .int (x2 + 1))] [] h) : ah_At mt_M_plan d A h0 o h2 174 [(0, .ref x0), (1, .int x1), (2, .int x2)] [] h := by
  refine s_iinc (v := x2 + 1) (lv' := [(0, .ref x0), (1, .int x1), (2, .int (x2 + 1))]) d_M_plan_174 rfl rfl (by decide) rfl ?_
  refine s_goto (t := 46) d_M_plan_177 (by decide) ?_
  exact k
theorem b_M_plan_180 {d : Nat} {A : Nat → Prop} {h0 : ah_H} {h : ah_H} {x0 : Nat} {v2 : Int32} (w1 : A x0) (e1 : (ah_sel h x0 7 17).isSome = true) (g2 : ah_sel (ah_sto h x0 17 (.int 1)) x0 7 20 = some (.int v2)) : ah_At mt_M_plan d A h0 (.returned (some (.int v2))) (ah_sto h x0 17 (.int 1)) 180 [(0, .ref x0)] [] h := by
  refine s_aload_n d_M_plan_180 rfl rfl ?_
  refine s_iconst (v := 1) d_M_plan_181 (by decide) ?_
  refine s_putfield (k := 17) d_M_plan_182 kc7 (by decide) fl_M_85 (Or.inl rfl) w1 (by decide) e1 ?_
  refine s_aload_n d_M_plan_185 rfl rfl ?_
  refine s_getfield (k := 20) d_M_plan_186 kc7 (by decide) fl_M_127 g2 ?_
  exact e_iret (ty := .int) d_M_plan_189 rfl rfl
theorem b_M_patternOf_0 {d : Nat} {A : Nat → Prop} {h2 : ah_H} {o : Outcome} {h0 : ah_H} {h : ah_H} {x0 : Nat} {x1 : Int32} {v1 : Nat} {d' : Nat} {A' : Nat → Prop} {o' : Outcome} {h' : ah_H} (g1 : ah_sel h x0 7 19 = some (.ref v1)) (hE : ah_Ev mt_M_countOf d' A' [.ref x0, .ref v1, .int x1, .int 0] h o' h') (hdd : d' + 1 ≤ d) (hAA : ∀ q, A' q → A q) (k : ah_aft mt_M_patternOf d A h0 o h2 7 [(0, .ref x0), (1, .int x1)] [] h' o') (hb : (ah_len h x0 7).isSome = true) : ah_At mt_M_patternOf d A h0 o h2 0 [(0, .ref x0), (1, .int x1)] [] h := by
  refine s_aload_n d_M_patternOf_0 rfl rfl ?_
  refine s_aload_n d_M_patternOf_1 rfl rfl ?_
  refine s_getfield (k := 19) d_M_patternOf_2 kc7 (by decide) fl_M_60 g1 ?_
  refine s_iload_n d_M_patternOf_5 rfl rfl ?_
  refine s_iconst (v := 0) d_M_patternOf_6 (by decide) ?_
  exact ah_callV (av := [.ref v1, .int x1, .int 0]) (st := []) d_M_patternOf_7 ml_M_107 mi_M_countOf mv_M_countOf kc7 hb hE hdd hAA rfl (Nat.le_of_ble_eq_true rfl) k
theorem b_M_patternOf_10 {d : Nat} {A : Nat → Prop} {h2 : ah_H} {o : Outcome} {h0 : ah_H} {h : ah_H} {x0 : Nat} {x1 : Int32} {s0 : Int32} (kt : ¬ s0 = 0 → ah_At mt_M_patternOf d A h0 o h2 17 [(0, .ref x0), (1, .int x1)] [] h) (kf : ¬ (¬ s0 = 0) → ah_At mt_M_patternOf d A h0 o h2 13 [] [] h) : ah_At mt_M_patternOf d A h0 o h2 10 [(0, .ref x0), (1, .int x1)] [.int s0] h := by
  refine s_ifne (t := 17) d_M_patternOf_10 (by decide) (fun z => ?_) (fun z => ?_)
  · exact (kt z)
  · exact ah_At.sub [] rfl (kf z)
theorem b_M_patternOf_13 {d : Nat} {A : Nat → Prop} {h2 : ah_H} {o : Outcome} {h0 : ah_H} {h : ah_H}  (k : ah_At mt_M_patternOf d A h0 o h2 52 [] [.int (-1)] h) : ah_At mt_M_patternOf d A h0 o h2 13 [] [] h := by
  refine s_iconst (v := -1) d_M_patternOf_13 (by decide) ?_
  refine s_goto (t := 52) d_M_patternOf_14 (by decide) ?_
  exact k
theorem b_M_patternOf_17 {d : Nat} {A : Nat → Prop} {h2 : ah_H} {o : Outcome} {h0 : ah_H} {h : ah_H} {x0 : Nat} {x1 : Int32} {v1 : Nat} {d' : Nat} {A' : Nat → Prop} {o' : Outcome} {h' : ah_H} (g1 : ah_sel h x0 7 19 = some (.ref v1)) (hE : ah_Ev mt_M_countOf d' A' [.ref x0, .ref v1, .int x1, .int 1] h o' h') (hdd : d' + 1 ≤ d) (hAA : ∀ q, A' q → A q) (k : ah_aft mt_M_patternOf d A h0 o h2 26 [(0, .ref x0), (1, .int x1)] [.int x1, .ref x0] h' o') (hb : (ah_len h x0 7).isSome = true) : ah_At mt_M_patternOf d A h0 o h2 17 [(0, .ref x0), (1, .int x1)] [] h := by
  refine s_aload_n d_M_patternOf_17 rfl rfl ?_
  refine s_iload_n d_M_patternOf_18 rfl rfl ?_
  refine s_aload_n d_M_patternOf_19 rfl rfl ?_
  refine s_aload_n d_M_patternOf_20 rfl rfl ?_
  refine s_getfield (k := 19) d_M_patternOf_21 kc7 (by decide) fl_M_60 g1 ?_
  refine s_iload_n d_M_patternOf_24 rfl rfl ?_
  refine s_iconst (v := 1) d_M_patternOf_25 (by decide) ?_
  exact ah_callV (av := [.ref v1, .int x1, .int 1]) (st := [.int x1, .ref x0]) d_M_patternOf_26 ml_M_107 mi_M_countOf mv_M_countOf kc7 hb hE hdd hAA rfl (Nat.le_of_ble_eq_true rfl) k
theorem b_M_patternOf_29 {d : Nat} {A : Nat → Prop} {h2 : ah_H} {o : Outcome} {h0 : ah_H} {h : ah_H} {x0 : Nat} {x1 : Int32} {s0 : Int32} {s1 : Int32} {s2 : Nat} {v1 : Nat} {d' : Nat} {A' : Nat → Prop} {o' : Outcome} {h' : ah_H} (g1 : ah_sel h x0 7 19 = some (.ref v1)) (hE : ah_Ev mt_M_countOf d' A' [.ref x0, .ref v1, .int x1, .int 2] h o' h') (hdd : d' + 1 ≤ d) (hAA : ∀ q, A' q → A q) (k : ah_aft mt_M_patternOf d A h0 o h2 36 [(0, .ref x0), (1, .int x1)] [.int s0, .int s1, .ref s2] h' o') (hb : (ah_len h x0 7).isSome = true) : ah_At mt_M_patternOf d A h0 o h2 29 [(0, .ref x0), (1, .int x1)] [.int s0, .int s1, .ref s2] h := by
  refine s_aload_n d_M_patternOf_29 rfl rfl ?_
  refine s_aload_n d_M_patternOf_30 rfl rfl ?_
  refine s_getfield (k := 19) d_M_patternOf_31 kc7 (by decide) fl_M_60 g1 ?_
  refine s_iload_n d_M_patternOf_34 rfl rfl ?_
  refine s_iconst (v := 2) d_M_patternOf_35 (by decide) ?_
  exact ah_callV (av := [.ref v1, .int x1, .int 2]) (st := [.int s0, .int s1, .ref s2]) d_M_patternOf_36 ml_M_107 mi_M_countOf mv_M_countOf kc7 hb hE hdd hAA rfl (Nat.le_of_ble_eq_true rfl) k
theorem b_M_patternOf_39 {d : Nat} {A : Nat → Prop} {h2 : ah_H} {o : Outcome} {h0 : ah_H} {h : ah_H} {x0 : Nat} {x1 : Int32} {s0 : Int32} {s1 : Int32} {s2 : Int32} {s3 : Nat} {v1 : Nat} {d' : Nat} {A' : Nat → Prop} {o' : Outcome} {h' : ah_H} (g1 : ah_sel h x0 7 19 = some (.ref v1)) (hE : ah_Ev mt_M_countOf d' A' [.ref x0, .ref v1, .int x1, .int 3] h o' h') (hdd : d' + 1 ≤ d) (hAA : ∀ q, A' q → A q) (k : ah_aft mt_M_patternOf d A h0 o h2 46 [] [.int s0, .int s1, .int s2, .ref s3] h' o') (hb : (ah_len h x0 7).isSome = true) : ah_At mt_M_patternOf d A h0 o h2 39 [(0, .ref x0), (1, .int x1)] [.int s0, .int s1, .int s2, .ref s3] h := by
  refine s_aload_n d_M_patternOf_39 rfl rfl ?_
  refine s_aload_n d_M_patternOf_40 rfl rfl ?_
  refine s_getfield (k := 19) d_M_patternOf_41 kc7 (by decide) fl_M_60 g1 ?_
  refine s_iload_n d_M_patternOf_44 rfl rfl ?_
  refine s_iconst (v := 3) d_M_patternOf_45 (by decide) ?_
  refine ah_At.sub [] rfl ?_
  exact ah_callV (av := [.ref v1, .int x1, .int 3]) (st := [.int s0, .int s1, .int s2, .ref s3]) d_M_patternOf_46 ml_M_107 mi_M_countOf mv_M_countOf kc7 hb hE hdd hAA rfl (Nat.le_of_ble_eq_true rfl) k
theorem b_M_patternOf_49 {d : Nat} {A : Nat → Prop} {h2 : ah_H} {o : Outcome} {h0 : ah_H} {h : ah_H} {s0 : Int32} {s1 : Int32} {s2 : Int32} {s3 : Int32} {s4 : Nat} {d' : Nat} {A' : Nat → Prop} {o' : Outcome} {h' : ah_H} (hE : ah_Ev mt_M_patternFor d' A' [.ref s4, .int s3, .int s2, .int s1, .int s0] h o' h') (hdd : d' + 1 ≤ d) (hAA : ∀ q, A' q → A q) (k : ah_aft mt_M_patternOf d A h0 o h2 49 [] [] h' o') (hb : (ah_len h s4 7).isSome = true) : ah_At mt_M_patternOf d A h0 o h2 49 [] [.int s0, .int s1, .int s2, .int s3, .ref s4] h := by
  exact ah_callV (av := [.int s3, .int s2, .int s1, .int s0]) (st := []) d_M_patternOf_49 ml_M_111 mi_M_patternFor mv_M_patternFor kc7 hb hE hdd hAA rfl (Nat.le_of_ble_eq_true rfl) k
theorem b_M_patternOf_52 {d : Nat} {A : Nat → Prop} {h0 : ah_H} {h : ah_H} {s0 : Int32}  : ah_At mt_M_patternOf d A h0 (.returned (some (.int s0))) h 52 [] [.int s0] h := by
  exact e_iret (ty := .int) d_M_patternOf_52 rfl rfl
theorem b_M_placeIn_0 {d : Nat} {A : Nat → Prop} {h2 : ah_H} {o : Outcome} {h0 : ah_H} {h : ah_H} {x0 : Nat} {x1 : Int32} {v1 : Nat} {v2 : Int32} {j2 : Nat} (g1 : ah_sel h x0 7 19 = some (.ref v1)) (i2 : ah_ix x1 j2) (g2 : ah_sel h v1 100 j2 = some (.int v2)) (k : ah_At mt_M_placeIn d A h0 o h2 14 [(0, .ref x0), (1, .int x1), (2, .int (v2 - 1)), (3, .int 0), (4, .int 0)] [] h) : ah_At mt_M_placeIn d A h0 o h2 0 [(0, .ref x0), (1, .int x1)] [] h := by
  refine s_aload_n d_M_placeIn_0 rfl rfl ?_
  refine s_getfield (k := 19) d_M_placeIn_1 kc7 (by decide) fl_M_60 g1 ?_
  refine s_iload_n d_M_placeIn_4 rfl rfl ?_
  refine s_iaload d_M_placeIn_5 i2 g2 ?_
  refine s_iconst (v := 1) d_M_placeIn_6 (by decide) ?_
  refine s_isub d_M_placeIn_7 ?_
  refine s_istore_n (lv' := [(0, .ref x0), (1, .int x1), (2, .int (v2 - 1))]) d_M_placeIn_8 rfl (by decide) rfl ?_
  refine s_iconst (v := 0) d_M_placeIn_9 (by decide) ?_
  refine s_istore_n (lv' := [(0, .ref x0), (1, .int x1), (2, .int (v2 - 1)), (3, .int 0)]) d_M_placeIn_10 rfl (by decide) rfl ?_
  refine s_iconst (v := 0) d_M_placeIn_11 (by decide) ?_
  refine s_istore (lv' := [(0, .ref x0), (1, .int x1), (2, .int (v2 - 1)), (3, .int 0), (4, .int 0)]) d_M_placeIn_12 (by decide) rfl ?_
  exact k
theorem b_M_placeIn_14 {d : Nat} {A : Nat → Prop} {h2 : ah_H} {o : Outcome} {h0 : ah_H} {h : ah_H} {x0 : Nat} {x1 : Int32} {x2 : Int32} {x3 : Int32} {x4 : Int32} (kt : x1 ≤ x4 → ah_At mt_M_placeIn d A h0 o h2 66 [(0, .ref x0), (1, .int x1), (2, .int x2), (3, .int x3)] [] h) (kf : ¬ (x1 ≤ x4) → ah_At mt_M_placeIn d A h0 o h2 20 [(0, .ref x0), (1, .int x1), (2, .int x2), (3, .int x3), (4, .int x4)] [] h) : ah_At mt_M_placeIn d A h0 o h2 14 [(0, .ref x0), (1, .int x1), (2, .int x2), (3, .int x3), (4, .int x4)] [] h := by
  refine s_iload d_M_placeIn_14 rfl ?_
  refine s_iload_n d_M_placeIn_16 rfl rfl ?_
  refine s_if_icmpge (t := 66) d_M_placeIn_17 (by decide) (fun z => ?_) (fun z => ?_)
  · exact ah_At.sub [0, 1, 2, 3] rfl (kt z)
  · exact (kf z)
theorem b_M_placeIn_20 {d : Nat} {A : Nat → Prop} {h2 : ah_H} {o : Outcome} {h0 : ah_H} {h : ah_H} {x0 : Nat} {x1 : Int32} {x2 : Int32} {x3 : Int32} {x4 : Int32} {v1 : Nat} {v2 : Int32} {j2 : Nat} {v3 : Nat} {v4 : Int32} {j4 : Nat} (g1 : ah_sel h x0 7 19 = some (.ref v1)) (i2 : ah_ix x4 j2) (g2 : ah_sel h v1 100 j2 = some (.int v2)) (g3 : ah_sel h x0 7 19 = some (.ref v3)) (i4 : ah_ix x1 j4) (g4 : ah_sel h v3 100 j4 = some (.int v4)) (kt : ¬ v2 = v4 → ah_At mt_M_placeIn d A h0 o h2 57 [(0, .ref x0), (1, .int x1), (2, .int x2), (4, .int x4)] [.int x3] h) (kf : ¬ (¬ v2 = v4) → ah_At mt_M_placeIn d A h0 o h2 37 [(0, .ref x0), (1, .int x1), (2, .int x2), (4, .int x4)] [.int x3] h) : ah_At mt_M_placeIn d A h0 o h2 20 [(0, .ref x0), (1, .int x1), (2, .int x2), (3, .int x3), (4, .int x4)] [] h := by
  refine s_iload_n d_M_placeIn_20 rfl rfl ?_
  refine s_aload_n d_M_placeIn_21 rfl rfl ?_
  refine s_getfield (k := 19) d_M_placeIn_22 kc7 (by decide) fl_M_60 g1 ?_
  refine s_iload d_M_placeIn_25 rfl ?_
  refine s_iaload d_M_placeIn_27 i2 g2 ?_
  refine s_aload_n d_M_placeIn_28 rfl rfl ?_
  refine s_getfield (k := 19) d_M_placeIn_29 kc7 (by decide) fl_M_60 g3 ?_
  refine s_iload_n d_M_placeIn_32 rfl rfl ?_
  refine s_iaload d_M_placeIn_33 i4 g4 ?_
  refine s_if_icmpne (t := 57) d_M_placeIn_34 (by decide) (fun z => ?_) (fun z => ?_)
  · exact ah_At.sub [0, 1, 2, 4] rfl (kt z)
  · exact ah_At.sub [0, 1, 2, 4] rfl (kf z)
theorem b_M_placeIn_37 {d : Nat} {A : Nat → Prop} {h2 : ah_H} {o : Outcome} {h0 : ah_H} {h : ah_H} {x0 : Nat} {x1 : Int32} {x2 : Int32} {x4 : Int32} {s0 : Int32} {v1 : Nat} {v2 : Int32} {j2 : Nat} {v3 : Nat} {v4 : Int32} {j4 : Nat} (g1 : ah_sel h x0 7 10 = some (.ref v1)) (i2 : ah_ix x4 j2) (g2 : ah_sel h v1 100 j2 = some (.int v2)) (g3 : ah_sel h x0 7 10 = some (.ref v3)) (i4 : ah_ix x1 j4) (g4 : ah_sel h v3 100 j4 = some (.int v4)) (kt : ¬ v2 = v4 → ah_At mt_M_placeIn d A h0 o h2 57 [(0, .ref x0), (1, .int x1), (2, .int x2), (4, .int x4)] [.int s0] h) (kf : ¬ (¬ v2 = v4) → ah_At mt_M_placeIn d A h0 o h2 53 [(0, .ref x0), (1, .int x1), (2, .int x2), (4, .int x4)] [.int s0] h) : ah_At mt_M_placeIn d A h0 o h2 37 [(0, .ref x0), (1, .int x1), (2, .int x2), (4, .int x4)] [.int s0] h := by
  refine s_aload_n d_M_placeIn_37 rfl rfl ?_
  refine s_getfield (k := 10) d_M_placeIn_38 kc7 (by decide) fl_M_33 g1 ?_
  refine s_iload d_M_placeIn_41 rfl ?_
  refine s_iaload d_M_placeIn_43 i2 g2 ?_
  refine s_aload_n d_M_placeIn_44 rfl rfl ?_
  refine s_getfield (k := 10) d_M_placeIn_45 kc7 (by decide) fl_M_33 g3 ?_
  refine s_iload_n d_M_placeIn_48 rfl rfl ?_
  refine s_iaload d_M_placeIn_49 i4 g4 ?_
  refine s_if_icmpne (t := 57) d_M_placeIn_50 (by decide) (fun z => ?_) (fun z => ?_)
  · exact (kt z)
  · exact (kf z)
theorem b_M_placeIn_53 {d : Nat} {A : Nat → Prop} {h2 : ah_H} {o : Outcome} {h0 : ah_H} {h : ah_H} {x0 : Nat} {x1 : Int32} {x2 : Int32} {x4 : Int32} {s0 : Int32} (k : ah_At mt_M_placeIn d A h0 o h2 58 [(0, .ref x0), (1, .int x1), (2, .int x2), (4, .int x4)] [.int 1, .int s0] h) : ah_At mt_M_placeIn d A h0 o h2 53 [(0, .ref x0), (1, .int x1), (2, .int x2), (4, .int x4)] [.int s0] h := by
  refine s_iconst (v := 1) d_M_placeIn_53 (by decide) ?_
  refine s_goto (t := 58) d_M_placeIn_54 (by decide) ?_
  exact k
theorem b_M_placeIn_57 {d : Nat} {A : Nat → Prop} {h2 : ah_H} {o : Outcome} {h0 : ah_H} {h : ah_H} {x0 : Nat} {x1 : Int32} {x2 : Int32} {x4 : Int32} {s0 : Int32} (k : ah_At mt_M_placeIn d A h0 o h2 58 [(0, .ref x0), (1, .int x1), (2, .int x2), (4, .int x4)] [.int 0, .int s0] h) : ah_At mt_M_placeIn d A h0 o h2 57 [(0, .ref x0), (1, .int x1), (2, .int x2), (4, .int x4)] [.int s0] h := by
  refine s_iconst (v := 0) d_M_placeIn_57 (by decide) ?_
  exact k
theorem b_M_placeIn_58 {d : Nat} {A : Nat → Prop} {h2 : ah_H} {o : Outcome} {h0 : ah_H} {h : ah_H} {x0 : Nat} {x1 : Int32} {x2 : Int32} {x4 : Int32} {s0 : Int32} {s1 : Int32} (k : ah_At mt_M_placeIn d A h0 o h2 14 [(0, .ref x0), (1, .int x1), (2, .int x2), (3, .int (s1 + s0)), (4, .int (x4 + 1))] [] h) : ah_At mt_M_placeIn d A h0 o h2 58 [(0, .ref x0), (1, .int x1), (2, .int x2), (4, .int x4)] [.int s0, .int s1] h := by
  refine s_iadd d_M_placeIn_58 ?_
  refine s_istore_n (lv' := [(0, .ref x0), (1, .int x1), (2, .int x2), (4, .int x4), (3, .int (s1 + s0))]) d_M_placeIn_59 rfl (by decide) rfl ?_
  refine s_iinc (v := x4 + 1) (lv' := [(0, .ref x0), (1, .int x1), (2, .int x2), (4, .int (x4 + 1)), (3, .int (s1 + s0))]) d_M_placeIn_60 rfl rfl (by decide) rfl ?_
  refine s_goto (t := 14) d_M_placeIn_63 (by decide) ?_
  exact ah_At.sub [0, 1, 2, 4, 3] rfl k
theorem b_M_placeIn_66 {d : Nat} {A : Nat → Prop} {h2 : ah_H} {o : Outcome} {h0 : ah_H} {h : ah_H} {x0 : Nat} {x1 : Int32} {x2 : Int32} {x3 : Int32} {v1 : Nat} {d' : Nat} {A' : Nat → Prop} {o' : Outcome} {h' : ah_H} (g1 : ah_sel h x0 7 9 = some (.ref v1)) (hE : ah_Ev mt_M_patternOf d' A' [.ref x0, .int x2] h o' h') (hdd : d' + 1 ≤ d) (hAA : ∀ q, A' q → A q) (k : ah_aft mt_M_placeIn d A h0 o h2 75 [(0, .ref x0), (1, .int x1), (3, .int x3)] [.int (4 * x2), .ref v1] h' o') (hb : (ah_len h x0 7).isSome = true) : ah_At mt_M_placeIn d A h0 o h2 66 [(0, .ref x0), (1, .int x1), (2, .int x2), (3, .int x3)] [] h := by
  refine s_aload_n d_M_placeIn_66 rfl rfl ?_
  refine s_getfield (k := 9) d_M_placeIn_67 kc7 (by decide) fl_M_30 g1 ?_
  refine s_iconst (v := 4) d_M_placeIn_70 (by decide) ?_
  refine s_iload_n d_M_placeIn_71 rfl rfl ?_
  refine s_imul d_M_placeIn_72 ?_
  refine s_aload_n d_M_placeIn_73 rfl rfl ?_
  refine s_iload_n d_M_placeIn_74 rfl rfl ?_
  refine ah_At.sub [0, 1, 3] rfl ?_
  exact ah_callV (av := [.int x2]) (st := [.int (4 * x2), .ref v1]) d_M_placeIn_75 ml_M_141 mi_M_patternOf mv_M_patternOf kc7 hb hE hdd hAA rfl (Nat.le_of_ble_eq_true rfl) k
theorem b_M_placeIn_78 {d : Nat} {A : Nat → Prop} {h2 : ah_H} {o : Outcome} {h0 : ah_H} {h : ah_H} {x0 : Nat} {x1 : Int32} {x3 : Int32} {s0 : Int32} {s1 : Int32} {s2 : Nat} {v1 : Int32} {j1 : Nat} (i1 : ah_ix (s1 + s0) j1) (g1 : ah_sel h s2 100 j1 = some (.int v1)) (k : ah_At mt_M_placeIn d A h0 o h2 85 [(0, .ref x0), (1, .int x1), (3, .int x3), (4, .int v1), (5, .int 1)] [] h) : ah_At mt_M_placeIn d A h0 o h2 78 [(0, .ref x0), (1, .int x1), (3, .int x3)] [.int s0, .int s1, .ref s2] h := by
  refine s_iadd d_M_placeIn_78 ?_
  refine s_iaload d_M_placeIn_79 i1 g1 ?_
  refine s_istore (lv' := [(0, .ref x0), (1, .int x1), (3, .int x3), (4, .int v1)]) d_M_placeIn_80 (by decide) rfl ?_
  refine s_iconst (v := 1) d_M_placeIn_82 (by decide) ?_
  refine s_istore (lv' := [(0, .ref x0), (1, .int x1), (3, .int x3), (4, .int v1), (5, .int 1)]) d_M_placeIn_83 (by decide) rfl ?_
  exact k
theorem b_M_placeIn_85 {d : Nat} {A : Nat → Prop} {h2 : ah_H} {o : Outcome} {h0 : ah_H} {h : ah_H} {x0 : Nat} {x1 : Int32} {x3 : Int32} {x4 : Int32} {x5 : Int32} (z1 : ¬ x5 = 0) (kt : (x4 / x5) < 10 → ah_At mt_M_placeIn d A h0 o h2 105 [(0, .ref x0), (1, .int x1), (3, .int x3), (4, .int x4), (5, .int x5)] [] h) (kf : ¬ ((x4 / x5) < 10) → ah_At mt_M_placeIn d A h0 o h2 95 [(0, .ref x0), (1, .int x1), (3, .int x3), (4, .int x4), (5, .int x5)] [] h) : ah_At mt_M_placeIn d A h0 o h2 85 [(0, .ref x0), (1, .int x1), (3, .int x3), (4, .int x4), (5, .int x5)] [] h := by
  refine s_iload d_M_placeIn_85 rfl ?_
  refine s_iload d_M_placeIn_87 rfl ?_
  refine s_idiv d_M_placeIn_89 z1 ?_
  refine s_bipush (v := 10) d_M_placeIn_90 (by decide) ?_
  refine s_if_icmplt (t := 105) d_M_placeIn_92 (by decide) (fun z => ?_) (fun z => ?_)
  · exact (kt z)
  · exact (kf z)
theorem b_M_placeIn_95 {d : Nat} {A : Nat → Prop} {h2 : ah_H} {o : Outcome} {h0 : ah_H} {h : ah_H} {x0 : Nat} {x1 : Int32} {x3 : Int32} {x4 : Int32} {x5 : Int32} (k : ah_At mt_M_placeIn d A h0 o h2 85 [(0, .ref x0), (1, .int x1), (3, .int x3), (4, .int x4), (5, .int (x5 * 10))] [] h) : ah_At mt_M_placeIn d A h0 o h2 95 [(0, .ref x0), (1, .int x1), (3, .int x3), (4, .int x4), (5, .int x5)] [] h := by
  refine s_iload d_M_placeIn_95 rfl ?_
  refine s_bipush (v := 10) d_M_placeIn_97 (by decide) ?_
  refine s_imul d_M_placeIn_99 ?_
  refine s_istore (lv' := [(0, .ref x0), (1, .int x1), (3, .int x3), (4, .int x4), (5, .int (x5 * 10))]) d_M_placeIn_100 (by decide) rfl ?_
  refine s_goto (t := 85) d_M_placeIn_102 (by decide) ?_
  exact k
theorem b_M_placeIn_105 {d : Nat} {A : Nat → Prop} {h2 : ah_H} {o : Outcome} {h0 : ah_H} {h : ah_H} {x0 : Nat} {x1 : Int32} {x3 : Int32} {x4 : Int32} {x5 : Int32} (k : ah_At mt_M_placeIn d A h0 o h2 108 [(0, .ref x0), (1, .int x1), (3, .int x3), (4, .int x4), (5, .int x5), (6, .int 0)] [] h) : ah_At mt_M_placeIn d A h0 o h2 105 [(0, .ref x0), (1, .int x1), (3, .int x3), (4, .int x4), (5, .int x5)] [] h := by
  refine s_iconst (v := 0) d_M_placeIn_105 (by decide) ?_
  refine s_istore (lv' := [(0, .ref x0), (1, .int x1), (3, .int x3), (4, .int x4), (5, .int x5), (6, .int 0)]) d_M_placeIn_106 (by decide) rfl ?_
  exact k
theorem b_M_placeIn_108 {d : Nat} {A : Nat → Prop} {h2 : ah_H} {o : Outcome} {h0 : ah_H} {h : ah_H} {x0 : Nat} {x1 : Int32} {x3 : Int32} {x4 : Int32} {x5 : Int32} {x6 : Int32} (kt : 0 < x3 → ah_At mt_M_placeIn d A h0 o h2 129 [(0, .ref x0), (1, .int x1), (3, .int x3), (4, .int x4), (5, .int x5), (6, .int x6)] [] h) (kf : ¬ (0 < x3) → ah_At mt_M_placeIn d A h0 o h2 112 [(0, .ref x0), (1, .int x1), (3, .int x3), (4, .int x4), (5, .int x5), (6, .int x6)] [] h) : ah_At mt_M_placeIn d A h0 o h2 108 [(0, .ref x0), (1, .int x1), (3, .int x3), (4, .int x4), (5, .int x5), (6, .int x6)] [] h := by
  refine s_iload_n d_M_placeIn_108 rfl rfl ?_
  refine s_ifgt (t := 129) d_M_placeIn_109 (by decide) (fun z => ?_) (fun z => ?_)
  · exact (kt z)
  · exact (kf z)
theorem b_M_placeIn_112 {d : Nat} {A : Nat → Prop} {h2 : ah_H} {o : Outcome} {h0 : ah_H} {h : ah_H} {x0 : Nat} {x1 : Int32} {x3 : Int32} {x4 : Int32} {x5 : Int32} {x6 : Int32} {v2 : Nat} {v3 : Int32} {j3 : Nat} (z1 : ¬ x5 = 0) (g2 : ah_sel h x0 7 10 = some (.ref v2)) (i3 : ah_ix x1 j3) (g3 : ah_sel h v2 100 j3 = some (.int v3)) (kt : ((x4 / x5) - (x4 / x5) / 10 * 10) = v3 → ah_At mt_M_placeIn d A h0 o h2 167 [(6, .int x6)] [] h) (kf : ¬ (((x4 / x5) - (x4 / x5) / 10 * 10) = v3) → ah_At mt_M_placeIn d A h0 o h2 129 [(0, .ref x0), (1, .int x1), (3, .int x3), (4, .int x4), (5, .int x5), (6, .int x6)] [] h) : ah_At mt_M_placeIn d A h0 o h2 112 [(0, .ref x0), (1, .int x1), (3, .int x3), (4, .int x4), (5, .int x5), (6, .int x6)] [] h := by
  refine s_iload d_M_placeIn_112 rfl ?_
  refine s_iload d_M_placeIn_114 rfl ?_
  refine s_idiv d_M_placeIn_116 z1 ?_
  refine s_bipush (v := 10) d_M_placeIn_117 (by decide) ?_
  refine s_irem d_M_placeIn_119 (by decide) ?_
  refine s_aload_n d_M_placeIn_120 rfl rfl ?_
  refine s_getfield (k := 10) d_M_placeIn_121 kc7 (by decide) fl_M_33 g2 ?_
  refine s_iload_n d_M_placeIn_124 rfl rfl ?_
  refine s_iaload d_M_placeIn_125 i3 g3 ?_
  refine s_if_icmpeq (t := 167) d_M_placeIn_126 (by decide) (fun z => ?_) (fun z => ?_)
  · exact ah_At.sub [5] rfl (kt z)
  · exact (kf z)
theorem b_M_placeIn_129 {d : Nat} {A : Nat → Prop} {h2 : ah_H} {o : Outcome} {h0 : ah_H} {h : ah_H} {x0 : Nat} {x1 : Int32} {x3 : Int32} {x4 : Int32} {x5 : Int32} {x6 : Int32} {v2 : Nat} {v3 : Int32} {j3 : Nat} (z1 : ¬ x5 = 0) (g2 : ah_sel h x0 7 10 = some (.ref v2)) (i3 : ah_ix x1 j3) (g3 : ah_sel h v2 100 j3 = some (.int v3)) (kt : ¬ ((x4 / x5) - (x4 / x5) / 10 * 10) = v3 → ah_At mt_M_placeIn d A h0 o h2 151 [(0, .ref x0), (1, .int x1), (4, .int x4), (5, .int x5), (6, .int x6)] [.int x3] h) (kf : ¬ (¬ ((x4 / x5) - (x4 / x5) / 10 * 10) = v3) → ah_At mt_M_placeIn d A h0 o h2 147 [(0, .ref x0), (1, .int x1), (4, .int x4), (5, .int x5), (6, .int x6)] [.int x3] h) : ah_At mt_M_placeIn d A h0 o h2 129 [(0, .ref x0), (1, .int x1), (3, .int x3), (4, .int x4), (5, .int x5), (6, .int x6)] [] h := by
  refine s_iload_n d_M_placeIn_129 rfl rfl ?_
  refine s_iload d_M_placeIn_130 rfl ?_
  refine s_iload d_M_placeIn_132 rfl ?_
  refine s_idiv d_M_placeIn_134 z1 ?_
  refine s_bipush (v := 10) d_M_placeIn_135 (by decide) ?_
  refine s_irem d_M_placeIn_137 (by decide) ?_
  refine s_aload_n d_M_placeIn_138 rfl rfl ?_
  refine s_getfield (k := 10) d_M_placeIn_139 kc7 (by decide) fl_M_33 g2 ?_
  refine s_iload_n d_M_placeIn_142 rfl rfl ?_
  refine s_iaload d_M_placeIn_143 i3 g3 ?_
  refine s_if_icmpne (t := 151) d_M_placeIn_144 (by decide) (fun z => ?_) (fun z => ?_)
  · exact ah_At.sub [0, 1, 3, 4, 5] rfl (kt z)
  · exact ah_At.sub [0, 1, 3, 4, 5] rfl (kf z)
theorem b_M_placeIn_147 {d : Nat} {A : Nat → Prop} {h2 : ah_H} {o : Outcome} {h0 : ah_H} {h : ah_H} {x0 : Nat} {x1 : Int32} {x4 : Int32} {x5 : Int32} {x6 : Int32} {s0 : Int32} (k : ah_At mt_M_placeIn d A h0 o h2 152 [(0, .ref x0), (1, .int x1), (4, .int x4), (5, .int x5), (6, .int x6)] [.int 1, .int s0] h) : ah_At mt_M_placeIn d A h0 o h2 147 [(0, .ref x0), (1, .int x1), (4, .int x4), (5, .int x5), (6, .int x6)] [.int s0] h := by
  refine s_iconst (v := 1) d_M_placeIn_147 (by decide) ?_
  refine s_goto (t := 152) d_M_placeIn_148 (by decide) ?_
  exact k
theorem b_M_placeIn_151 {d : Nat} {A : Nat → Prop} {h2 : ah_H} {o : Outcome} {h0 : ah_H} {h : ah_H} {x0 : Nat} {x1 : Int32} {x4 : Int32} {x5 : Int32} {x6 : Int32} {s0 : Int32} (k : ah_At mt_M_placeIn d A h0 o h2 152 [(0, .ref x0), (1, .int x1), (4, .int x4), (5, .int x5), (6, .int x6)] [.int 0, .int s0] h) : ah_At mt_M_placeIn d A h0 o h2 151 [(0, .ref x0), (1, .int x1), (4, .int x4), (5, .int x5), (6, .int x6)] [.int s0] h := by
  refine s_iconst (v := 0) d_M_placeIn_151 (by decide) ?_
  exact k
theorem b_M_placeIn_152 {d : Nat} {A : Nat → Prop} {h2 : ah_H} {o : Outcome} {h0 : ah_H} {h : ah_H} {x0 : Nat} {x1 : Int32} {x4 : Int32} {x5 : Int32} {x6 : Int32} {s0 : Int32} {s1 : Int32} (k : ah_At mt_M_placeIn d A h0 o h2 108 [(0, .ref x0), (1, .int x1), (3, .int (s1 - s0)), (4, .int x4), (5, .int (x5 / 10)), (6, .int (x6 + 1))] [] h) : ah_At mt_M_placeIn d A h0 o h2 152 [(0, .ref x0), (1, .int x1), (4, .int x4), (5, .int x5), (6, .int x6)] [.int s0, .int s1] h := by
  refine s_isub d_M_placeIn_152 ?_
  refine s_istore_n (lv' := [(0, .ref x0), (1, .int x1), (4, .int x4), (5, .int x5), (6, .int x6), (3, .int (s1 - s0))]) d_M_placeIn_153 rfl (by decide) rfl ?_
  refine s_iload d_M_placeIn_154 rfl ?_
  refine s_bipush (v := 10) d_M_placeIn_156 (by decide) ?_
  refine s_idiv d_M_placeIn_158 (by decide) ?_
  refine s_istore (lv' := [(0, .ref x0), (1, .int x1), (4, .int x4), (5, .int (x5 / 10)), (6, .int x6), (3, .int (s1 - s0))]) d_M_placeIn_159 (by decide) rfl ?_
  refine s_iinc (v := x6 + 1) (lv' := [(0, .ref x0), (1, .int x1), (4, .int x4), (5, .int (x5 / 10)), (6, .int (x6 + 1)), (3, .int (s1 - s0))]) d_M_placeIn_161 rfl rfl (by decide) rfl ?_
  refine s_goto (t := 108) d_M_placeIn_164 (by decide) ?_
  exact ah_At.sub [0, 1, 5, 2, 3, 4] rfl k
theorem b_M_placeIn_167 {d : Nat} {A : Nat → Prop} {h0 : ah_H} {h : ah_H} {x6 : Int32}  : ah_At mt_M_placeIn d A h0 (.returned (some (.int x6))) h 167 [(6, .int x6)] [] h := by
  refine s_iload d_M_placeIn_167 rfl ?_
  exact e_iret (ty := .int) d_M_placeIn_169 rfl rfl
theorem b_M_at_0 {d : Nat} {A : Nat → Prop} {h2 : ah_H} {o : Outcome} {h0 : ah_H} {h : ah_H} {x0 : Nat} {x1 : Int32} {x2 : Int32} {d' : Nat} {A' : Nat → Prop} {o' : Outcome} {h' : ah_H} (hE : ah_Ev mt_M_isBox d' A' [.ref x0, .int x1] h o' h') (hdd : d' + 1 ≤ d) (hAA : ∀ q, A' q → A q) (k : ah_aft mt_M_at d A h0 o h2 3 [(0, .ref x0), (1, .int x1), (2, .int x2)] [.ref x0] h' o') (hb : (ah_len h x0 7).isSome = true) : ah_At mt_M_at d A h0 o h2 0 [(0, .ref x0), (1, .int x1), (2, .int x2)] [] h := by
  refine s_aload_n d_M_at_0 rfl rfl ?_
  refine s_aload_n d_M_at_1 rfl rfl ?_
  refine s_iload_n d_M_at_2 rfl rfl ?_
  exact ah_callV (av := [.int x1]) (st := [.ref x0]) d_M_at_3 ml_M_144 mi_M_isBox mv_M_isBox kc7 hb hE hdd hAA rfl (Nat.le_of_ble_eq_true rfl) k
theorem b_M_at_6 {d : Nat} {A : Nat → Prop} {h2 : ah_H} {o : Outcome} {h0 : ah_H} {h : ah_H} {x0 : Nat} {x1 : Int32} {x2 : Int32} {s0 : Int32} {s1 : Nat} (kt : s0 = 0 → ah_At mt_M_at d A h0 o h2 18 [(0, .ref x0), (1, .int x1), (2, .int x2)] [.ref s1] h) (kf : ¬ (s0 = 0) → ah_At mt_M_at d A h0 o h2 9 [(0, .ref x0), (1, .int x1), (2, .int x2)] [.ref s1] h) : ah_At mt_M_at d A h0 o h2 6 [(0, .ref x0), (1, .int x1), (2, .int x2)] [.int s0, .ref s1] h := by
  refine s_ifeq (t := 18) d_M_at_6 (by decide) (fun z => ?_) (fun z => ?_)
  · exact (kt z)
  · exact (kf z)
theorem b_M_at_9 {d : Nat} {A : Nat → Prop} {h2 : ah_H} {o : Outcome} {h0 : ah_H} {h : ah_H} {x0 : Nat} {x1 : Int32} {x2 : Int32} {s0 : Nat} (kt : x2 < 0 → ah_At mt_M_at d A h0 o h2 18 [(0, .ref x0), (1, .int x1), (2, .int x2)] [.ref s0] h) (kf : ¬ (x2 < 0) → ah_At mt_M_at d A h0 o h2 13 [(0, .ref x0), (1, .int x1), (2, .int x2)] [.ref s0] h) : ah_At mt_M_at d A h0 o h2 9 [(0, .ref x0), (1, .int x1), (2, .int x2)] [.ref s0] h := by
  refine s_iload_n d_M_at_9 rfl rfl ?_
  refine s_iflt (t := 18) d_M_at_10 (by decide) (fun z => ?_) (fun z => ?_)
  · exact (kt z)
  · exact (kf z)
theorem b_M_at_13 {d : Nat} {A : Nat → Prop} {h2 : ah_H} {o : Outcome} {h0 : ah_H} {h : ah_H} {x0 : Nat} {x1 : Int32} {x2 : Int32} {s0 : Nat} (kt : x2 ≤ 1 → ah_At mt_M_at d A h0 o h2 22 [(0, .ref x0), (1, .int x1), (2, .int x2)] [.ref s0] h) (kf : ¬ (x2 ≤ 1) → ah_At mt_M_at d A h0 o h2 18 [(0, .ref x0), (1, .int x1), (2, .int x2)] [.ref s0] h) : ah_At mt_M_at d A h0 o h2 13 [(0, .ref x0), (1, .int x1), (2, .int x2)] [.ref s0] h := by
  refine s_iload_n d_M_at_13 rfl rfl ?_
  refine s_iconst (v := 1) d_M_at_14 (by decide) ?_
  refine s_if_icmple (t := 22) d_M_at_15 (by decide) (fun z => ?_) (fun z => ?_)
  · exact (kt z)
  · exact (kf z)
theorem b_M_at_18 {d : Nat} {A : Nat → Prop} {h2 : ah_H} {o : Outcome} {h0 : ah_H} {h : ah_H} {x0 : Nat} {x1 : Int32} {x2 : Int32} {s0 : Nat} (k : ah_At mt_M_at d A h0 o h2 34 [(0, .ref x0), (1, .int x1), (2, .int x2)] [.int 1, .ref s0] h) : ah_At mt_M_at d A h0 o h2 18 [(0, .ref x0), (1, .int x1), (2, .int x2)] [.ref s0] h := by
  refine s_iconst (v := 1) d_M_at_18 (by decide) ?_
  refine s_goto (t := 34) d_M_at_19 (by decide) ?_
  exact k
theorem b_M_at_22 {d : Nat} {A : Nat → Prop} {h2 : ah_H} {o : Outcome} {h0 : ah_H} {h : ah_H} {x0 : Nat} {x1 : Int32} {x2 : Int32} {s0 : Nat} {v1 : Int32} (g1 : ah_sel h x0 7 17 = some (.int v1)) (kt : v1 = 0 → ah_At mt_M_at d A h0 o h2 33 [(0, .ref x0), (1, .int x1), (2, .int x2)] [.ref s0] h) (kf : ¬ (v1 = 0) → ah_At mt_M_at d A h0 o h2 29 [(0, .ref x0), (1, .int x1), (2, .int x2)] [.ref s0] h) : ah_At mt_M_at d A h0 o h2 22 [(0, .ref x0), (1, .int x1), (2, .int x2)] [.ref s0] h := by
  refine s_aload_n d_M_at_22 rfl rfl ?_
  refine s_getfield (k := 17) d_M_at_23 kc7 (by decide) fl_M_85 g1 ?_
  refine s_ifeq (t := 33) d_M_at_26 (by decide) (fun z => ?_) (fun z => ?_)
  · exact (kt z)
  · exact (kf z)
theorem b_M_at_29 {d : Nat} {A : Nat → Prop} {h2 : ah_H} {o : Outcome} {h0 : ah_H} {h : ah_H} {x0 : Nat} {x1 : Int32} {x2 : Int32} {s0 : Nat} (k : ah_At mt_M_at d A h0 o h2 34 [(0, .ref x0), (1, .int x1), (2, .int x2)] [.int 0, .ref s0] h) : ah_At mt_M_at d A h0 o h2 29 [(0, .ref x0), (1, .int x1), (2, .int x2)] [.ref s0] h := by
  refine s_iconst (v := 0) d_M_at_29 (by decide) ?_
  refine s_goto (t := 34) d_M_at_30 (by decide) ?_
  exact k
theorem b_M_at_33 {d : Nat} {A : Nat → Prop} {h2 : ah_H} {o : Outcome} {h0 : ah_H} {h : ah_H} {x0 : Nat} {x1 : Int32} {x2 : Int32} {s0 : Nat} (k : ah_At mt_M_at d A h0 o h2 34 [(0, .ref x0), (1, .int x1), (2, .int x2)] [.int 2, .ref s0] h) : ah_At mt_M_at d A h0 o h2 33 [(0, .ref x0), (1, .int x1), (2, .int x2)] [.ref s0] h := by
  refine s_iconst (v := 2) d_M_at_33 (by decide) ?_
  exact k
theorem b_M_at_34 {d : Nat} {A : Nat → Prop} {h2 : ah_H} {o : Outcome} {h0 : ah_H} {h : ah_H} {x0 : Nat} {x1 : Int32} {x2 : Int32} {s0 : Int32} {s1 : Nat} {v2 : Int32} (w1 : A s1) (e1 : (ah_sel h s1 7 0).isSome = true) (g2 : ah_sel (ah_sto h s1 0 (.int s0)) x0 7 0 = some (.int v2)) (kt : v2 ≤ 0 → ah_At mt_M_at d A h0 o h2 46 [(0, .ref x0), (1, .int x1), (2, .int x2)] [] (ah_sto h s1 0 (.int s0))) (kf : ¬ (v2 ≤ 0) → ah_At mt_M_at d A h0 o h2 44 [] [] (ah_sto h s1 0 (.int s0))) : ah_At mt_M_at d A h0 o h2 34 [(0, .ref x0), (1, .int x1), (2, .int x2)] [.int s0, .ref s1] h := by
  refine s_putfield (k := 0) d_M_at_34 kc7 (by decide) fl_M_63 (Or.inl rfl) w1 rfl e1 ?_
  refine s_aload_n d_M_at_37 rfl rfl ?_
  refine s_getfield (k := 0) d_M_at_38 kc7 (by decide) fl_M_63 g2 ?_
  refine s_ifle (t := 46) d_M_at_41 (by decide) (fun z => ?_) (fun z => ?_)
  · exact (kt z)
  · exact ah_At.sub [] rfl (kf z)
theorem b_M_at_44 {d : Nat} {A : Nat → Prop} {h0 : ah_H} {h : ah_H}   : ah_At mt_M_at d A h0 (.returned (some (.int 0))) h 44 [] [] h := by
  refine s_iconst (v := 0) d_M_at_44 (by decide) ?_
  exact e_iret (ty := .int) d_M_at_45 rfl rfl
theorem b_M_at_46 {d : Nat} {A : Nat → Prop} {h2 : ah_H} {o : Outcome} {h0 : ah_H} {h : ah_H} {x0 : Nat} {x1 : Int32} {x2 : Int32} {v1 : Nat} {v2 : Int32} {j2 : Nat} (g1 : ah_sel h x0 7 19 = some (.ref v1)) (i2 : ah_ix x1 j2) (g2 : ah_sel h v1 100 j2 = some (.int v2)) (kt : ¬ v2 = 0 → ah_At mt_M_at d A h0 o h2 59 [(0, .ref x0), (1, .int x1), (2, .int x2)] [] h) (kf : ¬ (¬ v2 = 0) → ah_At mt_M_at d A h0 o h2 55 [] [] h) : ah_At mt_M_at d A h0 o h2 46 [(0, .ref x0), (1, .int x1), (2, .int x2)] [] h := by
  refine s_aload_n d_M_at_46 rfl rfl ?_
  refine s_getfield (k := 19) d_M_at_47 kc7 (by decide) fl_M_60 g1 ?_
  refine s_iload_n d_M_at_50 rfl rfl ?_
  refine s_iaload d_M_at_51 i2 g2 ?_
  refine s_ifne (t := 59) d_M_at_52 (by decide) (fun z => ?_) (fun z => ?_)
  · exact (kt z)
  · exact ah_At.sub [] rfl (kf z)
theorem b_M_at_55 {d : Nat} {A : Nat → Prop} {h2 : ah_H} {o : Outcome} {h0 : ah_H} {h : ah_H}  (k : ah_At mt_M_at d A h0 o h2 79 [] [.int (-1)] h) : ah_At mt_M_at d A h0 o h2 55 [] [] h := by
  refine s_iconst (v := -1) d_M_at_55 (by decide) ?_
  refine s_goto (t := 79) d_M_at_56 (by decide) ?_
  exact k
theorem b_M_at_59 {d : Nat} {A : Nat → Prop} {h2 : ah_H} {o : Outcome} {h0 : ah_H} {h : ah_H} {x0 : Nat} {x1 : Int32} {x2 : Int32} (kt : ¬ x2 = 0 → ah_At mt_M_at d A h0 o h2 74 [(0, .ref x0), (1, .int x1)] [] h) (kf : ¬ (¬ x2 = 0) → ah_At mt_M_at d A h0 o h2 63 [(0, .ref x0), (1, .int x1)] [] h) : ah_At mt_M_at d A h0 o h2 59 [(0, .ref x0), (1, .int x1), (2, .int x2)] [] h := by
  refine s_iload_n d_M_at_59 rfl rfl ?_
  refine s_ifne (t := 74) d_M_at_60 (by decide) (fun z => ?_) (fun z => ?_)
  · exact ah_At.sub [0, 1] rfl (kt z)
  · exact ah_At.sub [0, 1] rfl (kf z)
theorem b_M_at_63 {d : Nat} {A : Nat → Prop} {h2 : ah_H} {o : Outcome} {h0 : ah_H} {h : ah_H} {x0 : Nat} {x1 : Int32} {v1 : Nat} {v2 : Int32} {j2 : Nat} (g1 : ah_sel h x0 7 19 = some (.ref v1)) (i2 : ah_ix x1 j2) (g2 : ah_sel h v1 100 j2 = some (.int v2)) (k : ah_At mt_M_at d A h0 o h2 79 [] [.int (v2 - 1)] h) : ah_At mt_M_at d A h0 o h2 63 [(0, .ref x0), (1, .int x1)] [] h := by
  refine s_aload_n d_M_at_63 rfl rfl ?_
  refine s_getfield (k := 19) d_M_at_64 kc7 (by decide) fl_M_60 g1 ?_
  refine s_iload_n d_M_at_67 rfl rfl ?_
  refine s_iaload d_M_at_68 i2 g2 ?_
  refine s_iconst (v := 1) d_M_at_69 (by decide) ?_
  refine s_isub d_M_at_70 ?_
  refine s_goto (t := 79) d_M_at_71 (by decide) ?_
  exact ah_At.sub [] rfl k
theorem b_M_at_74 {d : Nat} {A : Nat → Prop} {h2 : ah_H} {o : Outcome} {h0 : ah_H} {h : ah_H} {x0 : Nat} {x1 : Int32} {d' : Nat} {A' : Nat → Prop} {o' : Outcome} {h' : ah_H} (hE : ah_Ev mt_M_placeIn d' A' [.ref x0, .int x1] h o' h') (hdd : d' + 1 ≤ d) (hAA : ∀ q, A' q → A q) (k : ah_aft mt_M_at d A h0 o h2 76 [] [] h' o') (hb : (ah_len h x0 7).isSome = true) : ah_At mt_M_at d A h0 o h2 74 [(0, .ref x0), (1, .int x1)] [] h := by
  refine s_aload_n d_M_at_74 rfl rfl ?_
  refine s_iload_n d_M_at_75 rfl rfl ?_
  refine ah_At.sub [] rfl ?_
  exact ah_callV (av := [.int x1]) (st := []) d_M_at_76 ml_M_147 mi_M_placeIn mv_M_placeIn kc7 hb hE hdd hAA rfl (Nat.le_of_ble_eq_true rfl) k
theorem b_M_at_79 {d : Nat} {A : Nat → Prop} {h0 : ah_H} {h : ah_H} {s0 : Int32}  : ah_At mt_M_at d A h0 (.returned (some (.int s0))) h 79 [] [.int s0] h := by
  exact e_iret (ty := .int) d_M_at_79 rfl rfl
theorem b_M_weightOn_0 {d : Nat} {A : Nat → Prop} {h2 : ah_H} {o : Outcome} {h0 : ah_H} {h : ah_H} {x0 : Nat} {x1 : Int32} (k : ah_At mt_M_weightOn d A h0 o h2 5 [(0, .ref x0), (1, .int x1), (2, .long 0), (4, .int 0)] [] h) : ah_At mt_M_weightOn d A h0 o h2 0 [(0, .ref x0), (1, .int x1)] [] h := by
  refine s_lconst (v := 0) d_M_weightOn_0 (by decide) ?_
  refine s_lstore_n (lv' := [(0, .ref x0), (1, .int x1), (2, .long 0)]) d_M_weightOn_1 rfl (by decide) rfl ?_
  refine s_iconst (v := 0) d_M_weightOn_2 (by decide) ?_
  refine s_istore (lv' := [(0, .ref x0), (1, .int x1), (2, .long 0), (4, .int 0)]) d_M_weightOn_3 (by decide) rfl ?_
  exact k
theorem b_M_weightOn_5 {d : Nat} {A : Nat → Prop} {h2 : ah_H} {o : Outcome} {h0 : ah_H} {h : ah_H} {x0 : Nat} {x1 : Int32} {x2 : Int64} {x4 : Int32} {v1 : Int32} (g1 : ah_sel h x0 7 2 = some (.int v1)) (kt : v1 ≤ x4 → ah_At mt_M_weightOn d A h0 o h2 47 [(2, .long x2)] [] h) (kf : ¬ (v1 ≤ x4) → ah_At mt_M_weightOn d A h0 o h2 14 [(0, .ref x0), (1, .int x1), (2, .long x2), (4, .int x4)] [] h) : ah_At mt_M_weightOn d A h0 o h2 5 [(0, .ref x0), (1, .int x1), (2, .long x2), (4, .int x4)] [] h := by
  refine s_iload d_M_weightOn_5 rfl ?_
  refine s_aload_n d_M_weightOn_7 rfl rfl ?_
  refine s_getfield (k := 2) d_M_weightOn_8 kc7 (by decide) fl_M_70 g1 ?_
  refine s_if_icmpge (t := 47) d_M_weightOn_11 (by decide) (fun z => ?_) (fun z => ?_)
  · exact ah_At.sub [2] rfl (kt z)
  · exact (kf z)
theorem b_M_weightOn_14 {d : Nat} {A : Nat → Prop} {h2 : ah_H} {o : Outcome} {h0 : ah_H} {h : ah_H} {x0 : Nat} {x1 : Int32} {x2 : Int64} {x4 : Int32} {v1 : Nat} {v2 : Int32} {j2 : Nat} (g1 : ah_sel h x0 7 19 = some (.ref v1)) (i2 : ah_ix x4 j2) (g2 : ah_sel h v1 100 j2 = some (.int v2)) (kt : ¬ v2 = (x1 + 1) → ah_At mt_M_weightOn d A h0 o h2 38 [(0, .ref x0), (1, .int x1), (4, .int x4)] [.long x2] h) (kf : ¬ (¬ v2 = (x1 + 1)) → ah_At mt_M_weightOn d A h0 o h2 28 [(0, .ref x0), (1, .int x1), (4, .int x4)] [.long x2] h) : ah_At mt_M_weightOn d A h0 o h2 14 [(0, .ref x0), (1, .int x1), (2, .long x2), (4, .int x4)] [] h := by
  refine s_lload_n d_M_weightOn_14 rfl rfl ?_
  refine s_aload_n d_M_weightOn_15 rfl rfl ?_
  refine s_getfield (k := 19) d_M_weightOn_16 kc7 (by decide) fl_M_60 g1 ?_
  refine s_iload d_M_weightOn_19 rfl ?_
  refine s_iaload d_M_weightOn_21 i2 g2 ?_
  refine s_iload_n d_M_weightOn_22 rfl rfl ?_
  refine s_iconst (v := 1) d_M_weightOn_23 (by decide) ?_
  refine s_iadd d_M_weightOn_24 ?_
  refine s_if_icmpne (t := 38) d_M_weightOn_25 (by decide) (fun z => ?_) (fun z => ?_)
  · exact ah_At.sub [0, 1, 3] rfl (kt z)
  · exact ah_At.sub [0, 1, 3] rfl (kf z)
theorem b_M_weightOn_28 {d : Nat} {A : Nat → Prop} {h2 : ah_H} {o : Outcome} {h0 : ah_H} {h : ah_H} {x0 : Nat} {x1 : Int32} {x4 : Int32} {s0 : Int64} {v1 : Nat} {v2 : Int64} {j2 : Nat} (g1 : ah_sel h x0 7 11 = some (.ref v1)) (i2 : ah_ix x4 j2) (g2 : ah_sel h v1 101 j2 = some (.long v2)) (k : ah_At mt_M_weightOn d A h0 o h2 39 [(0, .ref x0), (1, .int x1), (4, .int x4)] [.long v2, .long s0] h) : ah_At mt_M_weightOn d A h0 o h2 28 [(0, .ref x0), (1, .int x1), (4, .int x4)] [.long s0] h := by
  refine s_aload_n d_M_weightOn_28 rfl rfl ?_
  refine s_getfield (k := 11) d_M_weightOn_29 kc7 (by decide) fl_M_36 g1 ?_
  refine s_iload d_M_weightOn_32 rfl ?_
  refine s_laload d_M_weightOn_34 i2 g2 ?_
  refine s_goto (t := 39) d_M_weightOn_35 (by decide) ?_
  exact k
theorem b_M_weightOn_38 {d : Nat} {A : Nat → Prop} {h2 : ah_H} {o : Outcome} {h0 : ah_H} {h : ah_H} {x0 : Nat} {x1 : Int32} {x4 : Int32} {s0 : Int64} (k : ah_At mt_M_weightOn d A h0 o h2 39 [(0, .ref x0), (1, .int x1), (4, .int x4)] [.long 0, .long s0] h) : ah_At mt_M_weightOn d A h0 o h2 38 [(0, .ref x0), (1, .int x1), (4, .int x4)] [.long s0] h := by
  refine s_lconst (v := 0) d_M_weightOn_38 (by decide) ?_
  exact k
theorem b_M_weightOn_39 {d : Nat} {A : Nat → Prop} {h2 : ah_H} {o : Outcome} {h0 : ah_H} {h : ah_H} {x0 : Nat} {x1 : Int32} {x4 : Int32} {s0 : Int64} {s1 : Int64} (k : ah_At mt_M_weightOn d A h0 o h2 5 [(0, .ref x0), (1, .int x1), (2, .long (s1 + s0)), (4, .int (x4 + 1))] [] h) : ah_At mt_M_weightOn d A h0 o h2 39 [(0, .ref x0), (1, .int x1), (4, .int x4)] [.long s0, .long s1] h := by
  refine s_ladd d_M_weightOn_39 ?_
  refine s_lstore_n (lv' := [(0, .ref x0), (1, .int x1), (4, .int x4), (2, .long (s1 + s0))]) d_M_weightOn_40 rfl (by decide) rfl ?_
  refine s_iinc (v := x4 + 1) (lv' := [(0, .ref x0), (1, .int x1), (4, .int (x4 + 1)), (2, .long (s1 + s0))]) d_M_weightOn_41 rfl rfl (by decide) rfl ?_
  refine s_goto (t := 5) d_M_weightOn_44 (by decide) ?_
  exact ah_At.sub [0, 1, 3, 2] rfl k
theorem b_M_weightOn_47 {d : Nat} {A : Nat → Prop} {h0 : ah_H} {h : ah_H} {x2 : Int64}  : ah_At mt_M_weightOn d A h0 (.returned (some (.long x2))) h 47 [(2, .long x2)] [] h := by
  refine s_lload_n d_M_weightOn_47 rfl rfl ?_
  exact e_lret d_M_weightOn_48 rfl
theorem b_M_load_0 {d : Nat} {A : Nat → Prop} {h2 : ah_H} {o : Outcome} {h0 : ah_H} {h : ah_H} {x0 : Nat} {x1 : Int32} {x2 : Int32} {d' : Nat} {A' : Nat → Prop} {o' : Outcome} {h' : ah_H} (hE : ah_Ev mt_M_isWagon d' A' [.ref x0, .int x1] h o' h') (hdd : d' + 1 ≤ d) (hAA : ∀ q, A' q → A q) (k : ah_aft mt_M_load d A h0 o h2 3 [(0, .ref x0), (1, .int x1), (2, .int x2)] [.ref x0] h' o') (hb : (ah_len h x0 7).isSome = true) : ah_At mt_M_load d A h0 o h2 0 [(0, .ref x0), (1, .int x1), (2, .int x2)] [] h := by
  refine s_aload_n d_M_load_0 rfl rfl ?_
  refine s_aload_n d_M_load_1 rfl rfl ?_
  refine s_iload_n d_M_load_2 rfl rfl ?_
  exact ah_callV (av := [.int x1]) (st := [.ref x0]) d_M_load_3 ml_M_89 mi_M_isWagon mv_M_isWagon kc7 hb hE hdd hAA rfl (Nat.le_of_ble_eq_true rfl) k
theorem b_M_load_6 {d : Nat} {A : Nat → Prop} {h2 : ah_H} {o : Outcome} {h0 : ah_H} {h : ah_H} {x0 : Nat} {x1 : Int32} {x2 : Int32} {s0 : Int32} {s1 : Nat} (kt : s0 = 0 → ah_At mt_M_load d A h0 o h2 18 [(0, .ref x0), (1, .int x1), (2, .int x2)] [.ref s1] h) (kf : ¬ (s0 = 0) → ah_At mt_M_load d A h0 o h2 9 [(0, .ref x0), (1, .int x1), (2, .int x2)] [.ref s1] h) : ah_At mt_M_load d A h0 o h2 6 [(0, .ref x0), (1, .int x1), (2, .int x2)] [.int s0, .ref s1] h := by
  refine s_ifeq (t := 18) d_M_load_6 (by decide) (fun z => ?_) (fun z => ?_)
  · exact (kt z)
  · exact (kf z)
theorem b_M_load_9 {d : Nat} {A : Nat → Prop} {h2 : ah_H} {o : Outcome} {h0 : ah_H} {h : ah_H} {x0 : Nat} {x1 : Int32} {x2 : Int32} {s0 : Nat} (kt : x2 < 0 → ah_At mt_M_load d A h0 o h2 18 [(0, .ref x0), (1, .int x1), (2, .int x2)] [.ref s0] h) (kf : ¬ (x2 < 0) → ah_At mt_M_load d A h0 o h2 13 [(0, .ref x0), (1, .int x1), (2, .int x2)] [.ref s0] h) : ah_At mt_M_load d A h0 o h2 9 [(0, .ref x0), (1, .int x1), (2, .int x2)] [.ref s0] h := by
  refine s_iload_n d_M_load_9 rfl rfl ?_
  refine s_iflt (t := 18) d_M_load_10 (by decide) (fun z => ?_) (fun z => ?_)
  · exact (kt z)
  · exact (kf z)
theorem b_M_load_13 {d : Nat} {A : Nat → Prop} {h2 : ah_H} {o : Outcome} {h0 : ah_H} {h : ah_H} {x0 : Nat} {x1 : Int32} {x2 : Int32} {s0 : Nat} (kt : x2 ≤ 3 → ah_At mt_M_load d A h0 o h2 22 [(0, .ref x0), (1, .int x1), (2, .int x2)] [.ref s0] h) (kf : ¬ (x2 ≤ 3) → ah_At mt_M_load d A h0 o h2 18 [(0, .ref x0), (1, .int x1), (2, .int x2)] [.ref s0] h) : ah_At mt_M_load d A h0 o h2 13 [(0, .ref x0), (1, .int x1), (2, .int x2)] [.ref s0] h := by
  refine s_iload_n d_M_load_13 rfl rfl ?_
  refine s_iconst (v := 3) d_M_load_14 (by decide) ?_
  refine s_if_icmple (t := 22) d_M_load_15 (by decide) (fun z => ?_) (fun z => ?_)
  · exact (kt z)
  · exact (kf z)
theorem b_M_load_18 {d : Nat} {A : Nat → Prop} {h2 : ah_H} {o : Outcome} {h0 : ah_H} {h : ah_H} {x0 : Nat} {x1 : Int32} {x2 : Int32} {s0 : Nat} (k : ah_At mt_M_load d A h0 o h2 34 [(0, .ref x0), (1, .int x1), (2, .int x2)] [.int 1, .ref s0] h) : ah_At mt_M_load d A h0 o h2 18 [(0, .ref x0), (1, .int x1), (2, .int x2)] [.ref s0] h := by
  refine s_iconst (v := 1) d_M_load_18 (by decide) ?_
  refine s_goto (t := 34) d_M_load_19 (by decide) ?_
  exact k
theorem b_M_load_22 {d : Nat} {A : Nat → Prop} {h2 : ah_H} {o : Outcome} {h0 : ah_H} {h : ah_H} {x0 : Nat} {x1 : Int32} {x2 : Int32} {s0 : Nat} {v1 : Int32} (g1 : ah_sel h x0 7 17 = some (.int v1)) (kt : v1 = 0 → ah_At mt_M_load d A h0 o h2 33 [(0, .ref x0), (1, .int x1), (2, .int x2)] [.ref s0] h) (kf : ¬ (v1 = 0) → ah_At mt_M_load d A h0 o h2 29 [(0, .ref x0), (1, .int x1), (2, .int x2)] [.ref s0] h) : ah_At mt_M_load d A h0 o h2 22 [(0, .ref x0), (1, .int x1), (2, .int x2)] [.ref s0] h := by
  refine s_aload_n d_M_load_22 rfl rfl ?_
  refine s_getfield (k := 17) d_M_load_23 kc7 (by decide) fl_M_85 g1 ?_
  refine s_ifeq (t := 33) d_M_load_26 (by decide) (fun z => ?_) (fun z => ?_)
  · exact (kt z)
  · exact (kf z)
theorem b_M_load_29 {d : Nat} {A : Nat → Prop} {h2 : ah_H} {o : Outcome} {h0 : ah_H} {h : ah_H} {x0 : Nat} {x1 : Int32} {x2 : Int32} {s0 : Nat} (k : ah_At mt_M_load d A h0 o h2 34 [(0, .ref x0), (1, .int x1), (2, .int x2)] [.int 0, .ref s0] h) : ah_At mt_M_load d A h0 o h2 29 [(0, .ref x0), (1, .int x1), (2, .int x2)] [.ref s0] h := by
  refine s_iconst (v := 0) d_M_load_29 (by decide) ?_
  refine s_goto (t := 34) d_M_load_30 (by decide) ?_
  exact k
theorem b_M_load_33 {d : Nat} {A : Nat → Prop} {h2 : ah_H} {o : Outcome} {h0 : ah_H} {h : ah_H} {x0 : Nat} {x1 : Int32} {x2 : Int32} {s0 : Nat} (k : ah_At mt_M_load d A h0 o h2 34 [(0, .ref x0), (1, .int x1), (2, .int x2)] [.int 2, .ref s0] h) : ah_At mt_M_load d A h0 o h2 33 [(0, .ref x0), (1, .int x1), (2, .int x2)] [.ref s0] h := by
  refine s_iconst (v := 2) d_M_load_33 (by decide) ?_
  exact k
theorem b_M_load_34 {d : Nat} {A : Nat → Prop} {h2 : ah_H} {o : Outcome} {h0 : ah_H} {h : ah_H} {x0 : Nat} {x1 : Int32} {x2 : Int32} {s0 : Int32} {s1 : Nat} {v2 : Int32} (w1 : A s1) (e1 : (ah_sel h s1 7 0).isSome = true) (g2 : ah_sel (ah_sto h s1 0 (.int s0)) x0 7 0 = some (.int v2)) (kt : v2 ≤ 0 → ah_At mt_M_load d A h0 o h2 46 [(0, .ref x0), (1, .int x1), (2, .int x2)] [] (ah_sto h s1 0 (.int s0))) (kf : ¬ (v2 ≤ 0) → ah_At mt_M_load d A h0 o h2 44 [] [] (ah_sto h s1 0 (.int s0))) : ah_At mt_M_load d A h0 o h2 34 [(0, .ref x0), (1, .int x1), (2, .int x2)] [.int s0, .ref s1] h := by
  refine s_putfield (k := 0) d_M_load_34 kc7 (by decide) fl_M_63 (Or.inl rfl) w1 rfl e1 ?_
  refine s_aload_n d_M_load_37 rfl rfl ?_
  refine s_getfield (k := 0) d_M_load_38 kc7 (by decide) fl_M_63 g2 ?_
  refine s_ifle (t := 46) d_M_load_41 (by decide) (fun z => ?_) (fun z => ?_)
  · exact (kt z)
  · exact ah_At.sub [] rfl (kf z)
theorem b_M_load_44 {d : Nat} {A : Nat → Prop} {h0 : ah_H} {h : ah_H}   : ah_At mt_M_load d A h0 (.returned (some (.long 0))) h 44 [] [] h := by
  refine s_lconst (v := 0) d_M_load_44 (by decide) ?_
  exact e_lret d_M_load_45 rfl
theorem b_M_load_46 {d : Nat} {A : Nat → Prop} {h2 : ah_H} {o : Outcome} {h0 : ah_H} {h : ah_H} {x0 : Nat} {x1 : Int32} {x2 : Int32} (k : ah_At mt_M_load d A h0 o h2 51 [(0, .ref x0), (1, .int x1), (2, .int x2), (3, .long 0), (5, .int 0)] [] h) : ah_At mt_M_load d A h0 o h2 46 [(0, .ref x0), (1, .int x1), (2, .int x2)] [] h := by
  refine s_lconst (v := 0) d_M_load_46 (by decide) ?_
  refine s_lstore_n (lv' := [(0, .ref x0), (1, .int x1), (2, .int x2), (3, .long 0)]) d_M_load_47 rfl (by decide) rfl ?_
  refine s_iconst (v := 0) d_M_load_48 (by decide) ?_
  refine s_istore (lv' := [(0, .ref x0), (1, .int x1), (2, .int x2), (3, .long 0), (5, .int 0)]) d_M_load_49 (by decide) rfl ?_
  exact k
theorem b_M_load_51 {d : Nat} {A : Nat → Prop} {h2 : ah_H} {o : Outcome} {h0 : ah_H} {h : ah_H} {x0 : Nat} {x1 : Int32} {x2 : Int32} {x3 : Int64} {x5 : Int32} {v1 : Int32} (g1 : ah_sel h x0 7 2 = some (.int v1)) (kt : v1 ≤ x5 → ah_At mt_M_load d A h0 o h2 97 [(0, .ref x0), (1, .int x1), (2, .int x2), (3, .long x3)] [] h) (kf : ¬ (v1 ≤ x5) → ah_At mt_M_load d A h0 o h2 60 [(0, .ref x0), (1, .int x1), (2, .int x2), (3, .long x3), (5, .int x5)] [] h) : ah_At mt_M_load d A h0 o h2 51 [(0, .ref x0), (1, .int x1), (2, .int x2), (3, .long x3), (5, .int x5)] [] h := by
  refine s_iload d_M_load_51 rfl ?_
  refine s_aload_n d_M_load_53 rfl rfl ?_
  refine s_getfield (k := 2) d_M_load_54 kc7 (by decide) fl_M_70 g1 ?_
  refine s_if_icmpge (t := 97) d_M_load_57 (by decide) (fun z => ?_) (fun z => ?_)
  · exact ah_At.sub [0, 1, 2, 3] rfl (kt z)
  · exact (kf z)
theorem b_M_load_60 {d : Nat} {A : Nat → Prop} {h2 : ah_H} {o : Outcome} {h0 : ah_H} {h : ah_H} {x0 : Nat} {x1 : Int32} {x2 : Int32} {x3 : Int64} {x5 : Int32} {v1 : Nat} {v2 : Int32} {j2 : Nat} (g1 : ah_sel h x0 7 19 = some (.ref v1)) (i2 : ah_ix x5 j2) (g2 : ah_sel h v1 100 j2 = some (.int v2)) (kt : ¬ v2 = (x1 + 1) → ah_At mt_M_load d A h0 o h2 88 [(0, .ref x0), (1, .int x1), (2, .int x2), (5, .int x5)] [.long x3] h) (kf : ¬ (¬ v2 = (x1 + 1)) → ah_At mt_M_load d A h0 o h2 74 [(0, .ref x0), (1, .int x1), (2, .int x2), (5, .int x5)] [.long x3] h) : ah_At mt_M_load d A h0 o h2 60 [(0, .ref x0), (1, .int x1), (2, .int x2), (3, .long x3), (5, .int x5)] [] h := by
  refine s_lload_n d_M_load_60 rfl rfl ?_
  refine s_aload_n d_M_load_61 rfl rfl ?_
  refine s_getfield (k := 19) d_M_load_62 kc7 (by decide) fl_M_60 g1 ?_
  refine s_iload d_M_load_65 rfl ?_
  refine s_iaload d_M_load_67 i2 g2 ?_
  refine s_iload_n d_M_load_68 rfl rfl ?_
  refine s_iconst (v := 1) d_M_load_69 (by decide) ?_
  refine s_iadd d_M_load_70 ?_
  refine s_if_icmpne (t := 88) d_M_load_71 (by decide) (fun z => ?_) (fun z => ?_)
  · exact ah_At.sub [0, 1, 2, 4] rfl (kt z)
  · exact ah_At.sub [0, 1, 2, 4] rfl (kf z)
theorem b_M_load_74 {d : Nat} {A : Nat → Prop} {h2 : ah_H} {o : Outcome} {h0 : ah_H} {h : ah_H} {x0 : Nat} {x1 : Int32} {x2 : Int32} {x5 : Int32} {s0 : Int64} {v1 : Nat} {v2 : Int32} {j2 : Nat} {d' : Nat} {A' : Nat → Prop} {o' : Outcome} {h' : ah_H} (g1 : ah_sel h x0 7 10 = some (.ref v1)) (i2 : ah_ix x5 j2) (g2 : ah_sel h v1 100 j2 = some (.int v2)) (hE : ah_Ev mt_M_lengthOf d' A' [.int v2] h o' h') (hdd : d' + 1 ≤ d) (hAA : ∀ q, A' q → A q) (k : ah_aft mt_M_load d A h0 o h2 81 [(0, .ref x0), (1, .int x1), (2, .int x2), (5, .int x5)] [.long s0] h' o') : ah_At mt_M_load d A h0 o h2 74 [(0, .ref x0), (1, .int x1), (2, .int x2), (5, .int x5)] [.long s0] h := by
  refine s_aload_n d_M_load_74 rfl rfl ?_
  refine s_getfield (k := 10) d_M_load_75 kc7 (by decide) fl_M_33 g1 ?_
  refine s_iload d_M_load_78 rfl ?_
  refine s_iaload d_M_load_80 i2 g2 ?_
  exact ah_callS (av := [.int v2]) (st := [.long s0]) d_M_load_81 ml_M_97 ms_M_lengthOf hE hdd hAA rfl (Nat.le_of_ble_eq_true rfl) k
theorem b_M_load_84 {d : Nat} {A : Nat → Prop} {h2 : ah_H} {o : Outcome} {h0 : ah_H} {h : ah_H} {x0 : Nat} {x1 : Int32} {x2 : Int32} {x5 : Int32} {s0 : Int32} {s1 : Int64} (k : ah_At mt_M_load d A h0 o h2 89 [(0, .ref x0), (1, .int x1), (2, .int x2), (5, .int x5)] [.long (Int32.toInt64 s0), .long s1] h) : ah_At mt_M_load d A h0 o h2 84 [(0, .ref x0), (1, .int x1), (2, .int x2), (5, .int x5)] [.int s0, .long s1] h := by
  refine s_i2l d_M_load_84 ?_
  refine s_goto (t := 89) d_M_load_85 (by decide) ?_
  exact k
theorem b_M_load_88 {d : Nat} {A : Nat → Prop} {h2 : ah_H} {o : Outcome} {h0 : ah_H} {h : ah_H} {x0 : Nat} {x1 : Int32} {x2 : Int32} {x5 : Int32} {s0 : Int64} (k : ah_At mt_M_load d A h0 o h2 89 [(0, .ref x0), (1, .int x1), (2, .int x2), (5, .int x5)] [.long 0, .long s0] h) : ah_At mt_M_load d A h0 o h2 88 [(0, .ref x0), (1, .int x1), (2, .int x2), (5, .int x5)] [.long s0] h := by
  refine s_lconst (v := 0) d_M_load_88 (by decide) ?_
  exact k
theorem b_M_load_89 {d : Nat} {A : Nat → Prop} {h2 : ah_H} {o : Outcome} {h0 : ah_H} {h : ah_H} {x0 : Nat} {x1 : Int32} {x2 : Int32} {x5 : Int32} {s0 : Int64} {s1 : Int64} (k : ah_At mt_M_load d A h0 o h2 51 [(0, .ref x0), (1, .int x1), (2, .int x2), (3, .long (s1 + s0)), (5, .int (x5 + 1))] [] h) : ah_At mt_M_load d A h0 o h2 89 [(0, .ref x0), (1, .int x1), (2, .int x2), (5, .int x5)] [.long s0, .long s1] h := by
  refine s_ladd d_M_load_89 ?_
  refine s_lstore_n (lv' := [(0, .ref x0), (1, .int x1), (2, .int x2), (5, .int x5), (3, .long (s1 + s0))]) d_M_load_90 rfl (by decide) rfl ?_
  refine s_iinc (v := x5 + 1) (lv' := [(0, .ref x0), (1, .int x1), (2, .int x2), (5, .int (x5 + 1)), (3, .long (s1 + s0))]) d_M_load_91 rfl rfl (by decide) rfl ?_
  refine s_goto (t := 51) d_M_load_94 (by decide) ?_
  exact ah_At.sub [0, 1, 2, 4, 3] rfl k
theorem b_M_load_97 {d : Nat} {A : Nat → Prop} {h2 : ah_H} {o : Outcome} {h0 : ah_H} {h : ah_H} {x0 : Nat} {x1 : Int32} {x2 : Int32} {x3 : Int64} (kt : ¬ x2 = 0 → ah_At mt_M_load d A h0 o h2 110 [(0, .ref x0), (1, .int x1), (2, .int x2), (3, .long x3)] [] h) (kf : ¬ (¬ x2 = 0) → ah_At mt_M_load d A h0 o h2 101 [(0, .ref x0), (1, .int x1)] [] h) : ah_At mt_M_load d A h0 o h2 97 [(0, .ref x0), (1, .int x1), (2, .int x2), (3, .long x3)] [] h := by
  refine s_iload_n d_M_load_97 rfl rfl ?_
  refine s_ifne (t := 110) d_M_load_98 (by decide) (fun z => ?_) (fun z => ?_)
  · exact (kt z)
  · exact ah_At.sub [0, 1] rfl (kf z)
theorem b_M_load_101 {d : Nat} {A : Nat → Prop} {h2 : ah_H} {o : Outcome} {h0 : ah_H} {h : ah_H} {x0 : Nat} {x1 : Int32} {d' : Nat} {A' : Nat → Prop} {o' : Outcome} {h' : ah_H} (hE : ah_Ev mt_M_patternOf d' A' [.ref x0, .int x1] h o' h') (hdd : d' + 1 ≤ d) (hAA : ∀ q, A' q → A q) (k : ah_aft mt_M_load d A h0 o h2 103 [] [] h' o') (hb : (ah_len h x0 7).isSome = true) : ah_At mt_M_load d A h0 o h2 101 [(0, .ref x0), (1, .int x1)] [] h := by
  refine s_aload_n d_M_load_101 rfl rfl ?_
  refine s_iload_n d_M_load_102 rfl rfl ?_
  refine ah_At.sub [] rfl ?_
  exact ah_callV (av := [.int x1]) (st := []) d_M_load_103 ml_M_141 mi_M_patternOf mv_M_patternOf kc7 hb hE hdd hAA rfl (Nat.le_of_ble_eq_true rfl) k
theorem b_M_load_106 {d : Nat} {A : Nat → Prop} {h2 : ah_H} {o : Outcome} {h0 : ah_H} {h : ah_H} {s0 : Int32} (k : ah_At mt_M_load d A h0 o h2 143 [] [.long (Int32.toInt64 s0)] h) : ah_At mt_M_load d A h0 o h2 106 [] [.int s0] h := by
  refine s_i2l d_M_load_106 ?_
  refine s_goto (t := 143) d_M_load_107 (by decide) ?_
  exact k
theorem b_M_load_110 {d : Nat} {A : Nat → Prop} {h2 : ah_H} {o : Outcome} {h0 : ah_H} {h : ah_H} {x0 : Nat} {x1 : Int32} {x2 : Int32} {x3 : Int64} (kt : ¬ x2 = 1 → ah_At mt_M_load d A h0 o h2 129 [(0, .ref x0), (1, .int x1), (2, .int x2), (3, .long x3)] [] h) (kf : ¬ (¬ x2 = 1) → ah_At mt_M_load d A h0 o h2 115 [(0, .ref x0), (1, .int x1)] [] h) : ah_At mt_M_load d A h0 o h2 110 [(0, .ref x0), (1, .int x1), (2, .int x2), (3, .long x3)] [] h := by
  refine s_iload_n d_M_load_110 rfl rfl ?_
  refine s_iconst (v := 1) d_M_load_111 (by decide) ?_
  refine s_if_icmpne (t := 129) d_M_load_112 (by decide) (fun z => ?_) (fun z => ?_)
  · exact (kt z)
  · exact ah_At.sub [0, 1] rfl (kf z)
theorem b_M_load_115 {d : Nat} {A : Nat → Prop} {h2 : ah_H} {o : Outcome} {h0 : ah_H} {h : ah_H} {x0 : Nat} {x1 : Int32} {v1 : Nat} {d' : Nat} {A' : Nat → Prop} {o' : Outcome} {h' : ah_H} (g1 : ah_sel h x0 7 19 = some (.ref v1)) (hE : ah_Ev mt_M_countOf d' A' [.ref x0, .ref v1, .int x1, .int 0] h o' h') (hdd : d' + 1 ≤ d) (hAA : ∀ q, A' q → A q) (k : ah_aft mt_M_load d A h0 o h2 122 [] [] h' o') (hb : (ah_len h x0 7).isSome = true) : ah_At mt_M_load d A h0 o h2 115 [(0, .ref x0), (1, .int x1)] [] h := by
  refine s_aload_n d_M_load_115 rfl rfl ?_
  refine s_aload_n d_M_load_116 rfl rfl ?_
  refine s_getfield (k := 19) d_M_load_117 kc7 (by decide) fl_M_60 g1 ?_
  refine s_iload_n d_M_load_120 rfl rfl ?_
  refine s_iconst (v := 0) d_M_load_121 (by decide) ?_
  refine ah_At.sub [] rfl ?_
  exact ah_callV (av := [.ref v1, .int x1, .int 0]) (st := []) d_M_load_122 ml_M_107 mi_M_countOf mv_M_countOf kc7 hb hE hdd hAA rfl (Nat.le_of_ble_eq_true rfl) k
theorem b_M_load_125 {d : Nat} {A : Nat → Prop} {h2 : ah_H} {o : Outcome} {h0 : ah_H} {h : ah_H} {s0 : Int32} (k : ah_At mt_M_load d A h0 o h2 143 [] [.long (Int32.toInt64 s0)] h) : ah_At mt_M_load d A h0 o h2 125 [] [.int s0] h := by
  refine s_i2l d_M_load_125 ?_
  refine s_goto (t := 143) d_M_load_126 (by decide) ?_
  exact k
