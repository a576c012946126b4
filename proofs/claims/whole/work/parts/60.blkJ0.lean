/-! BLOCKS. Printed by wip/make.py. -/
theorem b_J_fill_0 {d : Nat} {A : Nat → Prop} {h2 : ah_H} {o : Outcome} {h0 : ah_H} {h : ah_H} {x0 : Nat} {x1 : Int32} {j1 : Nat} (g1 : ah_len h x0 100 = some j1) (k : ah_At mt_J_fill d A h0 o h2 5 [(0, .ref x0), (1, .int x1), (2, .int 0), (3, .int (Int32.ofNat j1))] [] h) : ah_At mt_J_fill d A h0 o h2 0 [(0, .ref x0), (1, .int x1)] [] h := by
  refine s_iconst (v := 0) d_J_fill_0 (by decide) ?_
  refine s_istore_n (lv' := [(0, .ref x0), (1, .int x1), (2, .int 0)]) d_J_fill_1 rfl (by decide) rfl ?_
  refine s_aload_n d_J_fill_2 rfl rfl ?_
  refine s_alen (t := 100) ⟨rfl, by decide, rfl⟩ d_J_fill_3 g1 rfl ?_
  refine s_istore_n (lv' := [(0, .ref x0), (1, .int x1), (2, .int 0), (3, .int (Int32.ofNat j1))]) d_J_fill_4 rfl (by decide) rfl ?_
  exact k
theorem b_J_fill_5 {d : Nat} {A : Nat → Prop} {h2 : ah_H} {o : Outcome} {h0 : ah_H} {h : ah_H} {x0 : Nat} {x1 : Int32} {x2 : Int32} {x3 : Int32} (kt : x3 ≤ x2 → ah_At mt_J_fill d A h0 o h2 20 [] [] h) (kf : ¬ (x3 ≤ x2) → ah_At mt_J_fill d A h0 o h2 10 [(0, .ref x0), (1, .int x1), (2, .int x2), (3, .int x3)] [] h) : ah_At mt_J_fill d A h0 o h2 5 [(0, .ref x0), (1, .int x1), (2, .int x2), (3, .int x3)] [] h := by
  refine s_iload_n d_J_fill_5 rfl rfl ?_
  refine s_iload_n d_J_fill_6 rfl rfl ?_
  refine s_if_icmpge (t := 20) d_J_fill_7 (by decide) (fun z => ?_) (fun z => ?_)
  · exact ah_At.sub [] rfl (kt z)
  · exact (kf z)
theorem b_J_fill_10 {d : Nat} {A : Nat → Prop} {h2 : ah_H} {o : Outcome} {h0 : ah_H} {h : ah_H} {x0 : Nat} {x1 : Int32} {x2 : Int32} {x3 : Int32} {j1 : Nat} (w1 : A x0) (i1 : ah_ix x2 j1) (e1 : (ah_sel h x0 100 j1).isSome = true) (k : ah_At mt_J_fill d A h0 o h2 5 [(0, .ref x0), (1, .int x1), (2, .int (x2 + 1)), (3, .int x3)] [] (ah_sto h x0 j1 (.int x1))) : ah_At mt_J_fill d A h0 o h2 10 [(0, .ref x0), (1, .int x1), (2, .int x2), (3, .int x3)] [] h := by
  refine s_aload_n d_J_fill_10 rfl rfl ?_
  refine s_iload_n d_J_fill_11 rfl rfl ?_
  refine s_iload_n d_J_fill_12 rfl rfl ?_
  refine s_iastore d_J_fill_13 w1 i1 e1 ?_
  refine s_iinc (v := x2 + 1) (lv' := [(0, .ref x0), (1, .int x1), (2, .int (x2 + 1)), (3, .int x3)]) d_J_fill_14 rfl rfl (by decide) rfl ?_
  refine s_goto (t := 5) d_J_fill_17 (by decide) ?_
  exact k
theorem b_J_fill_20 {d : Nat} {A : Nat → Prop} {h0 : ah_H} {h : ah_H}   : ah_At mt_J_fill d A h0 (.returned none) h 20 [] [] h := by
  exact e_vret d_J_fill_20 rfl
