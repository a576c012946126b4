/-! ROWS of single instructions with a story of their own -/
section AhSpec
variable {M : ah_M} {d : Nat} {A : Nat → Prop} {h0 : ah_H} {o : Outcome} {h2 h h1 : ah_H} {pc : Nat} {lv : List (Nat × Value)} {st : List Value}
theorem s_putfieldE {ci k index N a : Nat} {C : String} {T : u_T} {ty : Nat → FieldType} {v : Value} (hd : decode M.2.1 pc = .ok (.putfield index, 3)) (hc : ah_cl ci C T N ty) (hk : k < N) (hl : ah_fl M.1.cls index (T k)) (hfin : (T k).2.2.2 = false ∨ ((T k).2.2.2 = true ∧ M.1.name = "<init>" ∧ (T k).1 = M.1.cls ∧ Cond.fieldLink M.1.cls index (T k).1 (T k).2.1 (T k).2.2.1 ∈ ah_W)) (hA : A a) (hf : ah_fit (ty k) v = true) (hs : (ah_sel h a ci k).isSome = true) (hh : ah_sto h a k v = h1) (n : ah_At M d A h0 o h2 (pc + 3) lv st h1) : ah_At M d A h0 o h2 pc lv (v :: .ref a :: st) h := by
  subst hh
  exact s_putfield hd hc hk hl hfin hA hf hs n
theorem s_newE {ci index N : Nat} {C : String} {T : u_T} {ty : Nat → FieldType} {fs : List Value} (hd : decode M.2.1 pc = .ok (.new index, 3)) (hc : ah_cl ci C T N ty) (hl : Cond.classLink M.1.cls index C ∈ ah_W) (hi : Cond.instantiable C N ∈ ah_W) (hini : Cond.initialized C ∈ ah_W) (hlen : fs.length = N) (hfs : ∀ j, j < N → defaultValue (ty j) = vp_V fs j) (hh : ah_new h (ci, fs) = h1) (n : ah_At M d A h0 o h2 (pc + 3) lv (.ref h.1 :: st) h1) : ah_At M d A h0 o h2 pc lv st h := by
  subst hh
  exact s_new hd hc hl hi hini hlen hfs n
theorem s_newarrayE {t : Nat} {at_ : ArrayType} {ty : FieldType} {i : Int32} {j : Nat} (ht : ah_ex t = none ∧ ¬ t = 99 ∧ ah_ty t = some ty) (hty : newarray.typeOf at_ = ty) (hw : Cond.arrayClass ty ∈ ah_W) (hd : decode M.2.1 pc = .ok (.newarray at_, 2)) (hi : ah_ix i j) (hb : j * componentBytes ty ≤ 536870912) (hh : ah_new h (t, List.replicate j (defaultValue ty)) = h1) (n : ah_At M d A h0 o h2 (pc + 2) lv (.ref h.1 :: st) h1) : ah_At M d A h0 o h2 pc lv (.int i :: st) h := by
  subst hh
  exact s_newarray ht hty hw hd hi hb n
theorem s_anewarrayE {ci index N : Nat} {C : String} {T : u_T} {ty : Nat → FieldType} {i : Int32} {j : Nat} (hc : ah_cl ci C T N ty) (ht : ah_ex (110 + ci) = none ∧ ¬ (110 + ci) = 99 ∧ ah_ty (110 + ci) = some (.object C)) (hl : Cond.classLink M.1.cls index C ∈ ah_W) (hv : Cond.arrayOver (.object C) ∈ ah_W) (hd : decode M.2.1 pc = .ok (.anewarray index, 3)) (hi : ah_ix i j) (hb : j * 4 ≤ 536870912) (hh : ah_new h (110 + ci, List.replicate j .null) = h1) (n : ah_At M d A h0 o h2 (pc + 3) lv (.ref h.1 :: st) h1) : ah_At M d A h0 o h2 pc lv (.int i :: st) h := by
  subst hh
  exact s_anewarray hc ht hl hv hd hi hb n
theorem s_aastoreE {ci N a j x : Nat} {C : String} {T : u_T} {ty : Nat → FieldType} {i : Int32} (hc : ah_cl ci C T N ty) (ht : ah_ex (110 + ci) = none ∧ ¬ (110 + ci) = 99 ∧ ah_ty (110 + ci) = some (.object C)) (hd : decode M.2.1 pc = .ok (.aastore, 1)) (hA : A a) (hi : ah_ix i j) (hs : (ah_sel h a (110 + ci) j).isSome = true) (hx : (ah_len h x ci).isSome = true) (hh : ah_sto h a j (.ref x) = h1) (n : ah_At M d A h0 o h2 (pc + 1) lv st h1) : ah_At M d A h0 o h2 pc lv (.ref x :: .int i :: .ref a :: st) h := by
  subst hh
  exact s_aastore hc ht hd hA hi hs hx n
def ah_max (x y : Int32) : Int32 := if x < y then y else x
theorem ah_x0 : Cond.static Lib.Math.max.name ∈ ah_W := ah_in (by decide +kernel) rfl
theorem ah_x1 : Cond.initialized "java/lang/Math" ∈ ah_W := ah_in (by decide +kernel) rfl
theorem ah_x2 : Cond.code Lib.Math.max.name Lib.Math.max.code 2 (some .int) ∈ ah_W := ah_in (by decide +kernel) rfl
theorem s_max {index : Nat} {x y : Int32} (hd : decode M.2.1 pc = .ok (.invokestatic index, 3)) (hl : Cond.methodLink M.1.cls index Lib.Math.max.name ∈ ah_W) (hd1 : 1 ≤ d) (n : ah_At M d A h0 o h2 (pc + 3) lv (.int (ah_max x y) :: st) h) (hst : (st.map fun v => v.category).sum ≤ 8 := by decide) : ah_At M d A h0 o h2 pc lv (.int y :: .int x :: st) h := by
  refine ⟨n.1, fun p l e R s m args below meth c D H locs cells slots ls X z0 r1 r2 r3 r4 hP hL hl' => ?_⟩
  have hK := X.2.2.2.2.2.2.2.2.1
  have hfr := X.2.2.2.2.2.2.2.2.2.1
  have hlo := X.2.2.2.2.2.2.2.2.2.2.1
  have hn := n.1
  exact va_mmax X.1 X.2.1 (X.2.2.1.trans hl'.1.symm) X.2.2.2.2.2.2.1 (hK.w hl) (hK.w ah_x0) (hK.w ah_x1) (hK.w ah_x2) (by omega) (by omega) (by omega) (by omega) hd (n.2 p l e R s m args below meth c D H locs cells slots ls X z0 r1 r2 r3 r4 hP hL hl')
/-- new int[a][b] -/
def ah_mna (h : ah_H) (a b : Nat) : ah_H := (h.1 + 1 + a, h.2.1 + a + a * b, fun q => if q = h.1 then some (102, (List.range a).map fun i => .ref (h.1 + 1 + i)) else if h.1 < q ∧ q < h.1 + 1 + a then some (100, List.replicate b (.int 0)) else h.2.2 q)
theorem ah_x3 : Cond.arrayOver (.array .int) ∈ ah_W := ah_in (by decide +kernel) rfl
theorem ah_x4 : Cond.arrayClass .int ∈ ah_W := ah_in (by decide +kernel) rfl
end AhSpec
