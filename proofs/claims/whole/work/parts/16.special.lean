/-! ROWS of single instructions with a story of their own -/
section AhSpec
variable {M : ah_M} {d : Nat} {A : Nat → Prop} {h0 : ah_H} {o : Outcome} {h2 h h1 : ah_H} {pc : Nat} {lv : List (Nat × Value)} {st : List Value}
theorem s_putfieldE {ci k index N a : Nat} {C : String} {T : u_T} {ty : Nat → FieldType} {v : Value} (hd : decode M.2.1 pc = .ok (.putfield index, 3)) (hc : ah_cl ci C T N ty) (hk : k < N) (hl : ah_fl M.1.cls index (T k)) (hfin : (T k).2.2.2 = false ∨ ((T k).2.2.2 = true ∧ M.1.name = "<init>" ∧ (T k).1 = M.1.cls ∧ Cond.fieldLink M.1.cls index (T k).1 (T k).2.1 (T k).2.2.1 ∈ ah_W)) (hA : A a) (hf : ah_fit (ty k) v = true) (hs : (ah_sel h a ci k).isSome = true) (hh : ah_sto h a k v = h1) (n : ah_At M d A h0 o h2 (pc + 3) lv st h1) : ah_At M d A h0 o h2 pc lv (v :: .ref a :: st) h := by
  subst hh
  exact s_putfield hd hc hk hl hfin hA hf hs n
theorem s_newE {ci index N : Nat} {C : String} {T : u_T} {ty : Nat → FieldType} {fs : List Value} (hd : decode M.2.1 pc = .ok (.new index, 3)) (hc : ah_cl ci C T N ty) (hl : Cond.classLink M.1.cls index C ∈ ah_W) (hi : Cond.instantiable C N ∈ ah_W) (hini : Cond.initialized C ∈ ah_W) (hlen : fs.length = N) (hfs : ∀ j, j < N → defaultValue (ty j) = vp_V fs j) (hh : ah_new h (ci, fs) = h1) (n : ah_At M d A h0 o h2 (pc + 3) lv (.ref h.1 :: st) h1) : ah_At M d A h0 o h2 pc lv st h := by
  subst hh
  exact s_new hd hc hl hi hini hlen hfs n
theorem s_newarrayE {t : Nat} {at_ : ArrayType} {ty : FieldType} {i : Int32} {j : Nat} (ht : ah_ex t = none ∧ (¬ t = 97 ∧ ¬ t = 99) ∧ ah_ty t = some ty) (hty : newarray.typeOf at_ = ty) (hw : Cond.arrayClass ty ∈ ah_W) (hd : decode M.2.1 pc = .ok (.newarray at_, 2)) (hi : ah_ix i j) (hb : j * componentBytes ty ≤ 536870912) (hh : ah_new h (t, List.replicate j (defaultValue ty)) = h1) (n : ah_At M d A h0 o h2 (pc + 2) lv (.ref h.1 :: st) h1) : ah_At M d A h0 o h2 pc lv (.int i :: st) h := by
  subst hh
  exact s_newarray ht hty hw hd hi hb n
theorem s_anewarrayE {ci index N : Nat} {C : String} {T : u_T} {ty : Nat → FieldType} {i : Int32} {j : Nat} (hc : ah_cl ci C T N ty) (ht : ah_ex (110 + ci) = none ∧ (¬ (110 + ci) = 97 ∧ ¬ (110 + ci) = 99) ∧ ah_ty (110 + ci) = some (.object C)) (hl : Cond.classLink M.1.cls index C ∈ ah_W) (hv : Cond.arrayOver (.object C) ∈ ah_W) (hd : decode M.2.1 pc = .ok (.anewarray index, 3)) (hi : ah_ix i j) (hb : j * 4 ≤ 536870912) (hh : ah_new h (110 + ci, List.replicate j .null) = h1) (n : ah_At M d A h0 o h2 (pc + 3) lv (.ref h.1 :: st) h1) : ah_At M d A h0 o h2 pc lv (.int i :: st) h := by
  subst hh
  exact s_anewarray hc ht hl hv hd hi hb n
theorem s_aastoreE {ci N a j x : Nat} {C : String} {T : u_T} {ty : Nat → FieldType} {i : Int32} (hc : ah_cl ci C T N ty) (ht : ah_ex (110 + ci) = none ∧ (¬ (110 + ci) = 97 ∧ ¬ (110 + ci) = 99) ∧ ah_ty (110 + ci) = some (.object C)) (hd : decode M.2.1 pc = .ok (.aastore, 1)) (hA : A a) (hi : ah_ix i j) (hs : (ah_sel h a (110 + ci) j).isSome = true) (hx : (ah_len h x ci).isSome = true) (hh : ah_sto h a j (.ref x) = h1) (n : ah_At M d A h0 o h2 (pc + 1) lv st h1) : ah_At M d A h0 o h2 pc lv (.ref x :: .int i :: .ref a :: st) h := by
  subst hh
  exact s_aastore hc ht hd hA hi hs hx n
def ah_max (x y : Int32) : Int32 := if x < y then y else x
theorem ah_x0 : Cond.static Lib.Math.max.name ∈ ah_W := ah_in (by decide +kernel) rfl
theorem ah_x1 : Cond.initialized "java/lang/Math" ∈ ah_W := ah_in (by decide +kernel) rfl
theorem ah_x2 : Cond.code Lib.Math.max.name Lib.Math.max.code 2 (some .int) ∈ ah_W := ah_in (by decide +kernel) rfl
theorem s_max {index : Nat} {x y : Int32} (hd : decode M.2.1 pc = .ok (.invokestatic index, 3)) (hl : Cond.methodLink M.1.cls index Lib.Math.max.name ∈ ah_W) (hd1 : 1 ≤ d) (n : ah_At M d A h0 o h2 (pc + 3) lv (.int (ah_max x y) :: st) h) (hst : (st.map fun v => v.category).sum ≤ 8 := by exact Nat.le_of_ble_eq_true rfl) : ah_At M d A h0 o h2 pc lv (.int y :: .int x :: st) h := by
  refine ⟨n.1, fun p l e R s m args below meth c D H locs cells slots ls X z0 r1 r2 r3 r4 hP hL hl' => ?_⟩
  have hK := X.2.2.2.2.2.2.2.2.1
  have hfr := X.2.2.2.2.2.2.2.2.2.1
  have hlo := X.2.2.2.2.2.2.2.2.2.2.1
  have hn := n.1
  exact va_mmax X.1 X.2.1 (X.2.2.1.trans hl'.1.symm) X.2.2.2.2.2.2.1 (hK.w hl) (hK.w ah_x0) (hK.w ah_x1) (hK.w ah_x2) (by omega) (by omega) (by omega) (by omega) hd (n.2 p l e R s m args below meth c D H locs cells slots ls X z0 r1 r2 r3 r4 hP hL hl')
/-- new int[a][b] -/
def ah_mna (h : ah_H) (a b : Nat) : ah_H := (h.1 + 1 + a, h.2.1 + a + a * b, fun q => if q = h.1 then some (102, (List.range a).map fun i => .ref (h.1 + 1 + i)) else if h.1 < q ∧ q < h.1 + 1 + a then some (100, List.replicate b (.int 0)) else h.2.2 q)
theorem ah_x3 : Cond.arrayOver (.array .int) ∈ ah_W := ah_in (by decide +kernel) rfl
theorem ah_x4 : Cond.arrayClass .int ∈ ah_W := ah_in (by decide +kernel) rfl
/-- System.arraycopy of eight ints, from the first place to the first -/
def ah_copy8 (h : ah_H) (a b : Nat) : ah_H := (h.1, h.2.1, fun q => if q = b then h.2.2 a else h.2.2 q)
theorem ah_y0 : Cond.native arraycopyName ∈ ah_W := ah_in (by decide +kernel) rfl
theorem ah_y1 : Cond.static arraycopyName ∈ ah_W := ah_in (by decide +kernel) rfl
theorem ah_y2 : Cond.initialized "java/lang/System" ∈ ah_W := ah_in (by decide +kernel) rfl
theorem arrV_congr {c : ClassId} {n : Nat} {f g : Nat → Value} (h : ∀ j, j < n → f j = g j) : arrV c n f = arrV c n g := by
  unfold arrV
  congr 1
  apply Array.ext
  · simp
  · intro q hq1 hq2
    simp only [Array.getElem_ofFn]
    exact h q (by simpa using hq1)
def ah_i8 (f : Nat → Int32) : List Value := (List.range 8).map fun j => .int (f j)
theorem ah_i8_len (f : Nat → Int32) : (ah_i8 f).length = 8 := by simp [ah_i8]
theorem ah_i8_V (f : Nat → Int32) {j : Nat} (hj : j < 8) : vp_V (ah_i8 f) j = .int (f j) := by
  simp [vp_V, ah_i8, hj]
theorem s_copy8 {index a b : Nat} {f r : Nat → Int32} (hd : decode M.2.1 pc = .ok (.invokestatic index, 3)) (hl : Cond.methodLink M.1.cls index arraycopyName ∈ ah_W) (hd1 : 2 ≤ d) (hA : A b) (hab : a ≠ b) (g0 : h.2.2 a = some (100, ah_i8 f)) (g1 : h.2.2 b = some (100, ah_i8 r)) (n : ah_At M d A h0 o h2 (pc + 3) lv st (ah_copy8 h a b)) (hst : (st.map fun v => v.category).sum ≤ 8 := by exact Nat.le_of_ble_eq_true rfl) : ah_At M d A h0 o h2 pc lv (.int 8 :: .int 0 :: .ref b :: .int 0 :: .ref a :: st) h := by
  refine ⟨n.1, fun p l e R s m args below meth c D H locs cells slots ls X z0 r1 r2 r3 r4 hP hL hl' => ?_⟩
  have hK := X.2.2.2.2.2.2.2.2.1
  have hfr := X.2.2.2.2.2.2.2.2.2.1
  have hlo := X.2.2.2.2.2.2.2.2.2.2.1
  obtain ⟨c0, e0, a0, -⟩ := ah_cell_a (ty := .int) hP ⟨rfl, by decide, rfl⟩ g0
  obtain ⟨c1, e1, a1, a1'⟩ := ah_cell_a (ty := .int) hP ⟨rfl, by decide, rfl⟩ g1
  rw [ah_i8_len, arrV_congr (fun j hj => ah_i8_V f hj)] at e0
  rw [ah_i8_len, arrV_congr (fun j hj => ah_i8_V r hj)] at e1
  intro T hT Y
  obtain ⟨-, k0, hk0, cm0, hkk0⟩ := a0 8 (fun j => .int (f j))
  obtain ⟨-, k1, hk1, cm1, hkk1⟩ := a1 8 (fun j => .int (r j))
  obtain ⟨vm', X', step⟩ := Y.arraycopy X.1 X.2.2.2.2.2.2.1 (hK.w hl) (hK.w ah_y0) (hK.w ah_y1) (hK.w ah_y2) (src := a) (dst := b) (cs := arrV c0 8 (fun j => .int (f j))) (cd := arrV c1 8 (fun j => .int (r j))) (srcPos := 0) (destPos := 0) (n := 8) (by rw [hT]; exact e0) (by rw [hT]; exact e1)
    (fun _ h => by cases h) (fun _ h => by cases h) (fun h => by cases h) (fun h => by cases h) hk0 hk1 hkk0 hkk1 (by simp [refKind]) (by decide) (by decide) (by decide)
    (by rw [arrV_size]; decide) (by rw [arrV_size]; decide)
    (fun vm₁ _ i hi => by
      have hi8 : i < 8 := hi
      have e : (arrV c0 8 (fun j => Value.int (f j))).slots.getD ((0 : Int32).toNatClampNeg + i) .null = .int (f i) := by
        rw [show (0 : Int32).toNatClampNeg + i = i from by simp, Array.getD_eq_getD_getElem?, arrV_read _ _ hi8]
        rfl
      exact ⟨by rw [e]; rfl, by rw [e]; exact trivial⟩)
    (g := F0 m pc ls (.int 8 :: .int 0 :: .ref b :: .int 0 :: .ref a :: st)) rfl (hl'.1.trans X.2.2.1.symm) (rest := st) rfl (by rw [X.2.1]; exact hd) (by omega) (by
      have hw : nativeFrameWords "java/lang/System" "arraycopy" 5 + 11 ≤ 100 := by decide +kernel
      show 2 * 0 + _ + _ ≤ _
      omega)
  have ec : copied (arrV c0 8 (fun j => .int (f j))) (arrV c1 8 (fun j => .int (r j))) 0 0 8 = arrV c1 8 (fun j => .int (va_cpy f r 0 0 8 j)) := va_copied (fun z => .int z) c0 c1 f r (by decide)
  rw [ec, arrV_congr (g := fun j => .int (f j)) (fun j hj => by rw [pk_cpy_in (by omega) (by omega)]; simp)] at X' step
  have hlt : b < H.size := (Array.getElem?_eq_some_iff.mp e1).1
  have hheap : ((T.setVm vm').setCell b (arrV c1 8 (fun j => .int (f j)))).heap = H.setIfInBounds b (arrV c1 8 (fun j => .int (f j))) := by rw [← hT]; rfl
  have oq : ∀ q : Nat, q ≠ b → (H.setIfInBounds b (arrV c1 8 (fun j => Value.int (f j))))[q]? = H[q]? := fun q hq => by simp [Array.getElem?_setIfInBounds, Ne.symm hq]
  have hP' : ah_P D s (ah_copy8 h a b) (H.setIfInBounds b (arrV c1 8 (fun j => .int (f j)))) := by
    refine ⟨by simp; exact hP.1, fun q cq hq => ?_⟩
    by_cases hqb : q = b
    · subst hqb
      simp only [ah_copy8, if_true] at hq
      cases Option.some.inj (hq.symm.trans g0)
      rw [ah_ok_a rfl ⟨by decide, by decide⟩ (ty := .int) rfl, ah_i8_len]
      refine ⟨c1, ?_, a1, a1'⟩
      rw [arrV_congr (fun j hj => ah_i8_V f hj)]
      simp [Array.getElem?_setIfInBounds, hlt]
    · simp only [ah_copy8, if_neg hqb] at hq
      exact (hP.2 q cq hq).kept (oq q hqb)
  obtain ⟨t, b1, b2⟩ := n.2 p l e R s m args below meth c D _ _ cells slots ls X z0 r1 r2 r3 r4 hP' (fun q hq => by
    rcases List.mem_append.mp hq with z | z
    · exact hL q z
    · obtain ⟨w, -, hw⟩ := List.mem_map.mp z
      rw [← hw]
      exact hA) hl' _ hheap X'
  exact ⟨t, step t b1, b2⟩
end AhSpec
