/-! THE LAYER. The heap as a function of addresses, a method as a record; 'ah_At': from this place, with these locals, this stack and this heap, the method ends so. -/
abbrev ah_C : Type := Nat × List Value
/-- size, slots, cells -/
abbrev ah_H : Type := Nat × Nat × (Nat → Option ah_C)
def ah_sel (h : ah_H) (a t i : Nat) : Option Value := match h.2.2 a with
  | some c => if c.1 = t then c.2[i]? else none
  | none => none
def ah_len (h : ah_H) (a t : Nat) : Option Nat := match h.2.2 a with
  | some c => if c.1 = t then some c.2.length else none
  | none => none
def ah_sto (h : ah_H) (a i : Nat) (v : Value) : ah_H := (h.1, h.2.1, fun q => if q = a then (h.2.2 a).map (fun c => (c.1, c.2.set i v)) else h.2.2 q)
/-- a new exception: six fields -/
def ah_newx (h : ah_H) (t : Nat) : ah_H := (h.1 + 1, h.2.1 + 6, fun q => if q = h.1 then some (t, []) else h.2.2 q)
def ah_new (h : ah_H) (c : ah_C) : ah_H := (h.1 + 1, h.2.1 + c.2.length, fun q => if q = h.1 then some c else h.2.2 q)
/-- a method: its name, its bytes, how many locals, what it returns, its handlers -/
abbrev ah_M : Type := MethodName × ByteArray × Nat × Option FieldType × List (Nat × Nat × Nat × Nat)
def ah_cw (M : ah_M) : Cond := match M.2.2.2.2 with
  | [] => .code M.1 M.2.1 M.2.2.1 M.2.2.2.1
  | x :: r => .codeWith M.1 M.2.1 M.2.2.1 M.2.2.2.1 (x :: r)
/-- words that stay true under warmer tables -/
def ah_wk (w : Cond) : Bool := (w.onTables && w.keeps) || match w with
  | .arrayClass _ => true
  | .fieldLinkNest .. => true
  | .methodLinkNest .. => true
  | .arrayOver (.object _) => true
  | .arrayOver (.array _) => true
  | .declares _ => true
  | .castable .. => true
  | .stringRef .. => true
  | .not (.castable ..) => true
  | _ => false
/-- of the Statement's pairs that can't be cast those that the law's handlers ask for -/
def ah_xt : List Cond := [.not (.castable "java/lang/IllegalStateException" "java/lang/IllegalArgumentException"), .not (.castable "java/util/NoSuchElementException" "java/lang/IndexOutOfBoundsException"), .not (.castable "java/lang/ArithmeticException" "java/lang/IndexOutOfBoundsException"), .not (.castable "java/lang/ArithmeticException" "java/util/NoSuchElementException")]
def ah_W : List Cond := (lw_tbl ++ ah_xt).filter ah_wk
theorem ah_in {w : Cond} (h : w ∈ lw_tbl) (hk : ah_wk w = true) : w ∈ ah_W := List.mem_filter.mpr ⟨List.mem_append_left _ h, hk⟩
theorem ah_inx {w : Cond} (h : w ∈ ah_xt) (hk : ah_wk w = true) : w ∈ ah_W := List.mem_filter.mpr ⟨List.mem_append_right _ h, hk⟩
theorem ah_wk_or {w : Cond} (h : ah_wk w = true) : ((w.onTables && w.keeps) = true ∨ ∃ ty, w = .arrayClass ty) ∨ (∃ a i b n d x, w = .fieldLinkNest a i b n d x) ∨ (∃ a i x y, w = .methodLinkNest a i x y) ∨ (∃ C, w = .arrayOver (.object C)) ∨ (∃ t, w = .arrayOver (.array t)) ∨ (∃ x, w = .declares x) ∨ (∃ a b, w = .castable a b) ∨ (∃ a i t, w = .stringRef a i t) ∨ ∃ a b, w = .not (.castable a b) := by
  unfold ah_wk at h
  rw [Bool.or_eq_true] at h
  rcases h with h | h
  · exact Or.inl (Or.inl h)
  · split at h
    · exact Or.inl (Or.inr ⟨_, rfl⟩)
    · exact Or.inr (Or.inl ⟨_, _, _, _, _, _, rfl⟩)
    · exact Or.inr (Or.inr (Or.inl ⟨_, _, _, _, rfl⟩))
    · exact Or.inr (Or.inr (Or.inr (Or.inl ⟨_, rfl⟩)))
    · exact Or.inr (Or.inr (Or.inr (Or.inr (Or.inl ⟨_, rfl⟩))))
    · exact Or.inr (Or.inr (Or.inr (Or.inr (Or.inr (Or.inl ⟨_, rfl⟩)))))
    · exact Or.inr (Or.inr (Or.inr (Or.inr (Or.inr (Or.inr (Or.inl ⟨_, _, rfl⟩))))))
    · exact Or.inr (Or.inr (Or.inr (Or.inr (Or.inr (Or.inr (Or.inr (Or.inl ⟨_, _, _, rfl⟩)))))))
    · exact Or.inr (Or.inr (Or.inr (Or.inr (Or.inr (Or.inr (Or.inr (Or.inr ⟨_, _, rfl⟩)))))))
    · cases h
theorem ah_AOs {t : FieldType} {A : Array Value} {U : State} (h : (Cond.arrayOver (.array t)).before A U = true) : ∃ comp c k, U.vm.findClass (FieldType.array t).toString = some comp ∧ (U.vm.classes.findIdx? fun (x : Class) => match x.kind with | .array component _ => component == comp | _ => false) = some c ∧ U.vm.classes[c]? = some k ∧ k.kind = .array comp (.array t) ∧ U.vm.findClass ("[" ++ (FieldType.array t).toString) = some c := by
  simp only [Cond.before, Cond.holds, Cond.value, beq_iff_eq] at h
  cases hf : U.vm.findClass (FieldType.array t).toString with
  | none => simp [hf] at h
  | some comp =>
    simp only [hf, Option.bind_some, Option.bind_eq_some_iff, Option.map_eq_some_iff] at h
    obtain ⟨c, hi, k, hk, hb⟩ := h
    obtain ⟨_, hp, -⟩ := Array.findIdx?_eq_some_iff_getElem.mp hi
    rw [(Array.getElem?_eq_some_iff.mp hk).2] at hp
    cases hkind : k.kind with
    | array component ty =>
      rw [hkind] at hb hp
      simp at hb hp
      exact ⟨comp, c, k, rfl, hi, hk, by rw [hkind, hp, hb.1], hb.2⟩
    | _ => rw [hkind] at hb; simp at hb
theorem ah_AOA {t : FieldType} {u U : State} (hvm : u.vm.Alike U.vm) (h : (Cond.arrayOver (.array t)).before #[] u = true) : (Cond.arrayOver (.array t)).before #[] U = true := by
  obtain ⟨comp, c, k, h1, h2, h3, h4, h5⟩ := ah_AOs h
  obtain ⟨k', hk', he⟩ := hvm.2.2 _ _ h3
  have hi : (U.vm.classes.findIdx? fun (x : Class) => match x.kind with | .array component _ => component == comp | _ => false) = some c := by
    refine (va_idx_bare U.vm comp).symm.trans ?_
    first | rw [hvm.bare_eq] | rw [← hvm.bare_eq]
    exact (va_idx_bare u.vm comp).trans h2
  have hkind : k'.kind = .array comp (.array t) := by rw [he]; exact h4
  have f1 : U.vm.findClass (FieldType.array t).toString = some comp := by rw [hvm.findClass]; exact h1
  have f2 : U.vm.findClass ("[" ++ (FieldType.array t).toString) = some c := by rw [hvm.findClass]; exact h5
  unfold Cond.before Cond.holds
  simp only [Cond.value]
  rw [f1, Option.bind_some]
  refine (congrArg (fun o : Option Nat => (o.bind (fun c => (U.vm.classes[c]?).map fun (k : Class) => match k.kind with | .array _ ty => decide (ty = FieldType.array t) && decide (U.vm.findClass ("[" ++ (FieldType.array t).toString) = some c) | _ => false) == some true)) hi).trans ?_
  simp [hk', hkind, f2]
theorem ah_Nw_moved {w : Cond} {s U : State} (hk : ah_wk w = true) (hW : s.WarmedH U.vm) (h : va_Nw w s) : va_Nw w U := by
  rcases ah_wk_or hk with h1 | ⟨a, i, b, n, d, x, rfl⟩ | ⟨a, i, x, y, rfl⟩ | ⟨C, rfl⟩ | ⟨t, rfl⟩ | ⟨x, rfl⟩ | ⟨a, b, rfl⟩ | ⟨a, i, t, rfl⟩ | ⟨a, b, rfl⟩
  · exact word_at hW h1 h
  · exact va_Nw.warmF hW h
  · exact va_Nw.warmM hW h
  · exact va_AO.moved hW.alike h
  · exact ah_AOA hW.alike h
  · exact va_tabs rfl (rfl : (s.setVm U.vm).vm = U.vm) (by rw [Cond.declares_setVm hW.alike]; exact h)
  · exact va_tabs rfl (rfl : (s.setVm U.vm).vm = U.vm) (by rw [Cond.castable_setVm hW.alike]; exact h)
  · have h9 := Cond.stringRef_warmed hW h
    show (Cond.stringRef a i t).before #[] U = true
    simp only [Cond.before, Cond.holds, Cond.value, State.names, State.poolOf?, State.resolvedAt?] at h9 ⊢
    exact h9
  · have h : (Cond.not (.castable a b)).before #[] s = true := h
    show (Cond.not (.castable a b)).before #[] U = true
    simp only [Cond.before, Cond.holds, Cond.value, hW.alike.findClass, hW.alike.assignable] at h ⊢
    exact h
/-- what the tables say -/
def ah_K (D : va_G) (U : State) : Prop := (∀ w ∈ ah_W, va_Nw w U) ∧ ∀ (ci : Nat) (r : vw_C), vwCl[ci]? = some r → u_Kn U r.1 r.2.1 r.2.2 (D.1 ci) (D.2 ci)
theorem ah_K.moved {D : va_G} {s U : State} (h : ah_K D s) (hW : s.WarmedH U.vm) : ah_K D U :=
  ⟨fun w hw => ah_Nw_moved (List.mem_filter.mp hw).2 hW (h.1 w hw), fun ci r hr => u_Kn_moved hW.alike (h.2 ci r hr)⟩
theorem ah_K.w {D : va_G} {s : State} (h : ah_K D s) {w : Cond} (hw : w ∈ ah_W) {args : Array Value} : w.before args s = true := by
  rcases ah_wk_or (List.mem_filter.mp hw).2 with h1 | ⟨a, i, b, n, d, x, rfl⟩ | ⟨a, i, x, y, rfl⟩ | ⟨C, rfl⟩ | ⟨t, rfl⟩ | ⟨x, rfl⟩ | ⟨a, b, rfl⟩ | ⟨a, i, t, rfl⟩ | ⟨a, b, rfl⟩
  · exact word_at (State.WarmedH.refl s) h1 (h.1 _ hw)
  · exact va_Nw.use rfl (h.1 _ hw)
  · exact va_Nw.use rfl (h.1 _ hw)
  · exact va_AO.use (h.1 _ hw)
  · exact (h.1 _ hw : (Cond.arrayOver (.array t)).before #[] s = true)
  · exact va_Nw.use rfl (h.1 _ hw)
  · exact va_Nw.use rfl (h.1 _ hw)
  · have h9 : (Cond.stringRef a i t).before #[] s = true := h.1 _ hw
    simp only [Cond.before, Cond.holds, Cond.value, State.names, State.poolOf?, State.resolvedAt?] at h9 ⊢
    exact h9
  · exact (h.1 _ hw : (Cond.not (.castable a b)).before #[] s = true)
theorem ah_K.k {D : va_G} {s : State} (h : ah_K D s) : va_K D vwCl [] s := ⟨h.2, fun k q hq => by simp at hq⟩
/-- the arrays' marks: 100 int[], 101 long[], 102 int[][], 110 + i an array of objects of class i -/
def ah_ty (t : Nat) : Option FieldType := if t < 100 then none else if t = 100 then some .int else if t = 101 then some .long else if t = 102 then some (.array .int) else if t = 103 then some .boolean else (vwCl[t - 110]?).map fun r => .object r.1
/-- exceptions: 90 .. 94; nobody asks what their fields hold -/
def ah_ex (t : Nat) : Option String := if t = 90 then some "java/lang/IllegalArgumentException" else if t = 91 then some "java/lang/IllegalStateException" else if t = 92 then some "java/lang/IndexOutOfBoundsException" else if t = 93 then some "java/util/NoSuchElementException" else if t = 94 then some "java/lang/ArithmeticException" else none
/-- Throwable's own statics: two that hold a reference, or null -/
def ah_st1 (n d : String) (U : State) (H : Heap) (a : Nat) : Prop := ∃ (cf : ClassId) (kf : Class) (fi : Nat) (f : Field) (cell : Cell) (v : Value), (U.fieldFound? "java/lang/Throwable" n d = some (cf, kf, fi, f) ∧ U.vm.findClass "java/lang/Throwable" = some cf ∧ cell.cls = cf ∧ kf.staticTypes[f.slot]? = some f.type) ∧ f.isStatic = true ∧ kf.statics = some a ∧ H[a]? = some cell ∧ cell.vm.isStatics = true ∧ cell.slots[f.slot]? = some v ∧ v.isRef = true
theorem ah_st1.moved {n d : String} {u U : State} {H : Heap} {a : Nat} (hvm : u.vm.Alike U.vm) (h : ah_st1 n d u H a) : ah_st1 n d U H a := by
  obtain ⟨cf, kf, fi, f, cell, v, ⟨h1, g1, g2, g3⟩, h2, h3, h4⟩ := h
  obtain ⟨k', hi', he⟩ := State.fieldFound?_setVm hvm h1
  exact ⟨cf, k', fi, f, cell, v, ⟨hi', by rw [hvm.findClass]; exact g1, g2, by rw [he]; exact g3⟩, h2, by rw [he]; exact h3, h4⟩
theorem ah_st1.kept {n d : String} {U : State} {H H1 : Heap} {a : Nat} (h : ah_st1 n d U H a) (hq : H1[a]? = H[a]?) : ah_st1 n d U H1 a := by
  obtain ⟨cf, kf, fi, f, cell, v, h1, h2, h3, h4, h5⟩ := h
  exact ⟨cf, kf, fi, f, cell, v, h1, h2, h3, hq.trans h4, h5⟩
theorem ah_st1.ref {n d : String} {U : State} {a : Nat} {args : Array Value} (h : ah_st1 n d U U.heap a) : (Cond.isRef (.static "java/lang/Throwable" n d)).before args U = true := by
  obtain ⟨cf, kf, fi, f, cell, v, ⟨h1, -, -, -⟩, h2, h3, h4, h5, h6, h7⟩ := h
  have e : (Term.static "java/lang/Throwable" n d).eval args U none [] U = some v := by
    simp [Term.eval, State.fieldNamed?, h1, h2, h3, h4, h5, h6]
  simp only [Cond.before, Cond.holds, Cond.value, e]
  cases v <;> simp_all [Value.isRef]
theorem ah_st1.lays {n d : String} {U : State} {a : Nat} {args : Array Value} (h : ah_st1 n d U U.heap a) : (Cond.laysStatic "java/lang/Throwable" n d).before args U = true := by
  obtain ⟨cf, kf, fi, f, cell, v, ⟨h1, g1, g2, g3⟩, h2, h3, h4, h5, h6, h7⟩ := h
  exact Cond.laysStatic_of g1 h1 h2 h3 h4 h5 g2 (Array.getElem?_eq_some_iff.mp h6).1 g3
def ah_st2 (U : State) (H : Heap) (a : Nat) : Prop := ah_st1 "UNASSIGNED_STACK" "[Ljava/lang/StackTraceElement;" U H a ∧ ah_st1 "SUPPRESSED_SENTINEL" "Ljava/util/List;" U H a
def ah_ok (D : va_G) (U : State) (H : Heap) (a : Nat) (c : ah_C) : Prop := match ah_ex c.1 with
  | some E => ∃ cell : Cell, H[a]? = some cell ∧ U.vm.findClass E = some cell.cls ∧ ∀ k, cell.vm ≠ .statics k
  | none => if c.1 = 97 then ah_st2 U H a else if c.1 = 99 then ∃ cell : Cell, H[a]? = some cell ∧ U.isArrayOf cell .int ∧ cell.vm ≠ .unknown ∧ cell.slots.toList = c.2 else match ah_ty c.1 with
    | some ty => ∃ cA : ClassId, H[a]? = some (arrV cA c.2.length (vp_V c.2)) ∧ ArrOfT U cA ty ∧ va_RA U cA ty
    | none => ∃ r : vw_C, vwCl[c.1]? = some r ∧ c.2.length = r.2.2 ∧ t_OB a (D.1 c.1) r.2.2 (D.2 c.1) H (vp_V c.2)
theorem ah_ok_z {D : va_G} {U : State} {H : Heap} {a : Nat} {fs : List Value} : ah_ok D U H a (97, fs) ↔ ah_st2 U H a := by
  unfold ah_ok
  simp only [show ah_ex 97 = none from rfl, if_true]
theorem ah_ty97 : ah_ty 97 = none := rfl
theorem ah_ok_e {D : va_G} {U : State} {H : Heap} {a t : Nat} {fs : List Value} {E : String} (hx : ah_ex t = some E) : ah_ok D U H a (t, fs) ↔ ∃ cell : Cell, H[a]? = some cell ∧ U.vm.findClass E = some cell.cls ∧ ∀ k, cell.vm ≠ .statics k := by
  unfold ah_ok
  simp only [hx]
theorem ah_ok_s {D : va_G} {U : State} {H : Heap} {a : Nat} {fs : List Value} : ah_ok D U H a (99, fs) ↔ ∃ cell : Cell, H[a]? = some cell ∧ U.isArrayOf cell .int ∧ cell.vm ≠ .unknown ∧ cell.slots.toList = fs := by
  unfold ah_ok
  simp only [show ah_ex 99 = none from rfl, show ¬ (99 = 97) from by decide, if_true, if_false]
theorem ah_ok_o {D : va_G} {U : State} {H : Heap} {a t : Nat} {fs : List Value} (hx : ah_ex t = none) (h9 : ¬ t = 97 ∧ ¬ t = 99) (ht : ah_ty t = none) : ah_ok D U H a (t, fs) ↔ ∃ r : vw_C, vwCl[t]? = some r ∧ fs.length = r.2.2 ∧ t_OB a (D.1 t) r.2.2 (D.2 t) H (vp_V fs) := by
  unfold ah_ok
  simp only [hx, ht, if_neg h9.1, if_neg h9.2]
theorem ah_ok_a {D : va_G} {U : State} {H : Heap} {a t : Nat} {fs : List Value} {ty : FieldType} (hx : ah_ex t = none) (h9 : ¬ t = 97 ∧ ¬ t = 99) (ht : ah_ty t = some ty) : ah_ok D U H a (t, fs) ↔ ∃ cA : ClassId, H[a]? = some (arrV cA fs.length (vp_V fs)) ∧ ArrOfT U cA ty ∧ va_RA U cA ty := by
  unfold ah_ok
  simp only [hx, ht, if_neg h9.1, if_neg h9.2]
theorem ah_ok.moved {D : va_G} {u U : State} (hvm : u.vm.Alike U.vm) {H : Heap} {a : Nat} {c : ah_C} (h : ah_ok D u H a c) : ah_ok D U H a c := by
  obtain ⟨t, fs⟩ := c
  cases hx : ah_ex t with
  | some E =>
    rw [ah_ok_e hx] at h ⊢
    obtain ⟨cell, h1, h2, h3⟩ := h
    exact ⟨cell, h1, by rw [hvm.findClass]; exact h2, h3⟩
  | none =>
    by_cases h7 : t = 97
    · subst h7
      rw [ah_ok_z] at h ⊢
      exact ⟨h.1.moved hvm, h.2.moved hvm⟩
    by_cases h9' : t = 99
    · subst h9'
      rw [ah_ok_s] at h ⊢
      obtain ⟨cell, h1, h2, h3⟩ := h
      exact ⟨cell, h1, State.isArrayOf_alike hvm h2, h3⟩
    have h9 : ¬ t = 97 ∧ ¬ t = 99 := ⟨h7, h9'⟩
    cases ht : ah_ty t with
    | none => rw [ah_ok_o hx h9 ht] at h ⊢; exact h
    | some ty =>
      rw [ah_ok_a hx h9 ht] at h ⊢
      obtain ⟨cA, h1, h2, h3⟩ := h
      exact ⟨cA, h1, arrOfT_moved hvm h2, h3.moved hvm⟩
theorem ah_ok.kept {D : va_G} {U : State} {H H1 : Heap} {a : Nat} {c : ah_C} (h : ah_ok D U H a c) (hq : H1[a]? = H[a]?) : ah_ok D U H1 a c := by
  obtain ⟨t, fs⟩ := c
  cases hx : ah_ex t with
  | some E =>
    rw [ah_ok_e hx] at h ⊢
    obtain ⟨cell, h1, h2⟩ := h
    exact ⟨cell, hq.trans h1, h2⟩
  | none =>
    by_cases h7 : t = 97
    · subst h7
      rw [ah_ok_z] at h ⊢
      exact ⟨h.1.kept hq, h.2.kept hq⟩
    by_cases h9' : t = 99
    · subst h9'
      rw [ah_ok_s] at h ⊢
      obtain ⟨cell, h1, h2⟩ := h
      exact ⟨cell, hq.trans h1, h2⟩
    have h9 : ¬ t = 97 ∧ ¬ t = 99 := ⟨h7, h9'⟩
    cases ht : ah_ty t with
    | none =>
      rw [ah_ok_o hx h9 ht] at h ⊢
      obtain ⟨r, h1, h2, h3⟩ := h
      exact ⟨r, h1, h2, h3.kept hq⟩
    | some ty =>
      rw [ah_ok_a hx h9 ht] at h ⊢
      obtain ⟨cA, h1, h2, h3⟩ := h
      exact ⟨cA, hq.trans h1, h2, h3⟩
theorem ah_ok.lt {D : va_G} {U : State} {H : Heap} {a : Nat} {c : ah_C} (h : ah_ok D U H a c) : a < H.size := by
  obtain ⟨t, fs⟩ := c
  cases hx : ah_ex t with
  | some E =>
    rw [ah_ok_e hx] at h
    obtain ⟨cell, h1, -⟩ := h
    exact (Array.getElem?_eq_some_iff.mp h1).1
  | none =>
    by_cases h7 : t = 97
    · subst h7
      rw [ah_ok_z] at h
      obtain ⟨cf, kf, fi, f, cell, v, -, -, -, h4, -⟩ := h.1
      exact (Array.getElem?_eq_some_iff.mp h4).1
    by_cases h9' : t = 99
    · subst h9'
      rw [ah_ok_s] at h
      obtain ⟨cell, h1, -⟩ := h
      exact (Array.getElem?_eq_some_iff.mp h1).1
    have h9 : ¬ t = 97 ∧ ¬ t = 99 := ⟨h7, h9'⟩
    cases ht : ah_ty t with
    | none =>
      rw [ah_ok_o hx h9 ht] at h
      obtain ⟨r, h1, h2, cell, h3, -⟩ := h
      exact (Array.getElem?_eq_some_iff.mp h3).1
    | some ty =>
      rw [ah_ok_a hx h9 ht] at h
      obtain ⟨cA, h1, -⟩ := h
      exact (Array.getElem?_eq_some_iff.mp h1).1
def ah_P (D : va_G) (U : State) (h : ah_H) (H : Heap) : Prop := H.size = h.1 ∧ ∀ (a : Nat) (c : ah_C), h.2.2 a = some c → ah_ok D U H a c
theorem ah_P.moved {D : va_G} {u U : State} (hvm : u.vm.Alike U.vm) {h : ah_H} {H : Heap} (hP : ah_P D u h H) : ah_P D U h H := ⟨hP.1, fun a c hc => (hP.2 a c hc).moved hvm⟩
theorem ah_P.sto {D : va_G} {U : State} {h : ah_H} {H H1 : Heap} {a i : Nat} {v : Value} (hP : ah_P D U h H) (hz : H1.size = H.size) (ho : ∀ q : Nat, q ≠ a → H1[q]? = H[q]?) (hc : ∀ c, h.2.2 a = some c → ah_ok D U H1 a (c.1, c.2.set i v)) : ah_P D U (ah_sto h a i v) H1 := by
  refine ⟨hz.trans hP.1, fun q c hq => ?_⟩
  by_cases he : q = a
  · subst he
    simp only [ah_sto, if_true] at hq
    cases hx : h.2.2 q with
    | none => rw [hx] at hq; cases hq
    | some c0 =>
      rw [hx] at hq
      cases hq
      exact hc c0 hx
  · simp only [ah_sto, if_neg he] at hq
    exact (hP.2 q c hq).kept (ho q he)
theorem ah_P.new {D : va_G} {U : State} {h : ah_H} {H H1 : Heap} {c : ah_C} (hP : ah_P D U h H) (hz : H1.size = H.size + 1) (ho : ∀ q : Nat, q < H.size → H1[q]? = H[q]?) (hc : ah_ok D U H1 h.1 c) : ah_P D U (ah_new h c) H1 := by
  refine ⟨by rw [hz, hP.1]; rfl, fun q c' hq => ?_⟩
  by_cases he : q = h.1
  · subst he
    simp only [ah_new, if_true] at hq
    cases hq
    exact hc
  · simp only [ah_new, if_neg he] at hq
    have h1 := hP.2 q c' hq
    exact h1.kept (ho q h1.lt)
theorem ah_sel_some {h : ah_H} {a t i : Nat} {v : Value} (hs : ah_sel h a t i = some v) : ∃ fs, h.2.2 a = some (t, fs) ∧ fs[i]? = some v := by
  unfold ah_sel at hs
  split at hs
  · next c hc =>
    split at hs
    · next ht => exact ⟨c.2, by rw [hc, ← ht], hs⟩
    · cases hs
  · cases hs
/-- what stands fast through a method's walk -/
def ah_X (M : ah_M) (d : Nat) (p : Program) (l : Launch) (R : Room) (s : State) (m : MethodId) (meth : Method) (c : Code) (D : va_G) : Prop :=
  p.tables.exec = Jvm.exec ∧ c.code = M.2.1 ∧ c.maxLocals = M.2.2.1 ∧ meth.sig.returnType = M.2.2.2.1 ∧ meth.locks = false ∧ meth.name = M.1.name ∧ s.vm.findClass M.1.cls = some m.cls ∧
  c.exceptionTable.toList.map (fun x => (x.startPc, x.endPc, x.handlerPc, x.catchType)) = M.2.2.2.2 ∧ ah_K D s ∧ d ≤ R.frames ∧ 64 * d ≤ R.locals ∧ l.stackTraces = false
def ah_Fr (s t : State) (L : List Loc) (k n : Nat) : Prop := s.WarmedH t.vm ∧ s.sameButNew ({ t with vm := s.vm } : State) L k n
def ah_Q (below : List Frame) (D : va_G) (s : State) (A : Nat → Prop) (o : Outcome) (h2 : ah_H) (k n : Nat) : State → Prop := fun t =>
  t.status = .running ∧ Ended t below o ∧ ah_P D t h2 t.heap ∧ ∃ L, ah_Fr s t L k n ∧ ∀ q ∈ L, A q.base
/-- THE JUDGEMENT: h0 is the heap at the method's entry -/
def ah_At (M : ah_M) (d : Nat) (A : Nat → Prop) (h0 : ah_H) (o : Outcome) (h2 : ah_H) (pc : Nat) (lv : List (Nat × Value)) (st : List Value) (h : ah_H) : Prop :=
  (h.1 ≤ h2.1 ∧ h.2.1 ≤ h2.2.1) ∧
  ∀ (p : Program) (l : Launch) (e : Env) (R : Room) (s : State) (m : MethodId) (args : Array Value) (below : List Frame) (meth : Method) (c : Code) (D : va_G) (H : Heap) (locs : List Loc) (cells slots : Nat) (ls : Array Slot),
    ah_X M d p l R s m meth c D → ah_P D s h0 s.heap → h2.1 ≤ h0.1 + R.cells → h2.2.1 ≤ h0.2.1 + R.slots → h.1 = h0.1 + cells → h.2.1 = h0.2.1 + slots →
    ah_P D s h H → (∀ q ∈ locs, A q.base) → lv_has ls M.2.2.1 lv →
    W p l e R s m args below meth c H locs cells slots (ah_Q below D s A o h2 (h2.1 - h0.1) (h2.2.1 - h0.2.1)) (F0 m pc ls st)
/-- operations that leave the heap alone -/
theorem ah_pure {M : ah_M} {d : Nat} {A : Nat → Prop} {h0 : ah_H} {o : Outcome} {h2 h : ah_H} {pc pc' : Nat} {lv lv' : List (Nat × Value)} {st st' : List Value}
    (hW : ∀ {p : Program} {l : Launch} {e : Env} {R : Room} {s : State} {m : MethodId} {args : Array Value} {below : List Frame} {meth : Method} {c : Code} {D : va_G} {H : Heap} {locs : List Loc} {cells slots : Nat} {Q : State → Prop} {ls : Array Slot},
      p.tables.exec = Jvm.exec → c.code = M.2.1 → s.vm.findClass M.1.cls = some m.cls → ah_K D s → lv_has ls M.2.2.1 lv →
      (∀ ls' : Array Slot, lv_has ls' M.2.2.1 lv' → W p l e R s m args below meth c H locs cells slots Q (F0 m pc' ls' st')) → W p l e R s m args below meth c H locs cells slots Q (F0 m pc ls st))
    (hA : ah_At M d A h0 o h2 pc' lv' st' h) : ah_At M d A h0 o h2 pc lv st h := by
  refine ⟨hA.1, fun p l e R s m args below meth c D H locs cells slots ls X z0 r1 r2 r3 r4 hP hL hl => ?_⟩
  exact hW X.1 X.2.1 X.2.2.2.2.2.2.1 X.2.2.2.2.2.2.2.2.1 hl (fun ls' hl' => hA.2 p l e R s m args below meth c D H locs cells slots ls' X z0 r1 r2 r3 r4 hP hL hl')
