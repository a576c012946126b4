/-! OPERATIONS on the heap -/
def ah_fit : FieldType → Value → Bool
  | .int, .int _ => true
  | .boolean, .int x => x == 0 || x == 1
  | .long, .long _ => true
  | .object _, .ref _ => true
  | .object _, .null => true
  | .array _, .ref _ => true
  | .array _, .null => true
  | _, _ => false
theorem ah_fit_ok {ty : FieldType} {v : Value} (h : ah_fit ty v = true) : narrow ty v = v ∧ fits ty v = true := by
  unfold ah_fit at h
  split at h
  · exact ⟨rfl, rfl⟩
  · next x =>
    simp only [Bool.or_eq_true, beq_iff_eq] at h
    rcases h with rfl | rfl
    · exact ⟨by decide +kernel, by decide +kernel⟩
    · exact ⟨by decide +kernel, by decide +kernel⟩
  · exact ⟨rfl, rfl⟩
  · exact ⟨rfl, rfl⟩
  · exact ⟨rfl, rfl⟩
  · exact ⟨rfl, rfl⟩
  · exact ⟨rfl, rfl⟩
  · cases h
theorem ah_isSome {α : Type} {x : Option α} (h : x.isSome = true) : ∃ v, x = some v := Option.isSome_iff_exists.mp h
theorem ah_len_some {h : ah_H} {a t n : Nat} (hs : ah_len h a t = some n) : ∃ fs, h.2.2 a = some (t, fs) ∧ fs.length = n := by
  unfold ah_len at hs
  split at hs
  · next c hc =>
    split at hs
    · next ht => cases hs; exact ⟨c.2, by rw [hc, ← ht], rfl⟩
    · cases hs
  · cases hs
/-- a field's link: the class's own, or a nest mate's -/
def ah_fl (own : String) (index : Nat) (x : String × String × String × Bool) : Prop := Cond.fieldLink own index x.1 x.2.1 x.2.2.1 ∈ ah_W ∨ ∃ host, Cond.fieldLinkNest own index x.1 x.2.1 x.2.2.1 host ∈ ah_W
/-- what is known of a class of the list: its place, its fields' types -/
def ah_cl (ci : Nat) (C : String) (T : u_T) (N : Nat) (ty : Nat → FieldType) : Prop :=
  (ci < 90 ∧ vwCl[ci]? = some (C, T, N)) ∧ (∀ w ∈ u_ws C T N, w ∈ ah_W) ∧ (∀ k, k < N → parseFieldDescriptor (T k).2.2.1 = some (ty k)) ∧ (∀ a, a < N → ∀ b, b < N → a ≠ b → (T a).2.1 ≠ (T b).2.1)
theorem ah_low {t : Nat} (h : t < 90) : ah_ex t = none ∧ (¬ t = 97 ∧ ¬ t = 99) ∧ ah_ty t = none := by
  refine ⟨?_, ⟨by omega, by omega⟩, ?_⟩
  · unfold ah_ex
    rw [if_neg (by omega), if_neg (by omega), if_neg (by omega), if_neg (by omega), if_neg (by omega)]
  · unfold ah_ty
    rw [if_pos (by omega)]
theorem ah_cell_o {D : va_G} {s : State} {h : ah_H} {H : Heap} {a ci N : Nat} {C : String} {T : u_T} {fs : List Value} (hP : ah_P D s h H) (hc : ci < 90 ∧ vwCl[ci]? = some (C, T, N)) (hcell : h.2.2 a = some (ci, fs)) : fs.length = N ∧ t_OB a (D.1 ci) N (D.2 ci) H (vp_V fs) := by
  have h1 := hP.2 a _ hcell
  rw [ah_ok_o (ah_low hc.1).1 (ah_low hc.1).2.1 (ah_low hc.1).2.2] at h1
  obtain ⟨r, e1, e2, e3⟩ := h1
  cases Option.some.inj (e1.symm.trans hc.2)
  exact ⟨e2, e3⟩
/-- a place in an array -/
def ah_ix (i : Int32) (j : Nat) : Prop := ¬ i < 0 ∧ i.toNatClampNeg = j
theorem ah_ix_nI {j : Nat} (h : j < 2 ^ 31) : ah_ix (nI j) j := ⟨nI_pos h, nI_clamp h⟩
section AhHeap
variable {M : ah_M} {d : Nat} {A : Nat → Prop} {h0 : ah_H} {o : Outcome} {h2 h : ah_H} {pc : Nat} {lv : List (Nat × Value)} {st : List Value}
theorem s_getfield {ci k index N a : Nat} {C : String} {T : u_T} {ty : Nat → FieldType} {v : Value} (hd : decode M.2.1 pc = .ok (.getfield index, 3)) (hc : ah_cl ci C T N ty) (hk : k < N) (hl : ah_fl M.1.cls index (T k)) (hs : ah_sel h a ci k = some v) (n : ah_At M d A h0 o h2 (pc + 3) lv (v :: st) h) : ah_At M d A h0 o h2 pc lv (.ref a :: st) h := by
  obtain ⟨fs, hcell, hv⟩ := ah_sel_some hs
  refine ⟨n.1, fun p l e R s m args below meth c D H locs cells slots ls X z0 r1 r2 r3 r4 hP hL hl' => ?_⟩
  have hK := X.2.2.2.2.2.2.2.2.1
  obtain ⟨e1, e2⟩ := ah_cell_o hP hc.1 hcell
  have hP1 : va_P D vwCl [(a, .inr (ci, fs))] H := by
    intro j q hq
    match j, hq with
    | 0, hq => cases hq; exact ⟨_, hc.1.2, e2⟩
    | j + 1, hq => simp at hq
  have kk := n.2 p l e R s m args below meth c D H locs cells slots ls X z0 r1 r2 r3 r4 hP hL hl'
  rcases hl with hl | ⟨host, hl⟩
  · exact va_get X.1 X.2.1 (fun w hw => hK.w hw) hc.2.1 X.2.2.2.2.2.2.1 hK.k hP1 0 rfl hc.1.2 k hk (hK.w hl) (fun _ z => z) hv hd kk
  · exact va_getN X.1 X.2.1 (fun w hw => hK.w hw) hc.2.1 X.2.2.2.2.2.2.1 hK.k hP1 0 rfl hc.1.2 k hk (hK.w hl) (fun _ z => z) hv hd kk
theorem ah_base {A : Nat → Prop} {locs : List Loc} {a i : Nat} (hL : ∀ q ∈ locs, A q.base) (ha : A a) : ∀ q ∈ locs ++ [⟨a, i⟩], A q.base := by
  intro q hq
  rcases List.mem_append.mp hq with z | z
  · exact hL q z
  · rw [List.mem_singleton.mp z]; exact ha
/-- what a store into a field needs of the machine -/
theorem ah_putf_W {p : Program} {l : Launch} {e : Env} {R : Room} {s : State} {m : MethodId} {args : Array Value} {below : List Frame} {meth : Method} {c : Code} {H : Heap} {locs : List Loc} {cells slots : Nat} {Q : State → Prop} {cc : ByteArray} {ls : Array Slot} {rest : List Value} {D : va_G} {h : ah_H} {a : Nat}
    (hexec : p.tables.exec = Jvm.exec) (hb : c.code = cc) {own : String} (hown : s.vm.findClass own = some m.cls) (hK : ah_K D s) (hP : ah_P D s h H) {ci k index N : Nat} {C : String} {T : u_T} {ty : Nat → FieldType} (hc : ah_cl ci C T N ty) (hk : k < N) (hl : ah_fl own index (T k)) (hfin : (T k).2.2.2 = false ∨ ((T k).2.2.2 = true ∧ meth.name = "<init>" ∧ (T k).1 = own ∧ Cond.fieldLink own index (T k).1 (T k).2.1 (T k).2.2.1 ∈ ah_W))
    {fs : List Value} (hcell : h.2.2 a = some (ci, fs)) {v : Value} (hfit : ah_fit (ty k) v = true) (hd : decode cc pc = .ok (.putfield index, 3))
    (kk : ∀ (H' : Heap) (i : Nat), ah_P D s (ah_sto h a k v) H' → W p l e R s m args below meth c H' (locs ++ [⟨a, i⟩]) cells slots Q (F0 m (pc + 3) ls rest)) : W p l e R s m args below meth c H locs cells slots Q (F0 m pc ls (v :: .ref a :: rest)) := by
  have hts : ∀ w ∈ ah_W, w.before args s = true := fun w hw => hK.w hw
  have hap := va_apart (own := own) hts hc.2.1 ty hc.2.2.1 hc.2.2.2 hK.k hc.1.2
  obtain ⟨e1, cell, q1, q2, q3, q4⟩ := ah_cell_o hP hc.1 hcell
  obtain ⟨hS, hfc, kC, hkC, hkind⟩ := hK.2 ci _ hc.1.2
  obtain ⟨cf, kf, fi, f, hi, hsl⟩ := hS k hk
  have hlay := hts _ (hc.2.1 _ (u_in_lay hk))
  have hst := (u_facts hfc hkC (u_lays hts hc.2.1 hk) hi).1
  obtain ⟨hn1, hf1⟩ := ah_fit_ok hfit
  have fin : ∀ H' : Heap, H'[a]? = some (cell.setSlot f.slot v) → H'.size = H.size → (∀ q, q ≠ a → H'[q]? = H[q]?) → W p l e R s m args below meth c H' (locs ++ [⟨a, f.slot⟩]) cells slots Q (F0 m (pc + 3) ls rest) := by
    intro H' g1 g2 g3
    refine kk H' _ (hP.sto g2 g3 (fun c0 hc0 => ?_))
    cases Option.some.inj (hc0.symm.trans hcell)
    rw [ah_ok_o (ah_low hc.1.1).1 (ah_low hc.1.1).2.1 (ah_low hc.1.1).2.2]
    rw [hsl] at g1
    exact ⟨_, hc.1.2, by rw [List.length_set]; exact e1, t_OB.to (V := updV (vp_V fs) k v) ⟨_, g1, q2, q3, t_set q4 hap hk v⟩ (fun j _ => vp_updV_set (by rw [e1]; exact hk) v j)⟩
  rcases hfin with hfin | ⟨hfin, hin2, hdecl, hl2⟩
  · unfold u_lay at hlay
    rw [if_neg (by rw [hfin]; decide)] at hlay
    have h6 := u_store hfc hkC hkind hlay hi (hc.2.2.1 k hk) hn1 hf1
    rcases hl with hl | ⟨host, hl⟩
    · exact W.putK hexec hb (f := f) ⟨hown, hts _ hl, ⟨_, _, _, hi⟩, hst⟩ (by rw [q2]; exact h6) q1 q3 (by rw [hsl]; exact k2_hasslot (q4 k hk)) rfl rfl hd fin
    · exact va_WputK hexec hb (f := f) hown (hts _ hl) hi hst (by rw [q2]; exact h6) q1 q3 (by rw [hsl]; exact k2_hasslot (q4 k hk)) rfl rfl hd fin
  · unfold u_lay at hlay
    rw [if_pos hfin] at hlay
    have hcf : m.cls = cf := by
      obtain ⟨_, _, c', _, _, _, -, -, hf', -, -, -, hown2, -⟩ := Cond.laysFinal_spec hlay
      have e1 : c' = cf := by have := hi.symm.trans hf'; simp at this; exact this.1.symm
      rw [hdecl] at hown2
      rw [← e1]; exact Option.some.inj (hown.symm.trans hown2)
    have h6 := u_fits hfc hkC hkind (Or.inr hlay) hi (hc.2.2.1 k hk) hn1 hf1
    exact W.putFinK hexec hb hown (hts _ hl2) hi hst hcf hin2 (by rw [q2]; exact h6) q1 q3 (by rw [hsl]; exact k2_hasslot (q4 k hk)) rfl rfl hd fin
theorem s_putfield {ci k index N a : Nat} {C : String} {T : u_T} {ty : Nat → FieldType} {v : Value} (hd : decode M.2.1 pc = .ok (.putfield index, 3)) (hc : ah_cl ci C T N ty) (hk : k < N) (hl : ah_fl M.1.cls index (T k)) (hfin : (T k).2.2.2 = false ∨ ((T k).2.2.2 = true ∧ M.1.name = "<init>" ∧ (T k).1 = M.1.cls ∧ Cond.fieldLink M.1.cls index (T k).1 (T k).2.1 (T k).2.2.1 ∈ ah_W)) (hA : A a) (hf : ah_fit (ty k) v = true) (hs : (ah_sel h a ci k).isSome = true) (n : ah_At M d A h0 o h2 (pc + 3) lv st (ah_sto h a k v)) : ah_At M d A h0 o h2 pc lv (v :: .ref a :: st) h := by
  obtain ⟨w, hw⟩ := ah_isSome hs
  obtain ⟨fs, hcell, -⟩ := ah_sel_some hw
  refine ⟨n.1, fun p l e R s m args below meth c D H locs cells slots ls X z0 r1 r2 r3 r4 hP hL hl' => ?_⟩
  refine ah_putf_W X.1 X.2.1 X.2.2.2.2.2.2.1 X.2.2.2.2.2.2.2.2.1 hP hc hk hl ?_ hcell hf hd (fun H' i hP' => n.2 p l e R s m args below meth c D H' _ cells slots ls X z0 r1 r2 r3 r4 hP' (ah_base hL hA) hl')
  rcases hfin with z | ⟨z1, z2, z3, z4⟩
  · exact Or.inl z
  · exact Or.inr ⟨z1, X.2.2.2.2.2.1.trans z2, z3, z4⟩
theorem s_new {ci index N : Nat} {C : String} {T : u_T} {ty : Nat → FieldType} {fs : List Value} (hd : decode M.2.1 pc = .ok (.new index, 3)) (hc : ah_cl ci C T N ty) (hl : Cond.classLink M.1.cls index C ∈ ah_W) (hi : Cond.instantiable C N ∈ ah_W) (hini : Cond.initialized C ∈ ah_W) (hlen : fs.length = N) (hfs : ∀ j, j < N → defaultValue (ty j) = vp_V fs j) (n : ah_At M d A h0 o h2 (pc + 3) lv (.ref h.1 :: st) (ah_new h (ci, fs))) : ah_At M d A h0 o h2 pc lv st h := by
  have hA1 : h.1 + 1 ≤ h2.1 ∧ h.2.1 + fs.length ≤ h2.2.1 := n.1
  refine ⟨⟨by omega, by omega⟩, fun p l e R s m args below meth c D H locs cells slots ls X z0 r1 r2 r3 r4 hP hL hl' => ?_⟩
  have hK := X.2.2.2.2.2.2.2.2.1
  have hKn := hK.2 ci _ hc.1.2
  refine W.newcK X.1 X.2.1 X.2.2.2.2.2.2.1 (hK.w hl) (hK.w hi) (hK.w hini) rfl hd (by omega) (by omega) hKn.2.1 rfl fun H1 kC hkC e1 z1 o1 => ?_
  have hz : H.size = h.1 := hP.1
  rw [hz] at e1 z1 o1 ⊢
  refine n.2 p l e R s m args below meth c D H1 locs (cells + 1) (slots + N) ls X z0 r1 r2 (by show h.1 + 1 = _; omega) (by show h.2.1 + fs.length = _; omega) (hP.new (by rw [hz]; exact z1) (fun q hq => o1 q (by rw [← hz]; exact hq)) ?_) hL hl'
  rw [ah_ok_o (ah_low hc.1.1).1 (ah_low hc.1.1).2.1 (ah_low hc.1.1).2.2]
  exact ⟨_, hc.1.2, hlen, (u_born (args := args) ty (fun w hw => hK.w hw) hc.2.1 hKn hkC e1 hc.2.2.1).to hfs⟩
theorem ah_sel_v {fs : List Value} {i : Nat} {v : Value} (h : fs[i]? = some v) : i < fs.length ∧ vp_V fs i = v := by
  refine ⟨(List.getElem?_eq_some_iff.mp h).1, ?_⟩
  simp [vp_V, h]
theorem ah_cell_a {D : va_G} {s : State} {h : ah_H} {H : Heap} {a t : Nat} {ty : FieldType} {fs : List Value} (hP : ah_P D s h H) (ht : ah_ex t = none ∧ (¬ t = 97 ∧ ¬ t = 99) ∧ ah_ty t = some ty) (hcell : h.2.2 a = some (t, fs)) : ∃ cA : ClassId, H[a]? = some (arrV cA fs.length (vp_V fs)) ∧ ArrOfT s cA ty ∧ va_RA s cA ty := by
  have h1 := hP.2 a _ hcell
  rw [ah_ok_a ht.1 ht.2.1 ht.2.2] at h1
  exact h1
theorem s_iaload {a j : Nat} {i : Int32} {v : Value} (hd : decode M.2.1 pc = .ok (.iaload, 1)) (hi : ah_ix i j) (hs : ah_sel h a 100 j = some v) (n : ah_At M d A h0 o h2 (pc + 1) lv (v :: st) h) : ah_At M d A h0 o h2 pc lv (.int i :: .ref a :: st) h := by
  obtain ⟨fs, hcell, hv⟩ := ah_sel_some hs
  obtain ⟨hi0, hij⟩ := hi
  subst hij
  obtain ⟨hlt, hvv⟩ := ah_sel_v hv
  refine ⟨n.1, fun p l e R s m args below meth c D H locs cells slots ls X z0 r1 r2 r3 r4 hP hL hl' => ?_⟩
  obtain ⟨cA, g1, g2, -⟩ := ah_cell_a (ty := .int) hP ⟨rfl, by decide, rfl⟩ hcell
  exact W.iald X.1 X.2.1 g1 (g2 _ _) (fun q => by cases q) (by show ¬ (i < 0 ∨ (arrV _ _ _).slots.size ≤ _); rw [arrV_size]; exact fun z => z.elim hi0 (fun z => by omega)) (by show (arrV _ _ _).slots[_]? = _; rw [arrV_read _ _ hlt, hvv]) rfl rfl hd (n.2 p l e R s m args below meth c D H locs cells slots ls X z0 r1 r2 r3 r4 hP hL hl')
theorem s_laload {a j : Nat} {i : Int32} {v : Value} (hd : decode M.2.1 pc = .ok (.laload, 1)) (hi : ah_ix i j) (hs : ah_sel h a 101 j = some v) (n : ah_At M d A h0 o h2 (pc + 1) lv (v :: st) h) : ah_At M d A h0 o h2 pc lv (.int i :: .ref a :: st) h := by
  obtain ⟨fs, hcell, hv⟩ := ah_sel_some hs
  obtain ⟨hi0, hij⟩ := hi
  subst hij
  obtain ⟨hlt, hvv⟩ := ah_sel_v hv
  refine ⟨n.1, fun p l e R s m args below meth c D H locs cells slots ls X z0 r1 r2 r3 r4 hP hL hl' => ?_⟩
  obtain ⟨cA, g1, g2, -⟩ := ah_cell_a (ty := .long) hP ⟨rfl, by decide, rfl⟩ hcell
  exact W.lald X.1 X.2.1 g1 (g2 _ _) (fun q => by cases q) (by show ¬ (i < 0 ∨ (arrV _ _ _).slots.size ≤ _); rw [arrV_size]; exact fun z => z.elim hi0 (fun z => by omega)) (by show (arrV _ _ _).slots[_]? = _; rw [arrV_read _ _ hlt, hvv]) rfl rfl hd (n.2 p l e R s m args below meth c D H locs cells slots ls X z0 r1 r2 r3 r4 hP hL hl')
theorem s_aaload {t a j : Nat} {ty : FieldType} {i : Int32} {v : Value} (ht : ah_ex t = none ∧ (¬ t = 97 ∧ ¬ t = 99) ∧ ah_ty t = some ty) (hty : ty.isReference = true) (hd : decode M.2.1 pc = .ok (.aaload, 1)) (hi : ah_ix i j) (hs : ah_sel h a t j = some v) (n : ah_At M d A h0 o h2 (pc + 1) lv (v :: st) h) : ah_At M d A h0 o h2 pc lv (.int i :: .ref a :: st) h := by
  obtain ⟨fs, hcell, hv⟩ := ah_sel_some hs
  obtain ⟨hi0, hij⟩ := hi
  subst hij
  obtain ⟨hlt, hvv⟩ := ah_sel_v hv
  refine ⟨n.1, fun p l e R s m args below meth c D H locs cells slots ls X z0 r1 r2 r3 r4 hP hL hl' => ?_⟩
  obtain ⟨cA, g1, g2, -⟩ := ah_cell_a hP ht hcell
  exact W.aald X.1 X.2.1 g1 (g2 _ _) hty (fun q => by cases q) (by show ¬ (i < 0 ∨ (arrV _ _ _).slots.size ≤ _); rw [arrV_size]; exact fun z => z.elim hi0 (fun z => by omega)) (by show (arrV _ _ _).slots[_]? = _; rw [arrV_read _ _ hlt, hvv]) rfl rfl hd (n.2 p l e R s m args below meth c D H locs cells slots ls X z0 r1 r2 r3 r4 hP hL hl')
/-- the script -/
theorem s_saload {a j : Nat} {i : Int32} {v : Value} (hd : decode M.2.1 pc = .ok (.iaload, 1)) (hi : ah_ix i j) (hs : ah_sel h a 99 j = some v) (n : ah_At M d A h0 o h2 (pc + 1) lv (v :: st) h) : ah_At M d A h0 o h2 pc lv (.int i :: .ref a :: st) h := by
  obtain ⟨fs, hcell, hv⟩ := ah_sel_some hs
  obtain ⟨hi0, hij⟩ := hi
  subst hij
  obtain ⟨hlt, hvv⟩ := ah_sel_v hv
  refine ⟨n.1, fun p l e R s m args below meth c D H locs cells slots ls X z0 r1 r2 r3 r4 hP hL hl' => ?_⟩
  have h1 := hP.2 a _ hcell
  rw [ah_ok_s] at h1
  obtain ⟨cell, g1, g2, g3, g4⟩ := h1
  have hz : cell.slots.size = fs.length := by rw [← g4]; simp
  refine W.iald X.1 X.2.1 g1 g2 g3 (by rw [hz]; exact fun z => z.elim hi0 (fun z => by omega)) (v := v) ?_ rfl rfl hd (n.2 p l e R s m args below meth c D H locs cells slots ls X z0 r1 r2 r3 r4 hP hL hl')
  rw [← Array.getElem?_toList, g4]
  exact hv
theorem s_slen {a k : Nat} {v : Int32} (hd : decode M.2.1 pc = .ok (.arraylength, 1)) (hs : ah_len h a 99 = some k) (hv : Int32.ofNat k = v) (n : ah_At M d A h0 o h2 (pc + 1) lv (.int v :: st) h) : ah_At M d A h0 o h2 pc lv (.ref a :: st) h := by
  obtain ⟨fs, hcell, hk⟩ := ah_len_some hs
  refine ⟨n.1, fun p l e R s m args below meth c D H locs cells slots ls X z0 r1 r2 r3 r4 hP hL hl' => ?_⟩
  have h1 := hP.2 a _ hcell
  rw [ah_ok_s] at h1
  obtain ⟨cell, g1, g2, g3, g4⟩ := h1
  have hz : cell.slots.size = k := by rw [← hk, ← g4]; simp
  exact W.alen X.1 X.2.1 g1 g2 (by rw [hz, ← hv]) rfl rfl hd (n.2 p l e R s m args below meth c D H locs cells slots ls X z0 r1 r2 r3 r4 hP hL hl')
theorem s_alen {t a k : Nat} {ty : FieldType} {v : Int32} (ht : ah_ex t = none ∧ (¬ t = 97 ∧ ¬ t = 99) ∧ ah_ty t = some ty) (hd : decode M.2.1 pc = .ok (.arraylength, 1)) (hs : ah_len h a t = some k) (hv : Int32.ofNat k = v) (n : ah_At M d A h0 o h2 (pc + 1) lv (.int v :: st) h) : ah_At M d A h0 o h2 pc lv (.ref a :: st) h := by
  obtain ⟨fs, hcell, hk⟩ := ah_len_some hs
  refine ⟨n.1, fun p l e R s m args below meth c D H locs cells slots ls X z0 r1 r2 r3 r4 hP hL hl' => ?_⟩
  obtain ⟨cA, g1, g2, -⟩ := ah_cell_a hP ht hcell
  exact W.alen X.1 X.2.1 g1 (g2 _ _) (by rw [arrV_size, hk, ← hv]) rfl rfl hd (n.2 p l e R s m args below meth c D H locs cells slots ls X z0 r1 r2 r3 r4 hP hL hl')
/-- the cell behind a store into an array -/
theorem ah_arr_sto {D : va_G} {s : State} {h : ah_H} {H H' : Heap} {a t i : Nat} {ty : FieldType} {fs : List Value} {v : Value} {cA : ClassId} (hP : ah_P D s h H) (ht : ah_ex t = none ∧ (¬ t = 97 ∧ ¬ t = 99) ∧ ah_ty t = some ty) (hcell : h.2.2 a = some (t, fs)) (hi : i < fs.length) (g2 : ArrOfT s cA ty) (g3 : va_RA s cA ty) (e1 : H'[a]? = some ((arrV cA fs.length (vp_V fs)).setSlot i v)) (e2 : H'.size = H.size) (e3 : ∀ q, q ≠ a → H'[q]? = H[q]?) : ah_P D s (ah_sto h a i v) H' := by
  refine hP.sto e2 e3 (fun c0 hc0 => ?_)
  cases Option.some.inj (hc0.symm.trans hcell)
  rw [ah_ok_a ht.1 ht.2.1 ht.2.2]
  refine ⟨cA, ?_, g2, g3⟩
  rw [e1, arrV_store, List.length_set]
  congr 2
  funext j
  exact vp_updV_set hi v j
theorem s_iastore {a j : Nat} {i : Int32} {x : Int32} (hd : decode M.2.1 pc = .ok (.iastore, 1)) (hA : A a) (hi : ah_ix i j) (hs : (ah_sel h a 100 j).isSome = true) (n : ah_At M d A h0 o h2 (pc + 1) lv st (ah_sto h a j (.int x))) : ah_At M d A h0 o h2 pc lv (.int x :: .int i :: .ref a :: st) h := by
  obtain ⟨w, hw⟩ := ah_isSome hs
  obtain ⟨fs, hcell, hv⟩ := ah_sel_some hw
  obtain ⟨hi0, hij⟩ := hi
  subst hij
  obtain ⟨hlt, -⟩ := ah_sel_v hv
  refine ⟨n.1, fun p l e R s m args below meth c D H locs cells slots ls X z0 r1 r2 r3 r4 hP hL hl' => ?_⟩
  obtain ⟨cA, g1, g2, g3⟩ := ah_cell_a (ty := .int) hP ⟨rfl, by decide, rfl⟩ hcell
  refine W.iast X.1 X.2.1 g1 (g2 _ _) (fun q => by cases q) (by show ¬ (i < 0 ∨ (arrV _ _ _).slots.size ≤ _); rw [arrV_size]; exact fun z => z.elim hi0 (fun z => by omega)) rfl rfl hd fun H1 e1 z oq => ?_
  exact n.2 p l e R s m args below meth c D H1 _ cells slots ls X z0 r1 r2 r3 r4 (ah_arr_sto hP ⟨rfl, by decide, rfl⟩ hcell hlt g2 g3 e1 z oq) (ah_base hL hA) hl'
theorem s_lastore {a j : Nat} {i : Int32} {x : Int64} (hd : decode M.2.1 pc = .ok (.lastore, 1)) (hA : A a) (hi : ah_ix i j) (hs : (ah_sel h a 101 j).isSome = true) (n : ah_At M d A h0 o h2 (pc + 1) lv st (ah_sto h a j (.long x))) : ah_At M d A h0 o h2 pc lv (.long x :: .int i :: .ref a :: st) h := by
  obtain ⟨w, hw⟩ := ah_isSome hs
  obtain ⟨fs, hcell, hv⟩ := ah_sel_some hw
  obtain ⟨hi0, hij⟩ := hi
  subst hij
  obtain ⟨hlt, -⟩ := ah_sel_v hv
  refine ⟨n.1, fun p l e R s m args below meth c D H locs cells slots ls X z0 r1 r2 r3 r4 hP hL hl' => ?_⟩
  obtain ⟨cA, g1, g2, g3⟩ := ah_cell_a (ty := .long) hP ⟨rfl, by decide, rfl⟩ hcell
  refine W.last X.1 X.2.1 g1 (g2 _ _) (fun q => by cases q) (by show ¬ (i < 0 ∨ (arrV _ _ _).slots.size ≤ _); rw [arrV_size]; exact fun z => z.elim hi0 (fun z => by omega)) rfl rfl hd fun H1 e1 z oq => ?_
  exact n.2 p l e R s m args below meth c D H1 _ cells slots ls X z0 r1 r2 r3 r4 (ah_arr_sto hP ⟨rfl, by decide, rfl⟩ hcell hlt g2 g3 e1 z oq) (ah_base hL hA) hl'
theorem s_zaload {a j : Nat} {i : Int32} {v : Value} (hd : decode M.2.1 pc = .ok (.baload, 1)) (hi : ah_ix i j) (hs : ah_sel h a 103 j = some v) (n : ah_At M d A h0 o h2 (pc + 1) lv (v :: st) h) : ah_At M d A h0 o h2 pc lv (.int i :: .ref a :: st) h := by
  obtain ⟨fs, hcell, hv⟩ := ah_sel_some hs
  obtain ⟨hi0, hij⟩ := hi
  subst hij
  obtain ⟨hlt, hvv⟩ := ah_sel_v hv
  refine ⟨n.1, fun p l e R s m args below meth c D H locs cells slots ls X z0 r1 r2 r3 r4 hP hL hl' => ?_⟩
  obtain ⟨cA, g1, g2, -⟩ := ah_cell_a (ty := .boolean) hP ⟨rfl, by decide, rfl⟩ hcell
  exact W.zald X.1 X.2.1 g1 (g2 _ _) (fun q => by cases q) (by show ¬ (i < 0 ∨ (arrV _ _ _).slots.size ≤ _); rw [arrV_size]; exact fun z => z.elim hi0 (fun z => by omega)) (by show (arrV _ _ _).slots[_]? = _; rw [arrV_read _ _ hlt, hvv]) rfl rfl hd (n.2 p l e R s m args below meth c D H locs cells slots ls X z0 r1 r2 r3 r4 hP hL hl')
theorem s_zastore {a j : Nat} {i : Int32} {x : Int32} (hd : decode M.2.1 pc = .ok (.bastore, 1)) (hA : A a) (hi : ah_ix i j) (hs : (ah_sel h a 103 j).isSome = true) (hf : ah_fit .boolean (.int x) = true) (n : ah_At M d A h0 o h2 (pc + 1) lv st (ah_sto h a j (.int x))) : ah_At M d A h0 o h2 pc lv (.int x :: .int i :: .ref a :: st) h := by
  obtain ⟨w, hw⟩ := ah_isSome hs
  obtain ⟨fs, hcell, hv⟩ := ah_sel_some hw
  obtain ⟨hi0, hij⟩ := hi
  subst hij
  obtain ⟨hlt, -⟩ := ah_sel_v hv
  refine ⟨n.1, fun p l e R s m args below meth c D H locs cells slots ls X z0 r1 r2 r3 r4 hP hL hl' => ?_⟩
  obtain ⟨cA, g1, g2, g3⟩ := ah_cell_a (ty := .boolean) hP ⟨rfl, by decide, rfl⟩ hcell
  refine W.zast X.1 X.2.1 g1 (g2 _ _) (fun q => by cases q) (by show ¬ (i < 0 ∨ (arrV _ _ _).slots.size ≤ _); rw [arrV_size]; exact fun z => z.elim hi0 (fun z => by omega)) rfl rfl hd fun H1 e1 z oq => ?_
  rw [(ah_fit_ok hf).1] at e1
  exact n.2 p l e R s m args below meth c D H1 _ cells slots ls X z0 r1 r2 r3 r4 (ah_arr_sto hP ⟨rfl, by decide, rfl⟩ hcell hlt g2 g3 e1 z oq) (ah_base hL hA) hl'
theorem s_aastore {ci N a j x : Nat} {C : String} {T : u_T} {ty : Nat → FieldType} {i : Int32} (hc : ah_cl ci C T N ty) (ht : ah_ex (110 + ci) = none ∧ (¬ (110 + ci) = 97 ∧ ¬ (110 + ci) = 99) ∧ ah_ty (110 + ci) = some (.object C)) (hd : decode M.2.1 pc = .ok (.aastore, 1)) (hA : A a) (hi : ah_ix i j) (hs : (ah_sel h a (110 + ci) j).isSome = true) (hx : (ah_len h x ci).isSome = true) (n : ah_At M d A h0 o h2 (pc + 1) lv st (ah_sto h a j (.ref x))) : ah_At M d A h0 o h2 pc lv (.ref x :: .int i :: .ref a :: st) h := by
  obtain ⟨w, hw⟩ := ah_isSome hs
  obtain ⟨fs, hcell, hv⟩ := ah_sel_some hw
  obtain ⟨hi0, hij⟩ := hi
  subst hij
  obtain ⟨hlt, -⟩ := ah_sel_v hv
  obtain ⟨nx, hnx⟩ := ah_isSome hx
  obtain ⟨fx, hcx, -⟩ := ah_len_some hnx
  refine ⟨n.1, fun p l e R s m args below meth c D H locs cells slots ls X z0 r1 r2 r3 r4 hP hL hl' => ?_⟩
  obtain ⟨cA, g1, g2, g3⟩ := ah_cell_a hP ht hcell
  obtain ⟨kA, comp, k1, k2, k3, k4⟩ := id g3
  obtain ⟨-, cellV, q1, q2, q3, -⟩ := ah_cell_o hP hc.1 hcx
  have hcls := (X.2.2.2.2.2.2.2.2.1.2 ci _ hc.1.2).2
  obtain ⟨kE, hkE, -⟩ := Vm.findClass_spec k3
  obtain ⟨hfc, kC, hkC, hkind⟩ := id hcls
  have hcomp : comp = D.1 ci := Option.some.inj (k3.symm.trans hfc)
  refine W.aast X.1 X.2.1 g1 (fun q z => by cases z) (fun z => by cases z) k1 k2 rfl hkE ⟨hi0, by rw [arrV_size]; exact hlt⟩ q1 (fun q z => by rw [q3] at z; cases z) (by rw [q2]; exact hkC) (by rw [q2, hcomp]; exact va_assign (s := s) hcls) rfl rfl hd fun H1 e1 z oq => ?_
  exact n.2 p l e R s m args below meth c D H1 _ cells slots ls X z0 r1 r2 r3 r4 (ah_arr_sto hP ht hcell hlt g2 g3 e1 z oq) (ah_base hL hA) hl'
/-- a new array of numbers -/
theorem s_newarray {t : Nat} {at_ : ArrayType} {ty : FieldType} {i : Int32} {j : Nat} (ht : ah_ex t = none ∧ (¬ t = 97 ∧ ¬ t = 99) ∧ ah_ty t = some ty) (hty : newarray.typeOf at_ = ty) (hw : Cond.arrayClass ty ∈ ah_W) (hd : decode M.2.1 pc = .ok (.newarray at_, 2)) (hi : ah_ix i j) (hb : j * componentBytes ty ≤ 536870912) (n : ah_At M d A h0 o h2 (pc + 2) lv (.ref h.1 :: st) (ah_new h (t, List.replicate j (defaultValue ty)))) : ah_At M d A h0 o h2 pc lv (.int i :: st) h := by
  obtain ⟨hi0, hij⟩ := hi
  subst hty
  have hA1 : h.1 + 1 ≤ h2.1 ∧ h.2.1 + (List.replicate j (defaultValue (newarray.typeOf at_))).length ≤ h2.2.1 := n.1
  rw [List.length_replicate] at hA1
  refine ⟨⟨by omega, by omega⟩, fun p l e R s m args below meth c D H locs cells slots ls X z0 r1 r2 r3 r4 hP hL hl' => ?_⟩
  have hK := X.2.2.2.2.2.2.2.2.1
  refine va_newaK X.1 X.2.1 (hK.w hw) rfl hd rfl hi0 hij hb (by omega) (by omega) hP.1 fun H1 cA e1 z1 o1 hAr hNm => ?_
  have hz : H.size = h.1 := hP.1
  refine n.2 p l e R s m args below meth c D H1 locs (cells + 1) (slots + j) ls X z0 r1 r2 (by show h.1 + 1 = _; omega) (by show h.2.1 + (List.replicate j _).length = _; rw [List.length_replicate]; omega) (hP.new (by rw [hz]; exact z1) (fun q hq => o1 q (by rw [← hz]; exact hq)) ?_) hL hl'
  rw [ah_ok_a ht.1 ht.2.1 ht.2.2]
  refine ⟨cA, ?_, hAr, by cases at_ <;> exact hNm⟩
  rw [e1, List.length_replicate]
  congr 1
  unfold arrV
  congr 1
  apply Array.ext
  · simp
  · intro q hq1 hq2
    simp only [Array.getElem_ofFn, vp_V]
    have hq : q < j := by simpa using hq1
    simp [hq]
/-- a new array of objects -/
theorem s_anewarray {ci index N : Nat} {C : String} {T : u_T} {ty : Nat → FieldType} {i : Int32} {j : Nat} (hc : ah_cl ci C T N ty) (ht : ah_ex (110 + ci) = none ∧ (¬ (110 + ci) = 97 ∧ ¬ (110 + ci) = 99) ∧ ah_ty (110 + ci) = some (.object C)) (hl : Cond.classLink M.1.cls index C ∈ ah_W) (hv : Cond.arrayOver (.object C) ∈ ah_W) (hd : decode M.2.1 pc = .ok (.anewarray index, 3)) (hi : ah_ix i j) (hb : j * 4 ≤ 536870912) (n : ah_At M d A h0 o h2 (pc + 3) lv (.ref h.1 :: st) (ah_new h (110 + ci, List.replicate j .null))) : ah_At M d A h0 o h2 pc lv (.int i :: st) h := by
  obtain ⟨hi0, hij⟩ := hi
  have hA1 : h.1 + 1 ≤ h2.1 ∧ h.2.1 + (List.replicate j Value.null).length ≤ h2.2.1 := n.1
  rw [List.length_replicate] at hA1
  refine ⟨⟨by omega, by omega⟩, fun p l e R s m args below meth c D H locs cells slots ls X z0 r1 r2 r3 r4 hP hL hl' => ?_⟩
  have hK := X.2.2.2.2.2.2.2.2.1
  have hz : H.size = h.1 := hP.1
  subst hij
  refine W.anew X.1 X.2.1 X.2.2.2.2.2.2.1 (hK.w hl) (hK.w hv) rfl hd rfl hi0 hb (by omega) (by omega) fun cA kA comp f1 f2 f3 f4 => ?_
  generalize hH1 : H.push ({ cls := cA, slots := Array.replicate i.toNatClampNeg .null, vm := .none } : Cell) = H1
  rw [hz]
  have o1 : ∀ q : Nat, q < H.size → H1[q]? = H[q]? := fun q hq => by rw [← hH1, Array.getElem?_push, if_neg (Nat.ne_of_lt hq)]
  refine n.2 p l e R s m args below meth c D H1 locs (cells + 1) (slots + i.toNatClampNeg) ls X z0 r1 r2 (by show h.1 + 1 = _; omega) (by show h.2.1 + (List.replicate _ _).length = _; rw [List.length_replicate]; omega) (hP.new (by rw [← hH1]; simp) o1 ?_) hL hl'
  rw [ah_ok_a ht.1 ht.2.1 ht.2.2]
  refine ⟨cA, ?_, fun n z => ⟨fun k h => (by cases h), kA, f2, comp, f3⟩, kA, comp, f2, f3, f4, f1⟩
  rw [← hH1, ← hz, List.length_replicate]
  simp only [Array.getElem?_push_size]
  congr 1
  unfold arrV
  congr 1
  apply Array.ext
  · simp
  · intro q hq1 hq2
    simp only [Array.getElem_ofFn, vp_V]
    have hq : q < i.toNatClampNeg := by simpa using hq1
    simp [hq]
end AhHeap
