/-! OPERATIONS that leave the heap alone, and their rows -/
def al_g : List (Nat × Value) → Nat → Option Value
  | [], _ => none
  | q :: r, i => if q.1 = i then some q.2 else al_g r i
def al_o (i : Nat) (w : Bool) (q : Nat × Value) : Bool := !(q.1 == i) && !(q.1 + 1 == i && q.2.category == 2) && !(w && q.1 == i + 1)
def al_u (w : Bool) (i : Nat) (v : Value) : List (Nat × Value) → List (Nat × Value)
  | [] => [(i, v)]
  | q :: r => if q.1 = i then (i, v) :: r.filter (al_o i w) else if al_o i w q = true then q :: al_u w i v r else al_u w i v r
theorem al_mem {lv : List (Nat × Value)} {i : Nat} {v : Value} (h : al_g lv i = some v) : (i, v) ∈ lv := by
  induction lv with
  | nil => cases h
  | cons q r ih =>
    unfold al_g at h
    split at h
    · next e =>
      cases h
      subst e
      exact List.mem_cons_self
    · exact List.mem_cons_of_mem _ (ih h)
theorem al_at {ls : Array Slot} {nL i : Nat} {v : Value} {lv : List (Nat × Value)} (hl : lv_has ls nL lv) (h : al_g lv i = some v) : ls[i]? = some (.val v) := hl.2.2 _ (al_mem h)
theorem al_umem {w : Bool} {i : Nat} {v : Value} {x : Nat × Value} : ∀ {lv : List (Nat × Value)}, x ∈ al_u w i v lv → x = (i, v) ∨ (x ∈ lv ∧ al_o i w x = true)
  | [], h => Or.inl (by simpa [al_u] using h)
  | q :: r, h => by
    unfold al_u at h
    split at h
    · rcases List.mem_cons.mp h with h | h
      · exact Or.inl h
      · obtain ⟨h1, h2⟩ := List.mem_filter.mp h
        exact Or.inr ⟨List.mem_cons_of_mem _ h1, h2⟩
    · split at h
      · next h0 =>
        rcases List.mem_cons.mp h with h | h
        · subst h
          exact Or.inr ⟨List.mem_cons_self, h0⟩
        · rcases al_umem h with h | ⟨h1, h2⟩
          · exact Or.inl h
          · exact Or.inr ⟨List.mem_cons_of_mem _ h1, h2⟩
      · rcases al_umem h with h | ⟨h1, h2⟩
        · exact Or.inl h
        · exact Or.inr ⟨List.mem_cons_of_mem _ h1, h2⟩
theorem al_sub {ls : Array Slot} {nL : Nat} {l l' : List (Nat × Value)} (h : lv_has ls nL l) (hs : ∀ q ∈ l', q ∈ l) : lv_has ls nL l' := ⟨h.1, h.2.1, fun q hq => h.2.2 q (hs q hq)⟩
theorem al_u1 {ls : Array Slot} {nL i : Nat} {v : Value} {lv : List (Nat × Value)} (h : lv_has ls nL ((i, v) :: lv.filter (fun q => !(q.1 == i) && !(q.1 + 1 == i && q.2.category == 2)))) : lv_has ls nL (al_u false i v lv) := by
  refine al_sub h (fun q hq => ?_)
  rcases al_umem hq with h | ⟨h1, h2⟩
  · rw [h]; exact List.mem_cons_self
  · refine List.mem_cons_of_mem _ (List.mem_filter.mpr ⟨h1, ?_⟩)
    simpa [al_o] using h2
theorem al_u2 {ls : Array Slot} {nL i : Nat} {v : Value} {lv : List (Nat × Value)} (h : lv_has ls nL ((i, v) :: lv.filter (fun q => !(q.1 == i) && (!(q.1 == i + 1) && !(q.1 + 1 == i && q.2.category == 2))))) : lv_has ls nL (al_u true i v lv) := by
  refine al_sub h (fun q hq => ?_)
  rcases al_umem hq with h | ⟨h1, h2⟩
  · rw [h]; exact List.mem_cons_self
  · refine List.mem_cons_of_mem _ (List.mem_filter.mpr ⟨h1, ?_⟩)
    simp only [al_o, Bool.and_eq_true, Bool.true_and] at h2 ⊢
    exact ⟨h2.1.1, h2.2, h2.1.2⟩
theorem ah_fork {M : ah_M} {d : Nat} {A : Nat → Prop} {h0 : ah_H} {o : Outcome} {h2 h : ah_H} {pc t n : Nat} {lv : List (Nat × Value)} {st st' : List Value} {c : Prop}
    (hW : ∀ {p : Program} {l : Launch} {e : Env} {R : Room} {s : State} {m : MethodId} {args : Array Value} {below : List Frame} {meth : Method} {c0 : Code} {H : Heap} {locs : List Loc} {cells slots : Nat} {Q : State → Prop} {ls : Array Slot},
      p.tables.exec = Jvm.exec → c0.code = M.2.1 →
      (c → W p l e R s m args below meth c0 H locs cells slots Q (F0 m t ls st')) → (¬ c → W p l e R s m args below meth c0 H locs cells slots Q (F0 m n ls st')) → W p l e R s m args below meth c0 H locs cells slots Q (F0 m pc ls st))
    (hA : (c → ah_At M d A h0 o h2 t lv st' h) ∧ (¬ c → ah_At M d A h0 o h2 n lv st' h)) : ah_At M d A h0 o h2 pc lv st h := by
  refine ⟨?_, fun p l e R s m args below meth c0 D H locs cells slots ls X z0 r1 r2 r3 r4 hP hL hl => ?_⟩
  · by_cases z : c
    · exact (hA.1 z).1
    · exact (hA.2 z).1
  · exact hW X.1 X.2.1 (fun z => (hA.1 z).2 p l e R s m args below meth c0 D H locs cells slots ls X z0 r1 r2 r3 r4 hP hL hl) (fun z => (hA.2 z).2 p l e R s m args below meth c0 D H locs cells slots ls X z0 r1 r2 r3 r4 hP hL hl)
section AhRows
variable {M : ah_M} {d : Nat} {A : Nat → Prop} {h0 : ah_H} {o : Outcome} {h2 h : ah_H} {pc : Nat} {lv : List (Nat × Value)} {st : List Value}
theorem s_iconst {i : Int} {v : Int32} (hd : decode M.2.1 pc = .ok (.iconst i, 1)) (hv : Int32.ofInt i = v) (n : ah_At M d A h0 o h2 (pc + 1) lv (.int v :: st) h) : ah_At M d A h0 o h2 pc lv st h := ah_pure (fun hx hb ho hK hl k => lv_iconst hx hb hd hv (k _ hl)) n
theorem s_bipush {i : Int} {v : Int32} (hd : decode M.2.1 pc = .ok (.bipush i, 2)) (hv : (Int8.ofInt i).toInt32 = v) (n : ah_At M d A h0 o h2 (pc + 2) lv (.int v :: st) h) : ah_At M d A h0 o h2 pc lv st h := ah_pure (fun hx hb ho hK hl k => lv_bipush hx hb hd hv (k _ hl)) n
theorem s_sipush {i : Int} {v : Int32} (hd : decode M.2.1 pc = .ok (.sipush i, 3)) (hv : (Int16.ofInt i).toInt32 = v) (n : ah_At M d A h0 o h2 (pc + 3) lv (.int v :: st) h) : ah_At M d A h0 o h2 pc lv st h := ah_pure (fun hx hb ho hK hl k => lv_sipush hx hb hd hv (k _ hl)) n
theorem s_lconst {i : Fin 2} {v : Int64} (hd : decode M.2.1 pc = .ok (.lconst i, 1)) (hv : Int64.ofNat (i : Nat) = v) (n : ah_At M d A h0 o h2 (pc + 1) lv (.long v :: st) h) : ah_At M d A h0 o h2 pc lv st h := ah_pure (fun hx hb ho hK hl k => lv_lconst hx hb hd hv (k _ hl)) n
theorem s_ldc {i : Nat} {v : Int32} (hd : decode M.2.1 pc = .ok (.ldc i, 2)) (hw : Jvm.Cond.constant M.1.cls i v ∈ ah_W) (n : ah_At M d A h0 o h2 (pc + 2) lv (.int v :: st) h) : ah_At M d A h0 o h2 pc lv st h := ah_pure (fun hx hb ho hK hl k => lv_ldc hx hb ho (hK.w hw) hd (k _ hl)) n
theorem s_ldc2_w {i : Nat} {v : Int64} (hd : decode M.2.1 pc = .ok (.ldc2_w i, 3)) (hw : Jvm.Cond.constantLong M.1.cls i v ∈ ah_W) (n : ah_At M d A h0 o h2 (pc + 3) lv (.long v :: st) h) : ah_At M d A h0 o h2 pc lv st h := ah_pure (fun hx hb ho hK hl k => lv_ldc2 hx hb ho (hK.w hw) hd (k _ hl)) n
theorem s_goto {off : Int} {t : Nat} (hd : decode M.2.1 pc = .ok (.goto off, 3)) (ht : (pc : Int) + off = (t : Int)) (n : ah_At M d A h0 o h2 t lv st h) : ah_At M d A h0 o h2 pc lv st h := ah_pure (fun hx hb ho hK hl k => lv_goto hx hb hd ht (k _ hl)) n
theorem s_iload_n {q : Fin 4} {i : Nat} {x : Int32} (hd : decode M.2.1 pc = .ok (.iload_n q, 1)) (hi : (q : Nat) = i) (hg : al_g lv i = some (.int x)) (n : ah_At M d A h0 o h2 (pc + 1) lv (.int x :: st) h) : ah_At M d A h0 o h2 pc lv st h := ah_pure (fun hx hb ho hK hl k => lv_iload_n hx hb hd hi (al_at hl hg) (k _ hl)) n
theorem s_iload {i : Nat} {x : Int32} (hd : decode M.2.1 pc = .ok (.iload i, 2)) (hg : al_g lv i = some (.int x)) (n : ah_At M d A h0 o h2 (pc + 2) lv (.int x :: st) h) : ah_At M d A h0 o h2 pc lv st h := ah_pure (fun hx hb ho hK hl k => lv_iload hx hb hd (al_at hl hg) (k _ hl)) n
theorem s_istore_n {q : Fin 4} {i : Nat} {x : Int32} {lv' : List (Nat × Value)} (hd : decode M.2.1 pc = .ok (.istore_n q, 1)) (hi : (q : Nat) = i) (hL : i < M.2.2.1) (hu : al_u false i (.int x) lv = lv') (n : ah_At M d A h0 o h2 (pc + 1) lv' st h) : ah_At M d A h0 o h2 pc lv (.int x :: st) h := ah_pure (fun hx hb ho hK hl k => lv_istore_n hx hb hd hi hl hL rfl (fun ls' hl' => k ls' (hu ▸ al_u1 hl'))) n
theorem s_istore {i : Nat} {x : Int32} {lv' : List (Nat × Value)} (hd : decode M.2.1 pc = .ok (.istore i, 2)) (hL : i < M.2.2.1) (hu : al_u false i (.int x) lv = lv') (n : ah_At M d A h0 o h2 (pc + 2) lv' st h) : ah_At M d A h0 o h2 pc lv (.int x :: st) h := ah_pure (fun hx hb ho hK hl k => lv_istore hx hb hd hl hL rfl (fun ls' hl' => k ls' (hu ▸ al_u1 hl'))) n
theorem s_lload_n {q : Fin 4} {i : Nat} {x : Int64} (hd : decode M.2.1 pc = .ok (.lload_n q, 1)) (hi : (q : Nat) = i) (hg : al_g lv i = some (.long x)) (n : ah_At M d A h0 o h2 (pc + 1) lv (.long x :: st) h) : ah_At M d A h0 o h2 pc lv st h := ah_pure (fun hx hb ho hK hl k => lv_lload_n hx hb hd hi (al_at hl hg) (k _ hl)) n
theorem s_lload {i : Nat} {x : Int64} (hd : decode M.2.1 pc = .ok (.lload i, 2)) (hg : al_g lv i = some (.long x)) (n : ah_At M d A h0 o h2 (pc + 2) lv (.long x :: st) h) : ah_At M d A h0 o h2 pc lv st h := ah_pure (fun hx hb ho hK hl k => lv_lload hx hb hd (al_at hl hg) (k _ hl)) n
theorem s_lstore_n {q : Fin 4} {i : Nat} {x : Int64} {lv' : List (Nat × Value)} (hd : decode M.2.1 pc = .ok (.lstore_n q, 1)) (hi : (q : Nat) = i) (hL : i + 1 < M.2.2.1) (hu : al_u true i (.long x) lv = lv') (n : ah_At M d A h0 o h2 (pc + 1) lv' st h) : ah_At M d A h0 o h2 pc lv (.long x :: st) h := ah_pure (fun hx hb ho hK hl k => lv_lstore_n hx hb hd hi hl hL rfl (fun ls' hl' => k ls' (hu ▸ al_u2 hl'))) n
theorem s_lstore {i : Nat} {x : Int64} {lv' : List (Nat × Value)} (hd : decode M.2.1 pc = .ok (.lstore i, 2)) (hL : i + 1 < M.2.2.1) (hu : al_u true i (.long x) lv = lv') (n : ah_At M d A h0 o h2 (pc + 2) lv' st h) : ah_At M d A h0 o h2 pc lv (.long x :: st) h := ah_pure (fun hx hb ho hK hl k => lv_lstore hx hb hd hl hL rfl (fun ls' hl' => k ls' (hu ▸ al_u2 hl'))) n
theorem s_aload_n {q : Fin 4} {i : Nat} {x : Nat} (hd : decode M.2.1 pc = .ok (.aload_n q, 1)) (hi : (q : Nat) = i) (hg : al_g lv i = some (.ref x)) (n : ah_At M d A h0 o h2 (pc + 1) lv (.ref x :: st) h) : ah_At M d A h0 o h2 pc lv st h := ah_pure (fun hx hb ho hK hl k => lv_aload_n hx hb hd hi (al_at hl hg) (k _ hl)) n
theorem s_aload {i : Nat} {x : Nat} (hd : decode M.2.1 pc = .ok (.aload i, 2)) (hg : al_g lv i = some (.ref x)) (n : ah_At M d A h0 o h2 (pc + 2) lv (.ref x :: st) h) : ah_At M d A h0 o h2 pc lv st h := ah_pure (fun hx hb ho hK hl k => lv_aload hx hb hd (al_at hl hg) (k _ hl)) n
theorem s_astore_n {q : Fin 4} {i : Nat} {x : Nat} {lv' : List (Nat × Value)} (hd : decode M.2.1 pc = .ok (.astore_n q, 1)) (hi : (q : Nat) = i) (hL : i < M.2.2.1) (hu : al_u false i (.ref x) lv = lv') (n : ah_At M d A h0 o h2 (pc + 1) lv' st h) : ah_At M d A h0 o h2 pc lv (.ref x :: st) h := ah_pure (fun hx hb ho hK hl k => lv_astore_n hx hb hd hi hl hL rfl (fun ls' hl' => k ls' (hu ▸ al_u1 hl'))) n
theorem s_astore {i : Nat} {x : Nat} {lv' : List (Nat × Value)} (hd : decode M.2.1 pc = .ok (.astore i, 2)) (hL : i < M.2.2.1) (hu : al_u false i (.ref x) lv = lv') (n : ah_At M d A h0 o h2 (pc + 2) lv' st h) : ah_At M d A h0 o h2 pc lv (.ref x :: st) h := ah_pure (fun hx hb ho hK hl k => lv_astore hx hb hd hl hL rfl (fun ls' hl' => k ls' (hu ▸ al_u1 hl'))) n
theorem al_k {lv : List (Nat × Value)} {i : Nat} {v : Value} (h : al_g lv i = some v) : ∃ k : Nat, lv[k]? = some (i, v) := List.getElem?_of_mem (al_mem h)
theorem s_iinc {i : Nat} {j : Int} {x v : Int32} {lv' : List (Nat × Value)} (hd : decode M.2.1 pc = .ok (.iinc i j, 3)) (hg : al_g lv i = some (.int x)) (hv : x + Int32.ofInt j = v) (hL : i < M.2.2.1) (hu : al_u false i (.int v) lv = lv') (n : ah_At M d A h0 o h2 (pc + 3) lv' st h) : ah_At M d A h0 o h2 pc lv st h := by
  obtain ⟨k0, hk0⟩ := al_k hg
  exact ah_pure (fun hx hb ho hK hl k => lv_iinc hx hb hd hl hk0 hv hL rfl (fun ls' hl' => k ls' (hu ▸ al_u1 hl'))) n
theorem s_iadd {x y : Int32} (hd : decode M.2.1 pc = .ok (.iadd, 1)) (n : ah_At M d A h0 o h2 (pc + 1) lv (.int (x + y) :: st) h) : ah_At M d A h0 o h2 pc lv (.int y :: .int x :: st) h := ah_pure (fun hx hb ho hK hl k => lv_iadd hx hb hd (k _ hl)) n
theorem s_isub {x y : Int32} (hd : decode M.2.1 pc = .ok (.isub, 1)) (n : ah_At M d A h0 o h2 (pc + 1) lv (.int (x - y) :: st) h) : ah_At M d A h0 o h2 pc lv (.int y :: .int x :: st) h := ah_pure (fun hx hb ho hK hl k => lv_isub hx hb hd (k _ hl)) n
theorem s_imul {x y : Int32} (hd : decode M.2.1 pc = .ok (.imul, 1)) (n : ah_At M d A h0 o h2 (pc + 1) lv (.int (x * y) :: st) h) : ah_At M d A h0 o h2 pc lv (.int y :: .int x :: st) h := ah_pure (fun hx hb ho hK hl k => lv_imul hx hb hd (k _ hl)) n
theorem s_iand {x y : Int32} (hd : decode M.2.1 pc = .ok (.iand, 1)) (n : ah_At M d A h0 o h2 (pc + 1) lv (.int (x &&& y) :: st) h) : ah_At M d A h0 o h2 pc lv (.int y :: .int x :: st) h := ah_pure (fun hx hb ho hK hl k => lv_iand hx hb hd (k _ hl)) n
theorem s_ior {x y : Int32} (hd : decode M.2.1 pc = .ok (.ior, 1)) (n : ah_At M d A h0 o h2 (pc + 1) lv (.int (x ||| y) :: st) h) : ah_At M d A h0 o h2 pc lv (.int y :: .int x :: st) h := ah_pure (fun hx hb ho hK hl k => lv_ior hx hb hd (k _ hl)) n
theorem s_ixor {x y : Int32} (hd : decode M.2.1 pc = .ok (.ixor, 1)) (n : ah_At M d A h0 o h2 (pc + 1) lv (.int (x ^^^ y) :: st) h) : ah_At M d A h0 o h2 pc lv (.int y :: .int x :: st) h := ah_pure (fun hx hb ho hK hl k => lv_ixor hx hb hd (k _ hl)) n
theorem s_ishl {x y : Int32} (hd : decode M.2.1 pc = .ok (.ishl, 1)) (n : ah_At M d A h0 o h2 (pc + 1) lv (.int (x <<< (y &&& 31)) :: st) h) : ah_At M d A h0 o h2 pc lv (.int y :: .int x :: st) h := ah_pure (fun hx hb ho hK hl k => lv_ishl hx hb hd (k _ hl)) n
theorem s_ishr {x y : Int32} (hd : decode M.2.1 pc = .ok (.ishr, 1)) (n : ah_At M d A h0 o h2 (pc + 1) lv (.int (x >>> (y &&& 31)) :: st) h) : ah_At M d A h0 o h2 pc lv (.int y :: .int x :: st) h := ah_pure (fun hx hb ho hK hl k => lv_ishr hx hb hd (k _ hl)) n
theorem s_idiv {x y : Int32} (hd : decode M.2.1 pc = .ok (.idiv, 1)) (hne : ¬ y = 0) (n : ah_At M d A h0 o h2 (pc + 1) lv (.int (x / y) :: st) h) : ah_At M d A h0 o h2 pc lv (.int y :: .int x :: st) h := ah_pure (fun hx hb ho hK hl k => lv_idiv hx hb hd hne (k _ hl)) n
theorem s_irem {x y : Int32} (hd : decode M.2.1 pc = .ok (.irem, 1)) (hne : ¬ y = 0) (n : ah_At M d A h0 o h2 (pc + 1) lv (.int (x - x / y * y) :: st) h) : ah_At M d A h0 o h2 pc lv (.int y :: .int x :: st) h := ah_pure (fun hx hb ho hK hl k => lv_irem hx hb hd hne (k _ hl)) n
theorem s_ineg {x : Int32} (hd : decode M.2.1 pc = .ok (.ineg, 1)) (n : ah_At M d A h0 o h2 (pc + 1) lv (.int (-x) :: st) h) : ah_At M d A h0 o h2 pc lv (.int x :: st) h := ah_pure (fun hx hb ho hK hl k => lv_ineg hx hb hd (k _ hl)) n
theorem s_ladd {x y : Int64} (hd : decode M.2.1 pc = .ok (.ladd, 1)) (n : ah_At M d A h0 o h2 (pc + 1) lv (.long (x + y) :: st) h) : ah_At M d A h0 o h2 pc lv (.long y :: .long x :: st) h := ah_pure (fun hx hb ho hK hl k => lv_ladd hx hb hd (k _ hl)) n
theorem s_lsub {x y : Int64} (hd : decode M.2.1 pc = .ok (.lsub, 1)) (n : ah_At M d A h0 o h2 (pc + 1) lv (.long (x - y) :: st) h) : ah_At M d A h0 o h2 pc lv (.long y :: .long x :: st) h := ah_pure (fun hx hb ho hK hl k => lv_lsub hx hb hd (k _ hl)) n
theorem s_lmul {x y : Int64} (hd : decode M.2.1 pc = .ok (.lmul, 1)) (n : ah_At M d A h0 o h2 (pc + 1) lv (.long (x * y) :: st) h) : ah_At M d A h0 o h2 pc lv (.long y :: .long x :: st) h := ah_pure (fun hx hb ho hK hl k => lv_lmul hx hb hd (k _ hl)) n
theorem s_land {x y : Int64} (hd : decode M.2.1 pc = .ok (.land, 1)) (n : ah_At M d A h0 o h2 (pc + 1) lv (.long (x &&& y) :: st) h) : ah_At M d A h0 o h2 pc lv (.long y :: .long x :: st) h := ah_pure (fun hx hb ho hK hl k => lv_land hx hb hd (k _ hl)) n
theorem s_lor {x y : Int64} (hd : decode M.2.1 pc = .ok (.lor, 1)) (n : ah_At M d A h0 o h2 (pc + 1) lv (.long (x ||| y) :: st) h) : ah_At M d A h0 o h2 pc lv (.long y :: .long x :: st) h := ah_pure (fun hx hb ho hK hl k => lv_lor hx hb hd (k _ hl)) n
theorem s_ldiv {x y : Int64} (hd : decode M.2.1 pc = .ok (.ldiv, 1)) (hne : ¬ y = 0) (n : ah_At M d A h0 o h2 (pc + 1) lv (.long (x / y) :: st) h) : ah_At M d A h0 o h2 pc lv (.long y :: .long x :: st) h := ah_pure (fun hx hb ho hK hl k => lv_ldiv hx hb hd hne (k _ hl)) n
theorem s_lrem {x y : Int64} (hd : decode M.2.1 pc = .ok (.lrem, 1)) (hne : ¬ y = 0) (n : ah_At M d A h0 o h2 (pc + 1) lv (.long (x - x / y * y) :: st) h) : ah_At M d A h0 o h2 pc lv (.long y :: .long x :: st) h := ah_pure (fun hx hb ho hK hl k => lv_lrem hx hb hd hne (k _ hl)) n
theorem s_lcmp {x y : Int64} (hd : decode M.2.1 pc = .ok (.lcmp, 1)) (n : ah_At M d A h0 o h2 (pc + 1) lv (.int (lg_cmp x y) :: st) h) : ah_At M d A h0 o h2 pc lv (.long y :: .long x :: st) h := ah_pure (fun hx hb ho hK hl k => W.lcmp hx hb hd (k _ hl)) n
theorem s_lshl {x : Int64} {y : Int32} (hd : decode M.2.1 pc = .ok (.lshl, 1)) (n : ah_At M d A h0 o h2 (pc + 1) lv (.long (x <<< (y.toInt64 &&& 63)) :: st) h) : ah_At M d A h0 o h2 pc lv (.int y :: .long x :: st) h := ah_pure (fun hx hb ho hK hl k => lv_lshl hx hb hd rfl (k _ hl)) n
theorem s_i2l {x : Int32} (hd : decode M.2.1 pc = .ok (.i2l, 1)) (n : ah_At M d A h0 o h2 (pc + 1) lv (.long x.toInt64 :: st) h) : ah_At M d A h0 o h2 pc lv (.int x :: st) h := ah_pure (fun hx hb ho hK hl k => lv_i2l hx hb hd rfl (k _ hl)) n
theorem s_l2i {x : Int64} (hd : decode M.2.1 pc = .ok (.l2i, 1)) (n : ah_At M d A h0 o h2 (pc + 1) lv (.int x.toInt32 :: st) h) : ah_At M d A h0 o h2 pc lv (.long x :: st) h := ah_pure (fun hx hb ho hK hl k => lv_l2i hx hb hd rfl (k _ hl)) n
theorem s_dup {v : Value} (hd : decode M.2.1 pc = .ok (.dup, 1)) (hc : v.category = 1) (n : ah_At M d A h0 o h2 (pc + 1) lv (v :: v :: st) h) : ah_At M d A h0 o h2 pc lv (v :: st) h := ah_pure (fun hx hb ho hK hl k => lv_dup hx hb hd hc (k _ hl)) n
theorem s_pop {v : Value} (hd : decode M.2.1 pc = .ok (.pop, 1)) (hc : v.category = 1) (n : ah_At M d A h0 o h2 (pc + 1) lv st h) : ah_At M d A h0 o h2 pc lv (v :: st) h := ah_pure (fun hx hb ho hK hl k => lv_pop hx hb hd hc (k _ hl)) n
theorem s_dup_x1 {v w : Value} (hd : decode M.2.1 pc = .ok (.dup_x1, 1)) (hc : v.category = 1) (hw : w.category = 1) (n : ah_At M d A h0 o h2 (pc + 1) lv (v :: w :: v :: st) h) : ah_At M d A h0 o h2 pc lv (v :: w :: st) h := ah_pure (fun hx hb ho hK hl k => lv_dup_x1 hx hb hd hc hw (k _ hl)) n
theorem s_dup2 {v w : Value} (hd : decode M.2.1 pc = .ok (.dup2, 1)) (hc : v.category = 1) (hw : w.category = 1) (n : ah_At M d A h0 o h2 (pc + 1) lv (v :: w :: v :: w :: st) h) : ah_At M d A h0 o h2 pc lv (v :: w :: st) h := ah_pure (fun hx hb ho hK hl k => lv_dup2_11 hx hb hd hc hw (k _ hl)) n
theorem s_ifeq {x : Int32} {off : Int} {t : Nat} (hd : decode M.2.1 pc = .ok (.ifCond .eq off, 3)) (ht : (pc : Int) + off = (t : Int)) (n1 : x = 0 → ah_At M d A h0 o h2 t lv st h) (n2 : ¬ (x = 0) → ah_At M d A h0 o h2 (pc + 3) lv st h) : ah_At M d A h0 o h2 pc lv (.int x :: st) h := ah_fork (c := x = 0) (fun hx hb kt kf => lv_if_eq hx hb hd ht kt (kf)) ⟨n1, n2⟩
theorem s_ifne {x : Int32} {off : Int} {t : Nat} (hd : decode M.2.1 pc = .ok (.ifCond .ne off, 3)) (ht : (pc : Int) + off = (t : Int)) (n1 : ¬ x = 0 → ah_At M d A h0 o h2 t lv st h) (n2 : ¬ (¬ x = 0) → ah_At M d A h0 o h2 (pc + 3) lv st h) : ah_At M d A h0 o h2 pc lv (.int x :: st) h := ah_fork (c := ¬ x = 0) (fun hx hb kt kf => lv_if_ne hx hb hd ht kt (fun z => kf (fun w => w z))) ⟨n1, n2⟩
theorem s_iflt {x : Int32} {off : Int} {t : Nat} (hd : decode M.2.1 pc = .ok (.ifCond .lt off, 3)) (ht : (pc : Int) + off = (t : Int)) (n1 : x < 0 → ah_At M d A h0 o h2 t lv st h) (n2 : ¬ (x < 0) → ah_At M d A h0 o h2 (pc + 3) lv st h) : ah_At M d A h0 o h2 pc lv (.int x :: st) h := ah_fork (c := x < 0) (fun hx hb kt kf => lv_if_lt hx hb hd ht kt (kf)) ⟨n1, n2⟩
theorem s_ifge {x : Int32} {off : Int} {t : Nat} (hd : decode M.2.1 pc = .ok (.ifCond .ge off, 3)) (ht : (pc : Int) + off = (t : Int)) (n1 : 0 ≤ x → ah_At M d A h0 o h2 t lv st h) (n2 : ¬ (0 ≤ x) → ah_At M d A h0 o h2 (pc + 3) lv st h) : ah_At M d A h0 o h2 pc lv (.int x :: st) h := ah_fork (c := 0 ≤ x) (fun hx hb kt kf => lv_if_ge hx hb hd ht kt (kf)) ⟨n1, n2⟩
theorem s_ifgt {x : Int32} {off : Int} {t : Nat} (hd : decode M.2.1 pc = .ok (.ifCond .gt off, 3)) (ht : (pc : Int) + off = (t : Int)) (n1 : 0 < x → ah_At M d A h0 o h2 t lv st h) (n2 : ¬ (0 < x) → ah_At M d A h0 o h2 (pc + 3) lv st h) : ah_At M d A h0 o h2 pc lv (.int x :: st) h := ah_fork (c := 0 < x) (fun hx hb kt kf => lv_if_gt hx hb hd ht kt (kf)) ⟨n1, n2⟩
theorem s_ifle {x : Int32} {off : Int} {t : Nat} (hd : decode M.2.1 pc = .ok (.ifCond .le off, 3)) (ht : (pc : Int) + off = (t : Int)) (n1 : x ≤ 0 → ah_At M d A h0 o h2 t lv st h) (n2 : ¬ (x ≤ 0) → ah_At M d A h0 o h2 (pc + 3) lv st h) : ah_At M d A h0 o h2 pc lv (.int x :: st) h := ah_fork (c := x ≤ 0) (fun hx hb kt kf => lv_if_le hx hb hd ht kt (kf)) ⟨n1, n2⟩
theorem s_if_icmpeq {x y : Int32} {off : Int} {t : Nat} (hd : decode M.2.1 pc = .ok (.if_icmp .eq off, 3)) (ht : (pc : Int) + off = (t : Int)) (n1 : x = y → ah_At M d A h0 o h2 t lv st h) (n2 : ¬ (x = y) → ah_At M d A h0 o h2 (pc + 3) lv st h) : ah_At M d A h0 o h2 pc lv (.int y :: .int x :: st) h := ah_fork (c := x = y) (fun hx hb kt kf => lv_icmp_eq hx hb hd ht kt (kf)) ⟨n1, n2⟩
theorem s_if_icmpne {x y : Int32} {off : Int} {t : Nat} (hd : decode M.2.1 pc = .ok (.if_icmp .ne off, 3)) (ht : (pc : Int) + off = (t : Int)) (n1 : ¬ x = y → ah_At M d A h0 o h2 t lv st h) (n2 : ¬ (¬ x = y) → ah_At M d A h0 o h2 (pc + 3) lv st h) : ah_At M d A h0 o h2 pc lv (.int y :: .int x :: st) h := ah_fork (c := ¬ x = y) (fun hx hb kt kf => lv_icmp_ne hx hb hd ht kt (fun z => kf (fun w => w z))) ⟨n1, n2⟩
theorem s_if_icmplt {x y : Int32} {off : Int} {t : Nat} (hd : decode M.2.1 pc = .ok (.if_icmp .lt off, 3)) (ht : (pc : Int) + off = (t : Int)) (n1 : x < y → ah_At M d A h0 o h2 t lv st h) (n2 : ¬ (x < y) → ah_At M d A h0 o h2 (pc + 3) lv st h) : ah_At M d A h0 o h2 pc lv (.int y :: .int x :: st) h := ah_fork (c := x < y) (fun hx hb kt kf => lv_icmp_lt hx hb hd ht kt (kf)) ⟨n1, n2⟩
theorem s_if_icmpge {x y : Int32} {off : Int} {t : Nat} (hd : decode M.2.1 pc = .ok (.if_icmp .ge off, 3)) (ht : (pc : Int) + off = (t : Int)) (n1 : y ≤ x → ah_At M d A h0 o h2 t lv st h) (n2 : ¬ (y ≤ x) → ah_At M d A h0 o h2 (pc + 3) lv st h) : ah_At M d A h0 o h2 pc lv (.int y :: .int x :: st) h := ah_fork (c := y ≤ x) (fun hx hb kt kf => lv_icmp_ge hx hb hd ht kt (kf)) ⟨n1, n2⟩
theorem s_if_icmpgt {x y : Int32} {off : Int} {t : Nat} (hd : decode M.2.1 pc = .ok (.if_icmp .gt off, 3)) (ht : (pc : Int) + off = (t : Int)) (n1 : y < x → ah_At M d A h0 o h2 t lv st h) (n2 : ¬ (y < x) → ah_At M d A h0 o h2 (pc + 3) lv st h) : ah_At M d A h0 o h2 pc lv (.int y :: .int x :: st) h := ah_fork (c := y < x) (fun hx hb kt kf => lv_icmp_gt hx hb hd ht kt (kf)) ⟨n1, n2⟩
theorem s_if_icmple {x y : Int32} {off : Int} {t : Nat} (hd : decode M.2.1 pc = .ok (.if_icmp .le off, 3)) (ht : (pc : Int) + off = (t : Int)) (n1 : x ≤ y → ah_At M d A h0 o h2 t lv st h) (n2 : ¬ (x ≤ y) → ah_At M d A h0 o h2 (pc + 3) lv st h) : ah_At M d A h0 o h2 pc lv (.int y :: .int x :: st) h := ah_fork (c := x ≤ y) (fun hx hb kt kf => lv_icmp_le hx hb hd ht kt (kf)) ⟨n1, n2⟩
/-- fewer listed locals, in any order -/
theorem ah_At.sub {lv' : List (Nat × Value)} (ks : List Nat) (hs : lv_pick lv ks = lv') (n : ah_At M d A h0 o h2 pc lv' st h) : ah_At M d A h0 o h2 pc lv st h := ah_pure (fun hx hb ho hK hl k => k _ (lv_sub hl ks hs)) n
theorem ah_tabOut {dflt lo hi : Int} {offs : Array Int} {len : Nat} {x : Int32} {t : Nat} (hd : decode M.2.1 pc = .ok (.tableswitch dflt lo hi offs, len)) (hx0 : x.toInt < lo ∨ hi < x.toInt) (ht : (pc : Int) + dflt = (t : Int)) (n : ah_At M d A h0 o h2 t lv st h) : ah_At M d A h0 o h2 pc lv (.int x :: st) h := ah_pure (fun hx hb ho hK hl k => lv_tableOut hx hb hd hx0 ht (k _ hl)) n
theorem ah_tabIn {dflt lo hi off : Int} {offs : Array Int} {len : Nat} {x : Int32} {t : Nat} (hd : decode M.2.1 pc = .ok (.tableswitch dflt lo hi offs, len)) (h1 : ¬ x.toInt < lo) (h3 : ¬ hi < x.toInt) (hoff : offs[(x.toInt - lo).toNat]? = some off) (ht : (pc : Int) + off = (t : Int)) (n : ah_At M d A h0 o h2 t lv st h) : ah_At M d A h0 o h2 pc lv (.int x :: st) h := ah_pure (fun hx hb ho hK hl k => lv_tableIn hx hb hd h1 h3 hoff ht (k _ hl)) n
end AhRows
