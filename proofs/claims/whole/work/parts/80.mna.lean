/-! new int[a][b]: the rows one after the other, each put into its place -/
def mn_f (z i j : Nat) : Value := if j < i then .ref (z + 1 + j) else .null
def mn_S (T : State) (cA cB : ClassId) (a b : Nat) : Nat → State
  | 0 => T.pushCell (arrV cA a (mn_f T.heap.size 0))
  | i + 1 => ((mn_S T cA cB a b i).pushCell (arrV cB b (fun _ => .int 0))).setCell T.heap.size (arrV cA a (mn_f T.heap.size (i + 1)))
theorem mn_upd {cA : ClassId} {a z i : Nat} : (arrV cA a (mn_f z i)).setSlot i (.ref (z + 1 + i)) = arrV cA a (mn_f z (i + 1)) := by
  rw [arrV_store]
  refine arrV_congr (fun j _ => ?_)
  unfold updV mn_f
  by_cases e : j = i
  · subst e
    rw [if_pos rfl, if_pos (by omega)]
  · rw [if_neg e]
    by_cases q : j < i
    · rw [if_pos q, if_pos (by omega)]
    · rw [if_neg q, if_neg (by omega)]
theorem mn_rep {c : ClassId} {n : Nat} {v : Value} : ({ cls := c, slots := Array.replicate n v } : Cell) = arrV c n (fun _ => v) := by
  unfold arrV
  congr 1
  apply Array.ext
  · simp
  · intro q hq1 hq2
    simp
theorem mn_facts (T : State) (cA cB : ClassId) (a b : Nat) : ∀ i, (mn_S T cA cB a b i).heap.size = T.heap.size + 1 + i ∧ (mn_S T cA cB a b i).heap[T.heap.size]? = some (arrV cA a (mn_f T.heap.size i)) ∧ (mn_S T cA cB a b i).vm = T.vm ∧ (mn_S T cA cB a b i).slotsUsed = T.slotsUsed + a + i * b ∧ (∀ q : Nat, q < T.heap.size → (mn_S T cA cB a b i).heap[q]? = T.heap[q]?) ∧ ∀ j, j < i → (mn_S T cA cB a b i).heap[T.heap.size + 1 + j]? = some (arrV cB b (fun _ => .int 0))
  | 0 => ⟨by simp [mn_S], by simp [mn_S], rfl, by simp [mn_S, arrV_size], fun q hq => State.heap_pushCell_of_lt _ _ hq, fun j h => absurd h (Nat.not_lt_zero _)⟩
  | i + 1 => by
    obtain ⟨f1, f2, f3, f4, f5, f6⟩ := mn_facts T cA cB a b i
    have hlt : T.heap.size < (mn_S T cA cB a b i).heap.size := by omega
    have hc : ((mn_S T cA cB a b i).pushCell (arrV cB b (fun _ => .int 0))).heap[T.heap.size]? = some (arrV cA a (mn_f T.heap.size i)) := by rw [State.heap_pushCell_of_lt (h := hlt)]; exact f2
    refine ⟨by simp [mn_S, State.setCell, f1]; omega, State.heap_setCell_self hc, by simp [mn_S, f3], by simp [mn_S, f4, arrV_size, Nat.succ_mul]; omega, fun q hq => ?_, fun j hj => ?_⟩
    · show (((mn_S T cA cB a b i).pushCell (arrV cB b (fun _ => .int 0))).setCell T.heap.size _).heap[q]? = _
      have hq2 : q < (mn_S T cA cB a b i).heap.size := by omega
      rw [State.heap_setCell_other (Nat.ne_of_gt hq), State.heap_pushCell_of_lt (h := hq2)]
      exact f5 q hq
    · show (((mn_S T cA cB a b i).pushCell (arrV cB b (fun _ => .int 0))).setCell T.heap.size _).heap[T.heap.size + 1 + j]? = _
      rw [State.heap_setCell_other (show T.heap.size ≠ T.heap.size + 1 + j by omega)]
      by_cases e : j = i
      · rw [e, ← f1]
        exact State.heap_pushCell_size _ _
      · have hq2 : T.heap.size + 1 + j < (mn_S T cA cB a b i).heap.size := by omega
        rw [State.heap_pushCell_of_lt (h := hq2)]
        exact f6 j (by omega)
theorem mn_top (T : State) (f : JFrame) (cA cB : ClassId) (a b : Nat) : ∀ i, mn_S (T.setTop f) cA cB a b i = (mn_S T cA cB a b i).setTop f
  | 0 => rfl
  | i + 1 => by simp only [mn_S, mn_top T f cA cB a b i, State.heap_setTop, State.pushCell_setTop, State.setCell_setTop]
section MnMake
variable {E : CtlPost} {e : Env} {d : Bool} {acts : List Action} {s : State}
theorem mn_row {cB cc : ClassId} {kB : Class} {k : Int32} (hk : s.vm.classes[cB]? = some kB) (hkind : kB.kind = .array cc .int) (h0 : ¬ k < 0) (hl : ¬ k.toNatClampNeg > e.platform.arrayLengthLimit) (hh : ¬ k.toNatClampNeg * componentBytes .int > e.platform.maxHeapBytes)
    (h1 : s.heap.size < e.platform.maxCells) (h2 : s.slotsUsed + k.toNatClampNeg ≤ e.platform.maxSlots) {Q : Addr → Pre} (hq : ∀ acts', Q s.heap.size d acts' (s.pushCell (arrV cB k.toNatClampNeg (fun _ => .int 0)))) :
    wp (multianewarray.make cB [k]) Q E e d acts s := by
  rw [multianewarray.make]
  simp only [wp_bind', W.ite, h0, if_false, wp_pure', W.theClass, hk, hkind, Option.some.injEq, exists_eq_left']
  refine W.newArray_of hk hkind hl hh h1 h2 rfl (fun acts' => ?_)
  rw [mn_rep]
  exact hq acts'
theorem mn_make {cA cB cc : ClassId} {kA kB : Class} {n k : Int32} (hkA : s.vm.classes[cA]? = some kA) (hkindA : kA.kind = .array cB (.array .int)) (hkB : s.vm.classes[cB]? = some kB) (hkindB : kB.kind = .array cc .int) (hn : ¬ n < 0) (hk : ¬ k < 0)
    (hl1 : ¬ n.toNatClampNeg > e.platform.arrayLengthLimit) (hh1 : ¬ n.toNatClampNeg * componentBytes (.array .int) > e.platform.maxHeapBytes) (hl2 : ¬ k.toNatClampNeg > e.platform.arrayLengthLimit) (hh2 : ¬ k.toNatClampNeg * componentBytes .int > e.platform.maxHeapBytes)
    (hc : s.heap.size + 1 + n.toNatClampNeg ≤ e.platform.maxCells) (hs : s.slotsUsed + n.toNatClampNeg + n.toNatClampNeg * k.toNatClampNeg ≤ e.platform.maxSlots)
    {Q : Addr → Pre} (hq : ∀ d' acts', Q s.heap.size d' acts' (mn_S s cA cB n.toNatClampNeg k.toNatClampNeg n.toNatClampNeg)) :
    wp (multianewarray.make cA [n, k]) Q E e d acts s := by
  have hfind : ([k].find? (· < 0)) = none := by simp [hk]
  rw [multianewarray.make]
  simp only [wp_bind', W.ite, hn, if_false, wp_pure', W.theClass, hkA, hkindA, Option.some.injEq, exists_eq_left']
  refine W.newArray_of hkA hkindA hl1 hh1 (by omega) (by have := Nat.zero_le (n.toNatClampNeg * k.toNatClampNeg); omega) rfl (fun acts' => ?_)
  rw [mn_rep, arrV_congr (g := mn_f s.heap.size 0) (fun j _ => by unfold mn_f; rw [if_neg (Nat.not_lt_zero _)])]
  simp only [hfind]
  rw [ite_self, wp_bind', Std.Legacy.Range.forIn_eq_forIn_range']
  have hsz : ([:n.toNatClampNeg] : Std.Legacy.Range).size = n.toNatClampNeg := by simp [Std.Legacy.Range.size]
  rw [hsz]
  show wp (forIn (List.range' 0 n.toNatClampNeg 1) PUnit.unit _) _ E e d acts' _
  refine wp_forIn_inv (fun rest s' => ∃ i, i ≤ n.toNatClampNeg ∧ rest = List.range' i (n.toNatClampNeg - i) ∧ s' = mn_S s cA cB n.toNatClampNeg k.toNatClampNeg i) _ _ ⟨0, Nat.zero_le _, rfl, rfl⟩ ?_ ?_
  · rintro x rest s' d' acts2 Q' ⟨i, hi, hl, rfl⟩ hnext
    by_cases hlt : i < n.toNatClampNeg
    · rw [show n.toNatClampNeg - i = (n.toNatClampNeg - (i + 1)) + 1 from by omega, List.range'_succ] at hl
      obtain ⟨rfl, hrest⟩ := List.cons.inj hl
      obtain ⟨f1, f2, f3, f4, -, -⟩ := mn_facts s cA cB n.toNatClampNeg k.toNatClampNeg x
      have hm : x * k.toNatClampNeg + k.toNatClampNeg ≤ n.toNatClampNeg * k.toNatClampNeg := by
        have := Nat.mul_le_mul_right k.toNatClampNeg (show x + 1 ≤ n.toNatClampNeg from hlt)
        rw [Nat.succ_mul] at this
        exact this
      simp only [wp_bind']
      refine mn_row (by rw [f3]; exact hkB) hkindB hk hl2 hh2 (by rw [f1]; omega) (by rw [f4]; omega) (fun acts3 => ?_)
      have hlt0 : s.heap.size < (mn_S s cA cB n.toNatClampNeg k.toNatClampNeg x).heap.size := by rw [f1]; omega
      simp only [wp_bind', W.writeLoc, wp_pure']
      refine ⟨arrV cA n.toNatClampNeg (mn_f s.heap.size x), by rw [State.heap_pushCell_of_lt (h := hlt0)]; exact f2, (by intro z; cases z), by rw [arrV_size]; exact hlt, ?_, hnext _ _ _ ⟨x + 1, hlt, hrest, ?_⟩⟩
      · simp [State.fitsSlot, State.slotType?, arrV, f3, hkA, hkindA, fits]
      · rw [f1, mn_upd]
        rfl
    · rw [show n.toNatClampNeg - i = 0 from by omega] at hl
      simp at hl
  · rintro s' d' acts2 ⟨i, hi, hl, rfl⟩
    have hiN : i = n.toNatClampNeg := by
      by_cases hlt : i < n.toNatClampNeg
      · rw [show n.toNatClampNeg - i = (n.toNatClampNeg - (i + 1)) + 1 from by omega, List.range'_succ] at hl
        cases hl
      · omega
    subst hiN
    simp only [wp_pure']
    exact hq _ _
end MnMake
section MnStand
variable {p : Program} {l : Launch} {e : Env} {R : Room} {s : State} {m : MethodId} {args : Array Value} {below : List Frame} {meth : Method} {c : Code} {T : State} {locs : List Loc} {cells slots : Nat}
theorem mn_stand (X : Stand p l e R s m args below meth c T locs cells slots) (cA cB : ClassId) (a b : Nat) : ∀ i, Stand p l e R s m args below meth c (mn_S T cA cB a b i) locs (cells + 1 + i) (slots + a + i * b)
  | 0 => by
    have h := X.pushed (arrV cA a (mn_f T.heap.size 0))
    rw [arrV_size] at h
    simpa [mn_S] using h
  | i + 1 => by
    have Xi := mn_stand X cA cB a b i
    obtain ⟨f1, f2, -, -, -, -⟩ := mn_facts T cA cB a b i
    have hlt0 : T.heap.size < (mn_S T cA cB a b i).heap.size := by rw [f1]; omega
    have hcell : ((mn_S T cA cB a b i).pushCell (arrV cB b (fun _ => .int 0))).heap[T.heap.size]? = some (arrV cA a (mn_f T.heap.size i)) := by rw [State.heap_pushCell_of_lt (h := hlt0)]; exact f2
    have h := (Xi.pushed (arrV cB b (fun _ => .int 0))).stored hcell i (.ref (T.heap.size + 1 + i))
    rw [arrV_size, mn_upd] at h
    have h2 := h.dropFresh (fun x hx => by
      rw [List.mem_singleton.mp hx]
      exact X.heapGrown)
    rw [show slots + a + (i + 1) * b = slots + a + i * b + b by rw [Nat.succ_mul]; omega]
    exact h2
end MnStand
section MnRow
variable {M : ah_M} {d : Nat} {A : Nat → Prop} {h0 : ah_H} {o : Outcome} {h2 h h1 : ah_H} {pc : Nat} {lv : List (Nat × Value)} {st : List Value}
theorem s_mna {index a b : Nat} {n k : Int32} (hd : decode M.2.1 pc = .ok (.multianewarray index 2, 4)) (hl : Cond.classLink M.1.cls index "[[I" ∈ ah_W) (hi : ah_ix n a) (hj : ah_ix k b) (ha : a ≤ 1000) (hb : b ≤ 1000) (nn : ah_At M d A h0 o h2 (pc + 4) lv (.ref h.1 :: st) (ah_mna h a b)) : ah_At M d A h0 o h2 pc lv (.int k :: .int n :: st) h := by
  obtain ⟨hn0, hna⟩ := hi
  obtain ⟨hk0, hkb⟩ := hj
  subst hna
  subst hkb
  have hA1 : h.1 + 1 + n.toNatClampNeg ≤ h2.1 ∧ h.2.1 + n.toNatClampNeg + n.toNatClampNeg * k.toNatClampNeg ≤ h2.2.1 := nn.1
  refine ⟨⟨by omega, by omega⟩, fun p l e R s m args below meth c D H locs cells slots ls X z0 r1 r2 r3 r4 hP hL hl' => ?_⟩
  have hK := X.2.2.2.2.2.2.2.2.1
  have hown := X.2.2.2.2.2.2.1
  intro T hT Y
  have hz : T.heap.size = h.1 := by rw [hT]; exact hP.1
  obtain ⟨cB, cA, kA, hcB, -, hkA, hkindA, hnA⟩ := arrayOverA_spec (hK.w ah_x3 (args := #[]))
  obtain ⟨cB', kB, cc, hcB', hkB, hkindB⟩ := Cond.arrayClass_spec (hK.w ah_x4 (args := #[]))
  cases Option.some.inj (hcB'.symm.trans hcB)
  have hpl : e.platform.magicAccessors = ({} : Platform).magicAccessors := by rw [Y.admits.platform]
  obtain ⟨c0, hfc0, hcl⟩ := Cond.classLink_spec hown (hK.w hl (args := #[])) e.platform hpl
  cases Option.some.inj (hfc0.symm.trans hnA)
  obtain ⟨hg1, hwarm, -⟩ := State.classEntry (e := e) Y.warmed hcl
  generalize T.vm.noted m.cls index (.cls cA) = vm1 at hg1 hwarm
  obtain ⟨kA1, hkA1, heA⟩ := hwarm.alike.2.2 _ _ hkA
  obtain ⟨kB1, hkB1, heB⟩ := hwarm.alike.2.2 _ _ hkB
  have hkindA1 : kA1.kind = .array cB (.array .int) := by rw [heA]; exact hkindA
  have hkindB1 : kB1.kind = .array cc .int := by rw [heB]; exact hkindB
  have X1 := Y.noted hwarm
  have XF := mn_stand X1 cA cB n.toNatClampNeg k.toNatClampNeg n.toNatClampNeg
  obtain ⟨hr1, hr2⟩ := Y.roomAbove (a := 1 + n.toNatClampNeg) (b := n.toNatClampNeg + n.toNatClampNeg * k.toNatClampNeg) (by omega) (by omega)
  obtain ⟨f1, f2, f3, f4, f5, f6⟩ := mn_facts (T.setVm vm1) cA cB n.toNatClampNeg k.toNatClampNeg n.toNatClampNeg
  have hTv : (T.setVm vm1).heap = T.heap := rfl
  rw [hTv, hz] at f2 f5 f6
  rw [hTv, hz] at f1
  have hAA : ArrOfT s cA (.array .int) := fun nn z => ⟨fun k h => (by cases h), kA, hkA, cB, hkindA⟩
  have hAB : ArrOfT s cB .int := fun nn z => ⟨fun k h => (by cases h), kB, hkB, cc, hkindB⟩
  have hP' : ah_P D s (ah_mna h n.toNatClampNeg k.toNatClampNeg) (mn_S (T.setVm vm1) cA cB n.toNatClampNeg k.toNatClampNeg n.toNatClampNeg).heap := by
    refine ⟨by rw [f1]; rfl, fun q cq hq => ?_⟩
    by_cases c1 : q = h.1
    · subst c1
      simp only [ah_mna, if_true] at hq
      cases hq
      rw [ah_ok_a rfl ⟨by decide, by decide⟩ (ty := .array .int) rfl]
      refine ⟨cA, ?_, hAA, hnA⟩
      rw [f2, List.length_map, List.length_range]
      congr 1
      refine arrV_congr (fun j hj => ?_)
      unfold mn_f vp_V
      rw [if_pos hj]
      simp [hj]
    · simp only [ah_mna, if_neg c1] at hq
      by_cases c2 : h.1 < q ∧ q < h.1 + 1 + n.toNatClampNeg
      · rw [if_pos c2] at hq
        cases hq
        rw [ah_ok_a rfl ⟨by decide, by decide⟩ (ty := .int) rfl]
        refine ⟨cB, ?_, hAB, hcB⟩
        have := f6 (q - h.1 - 1) (by omega)
        rw [show h.1 + 1 + (q - h.1 - 1) = q by omega] at this
        rw [this, List.length_replicate]
        congr 1
        refine arrV_congr (fun j hj => ?_)
        unfold vp_V
        simp [hj]
      · rw [if_neg c2] at hq
        have h9 := hP.2 q cq hq
        have hlt : q < h.1 := by rw [← hP.1]; exact h9.lt
        exact h9.kept (by rw [f5 q hlt, hT])
  obtain ⟨t, a1, a2⟩ := nn.2 p l e R s m args below meth c D _ locs (cells + 1 + n.toNatClampNeg) (slots + n.toNatClampNeg + n.toNatClampNeg * k.toNatClampNeg) ls X z0 r1 r2 (by show h.1 + 1 + n.toNatClampNeg = _; omega) (by show h.2.1 + n.toNatClampNeg + n.toNatClampNeg * k.toNatClampNeg = _; omega) hP' hL hl' _ rfl XF
  refine ⟨t, ?_, a2⟩
  have hl1 : ¬ n.toNatClampNeg > e.platform.arrayLengthLimit := by rw [Launch.admits_arrayLengthLimit Y.admits]; omega
  have hh1 : ¬ n.toNatClampNeg * componentBytes (.array .int) > e.platform.maxHeapBytes := by
    rw [Launch.admits_maxHeapBytes Y.admits]; show ¬ n.toNatClampNeg * 4 > 536870912; omega
  have hl2 : ¬ k.toNatClampNeg > e.platform.arrayLengthLimit := by rw [Launch.admits_arrayLengthLimit Y.admits]; omega
  have hh2 : ¬ k.toNatClampNeg * componentBytes .int > e.platform.maxHeapBytes := by
    rw [Launch.admits_maxHeapBytes Y.admits]; show ¬ k.toNatClampNeg * 4 > 536870912; omega
  have hdg : decode c.code (F0 m pc ls (.int k :: .int n :: st)).pc = .ok (.multianewarray index 2, 4) := by rw [X.2.1]; exact hd
  jvm_step Y.here [X.1, hdg]
  simp only [multianewarray.sem, wp_bind', W.resolveClassAt_links (State.method?_setTop (F0 m pc ls (.int k :: .int n :: st)) Y.here.top) hg1]
  rw [W.popN, if_neg (by decide)]
  refine ⟨F0 m pc ls (.int k :: .int n :: st), State.topJava?_setTop' (s := T.setVm vm1) _ Y.here.top, [.int n, .int k], st, rfl, rfl, ?_⟩
  simp only [List.mapM_cons, List.mapM_nil, wp_bind', wp_pure']
  refine mn_make (kA := kA1) (kB := kB1) (cc := cc) hkA1 hkindA1 hkB1 hkindB1 hn0 hk0 hl1 hh1 hl2 hh2 (by show T.heap.size + 1 + _ ≤ _; omega) (by show T.slotsUsed + _ + _ ≤ _; omega) (fun d' acts' => ?_)
  have eS : ((T.setTop (F0 m pc ls (.int k :: .int n :: st))).setVm vm1).setTop { F0 m pc ls (.int k :: .int n :: st) with stack := st } = (T.setVm vm1).setTop { F0 m pc ls (.int k :: .int n :: st) with stack := st } := by
    show ((T.setVm vm1).setTop _).setTop _ = _
    rw [State.setTop_setTop]
  rw [eS, mn_top]
  simp only [wp_bind', W.mark, W.pushRef, State.topJava?_setTop' _ XF.here.top, Option.some.injEq, exists_eq_left', State.setTop_setTop, State.heap_setTop]
  intro acts
  simp [jvm, XF.here.top]
  rw [← hz] at a1
  exact a1
theorem s_mnaE {index a b : Nat} {n k : Int32} (hd : decode M.2.1 pc = .ok (.multianewarray index 2, 4)) (hl : Cond.classLink M.1.cls index "[[I" ∈ ah_W) (hi : ah_ix n a) (hj : ah_ix k b) (hh : ah_mna h a b = h1) (nn : ah_At M d A h0 o h2 (pc + 4) lv (.ref h.1 :: st) h1) (ha : a ≤ 1000 := by decide) (hb : b ≤ 1000 := by decide) : ah_At M d A h0 o h2 pc lv (.int k :: .int n :: st) h := by
  subst hh
  exact s_mna hd hl hi hj ha hb nn
end MnRow
