/-! THROWS: new E(text) and athrow as one row; handlers -/
/-- the words of an exception's making, but for the site's own link and the two statics -/
def ah_own (E : String) (nms : List String) : List Cond := Bundle.throwableAtoms ++ Bundle.throwableSAtoms ++ Bundle.chainSAtoms E nms ++ [.instantiable E 6, .castable E E, .selects E Bundle.tFill0 Bundle.tFill0, .selects E Bundle.tFill Bundle.tFill, .lays E Bundle.tN "cause" "Ljava/lang/Throwable;", .lays E Bundle.tN "stackTrace" Bundle.steD, .lays E Bundle.tN "suppressedExceptions" Bundle.listD, .lays E Bundle.tN "detailMessage" "Ljava/lang/String;", .fieldLink Bundle.tN 198 Bundle.tN "backtrace" "Ljava/lang/Object;", .lays Bundle.tN Bundle.tN "backtrace" "Ljava/lang/Object;", .lays E Bundle.tN "backtrace" "Ljava/lang/Object;"]
theorem ah_wz {D : va_G} {s : State} {args : Array Value} (hK : ah_K D s) {a : Nat} (hz : ah_st2 s s.heap a) {w : Cond} (h : w ∈ ah_W ∨ w = .laysStatic "java/lang/Throwable" "UNASSIGNED_STACK" "[Ljava/lang/StackTraceElement;" ∨ w = .laysStatic "java/lang/Throwable" "SUPPRESSED_SENTINEL" "Ljava/util/List;") : w.before args s = true := by
  rcases h with h | rfl | rfl
  · exact hK.w h
  · exact hz.1.lays
  · exact hz.2.lays
theorem ah_own_in {E own : String} {ic : Nat} {nms : List String} {D : va_G} {s : State} {args : Array Value} (hK : ah_K D s) (hat : ∀ w ∈ ah_own E nms, w ∈ ah_W ∨ w = .laysStatic "java/lang/Throwable" "UNASSIGNED_STACK" "[Ljava/lang/StackTraceElement;" ∨ w = .laysStatic "java/lang/Throwable" "SUPPRESSED_SENTINEL" "Ljava/util/List;") (hml : Cond.methodLink own ic (Bundle.initS E) ∈ ah_W) {a : Nat} (hz : ah_st2 s s.heap a) : ∀ w ∈ Bundle.ownAtoms own ic E nms, w.before args s = true := by
  have k : ∀ w ∈ ah_own E nms, w.before args s = true := fun w hw => ah_wz hK hz (hat w hw)
  intro w hw
  simp only [Bundle.ownAtoms, List.mem_append, List.mem_cons, List.not_mem_nil, or_false] at hw
  rcases hw with ((hw | hw) | hw) | hw
  · exact k w (by simp [ah_own, hw])
  · exact k w (by simp [ah_own, hw])
  · exact k w (by simp [ah_own, hw])
  · rcases hw with rfl | rfl | rfl | rfl | rfl | rfl | rfl | rfl | rfl | rfl | rfl | rfl | rfl | rfl
    · exact hK.w hml
    · exact k _ (by simp [ah_own])
    · exact k _ (by simp [ah_own])
    · exact k _ (by simp [ah_own])
    · exact k _ (by simp [ah_own])
    · exact k _ (by simp [ah_own])
    · exact k _ (by simp [ah_own])
    · exact k _ (by simp [ah_own])
    · exact k _ (by simp [ah_own])
    · exact hz.1.ref
    · exact hz.2.ref
    · exact k _ (by simp [ah_own])
    · exact k _ (by simp [ah_own])
    · exact k _ (by simp [ah_own])
theorem ah_same_old {s t : State} {k n : Nat} (h : s.sameButNew t [] k n) {a : Nat} (ha : a < s.heap.size) : t.heap[a]? = s.heap[a]? := by
  obtain ⟨-, -, -, -, -, h6⟩ := h
  have hc : s.heap[a]? = some s.heap[a] := Array.getElem?_eq_getElem ha
  obtain ⟨c', e1, e2, e3, e4⟩ := h6 a _ hc
  rw [e1, hc, e2]
  congr 1
  have e5 : c'.slots = s.heap[a].slots := by
    apply Array.ext e3
    intro i h1 h2
    have := e4 i (by simp)
    rw [Array.getElem?_eq_getElem h1, Array.getElem?_eq_getElem h2] at this
    exact Option.some.inj this
  rw [e5]
section AhThrow
variable {M : ah_M} {d : Nat} {A : Nat → Prop} {h : ah_H} {pc : Nat} {lv : List (Nat × Value)} {st : List Value}
set_option maxHeartbeats 1000000 in
theorem ah_throw {t sc ic index : Nat} {E text : String} {nms : List String} (hx : ah_ex t = some E) (hfit : Bundle.fit E = true) (hnm : ∀ n ∈ nms, Bundle.fit n = true) (hnl : nms.length ≤ 3) (hat : ∀ w ∈ ah_own E nms, w ∈ ah_W ∨ w = .laysStatic "java/lang/Throwable" "UNASSIGNED_STACK" "[Ljava/lang/StackTraceElement;" ∨ w = .laysStatic "java/lang/Throwable" "SUPPRESSED_SENTINEL" "Ljava/util/List;") (hini : Cond.initialized E ∈ ah_W)
    (hA0 : ∀ q, ¬ A q) (hd9 : 8 ≤ d) (hs9 : ∃ a c, h.2.2 a = some (97, c)) (d0 : decode M.2.1 pc = .ok (.new index, 3)) (d3 : decode M.2.1 (pc + 3) = .ok (.dup, 1)) (d4 : decode M.2.1 (pc + 4) = .ok (.ldc sc, 2)) (d6 : decode M.2.1 (pc + 6) = .ok (.invokespecial ic, 3)) (d9 : decode M.2.1 (pc + 9) = .ok (.athrow, 1))
    (hcl : Cond.classLink M.1.cls index E ∈ ah_W) (hsr : Cond.stringRef M.1.cls sc text ∈ ah_W) (hml : Cond.methodLink M.1.cls ic (Bundle.initS E) ∈ ah_W) (hnh : M.2.2.2.2 = []) (hst : (st.map fun v => v.category).sum ≤ 8 := by exact Nat.le_of_ble_eq_true rfl) :
    ah_At M d A h (.threw h.1) (ah_newx h t) pc lv st h := by
  refine ⟨⟨by show h.1 ≤ h.1 + 1; omega, by show h.2.1 ≤ h.2.1 + 6; omega⟩, fun p l e R s m args below meth c D H locs cells slots ls X z0 r1 r2 r3 r4 hP hL hl' => ?_⟩
  have hc0 : cells = 0 := by omega
  have hs0 : slots = 0 := by omega
  have hlocs : locs = [] := List.eq_nil_iff_forall_not_mem.mpr (fun q hq => hA0 _ (hL q hq))
  subst hc0; subst hs0; subst hlocs
  obtain ⟨hexec, hb, hml0, hrt, hlocks, hname, hown, hex, hK, hfr, hlo, htr⟩ := X
  have r1' : h.1 + 1 ≤ h.1 + R.cells := r1
  have r2' : h.2.1 + 6 ≤ h.2.1 + R.slots := r2
  have hzs : s.heap.size = h.1 := z0.1
  have hzH : H.size = h.1 := hP.1
  obtain ⟨aS, cS, hS⟩ := hs9
  have hzz : ah_st2 s s.heap aS := by
    have h1 := z0.2 aS _ hS
    rw [ah_ok_z] at h1
    exact h1
  have hin : (Cond.instantiable E 6).before args s = true := ah_wz hK hzz (hat _ (by simp [ah_own]))
  obtain ⟨cX, kX, hfX, hkX, hord, -, -, hn6⟩ := Cond.instantiable_spec hin
  refine W.newcK hexec hb hown (hK.w hcl) hin (hK.w hini) rfl d0 (by omega) (by omega) hfX rfl fun H1 kC hkC e1 z1 o1 => ?_
  refine lv_dup hexec hb d3 rfl ?_
  obtain ⟨k', cf, i', am, -, -, -, -, -, hev⟩ := Cond.stringRef_spec hown (hK.w hsr (args := #[]))
  refine va_ldcS (q := am) (tx := text) hexec hb hown ⟨hK.w hsr, hev⟩ d4 ?_
  intro T hT Y
  have hadm := Y.admits
  have htr' : e.platform.stackTraces = false := by
    obtain ⟨-, -, -, -, hp, -⟩ := hadm
    rw [hp]
    exact htr
  obtain ⟨U, s1, s2, s3, s4, s5, ce, c1, c2⟩ := Y.ctorThrowS hexec htr' hown hfit hnm (ah_own_in hK hat hml hzz) (fun x hx => by cases hx) hfX hkC (by rw [hT]; exact e1) (a := H.size) (by omega) (msg := .ref am) rfl
    (g := F0 m (pc + 3 + 1 + 2) ls (.ref am :: .ref H.size :: .ref H.size :: st)) rfl (hl'.1.trans hml0.symm) rfl rfl (rest := st) rfl (by rw [hb]; exact d6) (by rw [hb]; exact d9) (fun x hx' => by
      have h9 : c.exceptionTable.toList = [] := by
        have := hex
        rw [hnh] at this
        exact List.map_eq_nil_iff.mp this
      rw [h9] at hx'
      cases hx') (by omega) (by
      have := lv_room (m := m) (pc := pc + 3 + 1 + 2) (ls := ls) (rest := .ref am :: .ref H.size :: .ref H.size :: st) hst
      show 2 * _ + (1 + (st.map fun v => v.category).sum) + _ ≤ _
      omega)
  refine ⟨U, s1, s2, ?_, ?_, [], ⟨s4, ?_⟩, fun q hq => by cases hq⟩
  · rw [← hzH]; exact s3
  · have hlt : H.size < U.heap.size := (Array.getElem?_eq_some_iff.mp c1).1
    have hsz : U.heap.size ≤ s.heap.size + (0 + 1) := s5.2.2.1
    refine ⟨by show U.heap.size = h.1 + 1; omega, fun q cq hq => ?_⟩
    by_cases hqe : q = h.1
    · subst hqe
      simp only [ah_newx, if_true] at hq
      cases hq
      rw [ah_ok_e hx]
      refine ⟨ce, by rw [← hzH]; exact c1, by rw [s4.alike.findClass]; exact c2.cls, fun k hk => by rw [c2.vm] at hk; cases hk⟩
    · simp only [ah_newx, if_neg hqe] at hq
      have h1 := z0.2 q _ hq
      exact (h1.kept (ah_same_old s5 h1.lt)).moved s4.alike
  · show s.sameButNew _ [] (h.1 + 1 - h.1) (h.2.1 + 6 - h.2.1)
    rw [show h.1 + 1 - h.1 = 0 + 1 by omega, show h.2.1 + 6 - h.2.1 = 0 + 6 by omega]
    exact s5
end AhThrow
