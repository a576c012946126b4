/-! THE FIVE EXCEPTIONS that the class throws -/
section AhExc
variable {M : ah_M} {d : Nat} {A : Nat → Prop} {h : ah_H} {pc : Nat} {lv : List (Nat × Value)} {st : List Value}
theorem xo_90 : ∀ w ∈ ah_own "java/lang/IllegalArgumentException" ["java/lang/RuntimeException", "java/lang/Exception"], w ∈ ah_W ∨ w = .laysStatic "java/lang/Throwable" "UNASSIGNED_STACK" "[Ljava/lang/StackTraceElement;" ∨ w = .laysStatic "java/lang/Throwable" "SUPPRESSED_SENTINEL" "Ljava/util/List;" := by decide +kernel
theorem xo_91 : ∀ w ∈ ah_own "java/lang/IllegalStateException" ["java/lang/RuntimeException", "java/lang/Exception"], w ∈ ah_W ∨ w = .laysStatic "java/lang/Throwable" "UNASSIGNED_STACK" "[Ljava/lang/StackTraceElement;" ∨ w = .laysStatic "java/lang/Throwable" "SUPPRESSED_SENTINEL" "Ljava/util/List;" := by decide +kernel
theorem xo_92 : ∀ w ∈ ah_own "java/lang/IndexOutOfBoundsException" ["java/lang/RuntimeException", "java/lang/Exception"], w ∈ ah_W ∨ w = .laysStatic "java/lang/Throwable" "UNASSIGNED_STACK" "[Ljava/lang/StackTraceElement;" ∨ w = .laysStatic "java/lang/Throwable" "SUPPRESSED_SENTINEL" "Ljava/util/List;" := by decide +kernel
theorem xo_94 : ∀ w ∈ ah_own "java/lang/ArithmeticException" ["java/lang/RuntimeException", "java/lang/Exception"], w ∈ ah_W ∨ w = .laysStatic "java/lang/Throwable" "UNASSIGNED_STACK" "[Ljava/lang/StackTraceElement;" ∨ w = .laysStatic "java/lang/Throwable" "SUPPRESSED_SENTINEL" "Ljava/util/List;" := by decide +kernel
theorem xi_90 : Cond.initialized "java/lang/IllegalArgumentException" ∈ ah_W := ah_in (by decide +kernel) rfl
theorem xi_91 : Cond.initialized "java/lang/IllegalStateException" ∈ ah_W := ah_in (by decide +kernel) rfl
theorem xi_92 : Cond.initialized "java/lang/IndexOutOfBoundsException" ∈ ah_W := ah_in (by decide +kernel) rfl
theorem xi_93 : Cond.initialized "java/util/NoSuchElementException" ∈ ah_W := ah_in (by decide +kernel) rfl
theorem xi_94 : Cond.initialized "java/lang/ArithmeticException" ∈ ah_W := ah_in (by decide +kernel) rfl
theorem xo_93 : ∀ w ∈ ah_ownN "java/util/NoSuchElementException", w ∈ ah_W ∨ w = .laysStatic "java/lang/Throwable" "UNASSIGNED_STACK" "[Ljava/lang/StackTraceElement;" ∨ w = .laysStatic "java/lang/Throwable" "SUPPRESSED_SENTINEL" "Ljava/util/List;" := by decide +kernel
theorem e_throw90 {sc ic index : Nat} {text : String} (hA0 : ∀ q, ¬ A q) (hd9 : 8 ≤ d) (hs9 : ∃ a c, h.2.2 a = some (97, c)) (d0 : decode M.2.1 pc = .ok (.new index, 3)) (d3 : decode M.2.1 (pc + 3) = .ok (.dup, 1)) (d4 : decode M.2.1 (pc + 4) = .ok (.ldc sc, 2)) (d6 : decode M.2.1 (pc + 6) = .ok (.invokespecial ic, 3)) (d9 : decode M.2.1 (pc + 9) = .ok (.athrow, 1))
    (hcl : Cond.classLink M.1.cls index "java/lang/IllegalArgumentException" ∈ ah_W) (hsr : Cond.stringRef M.1.cls sc text ∈ ah_W) (hml : Cond.methodLink M.1.cls ic (Bundle.initS "java/lang/IllegalArgumentException") ∈ ah_W) (hnh : M.2.2.2.2 = []) (hst : (st.map fun v => v.category).sum ≤ 8 := by exact Nat.le_of_ble_eq_true rfl) :
    ah_At M d A h (.threw h.1) (ah_newx h 90) pc lv st h := ah_throw (t := 90) (nms := ["java/lang/RuntimeException", "java/lang/Exception"]) rfl (by decide +kernel) (by decide +kernel) (by decide) xo_90 xi_90 hA0 hd9 hs9 d0 d3 d4 d6 d9 hcl hsr hml hnh hst
theorem e_throw91 {sc ic index : Nat} {text : String} (hA0 : ∀ q, ¬ A q) (hd9 : 8 ≤ d) (hs9 : ∃ a c, h.2.2 a = some (97, c)) (d0 : decode M.2.1 pc = .ok (.new index, 3)) (d3 : decode M.2.1 (pc + 3) = .ok (.dup, 1)) (d4 : decode M.2.1 (pc + 4) = .ok (.ldc sc, 2)) (d6 : decode M.2.1 (pc + 6) = .ok (.invokespecial ic, 3)) (d9 : decode M.2.1 (pc + 9) = .ok (.athrow, 1))
    (hcl : Cond.classLink M.1.cls index "java/lang/IllegalStateException" ∈ ah_W) (hsr : Cond.stringRef M.1.cls sc text ∈ ah_W) (hml : Cond.methodLink M.1.cls ic (Bundle.initS "java/lang/IllegalStateException") ∈ ah_W) (hnh : M.2.2.2.2 = []) (hst : (st.map fun v => v.category).sum ≤ 8 := by exact Nat.le_of_ble_eq_true rfl) :
    ah_At M d A h (.threw h.1) (ah_newx h 91) pc lv st h := ah_throw (t := 91) (nms := ["java/lang/RuntimeException", "java/lang/Exception"]) rfl (by decide +kernel) (by decide +kernel) (by decide) xo_91 xi_91 hA0 hd9 hs9 d0 d3 d4 d6 d9 hcl hsr hml hnh hst
theorem e_throw92 {sc ic index : Nat} {text : String} (hA0 : ∀ q, ¬ A q) (hd9 : 8 ≤ d) (hs9 : ∃ a c, h.2.2 a = some (97, c)) (d0 : decode M.2.1 pc = .ok (.new index, 3)) (d3 : decode M.2.1 (pc + 3) = .ok (.dup, 1)) (d4 : decode M.2.1 (pc + 4) = .ok (.ldc sc, 2)) (d6 : decode M.2.1 (pc + 6) = .ok (.invokespecial ic, 3)) (d9 : decode M.2.1 (pc + 9) = .ok (.athrow, 1))
    (hcl : Cond.classLink M.1.cls index "java/lang/IndexOutOfBoundsException" ∈ ah_W) (hsr : Cond.stringRef M.1.cls sc text ∈ ah_W) (hml : Cond.methodLink M.1.cls ic (Bundle.initS "java/lang/IndexOutOfBoundsException") ∈ ah_W) (hnh : M.2.2.2.2 = []) (hst : (st.map fun v => v.category).sum ≤ 8 := by exact Nat.le_of_ble_eq_true rfl) :
    ah_At M d A h (.threw h.1) (ah_newx h 92) pc lv st h := ah_throw (t := 92) (nms := ["java/lang/RuntimeException", "java/lang/Exception"]) rfl (by decide +kernel) (by decide +kernel) (by decide) xo_92 xi_92 hA0 hd9 hs9 d0 d3 d4 d6 d9 hcl hsr hml hnh hst
theorem e_throw94 {sc ic index : Nat} {text : String} (hA0 : ∀ q, ¬ A q) (hd9 : 8 ≤ d) (hs9 : ∃ a c, h.2.2 a = some (97, c)) (d0 : decode M.2.1 pc = .ok (.new index, 3)) (d3 : decode M.2.1 (pc + 3) = .ok (.dup, 1)) (d4 : decode M.2.1 (pc + 4) = .ok (.ldc sc, 2)) (d6 : decode M.2.1 (pc + 6) = .ok (.invokespecial ic, 3)) (d9 : decode M.2.1 (pc + 9) = .ok (.athrow, 1))
    (hcl : Cond.classLink M.1.cls index "java/lang/ArithmeticException" ∈ ah_W) (hsr : Cond.stringRef M.1.cls sc text ∈ ah_W) (hml : Cond.methodLink M.1.cls ic (Bundle.initS "java/lang/ArithmeticException") ∈ ah_W) (hnh : M.2.2.2.2 = []) (hst : (st.map fun v => v.category).sum ≤ 8 := by exact Nat.le_of_ble_eq_true rfl) :
    ah_At M d A h (.threw h.1) (ah_newx h 94) pc lv st h := ah_throw (t := 94) (nms := ["java/lang/RuntimeException", "java/lang/Exception"]) rfl (by decide +kernel) (by decide +kernel) (by decide) xo_94 xi_94 hA0 hd9 hs9 d0 d3 d4 d6 d9 hcl hsr hml hnh hst
set_option maxHeartbeats 1000000 in
theorem e_throw93 {sc ic index : Nat} {text : String} (hA0 : ∀ q, ¬ A q) (hd9 : 8 ≤ d) (hs9 : ∃ a c, h.2.2 a = some (97, c)) (d0 : decode M.2.1 pc = .ok (.new index, 3)) (d3 : decode M.2.1 (pc + 3) = .ok (.dup, 1)) (d4 : decode M.2.1 (pc + 4) = .ok (.ldc sc, 2)) (d6 : decode M.2.1 (pc + 6) = .ok (.invokespecial ic, 3)) (d9 : decode M.2.1 (pc + 9) = .ok (.athrow, 1))
    (hcl : Cond.classLink M.1.cls index "java/util/NoSuchElementException" ∈ ah_W) (hsr : Cond.stringRef M.1.cls sc text ∈ ah_W) (hml : Cond.methodLink M.1.cls ic (Bundle.initS "java/util/NoSuchElementException") ∈ ah_W) (hnh : M.2.2.2.2 = []) (hst : (st.map fun v => v.category).sum ≤ 8 := by exact Nat.le_of_ble_eq_true rfl) :
    ah_At M d A h (.threw h.1) (ah_newx h 93) pc lv st h := by
  refine ⟨⟨by show h.1 ≤ h.1 + 1; omega, by show h.2.1 ≤ h.2.1 + 6; omega⟩, fun p l e R s m args below meth c D H locs cells slots ls X z0 r1 r2 r3 r4 hP hL hl' => ?_⟩
  have hc0 : cells = 0 := by omega
  have hs0 : slots = 0 := by omega
  have hlocs : locs = [] := List.eq_nil_iff_forall_not_mem.mpr (fun q hq => hA0 _ (hL q hq))
  subst hc0; subst hs0; subst hlocs
  obtain ⟨hexec, hb, hml0, hrt, hlocks, hname, hown, hex, hK, hfr, hlo, htr⟩ := X
  have r1' : h.1 + 1 ≤ h.1 + R.cells := r1
  have r2' : h.2.1 + 6 ≤ h.2.1 + R.slots := r2
  have hzs : s.heap.size = h.1 := z0.1
  have hzH : H.size = h.1 := hP.1
  obtain ⟨aS, cS, hS⟩ := hs9
  have hzz : ah_st2 s s.heap aS := by
    have h1 := z0.2 aS _ hS
    rw [ah_ok_z] at h1
    exact h1
  have hin : (Cond.instantiable "java/util/NoSuchElementException" 6).before args s = true := ah_wz hK hzz (xo_93 _ (by simp [ah_ownN]))
  obtain ⟨cX, kX, hfX, hkX, hord, -, -, hn6⟩ := Cond.instantiable_spec hin
  refine W.newcK hexec hb hown (hK.w hcl) hin (hK.w xi_93) rfl d0 (by omega) (by omega) hfX rfl fun H1 kC hkC e1 z1 o1 => ?_
  refine lv_dup hexec hb d3 rfl ?_
  obtain ⟨k', cf, i', am, -, -, -, -, -, hev⟩ := Cond.stringRef_spec hown (hK.w hsr (args := #[]))
  refine va_ldcS (q := am) (tx := text) hexec hb hown ⟨hK.w hsr, hev⟩ d4 ?_
  intro T hT Y
  have hadm := Y.admits
  have htr' : e.platform.stackTraces = false := by
    obtain ⟨-, -, -, -, hp, -⟩ := hadm
    rw [hp]
    exact htr
  obtain ⟨U, s1, s2, s3, s4, s5, ce, c1, c2, c3⟩ := ah_nse Y hexec htr' hown (E := "java/util/NoSuchElementException") (by decide +kernel) (fun w hw => ah_wz hK hzz (xo_93 w hw)) (hK.w hml) hzz.1.ref hzz.2.ref hfX hkC (by rw [hT]; exact e1) (a := H.size) (by omega) (msg := .ref am) rfl
    (g := F0 m (pc + 3 + 1 + 2) ls (.ref am :: .ref H.size :: .ref H.size :: st)) rfl (hl'.1.trans hml0.symm) rfl rfl (rest := st) rfl (by rw [hb]; exact d6) (by rw [hb]; exact d9) (fun x hx' => by
      have h9 : c.exceptionTable.toList = [] := by
        have := hex
        rw [hnh] at this
        exact List.map_eq_nil_iff.mp this
      rw [h9] at hx'
      cases hx') (by omega) (by
      have := lv_room (m := m) (pc := pc + 3 + 1 + 2) (ls := ls) (rest := .ref am :: .ref H.size :: .ref H.size :: st) hst
      show 2 * _ + (1 + (st.map fun v => v.category).sum) + _ ≤ _
      omega) hlocks
  refine ⟨U, s1, s2, ?_, ?_, [], ⟨s4, ?_⟩, fun q hq => by cases hq⟩
  · rw [← hzH]; exact s3
  · have hlt : H.size < U.heap.size := (Array.getElem?_eq_some_iff.mp c1).1
    have hsz : U.heap.size ≤ s.heap.size + (0 + 1) := s5.2.2.1
    refine ⟨by show U.heap.size = h.1 + 1; omega, fun q cq hq => ?_⟩
    by_cases hqe : q = h.1
    · subst hqe
      simp only [ah_newx, if_true] at hq
      cases hq
      rw [ah_ok_e (E := "java/util/NoSuchElementException") rfl]
      refine ⟨ce, by rw [← hzH]; exact c1, by rw [s4.alike.findClass]; exact c2, fun k hk => by rw [c3] at hk; cases hk⟩
    · simp only [ah_newx, if_neg hqe] at hq
      have h1 := z0.2 q _ hq
      exact (h1.kept (ah_same_old s5 h1.lt)).moved s4.alike
  · show s.sameButNew _ [] (h.1 + 1 - h.1) (h.2.1 + 6 - h.2.1)
    rw [show h.1 + 1 - h.1 = 0 + 1 by omega, show h.2.1 + 6 - h.2.1 = 0 + 6 by omega]
    exact s5
end AhExc
