/-! HANDLERS: an exception that comes out of a call is caught in the method, its handlers' classes resolved or not yet -/
theorem ah_go1 {e : Env} {U : State} {f : JFrame} {a c : Nat} {x : ExceptionTableEntry} {t : List ExceptionTableEntry} {cell : Cell} {vm' : Vm} (hx : covers x f.pc = true) (h0 : x.catchType ≠ 0) (hg : (Jvm.resolveClass f.method.cls x.catchType).Gives e.toSetting U.vm (.ok c) vm') (hal : U.vm.Alike vm')
    (hcell : U.heap[a]? = some cell) (hobj : ∀ k, cell.vm ≠ .statics k) (hk : ∃ k, vm'.classes[cell.cls]? = some k) (hc : ∃ k, vm'.classes[c]? = some k) {Q : Handler → Pre} {E : CtlPost} {d : Bool} {acts : List Action} :
    wp (findHandler.go f a (x :: t)) Q E e d acts U ↔ if vm'.assignable cell.cls c = true then Q (.found x.handlerPc) d acts (U.setVm vm') else wp (findHandler.go f a t) Q E e d acts (U.setVm vm') := by
  obtain ⟨ha, ht⟩ := hg.op (op := VmOp.resolveClass f.method.cls x.catchType) rfl
  have hsz : vm'.classes.size ≤ U.vm.classes.size := Vm.Alike.size_le hal
  simp only [covers] at hx
  have hcell' : (U.setVm vm').heap[a]? = some cell := hcell
  cases hfit : vm'.assignable cell.cls c <;>
    simp [findHandler.go, hx, h0, ha, ht, hsz, hcell', hcell, hobj, hk, hc, hfit, VmOp.dirties, VmOp.acts]
/-- which handler takes an exception of class E that comes at pc -/
def ah_hd (own E : String) (pc hp : Nat) : List (Nat × Nat × Nat × Nat) → Prop
  | [] => False
  | x :: r => ((x.1 ≤ pc ∧ pc < x.2.1) ∧ x.2.2.2 ≠ 0 ∧ hp = x.2.2.1 ∧ ∃ C, Cond.classLink own x.2.2.2 C ∈ ah_W ∧ Cond.castable E C ∈ ah_W) ∨ ((x.1 ≤ pc ∧ pc < x.2.1) ∧ x.2.2.2 ≠ 0 ∧ (∃ C, Cond.classLink own x.2.2.2 C ∈ ah_W ∧ Cond.not (.castable E C) ∈ ah_W) ∧ ah_hd own E pc hp r)
theorem ah_ncast {A B : String} {s : State} {args : Array Value} (h : (Cond.not (.castable A B)).before args s = true) {a b : ClassId} (ha : s.vm.findClass A = some a) (hb : s.vm.findClass B = some b) : s.vm.assignable a b = false := by
  simp only [Cond.before, Cond.holds, Cond.value, ha, hb] at h
  simpa using h
theorem ah_find {D : va_G} {s : State} {e : Env} (hK : ah_K D s) (hpl : e.platform.magicAccessors = ({} : Platform).magicAccessors) {own E : String} {f : JFrame} (hown : s.vm.findClass own = some f.method.cls) {a hp : Nat} {cell : Cell} (hE : s.vm.findClass E = some cell.cls) (hobj : ∀ k, cell.vm ≠ .statics k) :
    ∀ (hs : List ExceptionTableEntry) (U : State), s.WarmedH U.vm → U.heap[a]? = some cell → ah_hd own E f.pc hp (hs.map (fun x => (x.startPc, x.endPc, x.handlerPc, x.catchType))) →
      ∃ vm', s.WarmedH vm' ∧ ∀ (Q : Handler → Pre) (Et : CtlPost) (d : Bool) (acts : List Action), wp (findHandler.go f a hs) Q Et e d acts U ↔ Q (.found hp) d acts (U.setVm vm')
  | [], U, _, _, h => h.elim
  | x :: r, U, hW, hcell, h => by
    have hcov : ∀ z : x.startPc ≤ f.pc ∧ f.pc < x.endPc, covers x f.pc = true := fun z => by
      simp only [covers, Bool.and_eq_true, decide_eq_true_eq]
      exact z
    obtain ⟨kE, hkE, -⟩ := Vm.findClass_spec hE
    rcases h with ⟨z, h0, hp', C, hl, hca⟩ | ⟨z, h0, ⟨C, hl, hca⟩, hr⟩
    · obtain ⟨c, hc, hlk⟩ := Cond.classLink_spec hown (hK.w hl (args := #[])) e.platform hpl
      obtain ⟨hg, hwarm, -⟩ := State.classEntry (e := e) hW hlk
      generalize U.vm.noted f.method.cls x.catchType (.cls c) = vm' at hg hwarm
      obtain ⟨k1, hk1, -⟩ := hwarm.alike.2.2 _ _ hkE
      obtain ⟨kC, hkC, -⟩ := Vm.findClass_spec hc
      obtain ⟨k2, hk2, -⟩ := hwarm.alike.2.2 _ _ hkC
      obtain ⟨c1, t1, q1, q2, q3⟩ := Cond.castable_spec (hK.w hca (args := #[]))
      cases Option.some.inj (q1.symm.trans hE)
      cases Option.some.inj (q2.symm.trans hc)
      have hasg : vm'.assignable cell.cls c = true := by rw [hwarm.alike.assignable]; exact q3
      subst hp'
      refine ⟨vm', hwarm, fun Q Et d acts => ?_⟩
      rw [ah_go1 (hcov z) h0 hg (hW.alike.symm.trans hwarm.alike) hcell hobj ⟨k1, hk1⟩ ⟨k2, hk2⟩, if_pos hasg]
    · obtain ⟨c, hc, hlk⟩ := Cond.classLink_spec hown (hK.w hl (args := #[])) e.platform hpl
      obtain ⟨hg, hwarm, -⟩ := State.classEntry (e := e) hW hlk
      generalize U.vm.noted f.method.cls x.catchType (.cls c) = vm' at hg hwarm
      obtain ⟨k1, hk1, -⟩ := hwarm.alike.2.2 _ _ hkE
      obtain ⟨kC, hkC, -⟩ := Vm.findClass_spec hc
      obtain ⟨k2, hk2, -⟩ := hwarm.alike.2.2 _ _ hkC
      have hasg : ¬ vm'.assignable cell.cls c = true := by
        rw [hwarm.alike.assignable, ah_ncast (hK.w hca (args := #[])) hE hc]
        decide
      obtain ⟨vm2, hwarm2, hf⟩ := ah_find hK hpl hown hE hobj r (U.setVm vm') hwarm hcell hr
      refine ⟨vm2, hwarm2, fun Q Et d acts => ?_⟩
      rw [ah_go1 (hcov z) h0 hg (hW.alike.symm.trans hwarm.alike) hcell hobj ⟨k1, hk1⟩ ⟨k2, hk2⟩, if_neg hasg, hf]
      exact Iff.rfl
theorem ah_stepC {e : Env} {s : State} {a : Addr} {f : JFrame} {r : List Frame} {pc : Nat} {vm' : Vm} (hfind : ∀ (Q : Handler → Pre) (E : CtlPost) (d : Bool) (acts : List Action), wp (findHandler f a) Q E e d acts s ↔ Q (.found pc) d acts (s.setVm vm')) :
    (stepThrowing e s a (.java f :: r)).Is ((s.setVm vm').setFrames (.java { f with pc := pc, stack := [.ref a] } :: r)) [] := by
  simp only [stepThrowing, searchFrame, vmDo]
  generalize hr : Sem.go _ e false [] s = res
  obtain ⟨as, rfl, ha⟩ := Sem.eq_ok_of hr (a := Handler.found pc) (s' := s.setVm vm') (acts' := []) (by simp [hfind _ _ _ _])
  exact ⟨rfl, ha⟩
theorem ah_thr_catch {M : ah_M} {d : Nat} {A : Nat → Prop} {h0 : ah_H} {o : Outcome} {h2 h : ah_H} {pc a t hp : Nat} {E : String} {fs : List Value} {lv : List (Nat × Value)} (hx : ah_ex t = some E) (hcell : h.2.2 a = some (t, fs)) (hh : ah_hd M.1.cls E pc hp M.2.2.2.2) (n : ah_At M d A h0 o h2 hp lv [.ref a] h) : ah_thr M d A h0 o h2 pc lv h a := by
  refine ⟨n.1, fun p l e R s m args below meth c D locs cells slots ls st T X z0 r1 r2 r3 r4 hP hL hl Y => ?_⟩
  have hK := X.2.2.2.2.2.2.2.2.1
  have hown := X.2.2.2.2.2.2.1
  have hpl : e.platform.magicAccessors = ({} : Platform).magicAccessors := by rw [Y.admits.platform]
  have h1 := hP.2 a _ hcell
  rw [ah_ok_e hx] at h1
  obtain ⟨cell, g1, g2, g3⟩ := h1
  have hat : At T (F0 m pc ls st).method c below := Y.here
  obtain ⟨vm', hW', hf⟩ := ah_find hK hpl (f := F0 m pc ls st) hown g2 g3 c.exceptionTable.toList ((T.setTop (F0 m pc ls st)).pushFrame (.throwing a)) (by rw [Stand.throwing_vm]; exact Y.warmed) (by rw [Stand.throwing_heap]; exact g1) (by rw [X.2.2.2.2.2.2.2.1]; exact hh)
  obtain ⟨t', a1, a2⟩ := n.2 p l e R s m args below meth c D T.heap locs cells slots ls X z0 r1 r2 r3 r4 hP hL hl (T.setVm vm') rfl (Y.noted hW')
  refine ⟨t', ?_, a2⟩
  obtain ⟨hgo, hw⟩ := hat.throwing a
  refine Steps.head hgo hw ?_
  have hm : ((T.setTop (F0 m pc ls st)).pushFrame (.throwing a)).vm.method? m = some meth := by rw [Stand.throwing_vm]; exact Y.method'
  rw [stepThread_throwing (frames_entered hat.top _), (ah_stepC (s := (T.setTop (F0 m pc ls st)).pushFrame (.throwing a)) (fun Q Et d acts => (W.findHandler_eq hm Y.code).trans (hf Q Et d acts))).1]
  obtain ⟨g₀, hg⟩ := Option.isSome_iff_exists.mp hat.top
  obtain ⟨r, hr⟩ := State.topJava?_eq_some.mp hg
  have hr' : (T.setVm vm').frames = .java g₀ :: r := hr
  rw [State.setTop_of_frames _ hr'] at a1
  have key : ((((T.setTop (F0 m pc ls st)).pushFrame (.throwing a)).setVm vm').setFrames (.java { F0 m pc ls st with pc := hp, stack := [.ref a] } :: T.frames.tail)) = (T.setVm vm').setFrames (.java (F0 m hp ls [.ref a]) :: r) := by
    rw [State.pushFrame, State.setTop_of_frames _ hr, State.setFrames_setFrames, hr]
    show (((T.setVm vm').setFrames _).setFrames _) = _
    rw [State.setFrames_setFrames]
    rfl
  rw [key]
  exact a1
