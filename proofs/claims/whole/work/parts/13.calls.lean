/-! RETURNS, CONTRACTS, CALLS -/
section AhEnd
variable {M : ah_M} {d : Nat} {A : Nat → Prop} {h0 h : ah_H} {pc : Nat} {lv : List (Nat × Value)}
theorem e_iret {v : Int32} {ty : FieldType} (hd : decode M.2.1 pc = .ok (.ireturn, 1)) (hr : M.2.2.2.1 = some ty) (hn : narrow ty (.int v) = .int v) : ah_At M d A h0 (.returned (some (.int v))) h pc lv [.int v] h := by
  refine ⟨⟨Nat.le_refl _, Nat.le_refl _⟩, fun p l e R s m args below meth c D H locs cells slots ls X z0 r1 r2 r3 r4 hP hL hl => ?_⟩
  rw [show h.1 - h0.1 = cells by omega, show h.2.1 - h0.2.1 = slots by omega]
  obtain ⟨hexec, hb, hml, hrt, hlocks, -⟩ := X
  rw [hr] at hrt
  intro T hT Y
  obtain ⟨fs, hret, hrun, hended, hW, hframe⟩ := Y.leave (v := some (.int v)) (fun z => by rw [hrt] at z; cases z)
  have hmeth' : T.vm.method? m = some meth := Y.method'
  refine ⟨T.setFrames fs, ?_, hrun, hended, ?_, locs, ⟨hW, hframe⟩, hL⟩
  · jvm_step Y.here [Y.here.top, hexec, hb, hd, hmeth', hrt, hn]
    (try refine ⟨rfl, ?_⟩); (try refine ⟨rfl, ?_⟩)
    first | (intro acts; rw [hret _ acts rfl rfl rfl]) | rw [hret _ _ rfl rfl rfl]
    exact Steps.refl _
  · have hh : (T.setFrames fs).heap = H := hT
    rw [hh]
    exact hP.moved hW.alike
theorem e_lret {v : Int64} (hd : decode M.2.1 pc = .ok (.lreturn, 1)) (hr : M.2.2.2.1 = some .long) : ah_At M d A h0 (.returned (some (.long v))) h pc lv [.long v] h := by
  refine ⟨⟨Nat.le_refl _, Nat.le_refl _⟩, fun p l e R s m args below meth c D H locs cells slots ls X z0 r1 r2 r3 r4 hP hL hl => ?_⟩
  rw [show h.1 - h0.1 = cells by omega, show h.2.1 - h0.2.1 = slots by omega]
  obtain ⟨hexec, hb, hml, hrt, hlocks, -⟩ := X
  rw [hr] at hrt
  intro T hT Y
  obtain ⟨fs, hret, hrun, hended, hW, hframe⟩ := Y.leave (v := some (.long v)) (fun z => by rw [hrt] at z; cases z)
  have hmeth' : T.vm.method? m = some meth := Y.method'
  refine ⟨T.setFrames fs, ?_, hrun, hended, ?_, locs, ⟨hW, hframe⟩, hL⟩
  · jvm_step Y.here [Y.here.top, hexec, hb, hd, hmeth', hrt, narrow]
    (try refine ⟨rfl, ?_⟩); (try refine ⟨rfl, ?_⟩)
    first | (intro acts; rw [hret _ acts rfl rfl rfl]) | rw [hret _ _ rfl rfl rfl]
    exact Steps.refl _
  · have hh : (T.setFrames fs).heap = H := hT
    rw [hh]
    exact hP.moved hW.alike
theorem e_vret (hd : decode M.2.1 pc = .ok (.return_, 1)) (hr : M.2.2.2.1 = none) : ah_At M d A h0 (.returned none) h pc lv [] h := by
  refine ⟨⟨Nat.le_refl _, Nat.le_refl _⟩, fun p l e R s m args below meth c D H locs cells slots ls X z0 r1 r2 r3 r4 hP hL hl => ?_⟩
  rw [show h.1 - h0.1 = cells by omega, show h.2.1 - h0.2.1 = slots by omega]
  obtain ⟨hexec, hb, hml, hrt, hlocks, -⟩ := X
  rw [hr] at hrt
  intro T hT Y
  obtain ⟨fs, hret, hrun, hended, hW, hframe⟩ := Y.leave (v := none) (fun _ => rfl)
  have hmeth' : T.vm.method? m = some meth := Y.method'
  refine ⟨T.setFrames fs, ?_, hrun, hended, ?_, locs, ⟨hW, hframe⟩, hL⟩
  · jvm_step Y.here [Y.here.top, hexec, hb, hd, hmeth', hrt]
    (try refine ⟨rfl, ?_⟩); (try refine ⟨rfl, ?_⟩)
    first | (intro acts; rw [hret _ acts rfl rfl rfl]) | rw [hret _ _ rfl rfl rfl]
    exact Steps.refl _
  · have hh : (T.setFrames fs).heap = H := hT
    rw [hh]
    exact hP.moved hW.alike
end AhEnd
def ah_Rm (d : Nat) (h h2 : ah_H) : Room := { frames := d, cells := h2.1 - h.1, slots := h2.2.1 - h.2.1, locals := 64 * d }
/-- THE CONTRACT of a call -/
def ah_Ev (M : ah_M) (d : Nat) (A : Nat → Prop) (av : List Value) (h : ah_H) (o : Outcome) (h2 : ah_H) : Prop :=
  (h.1 ≤ h2.1 ∧ h.2.1 ≤ h2.2.1) ∧ ∀ (l : Launch) (D : va_G), l.stackTraces = false → MetFree l M.1 (headSpec [ah_cw M] (ah_Rm d h h2)) (fun v U => v = av.toArray ∧ ah_K D U ∧ ah_P D U h U.heap) (fun _ _ _ _ _ => True)
    (fun _ st o' t => o' = o ∧ ah_P D t h2 t.heap ∧ ∃ L, ah_Fr st t L (h2.1 - h.1) (h2.2.1 - h.2.1) ∧ ∀ q ∈ L, A q.base)
theorem ah_cw_spec {M : ah_M} {args : Array Value} {s : State} (h : (ah_cw M).before args s = true) : ∃ mk meth c, s.methodNamed? M.1 = some mk ∧ s.vm.method? mk = some meth ∧ meth.code = some c ∧ c.code = M.2.1 ∧ c.maxLocals = M.2.2.1 ∧
    c.exceptionTable.toList.map (fun x => (x.startPc, x.endPc, x.handlerPc, x.catchType)) = M.2.2.2.2 ∧ meth.sig.returnType = M.2.2.2.1 ∧ meth.locks = false ∧ parseMethodDescriptor M.1.desc = some meth.sig := by
  obtain ⟨y, b, n, r, hh⟩ := M
  cases hh with
  | nil =>
    have h : (Cond.code y b n r).before args s = true := h
    obtain ⟨mk, hn⟩ := Cond.code_named h
    obtain ⟨meth, c, h1, h2, h3, h4, h5, h6, h7, h8⟩ := Cond.code_spec hn h
    have h7' : c.exceptionTable.toList = [] := by simpa using h7
    exact ⟨mk, meth, c, hn, h1, h2, h3, h4, by rw [h7']; rfl, h5, h6, h8⟩
  | cons x t =>
    have h : (Cond.codeWith y b n r (x :: t)).before args s = true := h
    obtain ⟨mk, meth, c, hn, h1, h2, h3, h4, h5, h6, h7, h8⟩ := Cond.codeWith_spec h
    exact ⟨mk, meth, c, hn, h1, h2, h3, h4, h5, h6, h7, h8⟩
theorem ah_Ev.of {M : ah_M} {d : Nat} {A : Nat → Prop} {av : List Value} {h h2 : ah_H} {o : Outcome} (hy : plainName M.1.cls = true) (hlen : (lg_sl av).length ≤ M.2.2.1) (hA : ah_At M d A h o h2 0 (lv_args 0 av) [] h) : ah_Ev M d A av h o h2 := by
  refine ⟨hA.1, fun l D htr => ?_⟩
  refine MetFree.of_bodyS (code := M.2.1) (maxLocals := M.2.2.1) (ret := M.2.2.2.1) hy ?_ ?_
  · intro args s m hpre hn
    obtain ⟨mk, meth, c, g0, g1, g2, g3, g4, g5, g6, g7, g8⟩ := ah_cw_spec (atoms_spec (ws := [ah_cw M]) hpre _ List.mem_cons_self)
    cases Option.some.inj (hn.symm.trans g0)
    exact ⟨meth, c, g1, g2, g3, g4, g6, g7⟩
  · intro p e s m args below meth c s₁ B hml hP _
    obtain ⟨rfl, hK, hP⟩ := hP
    have hh0 : s₁.heap = s.heap := by rw [B.state]; rfl
    obtain ⟨mk, meth', c', g0, g1, g2, g3, g4, g5, g6, g7, g8⟩ := ah_cw_spec (atoms_spec (ws := [ah_cw M]) B.pre _ List.mem_cons_self)
    cases Option.some.inj (B.named.symm.trans g0)
    cases Option.some.inj (B.method.symm.trans g1)
    have hcode := (Stand.of_body B).code
    cases Option.some.inj (hcode.symm.trans g2)
    have hz : s.heap.size = h.1 := hP.1
    have hle := hA.1
    have hl := lv_entry av (n := M.2.2.1) hlen
    obtain ⟨t, a1, b1, b2, b3, L, b4, b5⟩ := hA.2 p l e (headSpec [ah_cw M] (ah_Rm d h h2)).room s m av.toArray below meth c D s.heap [] 0 0 _
      ⟨B.exec, B.bytes, hml, B.returns, B.notSynchronized, (name_of_methodNamed B.named B.method).1, findClass_of_methodNamed B.named, g5, hK, Nat.le_refl _, Nat.le_refl _, htr⟩ hP
      (by show h2.1 ≤ h.1 + (h2.1 - h.1); omega) (by show h2.2.1 ≤ h.2.1 + (h2.2.1 - h.2.1); omega) (by omega) (by omega) hP (fun q hq => by cases hq) hl s₁ hh0 (Stand.of_body B)
    refine ⟨t, o, ?_, b1, b2, rfl, b3, L, b4, b5⟩
    rw [lg_entry_eq]
    exact a1
/-- the callee comes back, or throws -/
theorem ah_back {M' : ah_M} {d' : Nat} {A' : Nat → Prop} {av : List Value} {h h' : ah_H} {o' : Outcome} (hE : ah_Ev M' d' A' av h o' h')
    {p : Program} {l : Launch} {e : Env} {R : Room} {s : State} {m : MethodId} {args : Array Value} {below : List Frame} {meth : Method} {c : Code} {T : State} {locs : List Loc} {cells slots : Nat} {D : va_G}
    (X : Stand p l e R s m args below meth c T locs cells slots) (htr : l.stackTraces = false) (hK : ah_K D s) (hP : ah_P D s h T.heap) (hcw : ah_cw M' ∈ ah_W) (hini : Cond.initialized M'.1.cls ∈ ah_W)
    {g : JFrame} {ig : Instr} {len : Nat} {mk : MethodId} (hg : g.method = m) (hsize : g.locals.size = c.maxLocals) (hdg : decode c.code g.pc = .ok (ig, len)) (hw : 2 * g.monitorRoom + (g.stack.map fun v => v.category).sum ≤ 8) (hn : T.methodNamed? M'.1 = some mk)
    (hf : d' + 1 ≤ R.frames) (hlo : 8 + (M'.2.2.1 + 11) + 64 * d' ≤ R.locals) (hc : cells + (h'.1 - h.1) ≤ R.cells) (hs : slots + (h'.2.1 - h.2.1) ≤ R.slots) :
    ∃ (B : State) (L : List Loc), Stand p l e R s m args below meth c B (locs ++ L) (cells + (h'.1 - h.1)) (slots + (h'.2.1 - h.2.1)) ∧ ah_P D s h' B.heap ∧ (∀ q ∈ L, A' q.base) ∧
      (match o' with
        | .returned v => Steps p.tables e below (doInvoke e (T.setTop g) [] mk av.toArray).1 (B.setTop { g with pc := g.pc + len, stack := v.toList ++ g.stack })
        | .threw a => Steps p.tables e below (doInvoke e (T.setTop g) [] mk av.toArray).1 ((B.setTop g).pushFrame (.throwing a))) := by
  have hKT : ah_K D T := hK.moved X.warmed
  have h2 : (ah_cw M').before av.toArray T = true := hKT.w hcw
  have h3 : (Cond.initialized M'.1.cls).before av.toArray T = true := hKT.w hini
  obtain ⟨mk', methY, cY, hn', hmY, hcY, -, hlY, -⟩ := ah_cw_spec h2
  cases Option.some.inj (hn.symm.trans hn')
  obtain ⟨kY, hkY, -⟩ := className_of_methodNamed hn
  have hinitY : kY.init = .initialized := Cond.initialized_spec (findClass_of_methodNamed hn) hkY h3
  have hat : At T g.method c below := by rw [hg]; exact X.here
  have happ : (headSpec [ah_cw M'] (ah_Rm d' h h')).appliesLoose M'.1 e.platform (T.calling g mk av.toArray) = true :=
    Spec.appliesLoose_calling (g := g) hat hdg hn hkY hinitY
      (X.room_calling (g := g) (R' := (headSpec [ah_cw M'] (ah_Rm d' h h')).room) hsize hmY hcY hf (by rw [hlY]; show _ + 64 * d' ≤ _; omega) hc hs) (atoms_intro fun w hw => by rw [List.mem_singleton.mp hw]; exact h2)
  obtain ⟨mid, hmid⟩ := hat.above
  have hfr : (T.setTop g).frames = (.java g :: mid) ++ below := by rw [State.frames_setTop' g hat.top, hmid]; rfl
  have hPre : (fun (v : Array Value) (U : State) => v = av.toArray ∧ ah_K D U ∧ ah_P D U h U.heap) av.toArray (T.calling g mk av.toArray) :=
    ⟨rfl, hKT.moved (State.WarmedH.refl T), hP.moved X.warmed.alike⟩
  obtain ⟨o, s₂, hsteps, -, hend, ho, hP2, L, ⟨hW₂, hfr2⟩, hL⟩ := Steps.callFree (hE.2 l D htr) p X.admits X.cas X.clock (acts := []) hfr happ hPre trivial
  subst ho
  rw [State.frames_setTop' g hat.top] at hend
  obtain ⟨e2, q2, q3, q4, q5, q6⟩ := id hfr2
  have e3 : s₂ = ({ (T.calling g mk av.toArray).setFrames s₂.frames with heap := s₂.heap, slotsUsed := s₂.slotsUsed } : State).setVm s₂.vm := by
    have : s₂ = ({ s₂ with vm := (T.calling g mk av.toArray).vm } : State).setVm s₂.vm := rfl
    rw [show ({ s₂ with vm := (T.calling g mk av.toArray).vm } : State) = _ from e2] at this
    exact this
  have hW' : T.WarmedH s₂.vm := hW₂
  obtain ⟨g₀, hg0⟩ := Option.isSome_iff_exists.mp hat.top
  obtain ⟨r, hr⟩ := State.topJava?_eq_some.mp hg0
  have hsame : T.sameButNew ({ T with heap := s₂.heap, slotsUsed := s₂.slotsUsed } : State) L (h'.1 - h.1) (h'.2.1 - h.2.1) := by
    refine ⟨?_, q2, q3, q4, q5, q6⟩
    obtain ⟨t, ht, -⟩ := State.frames_cons hr
    show ({ T with heap := s₂.heap, slotsUsed := s₂.slotsUsed } : State) = { T.setFrames T.frames with heap := s₂.heap, slotsUsed := s₂.slotsUsed }
    rw [State.setFrames_self ht]
  refine ⟨({ T with heap := s₂.heap, slotsUsed := s₂.slotsUsed } : State).setVm s₂.vm, L,
    ⟨X.admits, X.cas, X.clock, X.frames, X.room, X.hears, X.method, X.code, (X.here.setHeapUsed s₂.heap s₂.slotsUsed).setVm hW'.alike, X.tail, State.WarmedH.trans X.warmed hW', X.limits, X.bytes, X.same.trans (hsame.setVm s.vm)⟩,
    hP2.moved (State.WarmedH.trans X.warmed hW').alike.symm, hL, ?_⟩
  have hr' : (({ T with heap := s₂.heap, slotsUsed := s₂.slotsUsed } : State).setVm s₂.vm).frames = .java g₀ :: r := hr
  cases o with
  | returned v =>
    obtain ⟨c₂, i₂, len₂, hc₂, hd₂, hf₂⟩ := hend
    have hcc : c₂ = c := by
      have h1 : s₂.code? g.method = T.code? g.method := by
        rw [State.code?_eq, State.code?_eq, hW'.alike.method?]
      exact Option.some.inj (hc₂.symm.trans (h1.trans hat.code))
    subst hcc
    have hlen : len₂ = len := by rw [hdg] at hd₂; cases hd₂; rfl
    subst hlen
    have hs₂ : s₂ = (({ T with heap := s₂.heap, slotsUsed := s₂.slotsUsed } : State).setVm s₂.vm).setTop { g with pc := g.pc + len₂, stack := v.toList ++ g.stack } := by
      refine e3.trans ?_
      rw [hf₂, State.calling_eq hat.top, State.setFrames_setFrames, State.setTop_of_frames _ hr', hr]
      rfl
    show Steps p.tables e below _ ((({ T with heap := s₂.heap, slotsUsed := s₂.slotsUsed } : State).setVm s₂.vm).setTop { g with pc := g.pc + len₂, stack := v.toList ++ g.stack })
    rw [← hs₂]
    exact hsteps
  | threw a =>
    have hf₂ : s₂.frames = .throwing a :: .java g :: T.frames.tail := hend
    have hs₂ : s₂ = ((({ T with heap := s₂.heap, slotsUsed := s₂.slotsUsed } : State).setVm s₂.vm).setTop g).pushFrame (.throwing a) := by
      refine e3.trans ?_
      rw [hf₂, State.calling_eq hat.top, State.setFrames_setFrames, State.pushFrame, State.frames_setTop _ hr', State.setTop_of_frames _ hr', State.setFrames_setFrames, hr]
      rfl
    show Steps p.tables e below _ (((({ T with heap := s₂.heap, slotsUsed := s₂.slotsUsed } : State).setVm s₂.vm).setTop g).pushFrame (.throwing a))
    rw [← hs₂]
    exact hsteps
/-- an exception is on its way at this place -/
def ah_thr (M : ah_M) (d : Nat) (A : Nat → Prop) (h0 : ah_H) (o : Outcome) (h2 : ah_H) (pc : Nat) (lv : List (Nat × Value)) (h : ah_H) (a : Nat) : Prop :=
  (h.1 ≤ h2.1 ∧ h.2.1 ≤ h2.2.1) ∧
  ∀ (p : Program) (l : Launch) (e : Env) (R : Room) (s : State) (m : MethodId) (args : Array Value) (below : List Frame) (meth : Method) (c : Code) (D : va_G) (locs : List Loc) (cells slots : Nat) (ls : Array Slot) (st : List Value) (T : State),
    ah_X M d p l R s m meth c D → ah_P D s h0 s.heap → h2.1 ≤ h0.1 + R.cells → h2.2.1 ≤ h0.2.1 + R.slots → h.1 = h0.1 + cells → h.2.1 = h0.2.1 + slots →
    ah_P D s h T.heap → (∀ q ∈ locs, A q.base) → lv_has ls M.2.2.1 lv → Stand p l e R s m args below meth c T locs cells slots →
    ∃ t, Steps p.tables e below ((T.setTop (F0 m pc ls st)).pushFrame (.throwing a)) t ∧ ah_Q below D s A o h2 (h2.1 - h0.1) (h2.2.1 - h0.2.1) t
def ah_aft (M : ah_M) (d : Nat) (A : Nat → Prop) (h0 : ah_H) (o : Outcome) (h2 : ah_H) (pc : Nat) (lv : List (Nat × Value)) (st : List Value) (h : ah_H) : Outcome → Prop
  | .returned v => ah_At M d A h0 o h2 (pc + 3) lv (v.toList ++ st) h
  | .threw a => ah_thr M d A h0 o h2 pc lv h a
theorem ah_aft.le {M : ah_M} {d : Nat} {A : Nat → Prop} {h0 : ah_H} {o : Outcome} {h2 : ah_H} {pc : Nat} {lv : List (Nat × Value)} {st : List Value} {h : ah_H} {o' : Outcome} (hk : ah_aft M d A h0 o h2 pc lv st h o') : h.1 ≤ h2.1 ∧ h.2.1 ≤ h2.2.1 := by
  cases o' with
  | returned v => exact hk.1
  | threw a => exact hk.1
/-- from the machine's invocation to what follows -/
theorem ah_into {M M' : ah_M} {d d' : Nat} {A A' : Nat → Prop} {av : List Value} {h0 h h' h2 : ah_H} {o o' : Outcome} {pc : Nat} {lv : List (Nat × Value)} {st : List Value} (hE : ah_Ev M' d' A' av h o' h') (hdd : d' + 1 ≤ d) (hA : ∀ q, A' q → A q) (hst : (st.map fun v => v.category).sum ≤ 8) (hL0 : M'.2.2.1 ≤ 45) (hk : ah_aft M d A h0 o h2 pc lv st h' o') (hcw : ah_cw M' ∈ ah_W) (hini : Cond.initialized M'.1.cls ∈ ah_W)
    {p : Program} {l : Launch} {e : Env} {R : Room} {s : State} {m : MethodId} {args : Array Value} {below : List Frame} {meth : Method} {c : Code} {D : va_G} {H : Heap} {locs : List Loc} {cells slots : Nat} {ls : Array Slot}
    (X : ah_X M d p l R s m meth c D) (z0 : ah_P D s h0 s.heap) (r1 : h2.1 ≤ h0.1 + R.cells) (r2 : h2.2.1 ≤ h0.2.1 + R.slots) (r3 : h.1 = h0.1 + cells) (r4 : h.2.1 = h0.2.1 + slots) (hP : ah_P D s h H) (hL : ∀ q ∈ locs, A q.base) (hl : lv_has ls M.2.2.1 lv)
    {T : State} {vm₁ : Vm} {ig : Instr} {mk : MethodId} (hT : T.heap = H) (Y : Stand p l e R s m args below meth c (T.setVm vm₁) locs cells slots) (hdg : decode M.2.1 pc = .ok (ig, 3)) (hn : s.methodNamed? M'.1 = some mk) :
    ∃ t, Steps p.tables e below (doInvoke e ((T.setVm vm₁).setTop (F0 m pc ls st)) [] mk av.toArray).1 t ∧ ah_Q below D s A o h2 (h2.1 - h0.1) (h2.2.1 - h0.2.1) t := by
  have hle := hk.le
  have hle' := hE.1
  have hfr := X.2.2.2.2.2.2.2.2.2.1
  have hlo := X.2.2.2.2.2.2.2.2.2.2.1
  have hw : 2 * (F0 m pc ls st).monitorRoom + ((F0 m pc ls st).stack.map fun v => v.category).sum ≤ 8 := lv_room (rest := st) hst
  obtain ⟨B, L, Y', hP', hL', hs⟩ := ah_back (D := D) (g := F0 m pc ls st) hE Y X.2.2.2.2.2.2.2.2.2.2.2 X.2.2.2.2.2.2.2.2.1 (by rw [show (T.setVm vm₁).heap = H from hT]; exact hP) hcw hini rfl (hl.1.trans X.2.2.1.symm) (by rw [X.2.1]; exact hdg) hw (Y.named hn) (by omega) (by omega) (by omega) (by omega)
  have hLL : ∀ q ∈ locs ++ L, A q.base := by
    intro q hq
    rcases List.mem_append.mp hq with z | z
    · exact hL q z
    · exact hA _ (hL' q z)
  cases o' with
  | returned v =>
    obtain ⟨t, a1, a2⟩ := hk.2 p l e R s m args below meth c D B.heap (locs ++ L) (cells + (h'.1 - h.1)) (slots + (h'.2.1 - h.2.1)) ls X z0 r1 r2 (by omega) (by omega) hP' hLL hl B rfl Y'
    exact ⟨t, hs.trans a1, a2⟩
  | threw a =>
    obtain ⟨t, a1, a2⟩ := hk.2 p l e R s m args below meth c D (locs ++ L) (cells + (h'.1 - h.1)) (slots + (h'.2.1 - h.2.1)) ls st B X z0 r1 r2 (by omega) (by omega) hP' hLL hl Y'
    exact ⟨t, hs.trans a1, a2⟩
/-- a method's link: the class's own, or a nest mate's -/
def ah_ml (own : String) (index : Nat) (y : MethodName) : Prop := Cond.methodLink own index y ∈ ah_W ∨ ∃ host, Cond.methodLinkNest own index y host ∈ ah_W
/-- what every call asks of the tables -/
def ah_cl3 (own : String) (index : Nat) (M' : ah_M) (n : Nat) : Prop := ah_ml own index M'.1 ∧ ah_cw M' ∈ ah_W ∧ Cond.initialized M'.1.cls ∈ ah_W ∧ (M'.1.cls ≠ "java/lang/invoke/MethodHandle" ∧ M'.1.cls ≠ "java/lang/invoke/VarHandle") ∧ (parseMethodDescriptor M'.1.desc).map (fun d => d.parameters.length) = some n ∧ M'.2.2.1 ≤ 45
theorem ah_plen {desc : String} {n : Nat} (h : (parseMethodDescriptor desc).map (fun d => d.parameters.length) = some n) {sig : MethodDescriptor} (hs : parseMethodDescriptor desc = some sig) : n = sig.parameters.length := by
  rw [hs] at h
  exact (Option.some.inj h).symm
theorem ah_callS {M M' : ah_M} {pc index n : Nat} (hd : decode M.2.1 pc = .ok (.invokestatic index, 3)) (hs : ah_cl3 M.1.cls index M' n) (hst0 : Cond.static M'.1 ∈ ah_W) {d d' : Nat} {A A' : Nat → Prop} {av : List Value} {h0 h h' h2 : ah_H} {o o' : Outcome} {lv : List (Nat × Value)} {st : List Value}
    (hE : ah_Ev M' d' A' av h o' h') (hdd : d' + 1 ≤ d) (hA : ∀ q, A' q → A q) (hn : av.length = n) (hst : (st.map fun v => v.category).sum ≤ 8) (hk : ah_aft M d A h0 o h2 pc lv st h' o') : ah_At M d A h0 o h2 pc lv (av.reverse ++ st) h := by
  obtain ⟨hl, hcw, hini, hy, hpl, hmx⟩ := hs
  have hle := hk.le
  have hle' := hE.1
  refine ⟨⟨by omega, by omega⟩, fun p l e R s m args below meth c D H locs cells slots ls X z0 r1 r2 r3 r4 hP hL hl' => ?_⟩
  have hK := X.2.2.2.2.2.2.2.2.1
  intro T hT Y
  obtain ⟨mk, methM, cM, hnamed, hmethM, -, -, -, -, -, -, hsigM⟩ := ah_cw_spec (hK.w hcw (args := args))
  have hstatic : methM.isStatic = true := Cond.static_spec hnamed hmethM (hK.w hst0 (args := args))
  obtain ⟨kP, hkP, -⟩ := className_of_methodNamed hnamed
  have hinitP : kP.init = .initialized := Cond.initialized_spec (findClass_of_methodNamed hnamed) hkP (hK.w hini (args := args))
  have hlen : av.length = methM.sig.parameters.length := hn.trans (ah_plen hpl hsigM)
  have key : ∃ vm₁, Stand p l e R s m args below meth c (T.setVm vm₁) locs cells slots ∧ ∀ target, (∀ acts, Steps p.tables e below (doInvoke e ((T.setVm vm₁).setTop (F0 m pc ls st)) acts mk av.toArray).1 target) → Steps p.tables e below (T.setTop (F0 m pc ls (av.reverse ++ st))) target := by
    rcases hl with hl | ⟨host, hl⟩
    · exact Y.invokestatic X.1 X.2.2.2.2.2.2.1 (hK.w hl) hnamed hmethM hstatic hkP hinitP hy (g := F0 m pc ls (av.reverse ++ st)) rfl (argsL := av) (rest := st) hlen rfl (by rw [X.2.1]; exact hd)
    · exact Y.invokestaticNest X.1 X.2.2.2.2.2.2.1 (hK.w hl) hnamed hmethM hstatic hkP hinitP hy (g := F0 m pc ls (av.reverse ++ st)) rfl (argsL := av) (rest := st) hlen rfl (by rw [X.2.1]; exact hd)
  obtain ⟨vm₁, Y₁, hstep⟩ := key
  obtain ⟨t, a1, a2⟩ := ah_into hE hdd hA hst hmx hk hcw hini X z0 r1 r2 r3 r4 hP hL hl' hT Y₁ hd hnamed
  exact ⟨t, hstep t (fun acts => by rw [doInvoke_state]; exact a1), a2⟩
theorem ah_callI {M M' : ah_M} {pc index n : Nat} (hd : decode M.2.1 pc = .ok (.invokespecial index, 3)) (hs : ah_cl3 M.1.cls index M' n) (hi0 : Cond.instanceMethod M'.1 ∈ ah_W) (hy1 : M'.1.name = "<init>") (hnh : M'.2.2.2 = (none, [])) {d d' : Nat} {A A' : Nat → Prop} {b : Nat} {av : List Value} {h0 h h' h2 : ah_H} {o o' : Outcome} {lv : List (Nat × Value)} {st : List Value}
    (hE : ah_Ev M' d' A' (.ref b :: av) h o' h') (hdd : d' + 1 ≤ d) (hA : ∀ q, A' q → A q) (hn : av.length = n) (hst : (st.map fun v => v.category).sum ≤ 8) (hk : ah_aft M d A h0 o h2 pc lv st h' o') : ah_At M d A h0 o h2 pc lv (av.reverse ++ .ref b :: st) h := by
  obtain ⟨hl, hcw, hini, hy, hpl, hmx⟩ := hs
  have hle := hk.le
  have hle' := hE.1
  refine ⟨⟨by omega, by omega⟩, fun p l e R s m args below meth c D H locs cells slots ls X z0 r1 r2 r3 r4 hP hL hl' => ?_⟩
  have hK := X.2.2.2.2.2.2.2.2.1
  intro T hT Y
  have hpl0 : e.platform.magicAccessors = ({} : Platform).magicAccessors := by rw [Y.admits.platform]
  have hcode : (Cond.code M'.1 M'.2.1 M'.2.2.1 none).before args s = true := by
    have h9 := hK.w hcw (args := args)
    unfold ah_cw at h9
    rw [hnh] at h9
    exact h9
  have hlen : ∀ sig, parseMethodDescriptor M'.1.desc = some sig → av.length = sig.parameters.length := fun sig hs => hn.trans (ah_plen hpl hs)
  have hat : At T m c below := Y.here
  have key : ∃ mk vm₁, s.methodNamed? M'.1 = some mk ∧ s.WarmedH vm₁ ∧ ∀ target, (∀ acts, Steps p.tables e below (doInvoke e ((T.setVm vm₁).setTop (F0 m pc ls st)) acts mk (Value.ref b :: av).toArray).1 target) → Steps p.tables e below (T.setTop (F0 m pc ls (av.reverse ++ .ref b :: st))) target := by
    rcases hl with hl | ⟨host, hl⟩
    · obtain ⟨mk, methM, cM, kP, vm₁, hnamed, hmethM, hcodeM, -, hlocalsM, -, hkP, -, hW₁, hstep₁⟩ := Steps.initColdArgs (e := e) hat X.1 Y.warmed hpl0 X.2.2.2.2.2.2.1 hy1 hy (hK.w hl (args := args)) (hK.w hi0) hcode (f := F0 m pc ls (av.reverse ++ .ref b :: st)) rfl hlen rfl (by rw [X.2.1]; exact hd)
      exact ⟨mk, vm₁, hnamed, hW₁, hstep₁⟩
    · obtain ⟨mk, methM, cM, kP, vm₁, hnamed, hmethM, hcodeM, -, hlocalsM, -, hkP, -, hW₁, hstep₁⟩ := Steps.initColdArgsNest (e := e) hat X.1 Y.warmed hpl0 X.2.2.2.2.2.2.1 hy1 hy (hK.w hl (args := args)) (hK.w hi0) hcode (f := F0 m pc ls (av.reverse ++ .ref b :: st)) rfl hlen rfl (by rw [X.2.1]; exact hd)
      exact ⟨mk, vm₁, hnamed, hW₁, hstep₁⟩
  obtain ⟨mk, vm₁, hnamed, hW₁, hstep⟩ := key
  obtain ⟨t, a1, a2⟩ := ah_into hE hdd hA hst hmx hk hcw hini X z0 r1 r2 r3 r4 hP hL hl' hT (Y.noted hW₁) hd hnamed
  exact ⟨t, hstep t (fun acts => by rw [doInvoke_state]; exact a1), a2⟩
theorem ah_callV {M M' : ah_M} {pc index n ci : Nat} (hd : decode M.2.1 pc = .ok (.invokevirtual index, 3)) (hs : ah_cl3 M.1.cls index M' n) (hi0 : Cond.instanceMethod M'.1 ∈ ah_W) (hse : Cond.selects M'.1.cls M'.1 M'.1 ∈ ah_W) {N : Nat} {T0 : u_T} {ty : Nat → FieldType} (hcl : ah_cl ci M'.1.cls T0 N ty) {d d' : Nat} {A A' : Nat → Prop} {b : Nat} {av : List Value} {h0 h h' h2 : ah_H} {o o' : Outcome} {lv : List (Nat × Value)} {st : List Value}
    (hb : (ah_len h b ci).isSome = true) (hE : ah_Ev M' d' A' (.ref b :: av) h o' h') (hdd : d' + 1 ≤ d) (hA : ∀ q, A' q → A q) (hn : av.length = n) (hst : (st.map fun v => v.category).sum ≤ 8) (hk : ah_aft M d A h0 o h2 pc lv st h' o') : ah_At M d A h0 o h2 pc lv (av.reverse ++ .ref b :: st) h := by
  obtain ⟨hl, hcw, hini, hy, hpl, hmx⟩ := hs
  have hle := hk.le
  have hle' := hE.1
  refine ⟨⟨by omega, by omega⟩, fun p l e R s m args below meth c D H locs cells slots ls X z0 r1 r2 r3 r4 hP hL hl' => ?_⟩
  have hK := X.2.2.2.2.2.2.2.2.1
  obtain ⟨nb, hnb⟩ := ah_isSome hb
  obtain ⟨fs, hcell, -⟩ := ah_len_some hnb
  obtain ⟨-, cellB, q1, q2, q3, -⟩ := ah_cell_o hP hcl.1 hcell
  have hfc := (hK.2 ci _ hcl.1.2).2.1
  intro T hT Y
  obtain ⟨mk, methM, hnamed, hmethM, hstM, habM⟩ := Cond.instanceMethod_spec (hK.w hi0 (args := args))
  obtain ⟨mk', methM', cM, hnamed', hmethM', -, -, -, -, -, -, hsigM⟩ := ah_cw_spec (hK.w hcw (args := args))
  cases Option.some.inj (hnamed.symm.trans hnamed')
  cases Option.some.inj (hmethM.symm.trans hmethM')
  obtain ⟨c2, rr2, m2, k1, k2, k3, k4, kP, hkP, hkPi⟩ := Cond.selects_spec (hK.w hse (args := args))
  cases Option.some.inj (hfc.symm.trans k1)
  cases Option.some.inj ((State.methodFound?_of_named hnamed hy).symm.trans k2)
  cases Option.some.inj (hnamed.symm.trans k3)
  have hselP : selectMethod e.platform s.vm cellB.cls mk = .method mk := by rw [Launch.admits_selectMethod Y.admits, q2]; exact k4
  have hlen : av.length = methM.sig.parameters.length := hn.trans (ah_plen hpl hsigM)
  have key : ∃ vm₁, Stand p l e R s m args below meth c (T.setVm vm₁) locs cells slots ∧ ∀ target, (∀ acts, Steps p.tables e below (doInvoke e ((T.setVm vm₁).setTop (F0 m pc ls st)) acts mk (Value.ref b :: av).toArray).1 target) → Steps p.tables e below (T.setTop (F0 m pc ls (av.reverse ++ .ref b :: st))) target := by
    rcases hl with hl | ⟨host, hl⟩
    · exact Y.invokevirtual X.1 X.2.2.2.2.2.2.1 (hK.w hl) hnamed hmethM hstM hkP hkPi hy (a := b) (cell := cellB) (by rw [hT]; exact q1) (fun z w => by rw [q3] at w; cases w) hselP hmethM habM hkP hkPi (g := F0 m pc ls (av.reverse ++ .ref b :: st)) rfl (argsL := av) (rest := st) hlen rfl (by rw [X.2.1]; exact hd)
    · exact Y.invokevirtualNest X.1 X.2.2.2.2.2.2.1 (hK.w hl) hnamed hmethM hstM hkP hkPi hy (a := b) (cell := cellB) (by rw [hT]; exact q1) (fun z w => by rw [q3] at w; cases w) hselP hmethM habM hkP hkPi (g := F0 m pc ls (av.reverse ++ .ref b :: st)) rfl (argsL := av) (rest := st) hlen rfl (by rw [X.2.1]; exact hd)
  obtain ⟨vm₁, Y₁, hstep⟩ := key
  obtain ⟨t, a1, a2⟩ := ah_into hE hdd hA hst hmx hk hcw hini X z0 r1 r2 r3 r4 hP hL hl' hT Y₁ hd hnamed
  exact ⟨t, hstep t (fun acts => by rw [doInvoke_state]; exact a1), a2⟩
/-- no handler here: the method throws what it was thrown -/
theorem ah_thr_out {M : ah_M} {d : Nat} {A : Nat → Prop} {h0 h : ah_H} {pc a : Nat} {lv : List (Nat × Value)} (hx : ∀ x ∈ M.2.2.2.2, ¬ (x.1 ≤ pc ∧ pc < x.2.1)) : ah_thr M d A h0 (.threw a) h pc lv h a := by
  refine ⟨⟨Nat.le_refl _, Nat.le_refl _⟩, fun p l e R s m args below meth c D locs cells slots ls st T X z0 r1 r2 r3 r4 hP hL hl Y => ?_⟩
  rw [show h.1 - h0.1 = cells by omega, show h.2.1 - h0.2.1 = slots by omega]
  obtain ⟨hexec, hb, hml, hrt, hlocks, hnm, hown, hex, -⟩ := X
  obtain ⟨s1, s2, s3, s4, s5⟩ := Y.leaveThrown a (g := F0 m pc ls st) rfl rfl rfl (fun x hx' => by
    have h1 : ¬ (x.startPc ≤ pc ∧ pc < x.endPc) := hx (x.startPc, x.endPc, x.handlerPc, x.catchType) (by rw [← hex]; exact List.mem_map.mpr ⟨x, hx', rfl⟩)
    simp only [covers]
    rw [Bool.and_eq_false_iff]
    by_cases z : x.startPc ≤ pc
    · exact Or.inr (by simp; omega)
    · exact Or.inl (by simp; omega))
  exact ⟨_, s1, s2, s3, hP.moved s4.alike, locs, ⟨s4, s5⟩, hL⟩
theorem ah_oi : Cond.instanceMethod Lib.objectInit ∈ ah_W := ah_in (by decide +kernel) rfl
theorem ah_oc : Cond.code Lib.objectInit ⟨#[0xb1]⟩ 1 none ∈ ah_W := ah_in (by decide +kernel) rfl
/-- Object.<init> -/
theorem s_objinit {M : ah_M} {d : Nat} {A : Nat → Prop} {h0 : ah_H} {o : Outcome} {h2 h : ah_H} {pc index a : Nat} {lv : List (Nat × Value)} {st : List Value} (hd : decode M.2.1 pc = .ok (.invokespecial index, 3)) (hl : Cond.methodLink M.1.cls index Lib.objectInit ∈ ah_W) (hd1 : 1 ≤ d) (n : ah_At M d A h0 o h2 (pc + 3) lv st h) (hst : (st.map fun v => v.category).sum ≤ 8 := by exact Nat.le_of_ble_eq_true rfl) : ah_At M d A h0 o h2 pc lv (.ref a :: st) h := by
  refine ⟨n.1, fun p l e R s m args below meth c D H locs cells slots ls X z0 r1 r2 r3 r4 hP hL hl' => ?_⟩
  have hK := X.2.2.2.2.2.2.2.2.1
  have hfr := X.2.2.2.2.2.2.2.2.2.1
  have hlo := X.2.2.2.2.2.2.2.2.2.2.1
  have hw : 2 * (F0 m pc ls (.ref a :: st)).monitorRoom + (st.map fun v => v.category).sum ≤ 8 := lv_room (rest := .ref a :: st) hst
  exact W.objInit X.1 X.2.1 X.2.2.2.2.2.2.1 (hK.w hl) (hK.w ah_oi) (hK.w ah_oc) rfl (hl'.1.trans X.2.2.1.symm) rfl hd (by omega) (by omega) (n.2 p l e R s m args below meth c D H locs cells slots ls X z0 r1 r2 r3 r4 hP hL hl')
