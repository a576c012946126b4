/-! THE CLAIM out of the law's walk -/
def R_law : String := "TrainLoadsLaw"
theorem lw_nw {w : Cond} {s : State} {args : Array Value} (hk : ah_wk w = true) (h : w.before args s = true) : va_Nw w s := by
  rcases ah_wk_or hk with h1 | ⟨a, i, b, n, d, x, rfl⟩ | ⟨a, i, x, y, rfl⟩ | ⟨C, rfl⟩ | ⟨t, rfl⟩ | ⟨x, rfl⟩ | ⟨a, b, rfl⟩ | ⟨a, i, t, rfl⟩ | ⟨a, b, rfl⟩
  · exact word_at (State.WarmedH.refl s) h1 h
  · exact h
  · exact h
  · exact h
  · exact h
  · exact h
  · exact h
  · exact h
  · exact h
theorem lw_st1 {s : State} {n d : String} {args args' : Array Value} (h1 : (Cond.laysStatic "java/lang/Throwable" n d).before args s = true) (h2 : (Cond.isRef (.static "java/lang/Throwable" n d)).before args' s = true) : ∃ (c : ClassId) (k : Class) (a : Nat), s.vm.findClass "java/lang/Throwable" = some c ∧ s.vm.classes[c]? = some k ∧ k.statics = some a ∧ ah_st1 n d s s.heap a := by
  obtain ⟨c, k, i, f, a, cell, hc, hi, hst, hsa, hcell, hss, hcls, hlt, hty⟩ := Cond.laysStatic_spec h1
  have e : (Term.static "java/lang/Throwable" n d).eval args' s none [] s = cell.slots[f.slot]? := by
    simp [Term.eval, State.fieldNamed?, hi, hst, hsa, hcell, hss]
  simp only [Cond.before, Cond.holds, Cond.value, e] at h2
  have hk : s.vm.classes[c]? = some k := by
    unfold State.fieldFound? at hi
    simp only [Option.bind_eq_bind, Option.bind_eq_some_iff, Option.pure_def, Option.some.injEq, Prod.mk.injEq] at hi
    obtain ⟨_, _, _, _, ⟨c1, i1⟩, _, k1, g1, _, _, e1, e2, _⟩ := hi
    subst e1 e2
    exact g1
  refine ⟨c, k, a, hc, hk, hsa, c, k, i, f, cell, cell.slots[f.slot], ⟨hi, hc, hcls, hty⟩, hst, hsa, hcell, hss, Array.getElem?_eq_getElem hlt, ?_⟩
  rw [Array.getElem?_eq_getElem hlt] at h2
  cases hv : cell.slots[f.slot] <;> rw [hv] at h2 <;> simp_all [Value.isRef]
theorem lw_stat {s : State} {args : Array Value} (hts : ∀ w ∈ lw_tbl, w.before args s = true) (hgv : (Jvm.Cond.and given_1 narrow_1).before args s = true) : ∃ a, a < s.heap.size ∧ ah_st2 s s.heap a := by
  have hs := flat_of_before _ hgv
  obtain ⟨c1, k1, a1, e1, e2, e3, e4⟩ := lw_st1 (n := "UNASSIGNED_STACK") (d := "[Ljava/lang/StackTraceElement;") (hts _ (by decide +kernel)) (hs _ (by decide +kernel))
  obtain ⟨c2, k2, a2, g1, g2, g3, g4⟩ := lw_st1 (n := "SUPPRESSED_SENTINEL") (d := "Ljava/util/List;") (hts _ (by decide +kernel)) (hs _ (by decide +kernel))
  cases Option.some.inj (e1.symm.trans g1)
  cases Option.some.inj (e2.symm.trans g2)
  cases Option.some.inj (e3.symm.trans g3)
  refine ⟨a1, ?_, e4, g4⟩
  obtain ⟨cf, kf, fi, f, cell, v, -, -, -, q, -⟩ := e4
  exact (Array.getElem?_eq_some_iff.mp q).1
theorem lw_K {s : State} {args : Array Value} (hts : ∀ w ∈ lw_tbl, w.before args s = true) (hgv : (Jvm.Cond.and given_1 narrow_1).before args s = true) : ∃ D : va_G, ah_K D s := by
  have hs := flat_of_before _ hgv
  obtain ⟨c0, iS0, h0⟩ := u_known (C := "TrainLoads$Box") (T := kt0) (N := 5) (n := 5) hts (by decide +kernel) (hts (.instantiable "TrainLoads$Box" 5) (by decide +kernel))
  obtain ⟨c1, iS1, h1⟩ := u_known (C := "TrainLoads$Load") (T := kt1) (N := 5) (n := 5) hts (by decide +kernel) (hts (.instantiable "TrainLoads$Load" 5) (by decide +kernel))
  obtain ⟨c2, iS2, h2⟩ := u_known (C := "TrainLoads$Pattern") (T := kt2) (N := 3) (n := 3) hts (by decide +kernel) (hts (.instantiable "TrainLoads$Pattern" 3) (by decide +kernel))
  obtain ⟨c3, iS3, h3⟩ := u_known (C := "TrainLoads$Planner") (T := kt3) (N := 9) (n := 9) hts (by decide +kernel) (hts (.instantiable "TrainLoads$Planner" 9) (by decide +kernel))
  obtain ⟨c4, iS4, h4⟩ := u_known (C := "TrainLoads$Train") (T := kt4) (N := 6) (n := 6) hts (by decide +kernel) (hts (.instantiable "TrainLoads$Train" 6) (by decide +kernel))
  obtain ⟨c5, iS5, h5⟩ := u_known (C := "TrainLoads$Wagon") (T := kt5) (N := 7) (n := 7) hts (by decide +kernel) (hts (.instantiable "TrainLoads$Wagon" 7) (by decide +kernel))
  obtain ⟨c6, iS6, h6⟩ := u_known (C := "TrainLoads") (T := kt6) (N := 3) (n := 3) hts (by decide +kernel) (hts (.instantiable "TrainLoads" 3) (by decide +kernel))
  obtain ⟨c7, iS7, h7⟩ := u_known (C := "TrainLoadsModel") (T := kt7) (N := 21) (n := 21) hts (by decide +kernel) (hts (.instantiable "TrainLoadsModel" 21) (by decide +kernel))
  refine ⟨(fun k => if k = 0 then c0 else if k = 1 then c1 else if k = 2 then c2 else if k = 3 then c3 else if k = 4 then c4 else if k = 5 then c5 else if k = 6 then c6 else c7, fun k => if k = 0 then iS0 else if k = 1 then iS1 else if k = 2 then iS2 else if k = 3 then iS3 else if k = 4 then iS4 else if k = 5 then iS5 else if k = 6 then iS6 else iS7), fun w hw => ?_, fun ci r hr => ?_⟩
  · obtain ⟨hw1, hw2⟩ := List.mem_filter.mp hw
    rcases List.mem_append.mp hw1 with q | q
    · exact lw_nw hw2 (hts w q)
    · refine lw_nw (args := args) hw2 ?_
      simp only [ah_xt, List.mem_cons, List.not_mem_nil, or_false] at q
      rcases q with rfl | rfl | rfl | rfl
      · exact hs _ (by decide +kernel)
      · exact hs _ (by decide +kernel)
      · exact hs _ (by decide +kernel)
      · exact hs _ (by decide +kernel)
  · match ci, hr with
    | 0, hr => cases hr; exact h0
    | 1, hr => cases hr; exact h1
    | 2, hr => cases hr; exact h2
    | 3, hr => cases hr; exact h3
    | 4, hr => cases hr; exact h4
    | 5, hr => cases hr; exact h5
    | 6, hr => cases hr; exact h6
    | 7, hr => cases hr; exact h7
    | k + 8, hr => simp [vwCl] at hr
def lw_P (b : Addr) (xs : List Int32) (args : Array Value) (s : State) : Prop := args = #[.ref b] ∧ s.IntsAt b xs ∧ xs.length ≤ 4096 ∧ (Jvm.Cond.and given_1 narrow_1).before args s = true
def lw_Q (_ : Array Value) (s : State) (o : Outcome) (t : State) : Prop := o = .returned (some (.int 1)) ∧ Framed s o t [] 679886 7056446
def lw_Z (below : List Frame) (a : Array Value) (s : State) : State → Prop := fun t => ∃ o, t.status = .running ∧ Ended t below o ∧ lw_Q a s o t
def lw_At (p : Program) (s : State) (m : MethodId) (meth : Method) (c : Code) (b L : Nat) (xs : Nat → Int32) : Prop :=
  p.tables.exec = Jvm.exec ∧ c.code = code ∧ meth.sig.returnType = ret ∧ c.maxLocals = 8 ∧ s.vm.findClass R_law = some m.cls ∧ (∀ w ∈ lw_tbl, w.before #[Value.ref b] s = true) ∧ va_X b L xs s s.heap ∧ b < s.heap.size ∧ meth.locks = false ∧ (Jvm.Cond.and given_1 narrow_1).before #[Value.ref b] s = true ∧ meth.name = "law" ∧ c.exceptionTable.toList = []
theorem whole_start {p : Program} {e : Env} {s : State} {m : MethodId} {below : List Frame} {meth : Method} {c : Code} (l : Launch) (hlt : l.stackTraces = false) {b L : Nat} {xs : Nat → Int32} (hL : L ≤ 4096) (C0 : lw_At p s m meth c b L xs) : W p l e room_1 s m #[Value.ref b] below meth c s.heap [] 0 0 (lw_Z below #[Value.ref b] s) (entryFrame m ([Value.ref b] : List Value).toArray 8) := by
  obtain ⟨hx, hb, hr, hml, hown, hts, hX, hbl, hlocks, hgv, hname, hex⟩ := C0
  obtain ⟨D, hK⟩ := lw_K hts hgv
  obtain ⟨aS, haS, hS⟩ := lw_stat hts hgv
  obtain ⟨scr, h1, h2, h3, h4, h5⟩ := hX
  have hne : b ≠ aS := by
    intro q
    subst q
    obtain ⟨cf, kf, fi, f, cell, v, -, -, -, q1, q2, -⟩ := hS.1
    cases Option.some.inj (q1.symm.trans h1)
    obtain ⟨z, -⟩ := h2
    cases hv : scr.vm <;> simp_all [VmData.isStatics]
  have hP : ah_P D s (s.heap.size, 0, fun q => if q = b then some (99, scr.slots.toList) else if q = aS then some (97, []) else none) s.heap := by
    refine ⟨rfl, fun q cq hq => ?_⟩
    by_cases e1 : q = b
    · subst e1
      simp only [if_true] at hq
      cases hq
      rw [ah_ok_s]
      exact ⟨scr, h1, h2, h3, rfl⟩
    · simp only [if_neg e1] at hq
      by_cases e2 : q = aS
      · subst e2
        simp only [if_true] at hq
        cases hq
        rw [ah_ok_z]
        exact hS
      · simp only [if_neg e2] at hq
        cases hq
  have hlen : scr.slots.toList.length = L := by rw [Array.length_toList]; exact h4
  obtain ⟨h2', n1, n2, n3⟩ := law_at (d := 200) (h := (s.heap.size, 0, fun q => if q = b then some (99, scr.slots.toList) else if q = aS then some (97, []) else none)) (x0 := b) (sc := scr.slots.toList) (by simp) hbl ⟨aS, [], haS, by simp [Ne.symm hne]⟩ (fun j hj => ⟨xs j, by rw [Array.getElem?_toList]; exact h5 j (by omega)⟩) (by omega) (by decide)
  have n2' : h2'.2.1 ≤ 0 + 5000 := n2
  have hl := lv_entry ([.ref b]) (n := 8) (Nat.le_of_ble_eq_true rfl)
  rw [lg_entry_eq]
  generalize (lg_sl ([.ref b]) ++ List.replicate (8 - (lg_sl ([.ref b])).length) Slot.unset).toArray = ls at hl ⊢
  have hX0 : ah_X mt_A_law 200 p l room_1 s m meth c D := ⟨hx, hb, hml, hr, hlocks, hname, hown, by rw [hex]; rfl, hK, by decide, by decide, hlt⟩
  have hW := n3.2 p l e room_1 s m #[Value.ref b] below meth c D s.heap [] 0 0 ls hX0 hP (by show h2'.1 ≤ s.heap.size + 679886; omega) (by show h2'.2.1 ≤ 0 + 7056446; omega) rfl rfl hP (fun q hq => by cases hq) hl
  intro T hT X
  obtain ⟨t, a1, q1, q2, -, Lc, ⟨q4, q5⟩, q6⟩ := hW T hT X
  refine ⟨t, a1, _, q1, q2, rfl, ⟨_, rfl⟩, q4, ?_⟩
  exact q5.weaken (fun x hx hb => absurd (q6 x hx) (Nat.not_le.mpr hb)) (by show h2'.1 - s.heap.size ≤ 679886; omega) (by show h2'.2.1 - 0 ≤ 7056446; omega)
set_option maxHeartbeats 4000000 in
theorem lw_walk (l : Launch) (hlt : l.stackTraces = false) (b : Addr) (xs : List Int32) : MetFree l x (headSpec (Jvm.Cond.code x code maxLocals ret :: tables_1) room_1) (lw_P b xs) (fun _ _ _ _ _ => True) lw_Q := by
  refine MetFree.of_bodyS (code := code) (maxLocals := maxLocals) (ret := ret) (by decide) ?_ ?_
  · intro args s m h hn
    obtain ⟨meth, c, h1, h2, h3, h4, h5, h6, -, -⟩ := Cond.code_spec hn (atoms_spec (ws := Jvm.Cond.code x code maxLocals ret :: tables_1) h _ List.mem_cons_self)
    exact ⟨meth, c, h1, h2, h3, h4, h5, h6⟩
  · intro p e s m args below meth c s₁ B hml0 hP _
    obtain ⟨rfl, hx, hbd, hgv⟩ := hP
    obtain ⟨scr, harrAt, hlist, hof, hsmall⟩ := hx
    obtain ⟨hcb, hkn, -, -⟩ := State.arrayAt?_spec harrAt
    have hown : s.vm.findClass R_law = some m.cls := findClass_of_methodNamed B.named
    have hts0 : ∀ c ∈ (Jvm.Cond.code x code maxLocals ret :: tables_1), c.before #[Value.ref b] s = true := atoms_spec (ws := Jvm.Cond.code x code maxLocals ret :: tables_1) B.pre
    have hts : ∀ w ∈ lw_tbl, w.before #[Value.ref b] s = true := k2_hts_sels lw_privs (fun w hw => hts0 w (List.mem_cons_of_mem _ hw)) lw_privs_ok
    have hml : c.maxLocals = 8 := B.maxLocals_eq (hts0 _ List.mem_cons_self)
    have X₀ : Stand p l e room_1 s m #[Value.ref b] below meth c s₁ [] 0 0 := Stand.of_body B
    have hh0 : s₁.heap = s.heap := by rw [B.state]; rfl
    have hsz : scr.slots.size = xs.length := by rw [← Array.length_toList, hlist, List.length_map]
    have hval : ∀ j : Nat, j < xs.length → scr.slots[j]? = some (.int (xs.getD j 0)) := fun j hj => by
      rw [← Array.getElem?_toList, hlist]
      simp [hj]
    have hbl : b < s.heap.size := (Array.getElem?_eq_some_iff.mp hcb).1
    have hX : va_X b xs.length (fun j => xs.getD j 0) s s.heap := ⟨scr, hcb, hof, hkn, hsz, hval⟩
    have hcw : (ah_cw mt_A_law).before #[Value.ref b] s = true := hts0 _ List.mem_cons_self
    obtain ⟨mk, meth', c', w1, w2, w3, w4, w5, w6, w7, w8, w9⟩ := ah_cw_spec hcw
    cases Option.some.inj (B.named.symm.trans w1)
    cases Option.some.inj (B.method.symm.trans w2)
    cases Option.some.inj ((Stand.of_body B).code.symm.trans w3)
    have K : W p l e room_1 s m #[Value.ref b] below meth c s₁.heap [] 0 0 (lw_Z below #[Value.ref b] s) (entryFrame m ([Value.ref b] : List Value).toArray 8) := by
      rw [hh0]
      exact whole_start l hlt hbd ⟨B.exec, B.bytes, B.returns, hml, hown, hts, hX, hbl, B.notSynchronized, hgv, (name_of_methodNamed B.named B.method).1, List.map_eq_nil_iff.mp w6⟩
    obtain ⟨t, a1, o, b1, b2, b3⟩ := K s₁ rfl X₀
    exact ⟨t, o, a1, b1, b2, b3⟩
theorem lw_pre_spec {args : Array Value} {s : State} (h : (Jvm.Cond.and given_1 narrow_1).before args s = true) (hr : rest_1_c.before args s = true) : ∃ (b : Addr) (xs : List Int32), lw_P b xs args s := by
  have hs := flat_of_before _ h
  have hq := flat_of_before _ hr
  have hc : (Cond.count 1).before args s = true := hs _ (by decide +kernel)
  have harr : (Cond.arrayOf (.arg 0) .int).before args s = true := hs _ (by decide +kernel)
  have hle : (Cond.le (.length (.arg 0)) (.int 4096)).before args s = true := hs _ (by decide +kernel)
  have hlen : (Cond.isInt (.length (.arg 0))).before args s = true := hq _ (by decide +kernel)
  have hall : (Cond.all (.arg 0) (.isInt (.elem (.arg 0) (.index 0)))).before args s = true := hq _ (by decide +kernel)
  obtain ⟨b, xs, hb, hx⟩ := State.ints_of_pre rfl harr hlen hall
  have hsm : xs.length < 2 ^ 31 := hx.choose_spec.2.2.2
  have hev : (Term.length (.arg 0)).eval args s none [] s = some (.int xs.length.toInt32) := hx.length_eval hb
  have hv := Cond.le_ints hev (show (Term.int 4096).eval args s none [] s = some (.int 4096) from rfl)
  have hd : xs.length.toInt32 ≤ 4096 := by
    simpa [Cond.before, Cond.holds, hv] using hle
  have hN : xs.length ≤ 4096 := (Int32.ofNat_le_ofNat hsm (by decide)).mp (show Int32.ofNat xs.length ≤ Int32.ofNat 4096 from hd)
  exact ⟨b, xs, Cond.one_arg hc (show args[0]? = some (.ref b) from hb), hx, hN, h⟩
theorem lw_comes (l : Launch) (hlt : l.stackTraces = false) : Comes l x (Jvm.Cond.code x code maxLocals ret :: tables_1) room_1 (fun tb e args s => Calls_1 tb e args s ∧ rest_1 tb e args s ∧ Pre_1 tb e args s)
    (fun _ _ args s o t => lw_Q args s o t) := by
  intro p e ha hc hk s m args below hf hfit hheap happ hpre
  obtain ⟨b, xs, hP⟩ := lw_pre_spec hpre.2.2 hpre.2.1
  obtain ⟨k, o, h1, h2, h3, hQ⟩ := lw_walk l hlt b xs p e ha hc hk s m args below hf ((Spec.applies_iff_loose hf).mp happ).1 hP trivial
  exact ⟨k, o, h1, h2, h3, hQ⟩
theorem lw_frame {s t : State} {o : Outcome} {args : Array Value} (h : Framed s o t [] 679886 7056446) :
    Framed s o t (fieldLocs frame_1_writes args s ++ arrayLocs frame_1_arrays args s ++ staticLocs frame_1_statics s) 679886 7056446 := h
theorem lw_limb (L : Cond) (hL : ∀ (args : Array Value) (s t : State), L.after args s (.returned (some (.int 1))) t = true) :
    ArmFor flags0 classFile x code maxLocals ret World_1 tables_1 room_1 Calls_1 rest_1 Pre_1
      (fun tb e a s o t => postC L tb e a s o t ∧ Framed s o t (fieldLocs frame_1_writes a s ++ arrayLocs frame_1_arrays a s ++ staticLocs frame_1_statics s) 679886 7056446) := by
  intro l hfl _ _ p e ha hc hk s m args below hf hfit hheap happ hpre
  have hlt : l.stackTraces = false := by unfold Launch.stackTraces; rw [hfl]; decide +kernel
  obtain ⟨k, o, h1, h2, h3, rfl, hF⟩ := lw_comes l hlt p e ha hc hk s m args below hf hfit hheap happ hpre
  exact ⟨k, _, h1, h2, h3, hL args s _, lw_frame hF⟩
theorem i_vc : Claimed_1_1 ∧ Claimed_1_2 := ⟨lw_limb limb_1_1 (fun args s t => by simp [limb_1_1, Cond.after, Cond.holds, Cond.value]), lw_limb limb_1_2 (fun args s t => Cond.after_iff.mpr (by
  first | (rw [show limb_1_2 = Cond.eq .result (.int 1) from rfl, Cond.eq_ints (x := 1) (y := 1) rfl rfl]; simp; done) | (simp [limb_1_2, Cond.value, Term.eval]; done)))⟩
