/-! THE LAW: its helpers, its steps. Printed by wip/conA.py. -/
theorem a_wagon_r {d d' : Nat} {A A' : Nat → Prop} {h h' : ah_H} {x0 xo : Nat} {y1 : Int32} {y2 : Int64} {y4 : Int32} {y5 : Int32} {v : Int32} (hE : ah_Ev mt_X_wagon d' A' [.ref x0, .int y1, .long y2, .int y4, .int y5] h (.returned (some (.int v))) h') (hdd : d' + 1 ≤ d) (hAA : ∀ q, A' q → A q) (hb : (ah_len h x0 6).isSome = true) (hw : A xo) (hs : (ah_sel h' xo 101 0).isSome = true) : ah_Ev mt_A_wagon d A [.ref x0, .int y1, .long y2, .int y4, .int y5, .ref xo] h (.returned (some (.int 0))) (ah_sto h' xo 0 (.long (Int32.toInt64 v))) := by
  refine ah_Ev.of (by decide +kernel) (Nat.le_of_ble_eq_true rfl) ?_
  show ah_At mt_A_wagon d A h (.returned (some (.int 0))) (ah_sto h' xo 0 (.long (Int32.toInt64 v))) 0 [(0, .ref x0), (1, .int y1), (2, .long y2), (4, .int y4), (5, .int y5), (6, .ref xo)] [] h
  refine b_A_wagon_0 hE hdd hAA ?_ hb
  refine aft_1 ?_
  refine b_A_wagon_13 hw ⟨by decide, by decide⟩ hs ?_
  exact b_A_wagon_26
theorem a_wagon_t1 {d d' : Nat} {A A' : Nat → Prop} {h h' : ah_H} {x0 xo : Nat} {y1 : Int32} {y2 : Int64} {y4 : Int32} {y5 : Int32} {a : Nat} (hE : ah_Ev mt_X_wagon d' A' [.ref x0, .int y1, .long y2, .int y4, .int y5] h (.threw a) h') (hdd : d' + 1 ≤ d) (hAA : ∀ q, A' q → A q) (hb : (ah_len h x0 6).isSome = true) (hx : h'.2.2 a = some (90, [])) : ah_Ev mt_A_wagon d A [.ref x0, .int y1, .long y2, .int y4, .int y5, .ref xo] h (.returned (some (.int 1))) h' := by
  refine ah_Ev.of (by decide +kernel) (Nat.le_of_ble_eq_true rfl) ?_
  show ah_At mt_A_wagon d A h (.returned (some (.int 1))) h' 0 [(0, .ref x0), (1, .int y1), (2, .long y2), (4, .int y4), (5, .int y5), (6, .ref xo)] [] h
  refine b_A_wagon_0 hE hdd hAA ?_ hb
  show ah_thr mt_A_wagon d A h (.returned (some (.int 1))) h' 10 [] h' a
  exact ah_thr_catch (hp := 18) (E := "java/lang/IllegalArgumentException") rfl hx (Or.inl ⟨⟨by decide, by decide⟩, by decide, rfl, "java/lang/IllegalArgumentException", ah_in (by decide +kernel) rfl, ah_in (by decide +kernel) rfl⟩) b_A_wagon_18
theorem a_wagon_t2 {d d' : Nat} {A A' : Nat → Prop} {h h' : ah_H} {x0 xo : Nat} {y1 : Int32} {y2 : Int64} {y4 : Int32} {y5 : Int32} {a : Nat} (hE : ah_Ev mt_X_wagon d' A' [.ref x0, .int y1, .long y2, .int y4, .int y5] h (.threw a) h') (hdd : d' + 1 ≤ d) (hAA : ∀ q, A' q → A q) (hb : (ah_len h x0 6).isSome = true) (hx : h'.2.2 a = some (91, [])) : ah_Ev mt_A_wagon d A [.ref x0, .int y1, .long y2, .int y4, .int y5, .ref xo] h (.returned (some (.int 2))) h' := by
  refine ah_Ev.of (by decide +kernel) (Nat.le_of_ble_eq_true rfl) ?_
  show ah_At mt_A_wagon d A h (.returned (some (.int 2))) h' 0 [(0, .ref x0), (1, .int y1), (2, .long y2), (4, .int y4), (5, .int y5), (6, .ref xo)] [] h
  refine b_A_wagon_0 hE hdd hAA ?_ hb
  show ah_thr mt_A_wagon d A h (.returned (some (.int 2))) h' 10 [] h' a
  exact ah_thr_catch (hp := 22) (E := "java/lang/IllegalStateException") rfl hx (Or.inr ⟨⟨by decide, by decide⟩, by decide, ⟨"java/lang/IllegalArgumentException", ah_in (by decide +kernel) rfl, ah_inx (by decide +kernel) rfl⟩, Or.inl ⟨⟨by decide, by decide⟩, by decide, rfl, "java/lang/IllegalStateException", ah_in (by decide +kernel) rfl, ah_in (by decide +kernel) rfl⟩⟩) b_A_wagon_22
theorem l_wagon_t1 {d : Nat} {A : Nat → Prop} {g : ah_H} {b m x0 x3 : Nat} {sc : List Value} {x4 : Int32} {f : Nat → Int32} {D E : rg_D} (G : LG g b m x0 x3 sc) (rd : Rd sc x4 f) (hd : 60 ≤ d) (hA : ∀ q, b ≤ q → A q) (hX : ah_Ev mt_X_wagon (d - 2) (fun _ => False) [.ref b, .int (f 1), .long (lw (f 2) (f 3)), .int (f 4), .int (f 5)] (rg LTc (rg LTm g m E) b D) (.threw (rg LTm g m E).1) (ah_newx (rg LTc (rg LTm g m E) b D) 90)) {v' : Int32} (hM : ah_Ev mt_M_wagon (d - 1) A [.ref m, .int (f 1), .long (lw (f 2) (f 3)), .int (f 4), .int (f 5)] (rg LTm (rg LTc (ah_newx g 90) b D) m E) (.returned (some (.int v'))) (rg LTm (rg LTc (ah_newx g 90) b D) m (up E 32 0 1))) (hE : ∀ f j, E f j < 2 ^ 30) {h0 h2 : ah_H} {o : Outcome} (kk : ah_At mt_A_law d A h0 o h2 1062 [(0, .ref x0), (1, .ref b), (2, .ref m), (3, .ref x3), (4, .int x4)] [] (HH (ah_newx g 90) b m D (up E 32 0 1))) : ah_At mt_A_law d A h0 o h2 112 [(0, .ref x0), (1, .ref b), (2, .ref m), (3, .ref x3), (4, .int x4)] [] (HH g b m D E) := by
  obtain ⟨j1, i1, s1⟩ := rd.r1
  obtain ⟨j2, i2, s2⟩ := rd.r2
  obtain ⟨j3, i3, s3⟩ := rd.r3
  obtain ⟨j4, i4, s4⟩ := rd.r4
  obtain ⟨j5, i5, s5⟩ := rd.r5
  have hC := a_wagon_t1 (d := d - 1) (A := A) (xo := x3) (evT G hX) (by omega) (fun q h => h.elim) (HH_6 G.bm) (HH_x G)
  refine b_A_law_112 i1 (HH_rd G s1) i2 (HH_rd G s2) i3 (HH_rd G s3) i4 (HH_rd G s4) i5 (HH_rd G s5) hC (by omega) (fun q hq => hq) ?_
  refine aft_1 ?_
  refine b_A_law_157 i1 (HH_rd G.newx s1) i2 (HH_rd G.newx s2) i3 (HH_rd G.newx s3) i4 (HH_rd G.newx s4) i5 (HH_rd G.newx s5) hM (by omega) (fun q hq => hq) ?_ HH_7
  refine aft_1 ?_
  refine b_A_law_203 (c_thrown (d := d - 1) (A := A) (up_O hE (by decide))) (by omega) (fun q hq => hq) ?_ HH_7
  refine aft_1 ?_
  refine b_A_law_209 (fun _ => ?_) (fun z => absurd (by rw [up_s]; decide) z)
  refine b_A_law_216 (fun _ => ?_) (fun z => absurd (by decide) z)
  exact b_A_law_233 kk
theorem l_wagon_t2 {d : Nat} {A : Nat → Prop} {g : ah_H} {b m x0 x3 : Nat} {sc : List Value} {x4 : Int32} {f : Nat → Int32} {D E : rg_D} (G : LG g b m x0 x3 sc) (rd : Rd sc x4 f) (hd : 60 ≤ d) (hA : ∀ q, b ≤ q → A q) (hX : ah_Ev mt_X_wagon (d - 2) (fun _ => False) [.ref b, .int (f 1), .long (lw (f 2) (f 3)), .int (f 4), .int (f 5)] (rg LTc (rg LTm g m E) b D) (.threw (rg LTm g m E).1) (ah_newx (rg LTc (rg LTm g m E) b D) 91)) {v' : Int32} (hM : ah_Ev mt_M_wagon (d - 1) A [.ref m, .int (f 1), .long (lw (f 2) (f 3)), .int (f 4), .int (f 5)] (rg LTm (rg LTc (ah_newx g 91) b D) m E) (.returned (some (.int v'))) (rg LTm (rg LTc (ah_newx g 91) b D) m (up E 32 0 2))) (hE : ∀ f j, E f j < 2 ^ 30) {h0 h2 : ah_H} {o : Outcome} (kk : ah_At mt_A_law d A h0 o h2 1062 [(0, .ref x0), (1, .ref b), (2, .ref m), (3, .ref x3), (4, .int x4)] [] (HH (ah_newx g 91) b m D (up E 32 0 2))) : ah_At mt_A_law d A h0 o h2 112 [(0, .ref x0), (1, .ref b), (2, .ref m), (3, .ref x3), (4, .int x4)] [] (HH g b m D E) := by
  obtain ⟨j1, i1, s1⟩ := rd.r1
  obtain ⟨j2, i2, s2⟩ := rd.r2
  obtain ⟨j3, i3, s3⟩ := rd.r3
  obtain ⟨j4, i4, s4⟩ := rd.r4
  obtain ⟨j5, i5, s5⟩ := rd.r5
  have hC := a_wagon_t2 (d := d - 1) (A := A) (xo := x3) (evT G hX) (by omega) (fun q h => h.elim) (HH_6 G.bm) (HH_x G)
  refine b_A_law_112 i1 (HH_rd G s1) i2 (HH_rd G s2) i3 (HH_rd G s3) i4 (HH_rd G s4) i5 (HH_rd G s5) hC (by omega) (fun q hq => hq) ?_
  refine aft_1 ?_
  refine b_A_law_157 i1 (HH_rd G.newx s1) i2 (HH_rd G.newx s2) i3 (HH_rd G.newx s3) i4 (HH_rd G.newx s4) i5 (HH_rd G.newx s5) hM (by omega) (fun q hq => hq) ?_ HH_7
  refine aft_1 ?_
  refine b_A_law_203 (c_thrown (d := d - 1) (A := A) (up_O hE (by decide))) (by omega) (fun q hq => hq) ?_ HH_7
  refine aft_1 ?_
  refine b_A_law_209 (fun _ => ?_) (fun z => absurd (by rw [up_s]; decide) z)
  refine b_A_law_216 (fun _ => ?_) (fun z => absurd (by decide) z)
  exact b_A_law_233 kk
theorem l_wagon_r {d : Nat} {A : Nat → Prop} {g : ah_H} {b m x0 x3 : Nat} {sc : List Value} {x4 : Int32} {f : Nat → Int32} {D D' E E' : rg_D} (G : LG g b m x0 x3 sc) (rd : Rd sc x4 f) (hd : 60 ≤ d) (hA : ∀ q, b ≤ q → A q) {v : Int32} (hX : ah_Ev mt_X_wagon (d - 2) A [.ref b, .int (f 1), .long (lw (f 2) (f 3)), .int (f 4), .int (f 5)] (rg LTc (rg LTm g m E) b D) (.returned (some (.int v))) (rg LTc (rg LTm g m E) b D')) {v' : Int32} (hM : ah_Ev mt_M_wagon (d - 1) A [.ref m, .int (f 1), .long (lw (f 2) (f 3)), .int (f 4), .int (f 5)] (rg LTm (rg LTc (ah_sto g x3 0 (.long (Int32.toInt64 v))) b D') m E) (.returned (some (.int v'))) (rg LTm (rg LTc (ah_sto g x3 0 (.long (Int32.toInt64 v))) b D') m E')) (hv : v = v') (hT : E' 32 0 = 0) (hE : ∀ f j, E' f j < 2 ^ 30) {h0 h2 : ah_H} {o : Outcome} (kk : ah_At mt_A_law d A h0 o h2 1062 [(0, .ref x0), (1, .ref b), (2, .ref m), (3, .ref x3), (4, .int x4)] [] (HH (ah_sto g x3 0 (.long (Int32.toInt64 v))) b m D' E')) : ah_At mt_A_law d A h0 o h2 112 [(0, .ref x0), (1, .ref b), (2, .ref m), (3, .ref x3), (4, .int x4)] [] (HH g b m D E) := by
  subst hv
  obtain ⟨j1, i1, s1⟩ := rd.r1
  obtain ⟨j2, i2, s2⟩ := rd.r2
  obtain ⟨j3, i3, s3⟩ := rd.r3
  obtain ⟨j4, i4, s4⟩ := rd.r4
  obtain ⟨j5, i5, s5⟩ := rd.r5
  have hC := a_wagon_r (d := d - 1) (A := A) (xo := x3) (evC G.bm hX) (by omega) (fun q h => h) (HH_6 G.bm) (hA _ (by have h1 := G.bm; have h2 := G.mo; omega)) (HH_o G)
  rw [HH_sto G] at hC
  refine b_A_law_112 i1 (HH_rd G s1) i2 (HH_rd G s2) i3 (HH_rd G s3) i4 (HH_rd G s4) i5 (HH_rd G s5) hC (by omega) (fun q hq => hq) ?_
  refine aft_1 ?_
  refine b_A_law_157 i1 (HH_rd G.sto s1) i2 (HH_rd G.sto s2) i3 (HH_rd G.sto s3) i4 (HH_rd G.sto s4) i5 (HH_rd G.sto s5) hM (by omega) (fun q hq => hq) ?_ HH_7
  refine aft_1 ?_
  refine b_A_law_203 (c_thrown (d := d - 1) (A := A) hE) (by omega) (fun q hq => hq) ?_ HH_7
  refine aft_1 ?_
  refine b_A_law_209 (fun _ => ?_) (fun z => absurd (by rw [hT]; decide) z)
  refine b_A_law_216 (fun z => absurd rfl z) (fun _ => ?_)
  exact b_A_law_221 (j1 := 0) ⟨by decide, by decide⟩ (HH_ov G) (fun _ => b_A_law_233 kk) (fun y => absurd ((cLeq rfl rfl).mpr rfl) y)
theorem a_pattern_r {d d' : Nat} {A A' : Nat → Prop} {h h' : ah_H} {x0 xo : Nat} {y1 : Int32} {y2 : Int32} {v : Int32} (hE : ah_Ev mt_X_pattern d' A' [.ref x0, .int y1, .int y2] h (.returned (some (.int v))) h') (hdd : d' + 1 ≤ d) (hAA : ∀ q, A' q → A q) (hb : (ah_len h x0 6).isSome = true) (hw : A xo) (hs : (ah_sel h' xo 101 0).isSome = true) : ah_Ev mt_A_pattern d A [.ref x0, .int y1, .int y2, .ref xo] h (.returned (some (.int 0))) (ah_sto h' xo 0 (.long (Int32.toInt64 v))) := by
  refine ah_Ev.of (by decide +kernel) (Nat.le_of_ble_eq_true rfl) ?_
  show ah_At mt_A_pattern d A h (.returned (some (.int 0))) (ah_sto h' xo 0 (.long (Int32.toInt64 v))) 0 [(0, .ref x0), (1, .int y1), (2, .int y2), (3, .ref xo)] [] h
  refine b_A_pattern_0 hE hdd hAA ?_ hb
  refine aft_1 ?_
  refine b_A_pattern_8 hw ⟨by decide, by decide⟩ hs ?_
  exact b_A_pattern_21
theorem a_pattern_t1 {d d' : Nat} {A A' : Nat → Prop} {h h' : ah_H} {x0 xo : Nat} {y1 : Int32} {y2 : Int32} {a : Nat} (hE : ah_Ev mt_X_pattern d' A' [.ref x0, .int y1, .int y2] h (.threw a) h') (hdd : d' + 1 ≤ d) (hAA : ∀ q, A' q → A q) (hb : (ah_len h x0 6).isSome = true) (hx : h'.2.2 a = some (90, [])) : ah_Ev mt_A_pattern d A [.ref x0, .int y1, .int y2, .ref xo] h (.returned (some (.int 1))) h' := by
  refine ah_Ev.of (by decide +kernel) (Nat.le_of_ble_eq_true rfl) ?_
  show ah_At mt_A_pattern d A h (.returned (some (.int 1))) h' 0 [(0, .ref x0), (1, .int y1), (2, .int y2), (3, .ref xo)] [] h
  refine b_A_pattern_0 hE hdd hAA ?_ hb
  show ah_thr mt_A_pattern d A h (.returned (some (.int 1))) h' 5 [] h' a
  exact ah_thr_catch (hp := 13) (E := "java/lang/IllegalArgumentException") rfl hx (Or.inl ⟨⟨by decide, by decide⟩, by decide, rfl, "java/lang/IllegalArgumentException", ah_in (by decide +kernel) rfl, ah_in (by decide +kernel) rfl⟩) b_A_pattern_13
theorem a_pattern_t2 {d d' : Nat} {A A' : Nat → Prop} {h h' : ah_H} {x0 xo : Nat} {y1 : Int32} {y2 : Int32} {a : Nat} (hE : ah_Ev mt_X_pattern d' A' [.ref x0, .int y1, .int y2] h (.threw a) h') (hdd : d' + 1 ≤ d) (hAA : ∀ q, A' q → A q) (hb : (ah_len h x0 6).isSome = true) (hx : h'.2.2 a = some (91, [])) : ah_Ev mt_A_pattern d A [.ref x0, .int y1, .int y2, .ref xo] h (.returned (some (.int 2))) h' := by
  refine ah_Ev.of (by decide +kernel) (Nat.le_of_ble_eq_true rfl) ?_
  show ah_At mt_A_pattern d A h (.returned (some (.int 2))) h' 0 [(0, .ref x0), (1, .int y1), (2, .int y2), (3, .ref xo)] [] h
  refine b_A_pattern_0 hE hdd hAA ?_ hb
  show ah_thr mt_A_pattern d A h (.returned (some (.int 2))) h' 5 [] h' a
  exact ah_thr_catch (hp := 17) (E := "java/lang/IllegalStateException") rfl hx (Or.inr ⟨⟨by decide, by decide⟩, by decide, ⟨"java/lang/IllegalArgumentException", ah_in (by decide +kernel) rfl, ah_inx (by decide +kernel) rfl⟩, Or.inl ⟨⟨by decide, by decide⟩, by decide, rfl, "java/lang/IllegalStateException", ah_in (by decide +kernel) rfl, ah_in (by decide +kernel) rfl⟩⟩) b_A_pattern_17
theorem l_pattern_t1 {d : Nat} {A : Nat → Prop} {g : ah_H} {b m x0 x3 : Nat} {sc : List Value} {x4 : Int32} {f : Nat → Int32} {D E : rg_D} (G : LG g b m x0 x3 sc) (rd : Rd sc x4 f) (hd : 60 ≤ d) (hA : ∀ q, b ≤ q → A q) (hX : ah_Ev mt_X_pattern (d - 2) (fun _ => False) [.ref b, .int (f 1), .int (f 2)] (rg LTc (rg LTm g m E) b D) (.threw (rg LTm g m E).1) (ah_newx (rg LTc (rg LTm g m E) b D) 90)) {v' : Int32} (hM : ah_Ev mt_M_pattern (d - 1) A [.ref m, .int (f 1), .int (f 2)] (rg LTm (rg LTc (ah_newx g 90) b D) m E) (.returned (some (.int v'))) (rg LTm (rg LTc (ah_newx g 90) b D) m (up E 32 0 1))) (hE : ∀ f j, E f j < 2 ^ 30) {h0 h2 : ah_H} {o : Outcome} (kk : ah_At mt_A_law d A h0 o h2 1062 [(0, .ref x0), (1, .ref b), (2, .ref m), (3, .ref x3), (4, .int x4)] [] (HH (ah_newx g 90) b m D (up E 32 0 1))) : ah_At mt_A_law d A h0 o h2 236 [(0, .ref x0), (1, .ref b), (2, .ref m), (3, .ref x3), (4, .int x4)] [] (HH g b m D E) := by
  obtain ⟨j1, i1, s1⟩ := rd.r1
  obtain ⟨j2, i2, s2⟩ := rd.r2
  have hC := a_pattern_t1 (d := d - 1) (A := A) (xo := x3) (evT G hX) (by omega) (fun q h => h.elim) (HH_6 G.bm) (HH_x G)
  refine b_A_law_236 i1 (HH_rd G s1) i2 (HH_rd G s2) hC (by omega) (fun q hq => hq) ?_
  refine aft_1 ?_
  refine b_A_law_253 i1 (HH_rd G.newx s1) i2 (HH_rd G.newx s2) hM (by omega) (fun q hq => hq) ?_ HH_7
  refine aft_1 ?_
  refine b_A_law_271 (c_thrown (d := d - 1) (A := A) (up_O hE (by decide))) (by omega) (fun q hq => hq) ?_ HH_7
  refine aft_1 ?_
  refine b_A_law_277 (fun _ => ?_) (fun z => absurd (by rw [up_s]; decide) z)
  refine b_A_law_284 (fun _ => ?_) (fun z => absurd (by decide) z)
  exact b_A_law_301 kk
theorem l_pattern_t2 {d : Nat} {A : Nat → Prop} {g : ah_H} {b m x0 x3 : Nat} {sc : List Value} {x4 : Int32} {f : Nat → Int32} {D E : rg_D} (G : LG g b m x0 x3 sc) (rd : Rd sc x4 f) (hd : 60 ≤ d) (hA : ∀ q, b ≤ q → A q) (hX : ah_Ev mt_X_pattern (d - 2) (fun _ => False) [.ref b, .int (f 1), .int (f 2)] (rg LTc (rg LTm g m E) b D) (.threw (rg LTm g m E).1) (ah_newx (rg LTc (rg LTm g m E) b D) 91)) {v' : Int32} (hM : ah_Ev mt_M_pattern (d - 1) A [.ref m, .int (f 1), .int (f 2)] (rg LTm (rg LTc (ah_newx g 91) b D) m E) (.returned (some (.int v'))) (rg LTm (rg LTc (ah_newx g 91) b D) m (up E 32 0 2))) (hE : ∀ f j, E f j < 2 ^ 30) {h0 h2 : ah_H} {o : Outcome} (kk : ah_At mt_A_law d A h0 o h2 1062 [(0, .ref x0), (1, .ref b), (2, .ref m), (3, .ref x3), (4, .int x4)] [] (HH (ah_newx g 91) b m D (up E 32 0 2))) : ah_At mt_A_law d A h0 o h2 236 [(0, .ref x0), (1, .ref b), (2, .ref m), (3, .ref x3), (4, .int x4)] [] (HH g b m D E) := by
  obtain ⟨j1, i1, s1⟩ := rd.r1
  obtain ⟨j2, i2, s2⟩ := rd.r2
  have hC := a_pattern_t2 (d := d - 1) (A := A) (xo := x3) (evT G hX) (by omega) (fun q h => h.elim) (HH_6 G.bm) (HH_x G)
  refine b_A_law_236 i1 (HH_rd G s1) i2 (HH_rd G s2) hC (by omega) (fun q hq => hq) ?_
  refine aft_1 ?_
  refine b_A_law_253 i1 (HH_rd G.newx s1) i2 (HH_rd G.newx s2) hM (by omega) (fun q hq => hq) ?_ HH_7
  refine aft_1 ?_
  refine b_A_law_271 (c_thrown (d := d - 1) (A := A) (up_O hE (by decide))) (by omega) (fun q hq => hq) ?_ HH_7
  refine aft_1 ?_
  refine b_A_law_277 (fun _ => ?_) (fun z => absurd (by rw [up_s]; decide) z)
  refine b_A_law_284 (fun _ => ?_) (fun z => absurd (by decide) z)
  exact b_A_law_301 kk
theorem l_pattern_r {d : Nat} {A : Nat → Prop} {g : ah_H} {b m x0 x3 : Nat} {sc : List Value} {x4 : Int32} {f : Nat → Int32} {D D' E E' : rg_D} (G : LG g b m x0 x3 sc) (rd : Rd sc x4 f) (hd : 60 ≤ d) (hA : ∀ q, b ≤ q → A q) {v : Int32} (hX : ah_Ev mt_X_pattern (d - 2) A [.ref b, .int (f 1), .int (f 2)] (rg LTc (rg LTm g m E) b D) (.returned (some (.int v))) (rg LTc (rg LTm g m E) b D')) {v' : Int32} (hM : ah_Ev mt_M_pattern (d - 1) A [.ref m, .int (f 1), .int (f 2)] (rg LTm (rg LTc (ah_sto g x3 0 (.long (Int32.toInt64 v))) b D') m E) (.returned (some (.int v'))) (rg LTm (rg LTc (ah_sto g x3 0 (.long (Int32.toInt64 v))) b D') m E')) (hv : v = v') (hT : E' 32 0 = 0) (hE : ∀ f j, E' f j < 2 ^ 30) {h0 h2 : ah_H} {o : Outcome} (kk : ah_At mt_A_law d A h0 o h2 1062 [(0, .ref x0), (1, .ref b), (2, .ref m), (3, .ref x3), (4, .int x4)] [] (HH (ah_sto g x3 0 (.long (Int32.toInt64 v))) b m D' E')) : ah_At mt_A_law d A h0 o h2 236 [(0, .ref x0), (1, .ref b), (2, .ref m), (3, .ref x3), (4, .int x4)] [] (HH g b m D E) := by
  subst hv
  obtain ⟨j1, i1, s1⟩ := rd.r1
  obtain ⟨j2, i2, s2⟩ := rd.r2
  have hC := a_pattern_r (d := d - 1) (A := A) (xo := x3) (evC G.bm hX) (by omega) (fun q h => h) (HH_6 G.bm) (hA _ (by have h1 := G.bm; have h2 := G.mo; omega)) (HH_o G)
  rw [HH_sto G] at hC
  refine b_A_law_236 i1 (HH_rd G s1) i2 (HH_rd G s2) hC (by omega) (fun q hq => hq) ?_
  refine aft_1 ?_
  refine b_A_law_253 i1 (HH_rd G.sto s1) i2 (HH_rd G.sto s2) hM (by omega) (fun q hq => hq) ?_ HH_7
  refine aft_1 ?_
  refine b_A_law_271 (c_thrown (d := d - 1) (A := A) hE) (by omega) (fun q hq => hq) ?_ HH_7
  refine aft_1 ?_
  refine b_A_law_277 (fun _ => ?_) (fun z => absurd (by rw [hT]; decide) z)
  refine b_A_law_284 (fun z => absurd rfl z) (fun _ => ?_)
  exact b_A_law_289 (j1 := 0) ⟨by decide, by decide⟩ (HH_ov G) (fun _ => b_A_law_301 kk) (fun y => absurd ((cLeq rfl rfl).mpr rfl) y)
theorem a_box_r {d d' : Nat} {A A' : Nat → Prop} {h h' : ah_H} {x0 xo : Nat} {y1 : Int32} {y2 : Int64} {y4 : Int32} {y5 : Int32} {y6 : Int64} {v : Int32} (hE : ah_Ev mt_X_box d' A' [.ref x0, .int y1, .long y2, .int y4, .int y5, .long y6] h (.returned (some (.int v))) h') (hdd : d' + 1 ≤ d) (hAA : ∀ q, A' q → A q) (hb : (ah_len h x0 6).isSome = true) (hw : A xo) (hs : (ah_sel h' xo 101 0).isSome = true) : ah_Ev mt_A_box d A [.ref x0, .int y1, .long y2, .int y4, .int y5, .long y6, .ref xo] h (.returned (some (.int 0))) (ah_sto h' xo 0 (.long (Int32.toInt64 v))) := by
  refine ah_Ev.of (by decide +kernel) (Nat.le_of_ble_eq_true rfl) ?_
  show ah_At mt_A_box d A h (.returned (some (.int 0))) (ah_sto h' xo 0 (.long (Int32.toInt64 v))) 0 [(0, .ref x0), (1, .int y1), (2, .long y2), (4, .int y4), (5, .int y5), (6, .long y6), (8, .ref xo)] [] h
  refine b_A_box_0 hE hdd hAA ?_ hb
  refine aft_1 ?_
  refine b_A_box_15 hw ⟨by decide, by decide⟩ hs ?_
  exact b_A_box_28
theorem a_box_t1 {d d' : Nat} {A A' : Nat → Prop} {h h' : ah_H} {x0 xo : Nat} {y1 : Int32} {y2 : Int64} {y4 : Int32} {y5 : Int32} {y6 : Int64} {a : Nat} (hE : ah_Ev mt_X_box d' A' [.ref x0, .int y1, .long y2, .int y4, .int y5, .long y6] h (.threw a) h') (hdd : d' + 1 ≤ d) (hAA : ∀ q, A' q → A q) (hb : (ah_len h x0 6).isSome = true) (hx : h'.2.2 a = some (90, [])) : ah_Ev mt_A_box d A [.ref x0, .int y1, .long y2, .int y4, .int y5, .long y6, .ref xo] h (.returned (some (.int 1))) h' := by
  refine ah_Ev.of (by decide +kernel) (Nat.le_of_ble_eq_true rfl) ?_
  show ah_At mt_A_box d A h (.returned (some (.int 1))) h' 0 [(0, .ref x0), (1, .int y1), (2, .long y2), (4, .int y4), (5, .int y5), (6, .long y6), (8, .ref xo)] [] h
  refine b_A_box_0 hE hdd hAA ?_ hb
  show ah_thr mt_A_box d A h (.returned (some (.int 1))) h' 12 [] h' a
  exact ah_thr_catch (hp := 20) (E := "java/lang/IllegalArgumentException") rfl hx (Or.inl ⟨⟨by decide, by decide⟩, by decide, rfl, "java/lang/IllegalArgumentException", ah_in (by decide +kernel) rfl, ah_in (by decide +kernel) rfl⟩) b_A_box_20
theorem a_box_t2 {d d' : Nat} {A A' : Nat → Prop} {h h' : ah_H} {x0 xo : Nat} {y1 : Int32} {y2 : Int64} {y4 : Int32} {y5 : Int32} {y6 : Int64} {a : Nat} (hE : ah_Ev mt_X_box d' A' [.ref x0, .int y1, .long y2, .int y4, .int y5, .long y6] h (.threw a) h') (hdd : d' + 1 ≤ d) (hAA : ∀ q, A' q → A q) (hb : (ah_len h x0 6).isSome = true) (hx : h'.2.2 a = some (91, [])) : ah_Ev mt_A_box d A [.ref x0, .int y1, .long y2, .int y4, .int y5, .long y6, .ref xo] h (.returned (some (.int 2))) h' := by
  refine ah_Ev.of (by decide +kernel) (Nat.le_of_ble_eq_true rfl) ?_
  show ah_At mt_A_box d A h (.returned (some (.int 2))) h' 0 [(0, .ref x0), (1, .int y1), (2, .long y2), (4, .int y4), (5, .int y5), (6, .long y6), (8, .ref xo)] [] h
  refine b_A_box_0 hE hdd hAA ?_ hb
  show ah_thr mt_A_box d A h (.returned (some (.int 2))) h' 12 [] h' a
  exact ah_thr_catch (hp := 24) (E := "java/lang/IllegalStateException") rfl hx (Or.inr ⟨⟨by decide, by decide⟩, by decide, ⟨"java/lang/IllegalArgumentException", ah_in (by decide +kernel) rfl, ah_inx (by decide +kernel) rfl⟩, Or.inl ⟨⟨by decide, by decide⟩, by decide, rfl, "java/lang/IllegalStateException", ah_in (by decide +kernel) rfl, ah_in (by decide +kernel) rfl⟩⟩) b_A_box_24
theorem l_box_t1 {d : Nat} {A : Nat → Prop} {g : ah_H} {b m x0 x3 : Nat} {sc : List Value} {x4 : Int32} {f : Nat → Int32} {D E : rg_D} (G : LG g b m x0 x3 sc) (rd : Rd sc x4 f) (hd : 60 ≤ d) (hA : ∀ q, b ≤ q → A q) (hX : ah_Ev mt_X_box (d - 2) (fun _ => False) [.ref b, .int (f 1), .long (lw (f 2) (f 3)), .int (f 4), .int (f 5), .long (lw (f 6) (f 7))] (rg LTc (rg LTm g m E) b D) (.threw (rg LTm g m E).1) (ah_newx (rg LTc (rg LTm g m E) b D) 90)) {v' : Int32} (hM : ah_Ev mt_M_box (d - 1) A [.ref m, .int (f 1), .long (lw (f 2) (f 3)), .int (f 4), .int (f 5), .long (lw (f 6) (f 7))] (rg LTm (rg LTc (ah_newx g 90) b D) m E) (.returned (some (.int v'))) (rg LTm (rg LTc (ah_newx g 90) b D) m (up E 32 0 1))) (hE : ∀ f j, E f j < 2 ^ 30) {h0 h2 : ah_H} {o : Outcome} (kk : ah_At mt_A_law d A h0 o h2 1062 [(0, .ref x0), (1, .ref b), (2, .ref m), (3, .ref x3), (4, .int x4)] [] (HH (ah_newx g 90) b m D (up E 32 0 1))) : ah_At mt_A_law d A h0 o h2 304 [(0, .ref x0), (1, .ref b), (2, .ref m), (3, .ref x3), (4, .int x4)] [] (HH g b m D E) := by
  obtain ⟨j1, i1, s1⟩ := rd.r1
  obtain ⟨j2, i2, s2⟩ := rd.r2
  obtain ⟨j3, i3, s3⟩ := rd.r3
  obtain ⟨j4, i4, s4⟩ := rd.r4
  obtain ⟨j5, i5, s5⟩ := rd.r5
  obtain ⟨j6, i6, s6⟩ := rd.r6
  obtain ⟨j7, i7, s7⟩ := rd.r7
  have hC := a_box_t1 (d := d - 1) (A := A) (xo := x3) (evT G hX) (by omega) (fun q h => h.elim) (HH_6 G.bm) (HH_x G)
  refine b_A_law_304 i1 (HH_rd G s1) i2 (HH_rd G s2) i3 (HH_rd G s3) i4 (HH_rd G s4) i5 (HH_rd G s5) i6 (HH_rd G s6) i7 (HH_rd G s7) hC (by omega) (fun q hq => hq) ?_
  refine aft_1 ?_
  refine b_A_law_373 i1 (HH_rd G.newx s1) i2 (HH_rd G.newx s2) i3 (HH_rd G.newx s3) i4 (HH_rd G.newx s4) i5 (HH_rd G.newx s5) i6 (HH_rd G.newx s6) i7 (HH_rd G.newx s7) hM (by omega) (fun q hq => hq) ?_ HH_7
  refine aft_1 ?_
  refine b_A_law_443 (c_thrown (d := d - 1) (A := A) (up_O hE (by decide))) (by omega) (fun q hq => hq) ?_ HH_7
  refine aft_1 ?_
  refine b_A_law_449 (fun _ => ?_) (fun z => absurd (by rw [up_s]; decide) z)
  refine b_A_law_456 (fun _ => ?_) (fun z => absurd (by decide) z)
  exact b_A_law_473 kk
theorem l_box_t2 {d : Nat} {A : Nat → Prop} {g : ah_H} {b m x0 x3 : Nat} {sc : List Value} {x4 : Int32} {f : Nat → Int32} {D E : rg_D} (G : LG g b m x0 x3 sc) (rd : Rd sc x4 f) (hd : 60 ≤ d) (hA : ∀ q, b ≤ q → A q) (hX : ah_Ev mt_X_box (d - 2) (fun _ => False) [.ref b, .int (f 1), .long (lw (f 2) (f 3)), .int (f 4), .int (f 5), .long (lw (f 6) (f 7))] (rg LTc (rg LTm g m E) b D) (.threw (rg LTm g m E).1) (ah_newx (rg LTc (rg LTm g m E) b D) 91)) {v' : Int32} (hM : ah_Ev mt_M_box (d - 1) A [.ref m, .int (f 1), .long (lw (f 2) (f 3)), .int (f 4), .int (f 5), .long (lw (f 6) (f 7))] (rg LTm (rg LTc (ah_newx g 91) b D) m E) (.returned (some (.int v'))) (rg LTm (rg LTc (ah_newx g 91) b D) m (up E 32 0 2))) (hE : ∀ f j, E f j < 2 ^ 30) {h0 h2 : ah_H} {o : Outcome} (kk : ah_At mt_A_law d A h0 o h2 1062 [(0, .ref x0), (1, .ref b), (2, .ref m), (3, .ref x3), (4, .int x4)] [] (HH (ah_newx g 91) b m D (up E 32 0 2))) : ah_At mt_A_law d A h0 o h2 304 [(0, .ref x0), (1, .ref b), (2, .ref m), (3, .ref x3), (4, .int x4)] [] (HH g b m D E) := by
  obtain ⟨j1, i1, s1⟩ := rd.r1
  obtain ⟨j2, i2, s2⟩ := rd.r2
  obtain ⟨j3, i3, s3⟩ := rd.r3
  obtain ⟨j4, i4, s4⟩ := rd.r4
  obtain ⟨j5, i5, s5⟩ := rd.r5
  obtain ⟨j6, i6, s6⟩ := rd.r6
  obtain ⟨j7, i7, s7⟩ := rd.r7
  have hC := a_box_t2 (d := d - 1) (A := A) (xo := x3) (evT G hX) (by omega) (fun q h => h.elim) (HH_6 G.bm) (HH_x G)
  refine b_A_law_304 i1 (HH_rd G s1) i2 (HH_rd G s2) i3 (HH_rd G s3) i4 (HH_rd G s4) i5 (HH_rd G s5) i6 (HH_rd G s6) i7 (HH_rd G s7) hC (by omega) (fun q hq => hq) ?_
  refine aft_1 ?_
  refine b_A_law_373 i1 (HH_rd G.newx s1) i2 (HH_rd G.newx s2) i3 (HH_rd G.newx s3) i4 (HH_rd G.newx s4) i5 (HH_rd G.newx s5) i6 (HH_rd G.newx s6) i7 (HH_rd G.newx s7) hM (by omega) (fun q hq => hq) ?_ HH_7
  refine aft_1 ?_
  refine b_A_law_443 (c_thrown (d := d - 1) (A := A) (up_O hE (by decide))) (by omega) (fun q hq => hq) ?_ HH_7
  refine aft_1 ?_
  refine b_A_law_449 (fun _ => ?_) (fun z => absurd (by rw [up_s]; decide) z)
  refine b_A_law_456 (fun _ => ?_) (fun z => absurd (by decide) z)
  exact b_A_law_473 kk
theorem l_box_r {d : Nat} {A : Nat → Prop} {g : ah_H} {b m x0 x3 : Nat} {sc : List Value} {x4 : Int32} {f : Nat → Int32} {D D' E E' : rg_D} (G : LG g b m x0 x3 sc) (rd : Rd sc x4 f) (hd : 60 ≤ d) (hA : ∀ q, b ≤ q → A q) {v : Int32} (hX : ah_Ev mt_X_box (d - 2) A [.ref b, .int (f 1), .long (lw (f 2) (f 3)), .int (f 4), .int (f 5), .long (lw (f 6) (f 7))] (rg LTc (rg LTm g m E) b D) (.returned (some (.int v))) (rg LTc (rg LTm g m E) b D')) {v' : Int32} (hM : ah_Ev mt_M_box (d - 1) A [.ref m, .int (f 1), .long (lw (f 2) (f 3)), .int (f 4), .int (f 5), .long (lw (f 6) (f 7))] (rg LTm (rg LTc (ah_sto g x3 0 (.long (Int32.toInt64 v))) b D') m E) (.returned (some (.int v'))) (rg LTm (rg LTc (ah_sto g x3 0 (.long (Int32.toInt64 v))) b D') m E')) (hv : v = v') (hT : E' 32 0 = 0) (hE : ∀ f j, E' f j < 2 ^ 30) {h0 h2 : ah_H} {o : Outcome} (kk : ah_At mt_A_law d A h0 o h2 1062 [(0, .ref x0), (1, .ref b), (2, .ref m), (3, .ref x3), (4, .int x4)] [] (HH (ah_sto g x3 0 (.long (Int32.toInt64 v))) b m D' E')) : ah_At mt_A_law d A h0 o h2 304 [(0, .ref x0), (1, .ref b), (2, .ref m), (3, .ref x3), (4, .int x4)] [] (HH g b m D E) := by
  subst hv
  obtain ⟨j1, i1, s1⟩ := rd.r1
  obtain ⟨j2, i2, s2⟩ := rd.r2
  obtain ⟨j3, i3, s3⟩ := rd.r3
  obtain ⟨j4, i4, s4⟩ := rd.r4
  obtain ⟨j5, i5, s5⟩ := rd.r5
  obtain ⟨j6, i6, s6⟩ := rd.r6
  obtain ⟨j7, i7, s7⟩ := rd.r7
  have hC := a_box_r (d := d - 1) (A := A) (xo := x3) (evC G.bm hX) (by omega) (fun q h => h) (HH_6 G.bm) (hA _ (by have h1 := G.bm; have h2 := G.mo; omega)) (HH_o G)
  rw [HH_sto G] at hC
  refine b_A_law_304 i1 (HH_rd G s1) i2 (HH_rd G s2) i3 (HH_rd G s3) i4 (HH_rd G s4) i5 (HH_rd G s5) i6 (HH_rd G s6) i7 (HH_rd G s7) hC (by omega) (fun q hq => hq) ?_
  refine aft_1 ?_
  refine b_A_law_373 i1 (HH_rd G.sto s1) i2 (HH_rd G.sto s2) i3 (HH_rd G.sto s3) i4 (HH_rd G.sto s4) i5 (HH_rd G.sto s5) i6 (HH_rd G.sto s6) i7 (HH_rd G.sto s7) hM (by omega) (fun q hq => hq) ?_ HH_7
  refine aft_1 ?_
  refine b_A_law_443 (c_thrown (d := d - 1) (A := A) hE) (by omega) (fun q hq => hq) ?_ HH_7
  refine aft_1 ?_
  refine b_A_law_449 (fun _ => ?_) (fun z => absurd (by rw [hT]; decide) z)
  refine b_A_law_456 (fun z => absurd rfl z) (fun _ => ?_)
  exact b_A_law_461 (j1 := 0) ⟨by decide, by decide⟩ (HH_ov G) (fun _ => b_A_law_473 kk) (fun y => absurd ((cLeq rfl rfl).mpr rfl) y)
theorem a_at_r {d d' : Nat} {A A' : Nat → Prop} {h h' : ah_H} {x0 xo : Nat} {y1 : Int32} {y2 : Int32} {v : Int32} (hE : ah_Ev mt_X_at d' A' [.ref x0, .int y1, .int y2] h (.returned (some (.int v))) h') (hdd : d' + 1 ≤ d) (hAA : ∀ q, A' q → A q) (hb : (ah_len h x0 6).isSome = true) (hw : A xo) (hs : (ah_sel h' xo 101 0).isSome = true) : ah_Ev mt_A_at d A [.ref x0, .int y1, .int y2, .ref xo] h (.returned (some (.int 0))) (ah_sto h' xo 0 (.long (Int32.toInt64 v))) := by
  refine ah_Ev.of (by decide +kernel) (Nat.le_of_ble_eq_true rfl) ?_
  show ah_At mt_A_at d A h (.returned (some (.int 0))) (ah_sto h' xo 0 (.long (Int32.toInt64 v))) 0 [(0, .ref x0), (1, .int y1), (2, .int y2), (3, .ref xo)] [] h
  refine b_A_at_0 hE hdd hAA ?_ hb
  refine aft_1 ?_
  refine b_A_at_8 hw ⟨by decide, by decide⟩ hs ?_
  exact b_A_at_21
theorem a_at_t1 {d d' : Nat} {A A' : Nat → Prop} {h h' : ah_H} {x0 xo : Nat} {y1 : Int32} {y2 : Int32} {a : Nat} (hE : ah_Ev mt_X_at d' A' [.ref x0, .int y1, .int y2] h (.threw a) h') (hdd : d' + 1 ≤ d) (hAA : ∀ q, A' q → A q) (hb : (ah_len h x0 6).isSome = true) (hx : h'.2.2 a = some (92, [])) : ah_Ev mt_A_at d A [.ref x0, .int y1, .int y2, .ref xo] h (.returned (some (.int 1))) h' := by
  refine ah_Ev.of (by decide +kernel) (Nat.le_of_ble_eq_true rfl) ?_
  show ah_At mt_A_at d A h (.returned (some (.int 1))) h' 0 [(0, .ref x0), (1, .int y1), (2, .int y2), (3, .ref xo)] [] h
  refine b_A_at_0 hE hdd hAA ?_ hb
  show ah_thr mt_A_at d A h (.returned (some (.int 1))) h' 5 [] h' a
  exact ah_thr_catch (hp := 13) (E := "java/lang/IndexOutOfBoundsException") rfl hx (Or.inl ⟨⟨by decide, by decide⟩, by decide, rfl, "java/lang/IndexOutOfBoundsException", ah_in (by decide +kernel) rfl, ah_in (by decide +kernel) rfl⟩) b_A_at_13
theorem a_at_t2 {d d' : Nat} {A A' : Nat → Prop} {h h' : ah_H} {x0 xo : Nat} {y1 : Int32} {y2 : Int32} {a : Nat} (hE : ah_Ev mt_X_at d' A' [.ref x0, .int y1, .int y2] h (.threw a) h') (hdd : d' + 1 ≤ d) (hAA : ∀ q, A' q → A q) (hb : (ah_len h x0 6).isSome = true) (hx : h'.2.2 a = some (93, [])) : ah_Ev mt_A_at d A [.ref x0, .int y1, .int y2, .ref xo] h (.returned (some (.int 2))) h' := by
  refine ah_Ev.of (by decide +kernel) (Nat.le_of_ble_eq_true rfl) ?_
  show ah_At mt_A_at d A h (.returned (some (.int 2))) h' 0 [(0, .ref x0), (1, .int y1), (2, .int y2), (3, .ref xo)] [] h
  refine b_A_at_0 hE hdd hAA ?_ hb
  show ah_thr mt_A_at d A h (.returned (some (.int 2))) h' 5 [] h' a
  exact ah_thr_catch (hp := 17) (E := "java/util/NoSuchElementException") rfl hx (Or.inr ⟨⟨by decide, by decide⟩, by decide, ⟨"java/lang/IndexOutOfBoundsException", ah_in (by decide +kernel) rfl, ah_inx (by decide +kernel) rfl⟩, Or.inl ⟨⟨by decide, by decide⟩, by decide, rfl, "java/util/NoSuchElementException", ah_in (by decide +kernel) rfl, ah_in (by decide +kernel) rfl⟩⟩) b_A_at_17
theorem l_at_t1 {d : Nat} {A : Nat → Prop} {g : ah_H} {b m x0 x3 : Nat} {sc : List Value} {x4 : Int32} {f : Nat → Int32} {D E : rg_D} (G : LG g b m x0 x3 sc) (rd : Rd sc x4 f) (hd : 60 ≤ d) (hA : ∀ q, b ≤ q → A q) (hX : ah_Ev mt_X_at (d - 2) (fun _ => False) [.ref b, .int (f 1), .int (f 2)] (rg LTc (rg LTm g m E) b D) (.threw (rg LTm g m E).1) (ah_newx (rg LTc (rg LTm g m E) b D) 92)) {v' : Int32} (hM : ah_Ev mt_M_at (d - 1) A [.ref m, .int (f 1), .int (f 2)] (rg LTm (rg LTc (ah_newx g 92) b D) m E) (.returned (some (.int v'))) (rg LTm (rg LTc (ah_newx g 92) b D) m (up E 32 0 1))) (hE : ∀ f j, E f j < 2 ^ 30) {h0 h2 : ah_H} {o : Outcome} (kk : ah_At mt_A_law d A h0 o h2 1062 [(0, .ref x0), (1, .ref b), (2, .ref m), (3, .ref x3), (4, .int x4)] [] (HH (ah_newx g 92) b m D (up E 32 0 1))) : ah_At mt_A_law d A h0 o h2 648 [(0, .ref x0), (1, .ref b), (2, .ref m), (3, .ref x3), (4, .int x4)] [] (HH g b m D E) := by
  obtain ⟨j1, i1, s1⟩ := rd.r1
  obtain ⟨j2, i2, s2⟩ := rd.r2
  have hC := a_at_t1 (d := d - 1) (A := A) (xo := x3) (evT G hX) (by omega) (fun q h => h.elim) (HH_6 G.bm) (HH_x G)
  refine b_A_law_648 i1 (HH_rd G s1) i2 (HH_rd G s2) hC (by omega) (fun q hq => hq) ?_
  refine aft_1 ?_
  refine b_A_law_665 i1 (HH_rd G.newx s1) i2 (HH_rd G.newx s2) hM (by omega) (fun q hq => hq) ?_ HH_7
  refine aft_1 ?_
  refine b_A_law_683 (c_thrown (d := d - 1) (A := A) (up_O hE (by decide))) (by omega) (fun q hq => hq) ?_ HH_7
  refine aft_1 ?_
  refine b_A_law_689 (fun _ => ?_) (fun z => absurd (by rw [up_s]; decide) z)
  refine b_A_law_696 (fun _ => ?_) (fun z => absurd (by decide) z)
  exact b_A_law_713 kk
theorem l_at_t2 {d : Nat} {A : Nat → Prop} {g : ah_H} {b m x0 x3 : Nat} {sc : List Value} {x4 : Int32} {f : Nat → Int32} {D E : rg_D} (G : LG g b m x0 x3 sc) (rd : Rd sc x4 f) (hd : 60 ≤ d) (hA : ∀ q, b ≤ q → A q) (hX : ah_Ev mt_X_at (d - 2) (fun _ => False) [.ref b, .int (f 1), .int (f 2)] (rg LTc (rg LTm g m E) b D) (.threw (rg LTm g m E).1) (ah_newx (rg LTc (rg LTm g m E) b D) 93)) {v' : Int32} (hM : ah_Ev mt_M_at (d - 1) A [.ref m, .int (f 1), .int (f 2)] (rg LTm (rg LTc (ah_newx g 93) b D) m E) (.returned (some (.int v'))) (rg LTm (rg LTc (ah_newx g 93) b D) m (up E 32 0 2))) (hE : ∀ f j, E f j < 2 ^ 30) {h0 h2 : ah_H} {o : Outcome} (kk : ah_At mt_A_law d A h0 o h2 1062 [(0, .ref x0), (1, .ref b), (2, .ref m), (3, .ref x3), (4, .int x4)] [] (HH (ah_newx g 93) b m D (up E 32 0 2))) : ah_At mt_A_law d A h0 o h2 648 [(0, .ref x0), (1, .ref b), (2, .ref m), (3, .ref x3), (4, .int x4)] [] (HH g b m D E) := by
  obtain ⟨j1, i1, s1⟩ := rd.r1
  obtain ⟨j2, i2, s2⟩ := rd.r2
  have hC := a_at_t2 (d := d - 1) (A := A) (xo := x3) (evT G hX) (by omega) (fun q h => h.elim) (HH_6 G.bm) (HH_x G)
  refine b_A_law_648 i1 (HH_rd G s1) i2 (HH_rd G s2) hC (by omega) (fun q hq => hq) ?_
  refine aft_1 ?_
  refine b_A_law_665 i1 (HH_rd G.newx s1) i2 (HH_rd G.newx s2) hM (by omega) (fun q hq => hq) ?_ HH_7
  refine aft_1 ?_
  refine b_A_law_683 (c_thrown (d := d - 1) (A := A) (up_O hE (by decide))) (by omega) (fun q hq => hq) ?_ HH_7
  refine aft_1 ?_
  refine b_A_law_689 (fun _ => ?_) (fun z => absurd (by rw [up_s]; decide) z)
  refine b_A_law_696 (fun _ => ?_) (fun z => absurd (by decide) z)
  exact b_A_law_713 kk
theorem l_at_r {d : Nat} {A : Nat → Prop} {g : ah_H} {b m x0 x3 : Nat} {sc : List Value} {x4 : Int32} {f : Nat → Int32} {D D' E E' : rg_D} (G : LG g b m x0 x3 sc) (rd : Rd sc x4 f) (hd : 60 ≤ d) (hA : ∀ q, b ≤ q → A q) {v : Int32} (hX : ah_Ev mt_X_at (d - 2) A [.ref b, .int (f 1), .int (f 2)] (rg LTc (rg LTm g m E) b D) (.returned (some (.int v))) (rg LTc (rg LTm g m E) b D')) {v' : Int32} (hM : ah_Ev mt_M_at (d - 1) A [.ref m, .int (f 1), .int (f 2)] (rg LTm (rg LTc (ah_sto g x3 0 (.long (Int32.toInt64 v))) b D') m E) (.returned (some (.int v'))) (rg LTm (rg LTc (ah_sto g x3 0 (.long (Int32.toInt64 v))) b D') m E')) (hv : v = v') (hT : E' 32 0 = 0) (hE : ∀ f j, E' f j < 2 ^ 30) {h0 h2 : ah_H} {o : Outcome} (kk : ah_At mt_A_law d A h0 o h2 1062 [(0, .ref x0), (1, .ref b), (2, .ref m), (3, .ref x3), (4, .int x4)] [] (HH (ah_sto g x3 0 (.long (Int32.toInt64 v))) b m D' E')) : ah_At mt_A_law d A h0 o h2 648 [(0, .ref x0), (1, .ref b), (2, .ref m), (3, .ref x3), (4, .int x4)] [] (HH g b m D E) := by
  subst hv
  obtain ⟨j1, i1, s1⟩ := rd.r1
  obtain ⟨j2, i2, s2⟩ := rd.r2
  have hC := a_at_r (d := d - 1) (A := A) (xo := x3) (evC G.bm hX) (by omega) (fun q h => h) (HH_6 G.bm) (hA _ (by have h1 := G.bm; have h2 := G.mo; omega)) (HH_o G)
  rw [HH_sto G] at hC
  refine b_A_law_648 i1 (HH_rd G s1) i2 (HH_rd G s2) hC (by omega) (fun q hq => hq) ?_
  refine aft_1 ?_
  refine b_A_law_665 i1 (HH_rd G.sto s1) i2 (HH_rd G.sto s2) hM (by omega) (fun q hq => hq) ?_ HH_7
  refine aft_1 ?_
  refine b_A_law_683 (c_thrown (d := d - 1) (A := A) hE) (by omega) (fun q hq => hq) ?_ HH_7
  refine aft_1 ?_
  refine b_A_law_689 (fun _ => ?_) (fun z => absurd (by rw [hT]; decide) z)
  refine b_A_law_696 (fun z => absurd rfl z) (fun _ => ?_)
  exact b_A_law_701 (j1 := 0) ⟨by decide, by decide⟩ (HH_ov G) (fun _ => b_A_law_713 kk) (fun y => absurd ((cLeq rfl rfl).mpr rfl) y)
theorem a_load_r {d d' : Nat} {A A' : Nat → Prop} {h h' : ah_H} {x0 xo : Nat} {y1 : Int32} {y2 : Int32} {v : Int64} (hE : ah_Ev mt_X_load d' A' [.ref x0, .int y1, .int y2] h (.returned (some (.long v))) h') (hdd : d' + 1 ≤ d) (hAA : ∀ q, A' q → A q) (hb : (ah_len h x0 6).isSome = true) (hw : A xo) (hs : (ah_sel h' xo 101 0).isSome = true) : ah_Ev mt_A_load d A [.ref x0, .int y1, .int y2, .ref xo] h (.returned (some (.int 0))) (ah_sto h' xo 0 (.long v)) := by
  refine ah_Ev.of (by decide +kernel) (Nat.le_of_ble_eq_true rfl) ?_
  show ah_At mt_A_load d A h (.returned (some (.int 0))) (ah_sto h' xo 0 (.long v)) 0 [(0, .ref x0), (1, .int y1), (2, .int y2), (3, .ref xo)] [] h
  refine b_A_load_0 hE hdd hAA ?_ hb
  refine aft_1 ?_
  refine b_A_load_8 hw ⟨by decide, by decide⟩ hs ?_
  exact b_A_load_20
theorem a_load_t1 {d d' : Nat} {A A' : Nat → Prop} {h h' : ah_H} {x0 xo : Nat} {y1 : Int32} {y2 : Int32} {a : Nat} (hE : ah_Ev mt_X_load d' A' [.ref x0, .int y1, .int y2] h (.threw a) h') (hdd : d' + 1 ≤ d) (hAA : ∀ q, A' q → A q) (hb : (ah_len h x0 6).isSome = true) (hx : h'.2.2 a = some (92, [])) : ah_Ev mt_A_load d A [.ref x0, .int y1, .int y2, .ref xo] h (.returned (some (.int 1))) h' := by
  refine ah_Ev.of (by decide +kernel) (Nat.le_of_ble_eq_true rfl) ?_
  show ah_At mt_A_load d A h (.returned (some (.int 1))) h' 0 [(0, .ref x0), (1, .int y1), (2, .int y2), (3, .ref xo)] [] h
  refine b_A_load_0 hE hdd hAA ?_ hb
  show ah_thr mt_A_load d A h (.returned (some (.int 1))) h' 5 [] h' a
  exact ah_thr_catch (hp := 12) (E := "java/lang/IndexOutOfBoundsException") rfl hx (Or.inl ⟨⟨by decide, by decide⟩, by decide, rfl, "java/lang/IndexOutOfBoundsException", ah_in (by decide +kernel) rfl, ah_in (by decide +kernel) rfl⟩) b_A_load_12
theorem a_load_t2 {d d' : Nat} {A A' : Nat → Prop} {h h' : ah_H} {x0 xo : Nat} {y1 : Int32} {y2 : Int32} {a : Nat} (hE : ah_Ev mt_X_load d' A' [.ref x0, .int y1, .int y2] h (.threw a) h') (hdd : d' + 1 ≤ d) (hAA : ∀ q, A' q → A q) (hb : (ah_len h x0 6).isSome = true) (hx : h'.2.2 a = some (93, [])) : ah_Ev mt_A_load d A [.ref x0, .int y1, .int y2, .ref xo] h (.returned (some (.int 2))) h' := by
  refine ah_Ev.of (by decide +kernel) (Nat.le_of_ble_eq_true rfl) ?_
  show ah_At mt_A_load d A h (.returned (some (.int 2))) h' 0 [(0, .ref x0), (1, .int y1), (2, .int y2), (3, .ref xo)] [] h
  refine b_A_load_0 hE hdd hAA ?_ hb
  show ah_thr mt_A_load d A h (.returned (some (.int 2))) h' 5 [] h' a
  exact ah_thr_catch (hp := 16) (E := "java/util/NoSuchElementException") rfl hx (Or.inr ⟨⟨by decide, by decide⟩, by decide, ⟨"java/lang/IndexOutOfBoundsException", ah_in (by decide +kernel) rfl, ah_inx (by decide +kernel) rfl⟩, Or.inl ⟨⟨by decide, by decide⟩, by decide, rfl, "java/util/NoSuchElementException", ah_in (by decide +kernel) rfl, ah_in (by decide +kernel) rfl⟩⟩) b_A_load_16
theorem l_load_t1 {d : Nat} {A : Nat → Prop} {g : ah_H} {b m x0 x3 : Nat} {sc : List Value} {x4 : Int32} {f : Nat → Int32} {D E : rg_D} (G : LG g b m x0 x3 sc) (rd : Rd sc x4 f) (hd : 60 ≤ d) (hA : ∀ q, b ≤ q → A q) (hX : ah_Ev mt_X_load (d - 2) (fun _ => False) [.ref b, .int (f 1), .int (f 2)] (rg LTc (rg LTm g m E) b D) (.threw (rg LTm g m E).1) (ah_newx (rg LTc (rg LTm g m E) b D) 92)) {v' : Int64} (hM : ah_Ev mt_M_load (d - 1) A [.ref m, .int (f 1), .int (f 2)] (rg LTm (rg LTc (ah_newx g 92) b D) m E) (.returned (some (.long v'))) (rg LTm (rg LTc (ah_newx g 92) b D) m (up E 32 0 1))) (hE : ∀ f j, E f j < 2 ^ 30) {h0 h2 : ah_H} {o : Outcome} (kk : ah_At mt_A_law d A h0 o h2 1062 [(0, .ref x0), (1, .ref b), (2, .ref m), (3, .ref x3), (4, .int x4)] [] (HH (ah_newx g 92) b m D (up E 32 0 1))) : ah_At mt_A_law d A h0 o h2 716 [(0, .ref x0), (1, .ref b), (2, .ref m), (3, .ref x3), (4, .int x4)] [] (HH g b m D E) := by
  obtain ⟨j1, i1, s1⟩ := rd.r1
  obtain ⟨j2, i2, s2⟩ := rd.r2
  have hC := a_load_t1 (d := d - 1) (A := A) (xo := x3) (evT G hX) (by omega) (fun q h => h.elim) (HH_6 G.bm) (HH_x G)
  refine b_A_law_716 i1 (HH_rd G s1) i2 (HH_rd G s2) hC (by omega) (fun q hq => hq) ?_
  refine aft_1 ?_
  refine b_A_law_733 i1 (HH_rd G.newx s1) i2 (HH_rd G.newx s2) hM (by omega) (fun q hq => hq) ?_ HH_7
  refine aft_1 ?_
  refine b_A_law_751 (c_thrown (d := d - 1) (A := A) (up_O hE (by decide))) (by omega) (fun q hq => hq) ?_ HH_7
  refine aft_1 ?_
  refine b_A_law_757 (fun _ => ?_) (fun z => absurd (by rw [up_s]; decide) z)
  refine b_A_law_764 (fun _ => ?_) (fun z => absurd (by decide) z)
  exact b_A_law_780 kk
theorem l_load_t2 {d : Nat} {A : Nat → Prop} {g : ah_H} {b m x0 x3 : Nat} {sc : List Value} {x4 : Int32} {f : Nat → Int32} {D E : rg_D} (G : LG g b m x0 x3 sc) (rd : Rd sc x4 f) (hd : 60 ≤ d) (hA : ∀ q, b ≤ q → A q) (hX : ah_Ev mt_X_load (d - 2) (fun _ => False) [.ref b, .int (f 1), .int (f 2)] (rg LTc (rg LTm g m E) b D) (.threw (rg LTm g m E).1) (ah_newx (rg LTc (rg LTm g m E) b D) 93)) {v' : Int64} (hM : ah_Ev mt_M_load (d - 1) A [.ref m, .int (f 1), .int (f 2)] (rg LTm (rg LTc (ah_newx g 93) b D) m E) (.returned (some (.long v'))) (rg LTm (rg LTc (ah_newx g 93) b D) m (up E 32 0 2))) (hE : ∀ f j, E f j < 2 ^ 30) {h0 h2 : ah_H} {o : Outcome} (kk : ah_At mt_A_law d A h0 o h2 1062 [(0, .ref x0), (1, .ref b), (2, .ref m), (3, .ref x3), (4, .int x4)] [] (HH (ah_newx g 93) b m D (up E 32 0 2))) : ah_At mt_A_law d A h0 o h2 716 [(0, .ref x0), (1, .ref b), (2, .ref m), (3, .ref x3), (4, .int x4)] [] (HH g b m D E) := by
  obtain ⟨j1, i1, s1⟩ := rd.r1
  obtain ⟨j2, i2, s2⟩ := rd.r2
  have hC := a_load_t2 (d := d - 1) (A := A) (xo := x3) (evT G hX) (by omega) (fun q h => h.elim) (HH_6 G.bm) (HH_x G)
  refine b_A_law_716 i1 (HH_rd G s1) i2 (HH_rd G s2) hC (by omega) (fun q hq => hq) ?_
  refine aft_1 ?_
  refine b_A_law_733 i1 (HH_rd G.newx s1) i2 (HH_rd G.newx s2) hM (by omega) (fun q hq => hq) ?_ HH_7
  refine aft_1 ?_
  refine b_A_law_751 (c_thrown (d := d - 1) (A := A) (up_O hE (by decide))) (by omega) (fun q hq => hq) ?_ HH_7
  refine aft_1 ?_
  refine b_A_law_757 (fun _ => ?_) (fun z => absurd (by rw [up_s]; decide) z)
  refine b_A_law_764 (fun _ => ?_) (fun z => absurd (by decide) z)
  exact b_A_law_780 kk
theorem l_load_r {d : Nat} {A : Nat → Prop} {g : ah_H} {b m x0 x3 : Nat} {sc : List Value} {x4 : Int32} {f : Nat → Int32} {D D' E E' : rg_D} (G : LG g b m x0 x3 sc) (rd : Rd sc x4 f) (hd : 60 ≤ d) (hA : ∀ q, b ≤ q → A q) {v : Int64} (hX : ah_Ev mt_X_load (d - 2) A [.ref b, .int (f 1), .int (f 2)] (rg LTc (rg LTm g m E) b D) (.returned (some (.long v))) (rg LTc (rg LTm g m E) b D')) {v' : Int64} (hM : ah_Ev mt_M_load (d - 1) A [.ref m, .int (f 1), .int (f 2)] (rg LTm (rg LTc (ah_sto g x3 0 (.long v)) b D') m E) (.returned (some (.long v'))) (rg LTm (rg LTc (ah_sto g x3 0 (.long v)) b D') m E')) (hv : v = v') (hT : E' 32 0 = 0) (hE : ∀ f j, E' f j < 2 ^ 30) {h0 h2 : ah_H} {o : Outcome} (kk : ah_At mt_A_law d A h0 o h2 1062 [(0, .ref x0), (1, .ref b), (2, .ref m), (3, .ref x3), (4, .int x4)] [] (HH (ah_sto g x3 0 (.long v)) b m D' E')) : ah_At mt_A_law d A h0 o h2 716 [(0, .ref x0), (1, .ref b), (2, .ref m), (3, .ref x3), (4, .int x4)] [] (HH g b m D E) := by
  subst hv
  obtain ⟨j1, i1, s1⟩ := rd.r1
  obtain ⟨j2, i2, s2⟩ := rd.r2
  have hC := a_load_r (d := d - 1) (A := A) (xo := x3) (evC G.bm hX) (by omega) (fun q h => h) (HH_6 G.bm) (hA _ (by have h1 := G.bm; have h2 := G.mo; omega)) (HH_o G)
  rw [HH_sto G] at hC
  refine b_A_law_716 i1 (HH_rd G s1) i2 (HH_rd G s2) hC (by omega) (fun q hq => hq) ?_
  refine aft_1 ?_
  refine b_A_law_733 i1 (HH_rd G.sto s1) i2 (HH_rd G.sto s2) hM (by omega) (fun q hq => hq) ?_ HH_7
  refine aft_1 ?_
  refine b_A_law_751 (c_thrown (d := d - 1) (A := A) hE) (by omega) (fun q hq => hq) ?_ HH_7
  refine aft_1 ?_
  refine b_A_law_757 (fun _ => ?_) (fun z => absurd (by rw [hT]; decide) z)
  refine b_A_law_764 (fun z => absurd rfl z) (fun _ => ?_)
  exact b_A_law_769 (j1 := 0) ⟨by decide, by decide⟩ (HH_ov G) (fun _ => b_A_law_780 kk) (fun y => absurd ((cLeq rfl rfl).mpr rfl) y)
theorem a_axle_r {d d' : Nat} {A A' : Nat → Prop} {h h' : ah_H} {x0 xo : Nat} {y1 : Int32} {y2 : Int32} {v : Int64} (hE : ah_Ev mt_X_axle d' A' [.ref x0, .int y1, .int y2] h (.returned (some (.long v))) h') (hdd : d' + 1 ≤ d) (hAA : ∀ q, A' q → A q) (hb : (ah_len h x0 6).isSome = true) (hw : A xo) (hs : (ah_sel h' xo 101 0).isSome = true) : ah_Ev mt_A_axle d A [.ref x0, .int y1, .int y2, .ref xo] h (.returned (some (.int 0))) (ah_sto h' xo 0 (.long v)) := by
  refine ah_Ev.of (by decide +kernel) (Nat.le_of_ble_eq_true rfl) ?_
  show ah_At mt_A_axle d A h (.returned (some (.int 0))) (ah_sto h' xo 0 (.long v)) 0 [(0, .ref x0), (1, .int y1), (2, .int y2), (3, .ref xo)] [] h
  refine b_A_axle_0 hE hdd hAA ?_ hb
  refine aft_1 ?_
  refine b_A_axle_8 hw ⟨by decide, by decide⟩ hs ?_
  exact b_A_axle_24
theorem a_axle_t1 {d d' : Nat} {A A' : Nat → Prop} {h h' : ah_H} {x0 xo : Nat} {y1 : Int32} {y2 : Int32} {a : Nat} (hE : ah_Ev mt_X_axle d' A' [.ref x0, .int y1, .int y2] h (.threw a) h') (hdd : d' + 1 ≤ d) (hAA : ∀ q, A' q → A q) (hb : (ah_len h x0 6).isSome = true) (hx : h'.2.2 a = some (92, [])) : ah_Ev mt_A_axle d A [.ref x0, .int y1, .int y2, .ref xo] h (.returned (some (.int 1))) h' := by
  refine ah_Ev.of (by decide +kernel) (Nat.le_of_ble_eq_true rfl) ?_
  show ah_At mt_A_axle d A h (.returned (some (.int 1))) h' 0 [(0, .ref x0), (1, .int y1), (2, .int y2), (3, .ref xo)] [] h
  refine b_A_axle_0 hE hdd hAA ?_ hb
  show ah_thr mt_A_axle d A h (.returned (some (.int 1))) h' 5 [] h' a
  exact ah_thr_catch (hp := 12) (E := "java/lang/IndexOutOfBoundsException") rfl hx (Or.inl ⟨⟨by decide, by decide⟩, by decide, rfl, "java/lang/IndexOutOfBoundsException", ah_in (by decide +kernel) rfl, ah_in (by decide +kernel) rfl⟩) b_A_axle_12
theorem a_axle_t2 {d d' : Nat} {A A' : Nat → Prop} {h h' : ah_H} {x0 xo : Nat} {y1 : Int32} {y2 : Int32} {a : Nat} (hE : ah_Ev mt_X_axle d' A' [.ref x0, .int y1, .int y2] h (.threw a) h') (hdd : d' + 1 ≤ d) (hAA : ∀ q, A' q → A q) (hb : (ah_len h x0 6).isSome = true) (hx : h'.2.2 a = some (93, [])) : ah_Ev mt_A_axle d A [.ref x0, .int y1, .int y2, .ref xo] h (.returned (some (.int 2))) h' := by
  refine ah_Ev.of (by decide +kernel) (Nat.le_of_ble_eq_true rfl) ?_
  show ah_At mt_A_axle d A h (.returned (some (.int 2))) h' 0 [(0, .ref x0), (1, .int y1), (2, .int y2), (3, .ref xo)] [] h
  refine b_A_axle_0 hE hdd hAA ?_ hb
  show ah_thr mt_A_axle d A h (.returned (some (.int 2))) h' 5 [] h' a
  exact ah_thr_catch (hp := 16) (E := "java/util/NoSuchElementException") rfl hx (Or.inr ⟨⟨by decide, by decide⟩, by decide, ⟨"java/lang/IndexOutOfBoundsException", ah_in (by decide +kernel) rfl, ah_inx (by decide +kernel) rfl⟩, Or.inl ⟨⟨by decide, by decide⟩, by decide, rfl, "java/util/NoSuchElementException", ah_in (by decide +kernel) rfl, ah_in (by decide +kernel) rfl⟩⟩) b_A_axle_16
theorem a_axle_t3 {d d' : Nat} {A A' : Nat → Prop} {h h' : ah_H} {x0 xo : Nat} {y1 : Int32} {y2 : Int32} {a : Nat} (hE : ah_Ev mt_X_axle d' A' [.ref x0, .int y1, .int y2] h (.threw a) h') (hdd : d' + 1 ≤ d) (hAA : ∀ q, A' q → A q) (hb : (ah_len h x0 6).isSome = true) (hx : h'.2.2 a = some (94, [])) : ah_Ev mt_A_axle d A [.ref x0, .int y1, .int y2, .ref xo] h (.returned (some (.int 3))) h' := by
  refine ah_Ev.of (by decide +kernel) (Nat.le_of_ble_eq_true rfl) ?_
  show ah_At mt_A_axle d A h (.returned (some (.int 3))) h' 0 [(0, .ref x0), (1, .int y1), (2, .int y2), (3, .ref xo)] [] h
  refine b_A_axle_0 hE hdd hAA ?_ hb
  show ah_thr mt_A_axle d A h (.returned (some (.int 3))) h' 5 [] h' a
  exact ah_thr_catch (hp := 20) (E := "java/lang/ArithmeticException") rfl hx (Or.inr ⟨⟨by decide, by decide⟩, by decide, ⟨"java/lang/IndexOutOfBoundsException", ah_in (by decide +kernel) rfl, ah_inx (by decide +kernel) rfl⟩, Or.inr ⟨⟨by decide, by decide⟩, by decide, ⟨"java/util/NoSuchElementException", ah_in (by decide +kernel) rfl, ah_inx (by decide +kernel) rfl⟩, Or.inl ⟨⟨by decide, by decide⟩, by decide, rfl, "java/lang/ArithmeticException", ah_in (by decide +kernel) rfl, ah_in (by decide +kernel) rfl⟩⟩⟩) b_A_axle_20
theorem l_axle_t1 {d : Nat} {A : Nat → Prop} {g : ah_H} {b m x0 x3 : Nat} {sc : List Value} {x4 : Int32} {f : Nat → Int32} {D E : rg_D} (G : LG g b m x0 x3 sc) (rd : Rd sc x4 f) (hd : 60 ≤ d) (hA : ∀ q, b ≤ q → A q) (hX : ah_Ev mt_X_axle (d - 2) (fun _ => False) [.ref b, .int (f 1), .int (f 2)] (rg LTc (rg LTm g m E) b D) (.threw (rg LTm g m E).1) (ah_newx (rg LTc (rg LTm g m E) b D) 92)) {v' : Int64} (hM : ah_Ev mt_M_axle (d - 1) A [.ref m, .int (f 1), .int (f 2)] (rg LTm (rg LTc (ah_newx g 92) b D) m E) (.returned (some (.long v'))) (rg LTm (rg LTc (ah_newx g 92) b D) m (up E 32 0 1))) (hE : ∀ f j, E f j < 2 ^ 30) {h0 h2 : ah_H} {o : Outcome} (kk : ah_At mt_A_law d A h0 o h2 1062 [(0, .ref x0), (1, .ref b), (2, .ref m), (3, .ref x3), (4, .int x4)] [] (HH (ah_newx g 92) b m D (up E 32 0 1))) : ah_At mt_A_law d A h0 o h2 783 [(0, .ref x0), (1, .ref b), (2, .ref m), (3, .ref x3), (4, .int x4)] [] (HH g b m D E) := by
  obtain ⟨j1, i1, s1⟩ := rd.r1
  obtain ⟨j2, i2, s2⟩ := rd.r2
  have hC := a_axle_t1 (d := d - 1) (A := A) (xo := x3) (evT G hX) (by omega) (fun q h => h.elim) (HH_6 G.bm) (HH_x G)
  refine b_A_law_783 i1 (HH_rd G s1) i2 (HH_rd G s2) hC (by omega) (fun q hq => hq) ?_
  refine aft_1 ?_
  refine b_A_law_800 i1 (HH_rd G.newx s1) i2 (HH_rd G.newx s2) hM (by omega) (fun q hq => hq) ?_ HH_7
  refine aft_1 ?_
  refine b_A_law_818 (c_thrown (d := d - 1) (A := A) (up_O hE (by decide))) (by omega) (fun q hq => hq) ?_ HH_7
  refine aft_1 ?_
  refine b_A_law_824 (fun _ => ?_) (fun z => absurd (by rw [up_s]; decide) z)
  refine b_A_law_831 (fun _ => ?_) (fun z => absurd (by decide) z)
  exact b_A_law_847 kk
theorem l_axle_t2 {d : Nat} {A : Nat → Prop} {g : ah_H} {b m x0 x3 : Nat} {sc : List Value} {x4 : Int32} {f : Nat → Int32} {D E : rg_D} (G : LG g b m x0 x3 sc) (rd : Rd sc x4 f) (hd : 60 ≤ d) (hA : ∀ q, b ≤ q → A q) (hX : ah_Ev mt_X_axle (d - 2) (fun _ => False) [.ref b, .int (f 1), .int (f 2)] (rg LTc (rg LTm g m E) b D) (.threw (rg LTm g m E).1) (ah_newx (rg LTc (rg LTm g m E) b D) 93)) {v' : Int64} (hM : ah_Ev mt_M_axle (d - 1) A [.ref m, .int (f 1), .int (f 2)] (rg LTm (rg LTc (ah_newx g 93) b D) m E) (.returned (some (.long v'))) (rg LTm (rg LTc (ah_newx g 93) b D) m (up E 32 0 2))) (hE : ∀ f j, E f j < 2 ^ 30) {h0 h2 : ah_H} {o : Outcome} (kk : ah_At mt_A_law d A h0 o h2 1062 [(0, .ref x0), (1, .ref b), (2, .ref m), (3, .ref x3), (4, .int x4)] [] (HH (ah_newx g 93) b m D (up E 32 0 2))) : ah_At mt_A_law d A h0 o h2 783 [(0, .ref x0), (1, .ref b), (2, .ref m), (3, .ref x3), (4, .int x4)] [] (HH g b m D E) := by
  obtain ⟨j1, i1, s1⟩ := rd.r1
  obtain ⟨j2, i2, s2⟩ := rd.r2
  have hC := a_axle_t2 (d := d - 1) (A := A) (xo := x3) (evT G hX) (by omega) (fun q h => h.elim) (HH_6 G.bm) (HH_x G)
  refine b_A_law_783 i1 (HH_rd G s1) i2 (HH_rd G s2) hC (by omega) (fun q hq => hq) ?_
  refine aft_1 ?_
  refine b_A_law_800 i1 (HH_rd G.newx s1) i2 (HH_rd G.newx s2) hM (by omega) (fun q hq => hq) ?_ HH_7
  refine aft_1 ?_
  refine b_A_law_818 (c_thrown (d := d - 1) (A := A) (up_O hE (by decide))) (by omega) (fun q hq => hq) ?_ HH_7
  refine aft_1 ?_
  refine b_A_law_824 (fun _ => ?_) (fun z => absurd (by rw [up_s]; decide) z)
  refine b_A_law_831 (fun _ => ?_) (fun z => absurd (by decide) z)
  exact b_A_law_847 kk
theorem l_axle_t3 {d : Nat} {A : Nat → Prop} {g : ah_H} {b m x0 x3 : Nat} {sc : List Value} {x4 : Int32} {f : Nat → Int32} {D E : rg_D} (G : LG g b m x0 x3 sc) (rd : Rd sc x4 f) (hd : 60 ≤ d) (hA : ∀ q, b ≤ q → A q) (hX : ah_Ev mt_X_axle (d - 2) (fun _ => False) [.ref b, .int (f 1), .int (f 2)] (rg LTc (rg LTm g m E) b D) (.threw (rg LTm g m E).1) (ah_newx (rg LTc (rg LTm g m E) b D) 94)) {v' : Int64} (hM : ah_Ev mt_M_axle (d - 1) A [.ref m, .int (f 1), .int (f 2)] (rg LTm (rg LTc (ah_newx g 94) b D) m E) (.returned (some (.long v'))) (rg LTm (rg LTc (ah_newx g 94) b D) m (up E 32 0 3))) (hE : ∀ f j, E f j < 2 ^ 30) {h0 h2 : ah_H} {o : Outcome} (kk : ah_At mt_A_law d A h0 o h2 1062 [(0, .ref x0), (1, .ref b), (2, .ref m), (3, .ref x3), (4, .int x4)] [] (HH (ah_newx g 94) b m D (up E 32 0 3))) : ah_At mt_A_law d A h0 o h2 783 [(0, .ref x0), (1, .ref b), (2, .ref m), (3, .ref x3), (4, .int x4)] [] (HH g b m D E) := by
  obtain ⟨j1, i1, s1⟩ := rd.r1
  obtain ⟨j2, i2, s2⟩ := rd.r2
  have hC := a_axle_t3 (d := d - 1) (A := A) (xo := x3) (evT G hX) (by omega) (fun q h => h.elim) (HH_6 G.bm) (HH_x G)
  refine b_A_law_783 i1 (HH_rd G s1) i2 (HH_rd G s2) hC (by omega) (fun q hq => hq) ?_
  refine aft_1 ?_
  refine b_A_law_800 i1 (HH_rd G.newx s1) i2 (HH_rd G.newx s2) hM (by omega) (fun q hq => hq) ?_ HH_7
  refine aft_1 ?_
  refine b_A_law_818 (c_thrown (d := d - 1) (A := A) (up_O hE (by decide))) (by omega) (fun q hq => hq) ?_ HH_7
  refine aft_1 ?_
  refine b_A_law_824 (fun _ => ?_) (fun z => absurd (by rw [up_s]; decide) z)
  refine b_A_law_831 (fun _ => ?_) (fun z => absurd (by decide) z)
  exact b_A_law_847 kk
theorem l_axle_r {d : Nat} {A : Nat → Prop} {g : ah_H} {b m x0 x3 : Nat} {sc : List Value} {x4 : Int32} {f : Nat → Int32} {D D' E E' : rg_D} (G : LG g b m x0 x3 sc) (rd : Rd sc x4 f) (hd : 60 ≤ d) (hA : ∀ q, b ≤ q → A q) {v : Int64} (hX : ah_Ev mt_X_axle (d - 2) A [.ref b, .int (f 1), .int (f 2)] (rg LTc (rg LTm g m E) b D) (.returned (some (.long v))) (rg LTc (rg LTm g m E) b D')) {v' : Int64} (hM : ah_Ev mt_M_axle (d - 1) A [.ref m, .int (f 1), .int (f 2)] (rg LTm (rg LTc (ah_sto g x3 0 (.long v)) b D') m E) (.returned (some (.long v'))) (rg LTm (rg LTc (ah_sto g x3 0 (.long v)) b D') m E')) (hv : v = v') (hT : E' 32 0 = 0) (hE : ∀ f j, E' f j < 2 ^ 30) {h0 h2 : ah_H} {o : Outcome} (kk : ah_At mt_A_law d A h0 o h2 1062 [(0, .ref x0), (1, .ref b), (2, .ref m), (3, .ref x3), (4, .int x4)] [] (HH (ah_sto g x3 0 (.long v)) b m D' E')) : ah_At mt_A_law d A h0 o h2 783 [(0, .ref x0), (1, .ref b), (2, .ref m), (3, .ref x3), (4, .int x4)] [] (HH g b m D E) := by
  subst hv
  obtain ⟨j1, i1, s1⟩ := rd.r1
  obtain ⟨j2, i2, s2⟩ := rd.r2
  have hC := a_axle_r (d := d - 1) (A := A) (xo := x3) (evC G.bm hX) (by omega) (fun q h => h) (HH_6 G.bm) (hA _ (by have h1 := G.bm; have h2 := G.mo; omega)) (HH_o G)
  rw [HH_sto G] at hC
  refine b_A_law_783 i1 (HH_rd G s1) i2 (HH_rd G s2) hC (by omega) (fun q hq => hq) ?_
  refine aft_1 ?_
  refine b_A_law_800 i1 (HH_rd G.sto s1) i2 (HH_rd G.sto s2) hM (by omega) (fun q hq => hq) ?_ HH_7
  refine aft_1 ?_
  refine b_A_law_818 (c_thrown (d := d - 1) (A := A) hE) (by omega) (fun q hq => hq) ?_ HH_7
  refine aft_1 ?_
  refine b_A_law_824 (fun _ => ?_) (fun z => absurd (by rw [hT]; decide) z)
  refine b_A_law_831 (fun z => absurd rfl z) (fun _ => ?_)
  exact b_A_law_836 (j1 := 0) ⟨by decide, by decide⟩ (HH_ov G) (fun _ => b_A_law_847 kk) (fun y => absurd ((cLeq rfl rfl).mpr rfl) y)
theorem a_standby_r {d d' : Nat} {A A' : Nat → Prop} {h h' : ah_H} {x0 xo : Nat} {y1 : Int32} {v : Int32} (hE : ah_Ev mt_X_standby d' A' [.ref x0, .int y1] h (.returned (some (.int v))) h') (hdd : d' + 1 ≤ d) (hAA : ∀ q, A' q → A q) (hb : (ah_len h x0 6).isSome = true) (hw : A xo) (hs : (ah_sel h' xo 101 0).isSome = true) : ah_Ev mt_A_standby d A [.ref x0, .int y1, .ref xo] h (.returned (some (.int 0))) (ah_sto h' xo 0 (.long (Int32.toInt64 v))) := by
  refine ah_Ev.of (by decide +kernel) (Nat.le_of_ble_eq_true rfl) ?_
  show ah_At mt_A_standby d A h (.returned (some (.int 0))) (ah_sto h' xo 0 (.long (Int32.toInt64 v))) 0 [(0, .ref x0), (1, .int y1), (2, .ref xo)] [] h
  refine b_A_standby_0 hE hdd hAA ?_ hb
  refine aft_1 ?_
  refine b_A_standby_7 hw ⟨by decide, by decide⟩ hs ?_
  exact b_A_standby_15
theorem a_standby_t1 {d d' : Nat} {A A' : Nat → Prop} {h h' : ah_H} {x0 xo : Nat} {y1 : Int32} {a : Nat} (hE : ah_Ev mt_X_standby d' A' [.ref x0, .int y1] h (.threw a) h') (hdd : d' + 1 ≤ d) (hAA : ∀ q, A' q → A q) (hb : (ah_len h x0 6).isSome = true) (hx : h'.2.2 a = some (93, [])) : ah_Ev mt_A_standby d A [.ref x0, .int y1, .ref xo] h (.returned (some (.int 1))) h' := by
  refine ah_Ev.of (by decide +kernel) (Nat.le_of_ble_eq_true rfl) ?_
  show ah_At mt_A_standby d A h (.returned (some (.int 1))) h' 0 [(0, .ref x0), (1, .int y1), (2, .ref xo)] [] h
  refine b_A_standby_0 hE hdd hAA ?_ hb
  show ah_thr mt_A_standby d A h (.returned (some (.int 1))) h' 4 [] h' a
  exact ah_thr_catch (hp := 12) (E := "java/util/NoSuchElementException") rfl hx (Or.inl ⟨⟨by decide, by decide⟩, by decide, rfl, "java/util/NoSuchElementException", ah_in (by decide +kernel) rfl, ah_in (by decide +kernel) rfl⟩) b_A_standby_12
theorem l_standby_t1 {d : Nat} {A : Nat → Prop} {g : ah_H} {b m x0 x3 : Nat} {sc : List Value} {x4 : Int32} {f : Nat → Int32} {D E : rg_D} (G : LG g b m x0 x3 sc) (rd : Rd sc x4 f) (hd : 60 ≤ d) (hA : ∀ q, b ≤ q → A q) (hX : ah_Ev mt_X_standby (d - 2) (fun _ => False) [.ref b, .int (f 1)] (rg LTc (rg LTm g m E) b D) (.threw (rg LTm g m E).1) (ah_newx (rg LTc (rg LTm g m E) b D) 93)) {v' : Int32} (hM : ah_Ev mt_M_standby (d - 1) A [.ref m, .int (f 1)] (rg LTm (rg LTc (ah_newx g 93) b D) m E) (.returned (some (.int v'))) (rg LTm (rg LTc (ah_newx g 93) b D) m (up E 32 0 1))) (hE : ∀ f j, E f j < 2 ^ 30) {h0 h2 : ah_H} {o : Outcome} (kk : ah_At mt_A_law d A h0 o h2 1062 [(0, .ref x0), (1, .ref b), (2, .ref m), (3, .ref x3), (4, .int x4)] [] (HH (ah_newx g 93) b m D (up E 32 0 1))) : ah_At mt_A_law d A h0 o h2 850 [(0, .ref x0), (1, .ref b), (2, .ref m), (3, .ref x3), (4, .int x4)] [] (HH g b m D E) := by
  obtain ⟨j1, i1, s1⟩ := rd.r1
  have hC := a_standby_t1 (d := d - 1) (A := A) (xo := x3) (evT G hX) (by omega) (fun q h => h.elim) (HH_6 G.bm) (HH_x G)
  refine b_A_law_850 i1 (HH_rd G s1) hC (by omega) (fun q hq => hq) ?_
  refine aft_1 ?_
  refine b_A_law_861 i1 (HH_rd G.newx s1) hM (by omega) (fun q hq => hq) ?_ HH_7
  refine aft_1 ?_
  refine b_A_law_873 (c_thrown (d := d - 1) (A := A) (up_O hE (by decide))) (by omega) (fun q hq => hq) ?_ HH_7
  refine aft_1 ?_
  refine b_A_law_879 (fun _ => ?_) (fun z => absurd (by rw [up_s]; decide) z)
  refine b_A_law_886 (fun _ => ?_) (fun z => absurd (by decide) z)
  exact b_A_law_903 kk
theorem l_standby_r {d : Nat} {A : Nat → Prop} {g : ah_H} {b m x0 x3 : Nat} {sc : List Value} {x4 : Int32} {f : Nat → Int32} {D D' E E' : rg_D} (G : LG g b m x0 x3 sc) (rd : Rd sc x4 f) (hd : 60 ≤ d) (hA : ∀ q, b ≤ q → A q) {v : Int32} (hX : ah_Ev mt_X_standby (d - 2) A [.ref b, .int (f 1)] (rg LTc (rg LTm g m E) b D) (.returned (some (.int v))) (rg LTc (rg LTm g m E) b D')) {v' : Int32} (hM : ah_Ev mt_M_standby (d - 1) A [.ref m, .int (f 1)] (rg LTm (rg LTc (ah_sto g x3 0 (.long (Int32.toInt64 v))) b D') m E) (.returned (some (.int v'))) (rg LTm (rg LTc (ah_sto g x3 0 (.long (Int32.toInt64 v))) b D') m E')) (hv : v = v') (hT : E' 32 0 = 0) (hE : ∀ f j, E' f j < 2 ^ 30) {h0 h2 : ah_H} {o : Outcome} (kk : ah_At mt_A_law d A h0 o h2 1062 [(0, .ref x0), (1, .ref b), (2, .ref m), (3, .ref x3), (4, .int x4)] [] (HH (ah_sto g x3 0 (.long (Int32.toInt64 v))) b m D' E')) : ah_At mt_A_law d A h0 o h2 850 [(0, .ref x0), (1, .ref b), (2, .ref m), (3, .ref x3), (4, .int x4)] [] (HH g b m D E) := by
  subst hv
  obtain ⟨j1, i1, s1⟩ := rd.r1
  have hC := a_standby_r (d := d - 1) (A := A) (xo := x3) (evC G.bm hX) (by omega) (fun q h => h) (HH_6 G.bm) (hA _ (by have h1 := G.bm; have h2 := G.mo; omega)) (HH_o G)
  rw [HH_sto G] at hC
  refine b_A_law_850 i1 (HH_rd G s1) hC (by omega) (fun q hq => hq) ?_
  refine aft_1 ?_
  refine b_A_law_861 i1 (HH_rd G.sto s1) hM (by omega) (fun q hq => hq) ?_ HH_7
  refine aft_1 ?_
  refine b_A_law_873 (c_thrown (d := d - 1) (A := A) hE) (by omega) (fun q hq => hq) ?_ HH_7
  refine aft_1 ?_
  refine b_A_law_879 (fun _ => ?_) (fun z => absurd (by rw [hT]; decide) z)
  refine b_A_law_886 (fun z => absurd rfl z) (fun _ => ?_)
  exact b_A_law_891 (j1 := 0) ⟨by decide, by decide⟩ (HH_ov G) (fun _ => b_A_law_903 kk) (fun y => absurd ((cLeq rfl rfl).mpr rfl) y)
theorem a_refused_r {d d' : Nat} {A A' : Nat → Prop} {h h' : ah_H} {x0 xo : Nat} {y1 : Int32} {v : Int32} (hE : ah_Ev mt_X_refused d' A' [.ref x0, .int y1] h (.returned (some (.int v))) h') (hdd : d' + 1 ≤ d) (hAA : ∀ q, A' q → A q) (hb : (ah_len h x0 6).isSome = true) (hw : A xo) (hs : (ah_sel h' xo 101 0).isSome = true) : ah_Ev mt_A_refused d A [.ref x0, .int y1, .ref xo] h (.returned (some (.int 0))) (ah_sto h' xo 0 (.long (Int32.toInt64 v))) := by
  refine ah_Ev.of (by decide +kernel) (Nat.le_of_ble_eq_true rfl) ?_
  show ah_At mt_A_refused d A h (.returned (some (.int 0))) (ah_sto h' xo 0 (.long (Int32.toInt64 v))) 0 [(0, .ref x0), (1, .int y1), (2, .ref xo)] [] h
  refine b_A_refused_0 hE hdd hAA ?_ hb
  refine aft_1 ?_
  refine b_A_refused_7 hw ⟨by decide, by decide⟩ hs ?_
  exact b_A_refused_15
theorem a_refused_t1 {d d' : Nat} {A A' : Nat → Prop} {h h' : ah_H} {x0 xo : Nat} {y1 : Int32} {a : Nat} (hE : ah_Ev mt_X_refused d' A' [.ref x0, .int y1] h (.threw a) h') (hdd : d' + 1 ≤ d) (hAA : ∀ q, A' q → A q) (hb : (ah_len h x0 6).isSome = true) (hx : h'.2.2 a = some (92, [])) : ah_Ev mt_A_refused d A [.ref x0, .int y1, .ref xo] h (.returned (some (.int 1))) h' := by
  refine ah_Ev.of (by decide +kernel) (Nat.le_of_ble_eq_true rfl) ?_
  show ah_At mt_A_refused d A h (.returned (some (.int 1))) h' 0 [(0, .ref x0), (1, .int y1), (2, .ref xo)] [] h
  refine b_A_refused_0 hE hdd hAA ?_ hb
  show ah_thr mt_A_refused d A h (.returned (some (.int 1))) h' 4 [] h' a
  exact ah_thr_catch (hp := 12) (E := "java/lang/IndexOutOfBoundsException") rfl hx (Or.inl ⟨⟨by decide, by decide⟩, by decide, rfl, "java/lang/IndexOutOfBoundsException", ah_in (by decide +kernel) rfl, ah_in (by decide +kernel) rfl⟩) b_A_refused_12
theorem l_refused_t1 {d : Nat} {A : Nat → Prop} {g : ah_H} {b m x0 x3 : Nat} {sc : List Value} {x4 : Int32} {f : Nat → Int32} {D E : rg_D} (G : LG g b m x0 x3 sc) (rd : Rd sc x4 f) (hd : 60 ≤ d) (hA : ∀ q, b ≤ q → A q) (hX : ah_Ev mt_X_refused (d - 2) (fun _ => False) [.ref b, .int (f 1)] (rg LTc (rg LTm g m E) b D) (.threw (rg LTm g m E).1) (ah_newx (rg LTc (rg LTm g m E) b D) 92)) {v' : Int32} (hM : ah_Ev mt_M_refused (d - 1) A [.ref m, .int (f 1)] (rg LTm (rg LTc (ah_newx g 92) b D) m E) (.returned (some (.int v'))) (rg LTm (rg LTc (ah_newx g 92) b D) m (up E 32 0 1))) (hE : ∀ f j, E f j < 2 ^ 30) {h0 h2 : ah_H} {o : Outcome} (kk : ah_At mt_A_law d A h0 o h2 1062 [(0, .ref x0), (1, .ref b), (2, .ref m), (3, .ref x3), (4, .int x4)] [] (HH (ah_newx g 92) b m D (up E 32 0 1))) : ah_At mt_A_law d A h0 o h2 906 [(0, .ref x0), (1, .ref b), (2, .ref m), (3, .ref x3), (4, .int x4)] [] (HH g b m D E) := by
  obtain ⟨j1, i1, s1⟩ := rd.r1
  have hC := a_refused_t1 (d := d - 1) (A := A) (xo := x3) (evT G hX) (by omega) (fun q h => h.elim) (HH_6 G.bm) (HH_x G)
  refine b_A_law_906 i1 (HH_rd G s1) hC (by omega) (fun q hq => hq) ?_
  refine aft_1 ?_
  refine b_A_law_917 i1 (HH_rd G.newx s1) hM (by omega) (fun q hq => hq) ?_ HH_7
  refine aft_1 ?_
  refine b_A_law_929 (c_thrown (d := d - 1) (A := A) (up_O hE (by decide))) (by omega) (fun q hq => hq) ?_ HH_7
  refine aft_1 ?_
  refine b_A_law_935 (fun _ => ?_) (fun z => absurd (by rw [up_s]; decide) z)
  refine b_A_law_942 (fun _ => ?_) (fun z => absurd (by decide) z)
  exact b_A_law_959 kk
theorem l_refused_r {d : Nat} {A : Nat → Prop} {g : ah_H} {b m x0 x3 : Nat} {sc : List Value} {x4 : Int32} {f : Nat → Int32} {D D' E E' : rg_D} (G : LG g b m x0 x3 sc) (rd : Rd sc x4 f) (hd : 60 ≤ d) (hA : ∀ q, b ≤ q → A q) {v : Int32} (hX : ah_Ev mt_X_refused (d - 2) A [.ref b, .int (f 1)] (rg LTc (rg LTm g m E) b D) (.returned (some (.int v))) (rg LTc (rg LTm g m E) b D')) {v' : Int32} (hM : ah_Ev mt_M_refused (d - 1) A [.ref m, .int (f 1)] (rg LTm (rg LTc (ah_sto g x3 0 (.long (Int32.toInt64 v))) b D') m E) (.returned (some (.int v'))) (rg LTm (rg LTc (ah_sto g x3 0 (.long (Int32.toInt64 v))) b D') m E')) (hv : v = v') (hT : E' 32 0 = 0) (hE : ∀ f j, E' f j < 2 ^ 30) {h0 h2 : ah_H} {o : Outcome} (kk : ah_At mt_A_law d A h0 o h2 1062 [(0, .ref x0), (1, .ref b), (2, .ref m), (3, .ref x3), (4, .int x4)] [] (HH (ah_sto g x3 0 (.long (Int32.toInt64 v))) b m D' E')) : ah_At mt_A_law d A h0 o h2 906 [(0, .ref x0), (1, .ref b), (2, .ref m), (3, .ref x3), (4, .int x4)] [] (HH g b m D E) := by
  subst hv
  obtain ⟨j1, i1, s1⟩ := rd.r1
  have hC := a_refused_r (d := d - 1) (A := A) (xo := x3) (evC G.bm hX) (by omega) (fun q h => h) (HH_6 G.bm) (hA _ (by have h1 := G.bm; have h2 := G.mo; omega)) (HH_o G)
  rw [HH_sto G] at hC
  refine b_A_law_906 i1 (HH_rd G s1) hC (by omega) (fun q hq => hq) ?_
  refine aft_1 ?_
  refine b_A_law_917 i1 (HH_rd G.sto s1) hM (by omega) (fun q hq => hq) ?_ HH_7
  refine aft_1 ?_
  refine b_A_law_929 (c_thrown (d := d - 1) (A := A) hE) (by omega) (fun q hq => hq) ?_ HH_7
  refine aft_1 ?_
  refine b_A_law_935 (fun _ => ?_) (fun z => absurd (by rw [hT]; decide) z)
  refine b_A_law_942 (fun z => absurd rfl z) (fun _ => ?_)
  exact b_A_law_947 (j1 := 0) ⟨by decide, by decide⟩ (HH_ov G) (fun _ => b_A_law_959 kk) (fun y => absurd ((cLeq rfl rfl).mpr rfl) y)
theorem a_together_r {d d' : Nat} {A A' : Nat → Prop} {h h' : ah_H} {x0 xo : Nat} {y1 : Int32} {y2 : Int32} {v : Int32} (hE : ah_Ev mt_X_together d' A' [.ref x0, .int y1, .int y2] h (.returned (some (.int v))) h') (hdd : d' + 1 ≤ d) (hAA : ∀ q, A' q → A q) (hb : (ah_len h x0 6).isSome = true) (hw : A xo) (hs : (ah_sel h' xo 101 0).isSome = true) : ah_Ev mt_A_together d A [.ref x0, .int y1, .int y2, .ref xo] h (.returned (some (.int 0))) (ah_sto h' xo 0 (.long (zl v))) := by
  refine ah_Ev.of (by decide +kernel) (Nat.le_of_ble_eq_true rfl) ?_
  show ah_At mt_A_together d A h (.returned (some (.int 0))) (ah_sto h' xo 0 (.long (zl v))) 0 [(0, .ref x0), (1, .int y1), (2, .int y2), (3, .ref xo)] [] h
  refine b_A_together_0 hE hdd hAA ?_ hb
  refine aft_1 ?_
  refine b_A_together_8 (fun z => ?_) (fun z => ?_)
  · rw [show zl v = 0 from by unfold zl; rw [if_pos z]]
    refine b_A_together_15 ?_
    refine b_A_together_16 hw ⟨by decide, by decide⟩ hs ?_
    exact b_A_together_24
  · rw [show zl v = 1 from by unfold zl; rw [if_neg z]]
    refine b_A_together_11 ?_
    refine b_A_together_16 hw ⟨by decide, by decide⟩ hs ?_
    exact b_A_together_24
theorem a_together_t1 {d d' : Nat} {A A' : Nat → Prop} {h h' : ah_H} {x0 xo : Nat} {y1 : Int32} {y2 : Int32} {a : Nat} (hE : ah_Ev mt_X_together d' A' [.ref x0, .int y1, .int y2] h (.threw a) h') (hdd : d' + 1 ≤ d) (hAA : ∀ q, A' q → A q) (hb : (ah_len h x0 6).isSome = true) (hx : h'.2.2 a = some (92, [])) : ah_Ev mt_A_together d A [.ref x0, .int y1, .int y2, .ref xo] h (.returned (some (.int 1))) h' := by
  refine ah_Ev.of (by decide +kernel) (Nat.le_of_ble_eq_true rfl) ?_
  show ah_At mt_A_together d A h (.returned (some (.int 1))) h' 0 [(0, .ref x0), (1, .int y1), (2, .int y2), (3, .ref xo)] [] h
  refine b_A_together_0 hE hdd hAA ?_ hb
  show ah_thr mt_A_together d A h (.returned (some (.int 1))) h' 5 [] h' a
  exact ah_thr_catch (hp := 20) (E := "java/lang/IndexOutOfBoundsException") rfl hx (Or.inl ⟨⟨by decide, by decide⟩, by decide, rfl, "java/lang/IndexOutOfBoundsException", ah_in (by decide +kernel) rfl, ah_in (by decide +kernel) rfl⟩) b_A_together_20
theorem l_together_t1 {d : Nat} {A : Nat → Prop} {g : ah_H} {b m x0 x3 : Nat} {sc : List Value} {x4 : Int32} {f : Nat → Int32} {D E : rg_D} (G : LG g b m x0 x3 sc) (rd : Rd sc x4 f) (hd : 60 ≤ d) (hA : ∀ q, b ≤ q → A q) (hX : ah_Ev mt_X_together (d - 2) (fun _ => False) [.ref b, .int (f 1), .int (f 2)] (rg LTc (rg LTm g m E) b D) (.threw (rg LTm g m E).1) (ah_newx (rg LTc (rg LTm g m E) b D) 92)) {v' : Int32} (hM : ah_Ev mt_M_together (d - 1) A [.ref m, .int (f 1), .int (f 2)] (rg LTm (rg LTc (ah_newx g 92) b D) m E) (.returned (some (.int v'))) (rg LTm (rg LTc (ah_newx g 92) b D) m (up E 32 0 1))) (hE : ∀ f j, E f j < 2 ^ 30) {h0 h2 : ah_H} {o : Outcome} (kk : ah_At mt_A_law d A h0 o h2 1062 [(0, .ref x0), (1, .ref b), (2, .ref m), (3, .ref x3), (4, .int x4)] [] (HH (ah_newx g 92) b m D (up E 32 0 1))) : ah_At mt_A_law d A h0 o h2 962 [(0, .ref x0), (1, .ref b), (2, .ref m), (3, .ref x3), (4, .int x4)] [] (HH g b m D E) := by
  obtain ⟨j1, i1, s1⟩ := rd.r1
  obtain ⟨j2, i2, s2⟩ := rd.r2
  have hC := a_together_t1 (d := d - 1) (A := A) (xo := x3) (evT G hX) (by omega) (fun q h => h.elim) (HH_6 G.bm) (HH_x G)
  refine b_A_law_962 i1 (HH_rd G s1) i2 (HH_rd G s2) hC (by omega) (fun q hq => hq) ?_
  refine aft_1 ?_
  refine b_A_law_979 i1 (HH_rd G.newx s1) i2 (HH_rd G.newx s2) hM (by omega) (fun q hq => hq) ?_ HH_7
  refine aft_1 ?_
  refine b_A_law_997 (c_thrown (d := d - 1) (A := A) (up_O hE (by decide))) (by omega) (fun q hq => hq) ?_ HH_7
  refine aft_1 ?_
  refine b_A_law_1003 (fun _ => ?_) (fun z => absurd (by rw [up_s]; decide) z)
  refine b_A_law_1010 (fun _ => ?_) (fun z => absurd (by decide) z)
  exact b_A_law_1034 kk
theorem l_together_r {d : Nat} {A : Nat → Prop} {g : ah_H} {b m x0 x3 : Nat} {sc : List Value} {x4 : Int32} {f : Nat → Int32} {D D' E E' : rg_D} (G : LG g b m x0 x3 sc) (rd : Rd sc x4 f) (hd : 60 ≤ d) (hA : ∀ q, b ≤ q → A q) {v : Int32} (hX : ah_Ev mt_X_together (d - 2) A [.ref b, .int (f 1), .int (f 2)] (rg LTc (rg LTm g m E) b D) (.returned (some (.int v))) (rg LTc (rg LTm g m E) b D')) {v' : Int32} (hM : ah_Ev mt_M_together (d - 1) A [.ref m, .int (f 1), .int (f 2)] (rg LTm (rg LTc (ah_sto g x3 0 (.long (zl v))) b D') m E) (.returned (some (.int v'))) (rg LTm (rg LTc (ah_sto g x3 0 (.long (zl v))) b D') m E')) (hv : v = v') (hT : E' 32 0 = 0) (hE : ∀ f j, E' f j < 2 ^ 30) {h0 h2 : ah_H} {o : Outcome} (kk : ah_At mt_A_law d A h0 o h2 1062 [(0, .ref x0), (1, .ref b), (2, .ref m), (3, .ref x3), (4, .int x4)] [] (HH (ah_sto g x3 0 (.long (zl v))) b m D' E')) : ah_At mt_A_law d A h0 o h2 962 [(0, .ref x0), (1, .ref b), (2, .ref m), (3, .ref x3), (4, .int x4)] [] (HH g b m D E) := by
  subst hv
  obtain ⟨j1, i1, s1⟩ := rd.r1
  obtain ⟨j2, i2, s2⟩ := rd.r2
  have hC := a_together_r (d := d - 1) (A := A) (xo := x3) (evC G.bm hX) (by omega) (fun q h => h) (HH_6 G.bm) (hA _ (by have h1 := G.bm; have h2 := G.mo; omega)) (HH_o G)
  rw [HH_sto G] at hC
  refine b_A_law_962 i1 (HH_rd G s1) i2 (HH_rd G s2) hC (by omega) (fun q hq => hq) ?_
  refine aft_1 ?_
  refine b_A_law_979 i1 (HH_rd G.sto s1) i2 (HH_rd G.sto s2) hM (by omega) (fun q hq => hq) ?_ HH_7
  refine aft_1 ?_
  refine b_A_law_997 (c_thrown (d := d - 1) (A := A) hE) (by omega) (fun q hq => hq) ?_ HH_7
  refine aft_1 ?_
  refine b_A_law_1003 (fun _ => ?_) (fun z => absurd (by rw [hT]; decide) z)
  refine b_A_law_1010 (fun z => absurd rfl z) (fun _ => ?_)
  refine b_A_law_1015 (j1 := 0) ⟨by decide, by decide⟩ (HH_ov G) (fun z => ?_) (fun z => ?_)
  · refine b_A_law_1027 ?_
    exact b_A_law_1028 (fun _ => b_A_law_1034 kk) (fun y => absurd ((cLeq rfl rfl).mpr (by unfold zl; rw [if_pos z])) y)
  · refine b_A_law_1023 ?_
    exact b_A_law_1028 (fun _ => b_A_law_1034 kk) (fun y => absurd ((cLeq rfl rfl).mpr (by unfold zl; rw [if_neg z])) y)
theorem l_rule {d : Nat} {A : Nat → Prop} {g : ah_H} {b m x0 x3 : Nat} {sc : List Value} {x4 : Int32} {f : Nat → Int32} {D D' E E' : rg_D} (G : LG g b m x0 x3 sc) (rd : Rd sc x4 f) (hd : 60 ≤ d) {v : Int32} (hX : ah_Ev mt_X_rule (d - 1) A [.ref b, .int (f 1), .int (f 2), .int (f 3)] (rg LTc (rg LTm g m E) b D) (.returned (some (.int v))) (rg LTc (rg LTm g m E) b D')) {v' : Int32} (hM : ah_Ev mt_M_rule (d - 1) A [.ref m, .int (f 1), .int (f 2), .int (f 3)] (rg LTm (rg LTc g b D') m E) (.returned (some (.int v'))) (rg LTm (rg LTc g b D') m E')) (hv : v = v') {h0 h2 : ah_H} {o : Outcome} (kk : ah_At mt_A_law d A h0 o h2 1062 [(0, .ref x0), (1, .ref b), (2, .ref m), (3, .ref x3), (4, .int x4)] [] (HH g b m D' E')) : ah_At mt_A_law d A h0 o h2 476 [(0, .ref x0), (1, .ref b), (2, .ref m), (3, .ref x3), (4, .int x4)] [] (HH g b m D E) := by
  subst hv
  obtain ⟨j1, i1, s1⟩ := rd.r1
  obtain ⟨j2, i2, s2⟩ := rd.r2
  obtain ⟨j3, i3, s3⟩ := rd.r3
  refine b_A_law_476 i1 (HH_rd G s1) i2 (HH_rd G s2) i3 (HH_rd G s3) (evC G.bm hX) (by omega) (fun q hq => hq) ?_ (HH_6 G.bm)
  refine aft_1 ?_
  refine b_A_law_498 i1 (HH_rd G s1) i2 (HH_rd G s2) i3 (HH_rd G s3) hM (by omega) (fun q hq => hq) ?_ HH_7
  refine aft_1 ?_
  exact b_A_law_520 (fun _ => kk) (fun z => absurd rfl z)
theorem l_cut {d : Nat} {A : Nat → Prop} {g : ah_H} {b m x0 x3 : Nat} {sc : List Value} {x4 : Int32} {f : Nat → Int32} {D D' E E' : rg_D} (G : LG g b m x0 x3 sc) (rd : Rd sc x4 f) (hd : 60 ≤ d) {v : Int32} (hX : ah_Ev mt_X_cut (d - 1) A [.ref b, .long (lw (f 1) (f 2))] (rg LTc (rg LTm g m E) b D) (.returned (some (.int v))) (rg LTc (rg LTm g m E) b D')) {v' : Int32} (hM : ah_Ev mt_M_cut (d - 1) A [.ref m, .long (lw (f 1) (f 2))] (rg LTm (rg LTc g b D') m E) (.returned (some (.int v'))) (rg LTm (rg LTc g b D') m E')) (hv : v = v') {h0 h2 : ah_H} {o : Outcome} (kk : ah_At mt_A_law d A h0 o h2 1062 [(0, .ref x0), (1, .ref b), (2, .ref m), (3, .ref x3), (4, .int x4)] [] (HH g b m D' E')) : ah_At mt_A_law d A h0 o h2 525 [(0, .ref x0), (1, .ref b), (2, .ref m), (3, .ref x3), (4, .int x4)] [] (HH g b m D E) := by
  subst hv
  obtain ⟨j1, i1, s1⟩ := rd.r1
  obtain ⟨j2, i2, s2⟩ := rd.r2
  refine b_A_law_525 i1 (HH_rd G s1) i2 (HH_rd G s2) (evC G.bm hX) (by omega) (fun q hq => hq) ?_ (HH_6 G.bm)
  refine aft_1 ?_
  refine b_A_law_551 i1 (HH_rd G s1) i2 (HH_rd G s2) hM (by omega) (fun q hq => hq) ?_ HH_7
  refine aft_1 ?_
  exact b_A_law_577 (fun _ => kk) (fun z => absurd rfl z)
theorem l_plan {d : Nat} {A : Nat → Prop} {g : ah_H} {b m x0 x3 : Nat} {sc : List Value} {x4 : Int32} {f : Nat → Int32} {D D' E E' : rg_D} (G : LG g b m x0 x3 sc) (rd : Rd sc x4 f) (hd : 60 ≤ d) {v : Int32} (hX : ah_Ev mt_X_plan (d - 1) A [.ref b] (rg LTc (rg LTm g m E) b D) (.returned (some (.int v))) (rg LTc (rg LTm g m E) b D')) {v' : Int32} (hM : ah_Ev mt_M_plan (d - 1) A [.ref m] (rg LTm (rg LTc g b D') m E) (.returned (some (.int v'))) (rg LTm (rg LTc g b D') m E')) (hv : v = v') {h0 h2 : ah_H} {o : Outcome} (kk : ah_At mt_A_law d A h0 o h2 1062 [(0, .ref x0), (1, .ref b), (2, .ref m), (3, .ref x3), (4, .int x4)] [] (HH g b m D' E')) : ah_At mt_A_law d A h0 o h2 635 [(0, .ref x0), (1, .ref b), (2, .ref m), (3, .ref x3), (4, .int x4)] [] (HH g b m D E) := by
  subst hv
  refine b_A_law_635  (evC G.bm hX) (by omega) (fun q hq => hq) ?_ (HH_6 G.bm)
  refine aft_1 ?_
  refine b_A_law_639  hM (by omega) (fun q hq => hq) ?_ HH_7
  refine aft_1 ?_
  exact b_A_law_643 (fun _ => kk) (fun z => absurd rfl z)
theorem l_count {d : Nat} {A : Nat → Prop} {g : ah_H} {b m x0 x3 : Nat} {sc : List Value} {x4 : Int32} {f : Nat → Int32} {D D' E E' : rg_D} (G : LG g b m x0 x3 sc) (rd : Rd sc x4 f) (hd : 60 ≤ d) {v : Int32} (hX : ah_Ev mt_X_count (d - 1) A [.ref b, .int (f 1)] (rg LTc (rg LTm g m E) b D) (.returned (some (.int v))) (rg LTc (rg LTm g m E) b D')) {v' : Int32} (hM : ah_Ev mt_M_count (d - 1) A [.ref m, .int (f 1)] (rg LTm (rg LTc g b D') m E) (.returned (some (.int v'))) (rg LTm (rg LTc g b D') m E')) (hv : v = v') {h0 h2 : ah_H} {o : Outcome} (kk : ah_At mt_A_law d A h0 o h2 1062 [(0, .ref x0), (1, .ref b), (2, .ref m), (3, .ref x3), (4, .int x4)] [] (HH g b m D' E')) : ah_At mt_A_law d A h0 o h2 1037 [(0, .ref x0), (1, .ref b), (2, .ref m), (3, .ref x3), (4, .int x4)] [] (HH g b m D E) := by
  subst hv
  obtain ⟨j1, i1, s1⟩ := rd.r1
  refine b_A_law_1037 i1 (HH_rd G s1) (evC G.bm hX) (by omega) (fun q hq => hq) ?_ (HH_6 G.bm)
  refine aft_1 ?_
  refine b_A_law_1047 i1 (HH_rd G s1) hM (by omega) (fun q hq => hq) ?_ HH_7
  refine aft_1 ?_
  exact b_A_law_1057 (fun _ => kk) (fun z => absurd rfl z)
theorem l_out0 {d : Nat} {A : Nat → Prop} {g : ah_H} {b m x0 x3 : Nat} {sc : List Value} {x4 : Int32} {f : Nat → Int32} {D D' E E' : rg_D} (G : LG g b m x0 x3 sc) (rd : Rd sc x4 f) (hd : 60 ≤ d) (hz : f 2 = 0) {v : Int32} (hX : ah_Ev mt_X_out (d - 1) A [.ref b, .int (f 1), .int 0] (rg LTc (rg LTm g m E) b D) (.returned (some (.int v))) (rg LTc (rg LTm g m E) b D')) {v' : Int32} (hM : ah_Ev mt_M_out (d - 1) A [.ref m, .int (f 1), .int 0] (rg LTm (rg LTc g b D') m E) (.returned (some (.int v'))) (rg LTm (rg LTc g b D') m E')) (hv : v = v') {h0 h2 : ah_H} {o : Outcome} (kk : ah_At mt_A_law d A h0 o h2 1062 [(0, .ref x0), (1, .ref b), (2, .ref m), (3, .ref x3), (4, .int x4)] [] (HH g b m D' E')) : ah_At mt_A_law d A h0 o h2 582 [(0, .ref x0), (1, .ref b), (2, .ref m), (3, .ref x3), (4, .int x4)] [] (HH g b m D E) := by
  subst hv
  obtain ⟨j1, i1, s1⟩ := rd.r1
  obtain ⟨j2, i2, s2⟩ := rd.r2
  refine b_A_law_582 i1 (HH_rd G s1) i2 (HH_rd G s2) (fun _ => ?_) (fun y => absurd hz y)
  refine b_A_law_602 ?_
  refine b_A_law_603 (evC G.bm hX) (by omega) (fun q hq => hq) ?_ (HH_6 G.bm)
  refine aft_1 ?_
  refine b_A_law_606 i1 (HH_rd G s1) i2 (HH_rd G s2) (fun _ => ?_) (fun y => absurd hz y)
  refine b_A_law_626 ?_
  refine b_A_law_627 hM (by omega) (fun q hq => hq) ?_ HH_7
  refine aft_1 ?_
  exact b_A_law_630 (fun _ => kk) (fun z => absurd rfl z)
theorem l_out1 {d : Nat} {A : Nat → Prop} {g : ah_H} {b m x0 x3 : Nat} {sc : List Value} {x4 : Int32} {f : Nat → Int32} {D D' E E' : rg_D} (G : LG g b m x0 x3 sc) (rd : Rd sc x4 f) (hd : 60 ≤ d) (hz : ¬ f 2 = 0) {v : Int32} (hX : ah_Ev mt_X_out (d - 1) A [.ref b, .int (f 1), .int 1] (rg LTc (rg LTm g m E) b D) (.returned (some (.int v))) (rg LTc (rg LTm g m E) b D')) {v' : Int32} (hM : ah_Ev mt_M_out (d - 1) A [.ref m, .int (f 1), .int 1] (rg LTm (rg LTc g b D') m E) (.returned (some (.int v'))) (rg LTm (rg LTc g b D') m E')) (hv : v = v') {h0 h2 : ah_H} {o : Outcome} (kk : ah_At mt_A_law d A h0 o h2 1062 [(0, .ref x0), (1, .ref b), (2, .ref m), (3, .ref x3), (4, .int x4)] [] (HH g b m D' E')) : ah_At mt_A_law d A h0 o h2 582 [(0, .ref x0), (1, .ref b), (2, .ref m), (3, .ref x3), (4, .int x4)] [] (HH g b m D E) := by
  subst hv
  obtain ⟨j1, i1, s1⟩ := rd.r1
  obtain ⟨j2, i2, s2⟩ := rd.r2
  refine b_A_law_582 i1 (HH_rd G s1) i2 (HH_rd G s2) (fun y => absurd y hz) (fun _ => ?_)
  refine b_A_law_598 ?_
  refine b_A_law_603 (evC G.bm hX) (by omega) (fun q hq => hq) ?_ (HH_6 G.bm)
  refine aft_1 ?_
  refine b_A_law_606 i1 (HH_rd G s1) i2 (HH_rd G s2) (fun y => absurd y hz) (fun _ => ?_)
  refine b_A_law_622 ?_
  refine b_A_law_627 hM (by omega) (fun q hq => hq) ?_ HH_7
  refine aft_1 ?_
  exact b_A_law_630 (fun _ => kk) (fun z => absurd rfl z)
