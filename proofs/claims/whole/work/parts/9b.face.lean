/-! CONTRACTS: the public face. Printed out of wip/ -/
theorem stcI0 {g : ah_H} {b i t f j x : Nat} {D : rg_D} {v : Int32} (h : lk LTc 0 i = some (t, (1, f, j))) (e : v = nI x) : ah_sto (rg LTc g b D) b i (.int v) = rg LTc g b (up D f j x) := stcI (k := 0) h e
theorem stcL0 {g : ah_H} {b i t f j x : Nat} {D : rg_D} {v : Int64} (h : lk LTc 0 i = some (t, (2, f, j))) (e : v = lN x) : ah_sto (rg LTc g b D) b i (.long v) = rg LTc g b (up D f j x) := stcL (k := 0) h e
theorem stcS0 {g : ah_H} {b i t f j x : Nat} {D : rg_D} {v : Int32} (h : lk LTc 0 i = some (t, (3, f, j))) (e : v = nI x - 1) : ah_sto (rg LTc g b D) b i (.int v) = rg LTc g b (up D f j x) := stcS (k := 0) h e
theorem stmI0 {g : ah_H} {b i t f j x : Nat} {D : rg_D} {v : Int32} (h : lk LTm 0 i = some (t, (1, f, j))) (e : v = nI x) : ah_sto (rg LTm g b D) b i (.int v) = rg LTm g b (up D f j x) := stmI (k := 0) h e
theorem stmL0 {g : ah_H} {b i t f j x : Nat} {D : rg_D} {v : Int64} (h : lk LTm 0 i = some (t, (2, f, j))) (e : v = lN x) : ah_sto (rg LTm g b D) b i (.long v) = rg LTm g b (up D f j x) := stmL (k := 0) h e
theorem stmS0 {g : ah_H} {b i t f j x : Nat} {D : rg_D} {v : Int32} (h : lk LTm 0 i = some (t, (3, f, j))) (e : v = nI x - 1) : ah_sto (rg LTm g b D) b i (.int v) = rg LTm g b (up D f j x) := stmS (k := 0) h e
theorem x_wagon1 {d : Nat} {A : Nat → Prop} {g : ah_H} {b : Nat} {D : rg_D} (hO : ∀ f j, D f j < 2 ^ 30) (hA0 : ∀ q, ¬ A q) (hs9 : ∃ a c, (rg LTc g b D).2.2 a = some (97, c)) (hd : 10 ≤ d) {x1 : Int32} {p1 : Int} (h1 : x1.toInt = p1) {x2 : Int64} {p2 : Int} (h2 : x2.toInt = p2) {x3 : Int32} {p3 : Int} (h3 : x3.toInt = p3) {x4 : Int32} {p4 : Int} (h4 : x4.toInt = p4) (hn : ¬ ((1 ≤ p1 ∧ p1 ≤ 30) ∧ (0 ≤ p2 ∧ p2 ≤ 1000000) ∧ (0 ≤ p3 ∧ p3 ≤ 8) ∧ (1 ≤ p4 ∧ p4 ≤ 100))) : ah_Ev mt_X_wagon d A [.ref b, .int x1, .long x2, .int x3, .int x4] (rg LTc g b D) (.threw g.1) (ah_newx (rg LTc g b D) 90) := by
  refine ah_Ev.of (by decide +kernel) (Nat.le_of_ble_eq_true rfl) ?_
  show ah_At mt_X_wagon d A (rg LTc g b D) (.threw g.1) (ah_newx (rg LTc g b D) 90) 0 [(0, .ref b), (1, .int x1), (2, .long x2), (4, .int x3), (5, .int x4)] [] (rg LTc g b D)
  refine b_X_wagon_0 (c_isBetween (d := d - 1) (A := A) ((i2l_toInt x1).trans h1) (show ((1 : Int64)).toInt = 1 from by decide) (show ((30 : Int64)).toInt = 30 from by decide)) (by omega) (fun q hq => hq) ?_
  refine aft_1 ?_
  refine b_X_wagon_9 (fun z1 => ?_) (fun z1 => ?_)
  · replace z1 := pz0.mp z1
    exact b_X_wagon_49 hA0 (by omega) hs9
  · replace z1 := pz1.mp z1
    refine b_X_wagon_12 (c_isBetween (d := d - 1) (A := A) h2 (show ((0 : Int64)).toInt = 0 from by decide) (show ((1000000 : Int64)).toInt = 1000000 from by decide)) (by omega) (fun q hq => hq) ?_
    refine aft_1 ?_
    refine b_X_wagon_20 (fun z2 => ?_) (fun z2 => ?_)
    · replace z2 := pz0.mp z2
      exact b_X_wagon_49 hA0 (by omega) hs9
    · replace z2 := pz1.mp z2
      refine b_X_wagon_23 (c_isBetween (d := d - 1) (A := A) ((i2l_toInt x3).trans h3) (show ((0 : Int64)).toInt = 0 from by decide) (show ((8 : Int64)).toInt = 8 from by decide)) (by omega) (fun q hq => hq) ?_
      refine aft_1 ?_
      refine b_X_wagon_33 (fun z3 => ?_) (fun z3 => ?_)
      · replace z3 := pz0.mp z3
        exact b_X_wagon_49 hA0 (by omega) hs9
      · replace z3 := pz1.mp z3
        refine b_X_wagon_36 (c_isBetween (d := d - 1) (A := A) ((i2l_toInt x4).trans h4) (show ((1 : Int64)).toInt = 1 from by decide) (show ((100 : Int64)).toInt = 100 from by decide)) (by omega) (fun q hq => hq) ?_
        refine aft_1 ?_
        refine b_X_wagon_46 (fun z4 => ?_) (fun z4 => ?_)
        · replace z4 := pz1.mp z4
          exfalso; omega
        · replace z4 := pz0.mp (Decidable.not_not.mp z4)
          exact b_X_wagon_49 hA0 (by omega) hs9
theorem x_wagon2 {d : Nat} {A : Nat → Prop} {g : ah_H} {b : Nat} {D : rg_D} (hO : ∀ f j, D f j < 2 ^ 30) (hA0 : ∀ q, ¬ A q) (hs9 : ∃ a c, (rg LTc g b D).2.2 a = some (97, c)) (hd : 10 ≤ d) {x1 : Int32} {p1 : Int} (h1 : x1.toInt = p1) {x2 : Int64} {p2 : Int} (h2 : x2.toInt = p2) {x3 : Int32} {p3 : Int} (h3 : x3.toInt = p3) {x4 : Int32} {p4 : Int} (h4 : x4.toInt = p4) (g1 : 1 ≤ p1 ∧ p1 ≤ 30) (g2 : 0 ≤ p2 ∧ p2 ≤ 1000000) (g3 : 0 ≤ p3 ∧ p3 ≤ 8) (g4 : 1 ≤ p4 ∧ p4 ≤ 100) (hn : ¬ D 0 0 < 3) : ah_Ev mt_X_wagon d A [.ref b, .int x1, .long x2, .int x3, .int x4] (rg LTc g b D) (.threw g.1) (ah_newx (rg LTc g b D) 91) := by
  refine ah_Ev.of (by decide +kernel) (Nat.le_of_ble_eq_true rfl) ?_
  show ah_At mt_X_wagon d A (rg LTc g b D) (.threw g.1) (ah_newx (rg LTc g b D) 91) 0 [(0, .ref b), (1, .int x1), (2, .long x2), (4, .int x3), (5, .int x4)] [] (rg LTc g b D)
  refine b_X_wagon_0 (c_isBetween (d := d - 1) (A := A) ((i2l_toInt x1).trans h1) (show ((1 : Int64)).toInt = 1 from by decide) (show ((30 : Int64)).toInt = 30 from by decide)) (by omega) (fun q hq => hq) ?_
  refine aft_1 ?_
  refine b_X_wagon_9 (fun z1 => ?_) (fun z1 => ?_)
  · replace z1 := pz0.mp z1
    exfalso; omega
  · replace z1 := pz1.mp z1
    refine b_X_wagon_12 (c_isBetween (d := d - 1) (A := A) h2 (show ((0 : Int64)).toInt = 0 from by decide) (show ((1000000 : Int64)).toInt = 1000000 from by decide)) (by omega) (fun q hq => hq) ?_
    refine aft_1 ?_
    refine b_X_wagon_20 (fun z2 => ?_) (fun z2 => ?_)
    · replace z2 := pz0.mp z2
      exfalso; omega
    · replace z2 := pz1.mp z2
      refine b_X_wagon_23 (c_isBetween (d := d - 1) (A := A) ((i2l_toInt x3).trans h3) (show ((0 : Int64)).toInt = 0 from by decide) (show ((8 : Int64)).toInt = 8 from by decide)) (by omega) (fun q hq => hq) ?_
      refine aft_1 ?_
      refine b_X_wagon_33 (fun z3 => ?_) (fun z3 => ?_)
      · replace z3 := pz0.mp z3
        exfalso; omega
      · replace z3 := pz1.mp z3
        refine b_X_wagon_36 (c_isBetween (d := d - 1) (A := A) ((i2l_toInt x4).trans h4) (show ((1 : Int64)).toInt = 1 from by decide) (show ((100 : Int64)).toInt = 100 from by decide)) (by omega) (fun q hq => hq) ?_
        refine aft_1 ?_
        refine b_X_wagon_46 (fun z4 => ?_) (fun z4 => ?_)
        · replace z4 := pz1.mp z4
          refine b_X_wagon_59 (rdR (k_X_0)) (rdI (k_T_1) rfl) (fun z5 => ?_) (fun z5 => ?_)
          · replace z5 := (cvlt (nI_toInt (n := D 0 0) (by have := hO 0 0; omega)) (show ((3 : Int32)).toInt = 3 from by decide)).mp z5
            exfalso; omega
          · replace z5 := mt (cvlt (nI_toInt (n := D 0 0) (by have := hO 0 0; omega)) (show ((3 : Int32)).toInt = 3 from by decide)).mpr z5
            exact b_X_wagon_70 hA0 (by omega) hs9
        · replace z4 := pz0.mp (Decidable.not_not.mp z4)
          exfalso; omega
theorem x_wagon0 {d : Nat} {A : Nat → Prop} {g : ah_H} {b : Nat} {D : rg_D} (hO : ∀ f j, D f j < 2 ^ 30) (hA : ∀ q, b ≤ q → q < b + 75 → A q) (hd : 30 ≤ d) {l q a u : Nat} (g1 : 1 ≤ l ∧ l ≤ 30) (g2 : q ≤ 1000000) (g3 : a ≤ 8) (g4 : 1 ≤ u ∧ u ≤ 100) (hn : D 0 0 < 3) : ah_Ev mt_X_wagon d A [.ref b, .int (nI l), .long (lN q), .int (nI a), .int (nI u)] (rg LTc g b D) (.returned (some (.int (nI (D 0 0))))) (rg LTc g b (aW (up D 16 0 0) l q a u)) := by
  refine ah_Ev.of (by decide +kernel) (Nat.le_of_ble_eq_true rfl) ?_
  show ah_At mt_X_wagon d A (rg LTc g b D) (.returned (some (.int (nI (D 0 0))))) (rg LTc g b (aW (up D 16 0 0) l q a u)) 0 [(0, .ref b), (1, .int (nI l)), (2, .long (lN q)), (4, .int (nI a)), (5, .int (nI u))] [] (rg LTc g b D)
  refine b_X_wagon_0 (c_isBetween (d := d - 1) (A := A) (tl_n (show (Int32.toInt64 (nI l) : Int64) = lN (l) from (il_n rfl (by omega))) (by omega)) (show ((1 : Int64)).toInt = 1 from by decide) (show ((30 : Int64)).toInt = 30 from by decide)) (by omega) (fun q hq => hq) ?_
  refine aft_1 ?_
  refine b_X_wagon_9 (fun z1 => ?_) (fun z1 => ?_)
  · replace z1 := pz0.mp z1
    exfalso; omega
  · replace z1 := pz1.mp z1
    refine b_X_wagon_12 (c_isBetween (d := d - 1) (A := A) (lN_toInt (n := q) (by omega)) (show ((0 : Int64)).toInt = 0 from by decide) (show ((1000000 : Int64)).toInt = 1000000 from by decide)) (by omega) (fun q hq => hq) ?_
    refine aft_1 ?_
    refine b_X_wagon_20 (fun z2 => ?_) (fun z2 => ?_)
    · replace z2 := pz0.mp z2
      exfalso; omega
    · replace z2 := pz1.mp z2
      refine b_X_wagon_23 (c_isBetween (d := d - 1) (A := A) (tl_n (show (Int32.toInt64 (nI a) : Int64) = lN (a) from (il_n rfl (by omega))) (by omega)) (show ((0 : Int64)).toInt = 0 from by decide) (show ((8 : Int64)).toInt = 8 from by decide)) (by omega) (fun q hq => hq) ?_
      refine aft_1 ?_
      refine b_X_wagon_33 (fun z3 => ?_) (fun z3 => ?_)
      · replace z3 := pz0.mp z3
        exfalso; omega
      · replace z3 := pz1.mp z3
        refine b_X_wagon_36 (c_isBetween (d := d - 1) (A := A) (tl_n (show (Int32.toInt64 (nI u) : Int64) = lN (u) from (il_n rfl (by omega))) (by omega)) (show ((1 : Int64)).toInt = 1 from by decide) (show ((100 : Int64)).toInt = 100 from by decide)) (by omega) (fun q hq => hq) ?_
        refine aft_1 ?_
        refine b_X_wagon_46 (fun z4 => ?_) (fun z4 => ?_)
        · replace z4 := pz1.mp z4
          refine b_X_wagon_59 (rdR (k_X_0)) (rdI (k_T_1) rfl) (fun z5 => ?_) (fun z5 => ?_)
          · replace z5 := (cvlt (nI_toInt (n := D 0 0) (by have := hO 0 0; omega)) (show ((3 : Int32)).toInt = 3 from by decide)).mp z5
            refine b_X_wagon_80 (o' := .returned (some (.int (nI (up D 16 0 0 0 0))))) (h' := (rg LTc g b (aW (up D 16 0 0) l q a u))) (v2 := b + 1) (hA _ (by omega) (by omega)) (rdE (k_X_2)) (by rw [stcI0 (x := 0) (v := 0) (k_X_2) rfl]; exact (rdR (k_X_0))) (by rw [stcI0 (x := 0) (v := 0) (k_X_2) rfl]; exact c_addWagon (d := d - 1) (A := A) (D := up D 16 0 0) (up_O hO (by decide)) hA (by rw [up_f (by decide)]; exact hn)) (by omega) (fun q hq => hq) ?_ (by rw [stcI0 (x := 0) (v := 0) (k_X_2) rfl]; exact (rdN (k_T_0)))
            refine aft_1 ?_
            refine rt_i ?_ ?_ (b_X_wagon_98 )
            · rw [up_f (by decide)]
            · rfl
          · replace z5 := mt (cvlt (nI_toInt (n := D 0 0) (by have := hO 0 0; omega)) (show ((3 : Int32)).toInt = 3 from by decide)).mpr z5
            exfalso; omega
        · replace z4 := pz0.mp (Decidable.not_not.mp z4)
          exfalso; omega
theorem x_box1 {d : Nat} {A : Nat → Prop} {g : ah_H} {b : Nat} {D : rg_D} (hO : ∀ f j, D f j < 2 ^ 30) (hA0 : ∀ q, ¬ A q) (hs9 : ∃ a c, (rg LTc g b D).2.2 a = some (97, c)) (hd : 10 ≤ d) {x1 : Int32} {p1 : Int} (h1 : x1.toInt = p1) {x2 : Int64} {p2 : Int} (h2 : x2.toInt = p2) {x3 : Int32} {p3 : Int} (h3 : x3.toInt = p3) {x4 : Int32} {p4 : Int} (h4 : x4.toInt = p4) {x5 : Int64} {p5 : Int} (h5 : x5.toInt = p5) (hn : ¬ ((1 ≤ p1 ∧ p1 ≤ 3) ∧ (0 ≤ p2 ∧ p2 ≤ 1000000) ∧ (1 ≤ p3 ∧ p3 ≤ 100) ∧ (0 ≤ p4 ∧ p4 ≤ 3) ∧ (0 ≤ p5 ∧ p5 ≤ 1000000000))) : ah_Ev mt_X_box d A [.ref b, .int x1, .long x2, .int x3, .int x4, .long x5] (rg LTc g b D) (.threw g.1) (ah_newx (rg LTc g b D) 90) := by
  refine ah_Ev.of (by decide +kernel) (Nat.le_of_ble_eq_true rfl) ?_
  show ah_At mt_X_box d A (rg LTc g b D) (.threw g.1) (ah_newx (rg LTc g b D) 90) 0 [(0, .ref b), (1, .int x1), (2, .long x2), (4, .int x3), (5, .int x4), (6, .long x5)] [] (rg LTc g b D)
  refine b_X_box_0 (c_isBetween (d := d - 1) (A := A) ((i2l_toInt x1).trans h1) (show ((1 : Int64)).toInt = 1 from by decide) (show ((3 : Int64)).toInt = 3 from by decide)) (by omega) (fun q hq => hq) ?_
  refine aft_1 ?_
  refine b_X_box_9 (fun z1 => ?_) (fun z1 => ?_)
  · replace z1 := pz0.mp z1
    exact b_X_box_61 hA0 (by omega) hs9
  · replace z1 := pz1.mp z1
    refine b_X_box_12 (c_isBetween (d := d - 1) (A := A) h2 (show ((0 : Int64)).toInt = 0 from by decide) (show ((1000000 : Int64)).toInt = 1000000 from by decide)) (by omega) (fun q hq => hq) ?_
    refine aft_1 ?_
    refine b_X_box_20 (fun z2 => ?_) (fun z2 => ?_)
    · replace z2 := pz0.mp z2
      exact b_X_box_61 hA0 (by omega) hs9
    · replace z2 := pz1.mp z2
      refine b_X_box_23 (c_isBetween (d := d - 1) (A := A) ((i2l_toInt x3).trans h3) (show ((1 : Int64)).toInt = 1 from by decide) (show ((100 : Int64)).toInt = 100 from by decide)) (by omega) (fun q hq => hq) ?_
      refine aft_1 ?_
      refine b_X_box_33 (fun z3 => ?_) (fun z3 => ?_)
      · replace z3 := pz0.mp z3
        exact b_X_box_61 hA0 (by omega) hs9
      · replace z3 := pz1.mp z3
        refine b_X_box_36 (c_isBetween (d := d - 1) (A := A) ((i2l_toInt x4).trans h4) (show ((0 : Int64)).toInt = 0 from by decide) (show ((3 : Int64)).toInt = 3 from by decide)) (by omega) (fun q hq => hq) ?_
        refine aft_1 ?_
        refine b_X_box_46 (fun z4 => ?_) (fun z4 => ?_)
        · replace z4 := pz0.mp z4
          exact b_X_box_61 hA0 (by omega) hs9
        · replace z4 := pz1.mp z4
          refine b_X_box_49 (c_isBetween (d := d - 1) (A := A) h5 (show ((0 : Int64)).toInt = 0 from by decide) (show ((1000000000 : Int64)).toInt = 1000000000 from by decide)) (by omega) (fun q hq => hq) ?_
          refine aft_1 ?_
          refine b_X_box_58 (fun z5 => ?_) (fun z5 => ?_)
          · replace z5 := pz1.mp z5
            exfalso; omega
          · replace z5 := pz0.mp (Decidable.not_not.mp z5)
            exact b_X_box_61 hA0 (by omega) hs9
theorem x_box2 {d : Nat} {A : Nat → Prop} {g : ah_H} {b : Nat} {D : rg_D} (hO : ∀ f j, D f j < 2 ^ 30) (hA0 : ∀ q, ¬ A q) (hs9 : ∃ a c, (rg LTc g b D).2.2 a = some (97, c)) (hd : 10 ≤ d) {x1 : Int32} {p1 : Int} (h1 : x1.toInt = p1) {x2 : Int64} {p2 : Int} (h2 : x2.toInt = p2) {x3 : Int32} {p3 : Int} (h3 : x3.toInt = p3) {x4 : Int32} {p4 : Int} (h4 : x4.toInt = p4) {x5 : Int64} {p5 : Int} (h5 : x5.toInt = p5) (g1 : 1 ≤ p1 ∧ p1 ≤ 3) (g2 : 0 ≤ p2 ∧ p2 ≤ 1000000) (g3 : 1 ≤ p3 ∧ p3 ≤ 100) (g4 : 0 ≤ p4 ∧ p4 ≤ 3) (g5 : 0 ≤ p5 ∧ p5 ≤ 1000000000) (hn : ¬ D 1 0 < 8) : ah_Ev mt_X_box d A [.ref b, .int x1, .long x2, .int x3, .int x4, .long x5] (rg LTc g b D) (.threw g.1) (ah_newx (rg LTc g b D) 91) := by
  refine ah_Ev.of (by decide +kernel) (Nat.le_of_ble_eq_true rfl) ?_
  show ah_At mt_X_box d A (rg LTc g b D) (.threw g.1) (ah_newx (rg LTc g b D) 91) 0 [(0, .ref b), (1, .int x1), (2, .long x2), (4, .int x3), (5, .int x4), (6, .long x5)] [] (rg LTc g b D)
  refine b_X_box_0 (c_isBetween (d := d - 1) (A := A) ((i2l_toInt x1).trans h1) (show ((1 : Int64)).toInt = 1 from by decide) (show ((3 : Int64)).toInt = 3 from by decide)) (by omega) (fun q hq => hq) ?_
  refine aft_1 ?_
  refine b_X_box_9 (fun z1 => ?_) (fun z1 => ?_)
  · replace z1 := pz0.mp z1
    exfalso; omega
  · replace z1 := pz1.mp z1
    refine b_X_box_12 (c_isBetween (d := d - 1) (A := A) h2 (show ((0 : Int64)).toInt = 0 from by decide) (show ((1000000 : Int64)).toInt = 1000000 from by decide)) (by omega) (fun q hq => hq) ?_
    refine aft_1 ?_
    refine b_X_box_20 (fun z2 => ?_) (fun z2 => ?_)
    · replace z2 := pz0.mp z2
      exfalso; omega
    · replace z2 := pz1.mp z2
      refine b_X_box_23 (c_isBetween (d := d - 1) (A := A) ((i2l_toInt x3).trans h3) (show ((1 : Int64)).toInt = 1 from by decide) (show ((100 : Int64)).toInt = 100 from by decide)) (by omega) (fun q hq => hq) ?_
      refine aft_1 ?_
      refine b_X_box_33 (fun z3 => ?_) (fun z3 => ?_)
      · replace z3 := pz0.mp z3
        exfalso; omega
      · replace z3 := pz1.mp z3
        refine b_X_box_36 (c_isBetween (d := d - 1) (A := A) ((i2l_toInt x4).trans h4) (show ((0 : Int64)).toInt = 0 from by decide) (show ((3 : Int64)).toInt = 3 from by decide)) (by omega) (fun q hq => hq) ?_
        refine aft_1 ?_
        refine b_X_box_46 (fun z4 => ?_) (fun z4 => ?_)
        · replace z4 := pz0.mp z4
          exfalso; omega
        · replace z4 := pz1.mp z4
          refine b_X_box_49 (c_isBetween (d := d - 1) (A := A) h5 (show ((0 : Int64)).toInt = 0 from by decide) (show ((1000000000 : Int64)).toInt = 1000000000 from by decide)) (by omega) (fun q hq => hq) ?_
          refine aft_1 ?_
          refine b_X_box_58 (fun z5 => ?_) (fun z5 => ?_)
          · replace z5 := pz1.mp z5
            refine b_X_box_71 (rdR (k_X_0)) (rdI (k_T_3) rfl) (fun z6 => ?_) (fun z6 => ?_)
            · replace z6 := (cvlt (nI_toInt (n := D 1 0) (by have := hO 1 0; omega)) (show ((8 : Int32)).toInt = 8 from by decide)).mp z6
              exfalso; omega
            · replace z6 := mt (cvlt (nI_toInt (n := D 1 0) (by have := hO 1 0; omega)) (show ((8 : Int32)).toInt = 8 from by decide)).mpr z6
              exact b_X_box_83 hA0 (by omega) hs9
          · replace z5 := pz0.mp (Decidable.not_not.mp z5)
            exfalso; omega
theorem x_box0 {d : Nat} {A : Nat → Prop} {g : ah_H} {b : Nat} {D : rg_D} (hO : ∀ f j, D f j < 2 ^ 30) (hA : ∀ q, b ≤ q → q < b + 75 → A q) (hd : 30 ≤ d) {s q h u t : Nat} (g1 : 1 ≤ s ∧ s ≤ 3) (g2 : q ≤ 1000000) (g3 : 1 ≤ h ∧ h ≤ 100) (g4 : u ≤ 3) (g5 : t ≤ 1000000000) (hn : D 1 0 < 8) : ah_Ev mt_X_box d A [.ref b, .int (nI s), .long (lN q), .int (nI h), .int (nI u), .long (lN t)] (rg LTc g b D) (.returned (some (.int (nI (D 1 0))))) (rg LTc g b (aB (up D 16 0 0) s q h u t)) := by
  refine ah_Ev.of (by decide +kernel) (Nat.le_of_ble_eq_true rfl) ?_
  show ah_At mt_X_box d A (rg LTc g b D) (.returned (some (.int (nI (D 1 0))))) (rg LTc g b (aB (up D 16 0 0) s q h u t)) 0 [(0, .ref b), (1, .int (nI s)), (2, .long (lN q)), (4, .int (nI h)), (5, .int (nI u)), (6, .long (lN t))] [] (rg LTc g b D)
  refine b_X_box_0 (c_isBetween (d := d - 1) (A := A) (tl_n (show (Int32.toInt64 (nI s) : Int64) = lN (s) from (il_n rfl (by omega))) (by omega)) (show ((1 : Int64)).toInt = 1 from by decide) (show ((3 : Int64)).toInt = 3 from by decide)) (by omega) (fun q hq => hq) ?_
  refine aft_1 ?_
  refine b_X_box_9 (fun z1 => ?_) (fun z1 => ?_)
  · replace z1 := pz0.mp z1
    exfalso; omega
  · replace z1 := pz1.mp z1
    refine b_X_box_12 (c_isBetween (d := d - 1) (A := A) (lN_toInt (n := q) (by omega)) (show ((0 : Int64)).toInt = 0 from by decide) (show ((1000000 : Int64)).toInt = 1000000 from by decide)) (by omega) (fun q hq => hq) ?_
    refine aft_1 ?_
    refine b_X_box_20 (fun z2 => ?_) (fun z2 => ?_)
    · replace z2 := pz0.mp z2
      exfalso; omega
    · replace z2 := pz1.mp z2
      refine b_X_box_23 (c_isBetween (d := d - 1) (A := A) (tl_n (show (Int32.toInt64 (nI h) : Int64) = lN (h) from (il_n rfl (by omega))) (by omega)) (show ((1 : Int64)).toInt = 1 from by decide) (show ((100 : Int64)).toInt = 100 from by decide)) (by omega) (fun q hq => hq) ?_
      refine aft_1 ?_
      refine b_X_box_33 (fun z3 => ?_) (fun z3 => ?_)
      · replace z3 := pz0.mp z3
        exfalso; omega
      · replace z3 := pz1.mp z3
        refine b_X_box_36 (c_isBetween (d := d - 1) (A := A) (tl_n (show (Int32.toInt64 (nI u) : Int64) = lN (u) from (il_n rfl (by omega))) (by omega)) (show ((0 : Int64)).toInt = 0 from by decide) (show ((3 : Int64)).toInt = 3 from by decide)) (by omega) (fun q hq => hq) ?_
        refine aft_1 ?_
        refine b_X_box_46 (fun z4 => ?_) (fun z4 => ?_)
        · replace z4 := pz0.mp z4
          exfalso; omega
        · replace z4 := pz1.mp z4
          refine b_X_box_49 (c_isBetween (d := d - 1) (A := A) (lN_toInt (n := t) (by omega)) (show ((0 : Int64)).toInt = 0 from by decide) (show ((1000000000 : Int64)).toInt = 1000000000 from by decide)) (by omega) (fun q hq => hq) ?_
          refine aft_1 ?_
          refine b_X_box_58 (fun z5 => ?_) (fun z5 => ?_)
          · replace z5 := pz1.mp z5
            refine b_X_box_71 (rdR (k_X_0)) (rdI (k_T_3) rfl) (fun z6 => ?_) (fun z6 => ?_)
            · replace z6 := (cvlt (nI_toInt (n := D 1 0) (by have := hO 1 0; omega)) (show ((8 : Int32)).toInt = 8 from by decide)).mp z6
              refine b_X_box_93 (o' := .returned (some (.int (nI (up D 16 0 0 1 0))))) (h' := (rg LTc g b (aB (up D 16 0 0) s q h u t))) (v2 := b + 1) (hA _ (by omega) (by omega)) (rdE (k_X_2)) (by rw [stcI0 (x := 0) (v := 0) (k_X_2) rfl]; exact (rdR (k_X_0))) (by rw [stcI0 (x := 0) (v := 0) (k_X_2) rfl]; exact c_addBox (d := d - 1) (A := A) (D := up D 16 0 0) (up_O hO (by decide)) hA (by rw [up_f (by decide)]; exact hn)) (by omega) (fun q hq => hq) ?_ (by rw [stcI0 (x := 0) (v := 0) (k_X_2) rfl]; exact (rdN (k_T_0)))
              refine aft_1 ?_
              refine rt_i ?_ ?_ (b_X_box_113 )
              · rw [up_f (by decide)]
              · rfl
            · replace z6 := mt (cvlt (nI_toInt (n := D 1 0) (by have := hO 1 0; omega)) (show ((8 : Int32)).toInt = 8 from by decide)).mpr z6
              exfalso; omega
          · replace z5 := pz0.mp (Decidable.not_not.mp z5)
            exfalso; omega
theorem x_rule1 {d : Nat} {A : Nat → Prop} {g : ah_H} {b : Nat} {D : rg_D} (hO : ∀ f j, D f j < 2 ^ 30) (hd : 2 ≤ d) {x1 : Int32} {p1 : Int} (h1 : x1.toInt = p1) {x2 : Int32} {p2 : Int} (h2 : x2.toInt = p2) {x3 : Int32} {p3 : Int} (h3 : x3.toInt = p3) (hn : ¬ ((1 ≤ p1 ∧ p1 ≤ 3) ∧ (1 ≤ p2 ∧ p2 ≤ 3) ∧ (0 ≤ p3 ∧ p3 ≤ 2))) : ah_Ev mt_X_rule d A [.ref b, .int x1, .int x2, .int x3] (rg LTc g b D) (.returned (some (.int 0))) (rg LTc g b D) := by
  refine ah_Ev.of (by decide +kernel) (Nat.le_of_ble_eq_true rfl) ?_
  show ah_At mt_X_rule d A (rg LTc g b D) (.returned (some (.int 0))) (rg LTc g b D) 0 [(0, .ref b), (1, .int x1), (2, .int x2), (3, .int x3)] [] (rg LTc g b D)
  refine b_X_rule_0 (c_isBetween (d := d - 1) (A := A) ((i2l_toInt x1).trans h1) (show ((1 : Int64)).toInt = 1 from by decide) (show ((3 : Int64)).toInt = 3 from by decide)) (by omega) (fun q hq => hq) ?_
  refine aft_1 ?_
  refine b_X_rule_9 (fun z1 => ?_) (fun z1 => ?_)
  · replace z1 := pz0.mp z1
    refine rt_i ?_ ?_ (b_X_rule_36 )
    · rfl
    · rfl
  · replace z1 := pz1.mp z1
    refine b_X_rule_12 (c_isBetween (d := d - 1) (A := A) ((i2l_toInt x2).trans h2) (show ((1 : Int64)).toInt = 1 from by decide) (show ((3 : Int64)).toInt = 3 from by decide)) (by omega) (fun q hq => hq) ?_
    refine aft_1 ?_
    refine b_X_rule_21 (fun z2 => ?_) (fun z2 => ?_)
    · replace z2 := pz0.mp z2
      refine rt_i ?_ ?_ (b_X_rule_36 )
      · rfl
      · rfl
    · replace z2 := pz1.mp z2
      refine b_X_rule_24 (c_isBetween (d := d - 1) (A := A) ((i2l_toInt x3).trans h3) (show ((0 : Int64)).toInt = 0 from by decide) (show ((2 : Int64)).toInt = 2 from by decide)) (by omega) (fun q hq => hq) ?_
      refine aft_1 ?_
      refine b_X_rule_33 (fun z3 => ?_) (fun z3 => ?_)
      · replace z3 := pz1.mp z3
        exfalso; omega
      · replace z3 := pz0.mp (Decidable.not_not.mp z3)
        refine rt_i ?_ ?_ (b_X_rule_36 )
        · rfl
        · rfl
theorem x_rule0 {d : Nat} {A : Nat → Prop} {g : ah_H} {b : Nat} {D : rg_D} (hO : ∀ f j, D f j < 2 ^ 30) (hA : ∀ q, b ≤ q → q < b + 75 → A q) (hd : 30 ≤ d) {a c r : Nat} (g1 : 1 ≤ a ∧ a ≤ 3) (g2 : 1 ≤ c ∧ c ≤ 3) (g3 : r ≤ 2) : ah_Ev mt_X_rule d A [.ref b, .int (nI a), .int (nI c), .int (nI r)] (rg LTc g b D) (.returned (some (.int 1))) (rg LTc g b (up (up (up D 16 0 0) 15 (4 * a + c) r) 15 (4 * c + a) r)) := by
  refine ah_Ev.of (by decide +kernel) (Nat.le_of_ble_eq_true rfl) ?_
  show ah_At mt_X_rule d A (rg LTc g b D) (.returned (some (.int 1))) (rg LTc g b (up (up (up D 16 0 0) 15 (4 * a + c) r) 15 (4 * c + a) r)) 0 [(0, .ref b), (1, .int (nI a)), (2, .int (nI c)), (3, .int (nI r))] [] (rg LTc g b D)
  refine b_X_rule_0 (c_isBetween (d := d - 1) (A := A) (tl_n (show (Int32.toInt64 (nI a) : Int64) = lN (a) from (il_n rfl (by omega))) (by omega)) (show ((1 : Int64)).toInt = 1 from by decide) (show ((3 : Int64)).toInt = 3 from by decide)) (by omega) (fun q hq => hq) ?_
  refine aft_1 ?_
  refine b_X_rule_9 (fun z1 => ?_) (fun z1 => ?_)
  · replace z1 := pz0.mp z1
    exfalso; omega
  · replace z1 := pz1.mp z1
    refine b_X_rule_12 (c_isBetween (d := d - 1) (A := A) (tl_n (show (Int32.toInt64 (nI c) : Int64) = lN (c) from (il_n rfl (by omega))) (by omega)) (show ((1 : Int64)).toInt = 1 from by decide) (show ((3 : Int64)).toInt = 3 from by decide)) (by omega) (fun q hq => hq) ?_
    refine aft_1 ?_
    refine b_X_rule_21 (fun z2 => ?_) (fun z2 => ?_)
    · replace z2 := pz0.mp z2
      exfalso; omega
    · replace z2 := pz1.mp z2
      refine b_X_rule_24 (c_isBetween (d := d - 1) (A := A) (tl_n (show (Int32.toInt64 (nI r) : Int64) = lN (r) from (il_n rfl (by omega))) (by omega)) (show ((0 : Int64)).toInt = 0 from by decide) (show ((2 : Int64)).toInt = 2 from by decide)) (by omega) (fun q hq => hq) ?_
      refine aft_1 ?_
      refine b_X_rule_33 (fun z3 => ?_) (fun z3 => ?_)
      · replace z3 := pz1.mp z3
        refine rt_i ?_ ?_ (b_X_rule_38 (v2 := b + 1) (v3 := b + 4) (v4 := b + (5 + a)) (v6 := b + 1) (v7 := b + 4) (v8 := b + (5 + c)) (hA _ (by omega) (by omega)) (rdE (k_X_2)) (by rw [stcI0 (x := 0) (v := 0) (k_X_2) rfl]; exact (rdR (k_X_0))) (by rw [stcI0 (x := 0) (v := 0) (k_X_2) rfl]; exact (rdR (k_T_4))) (ah_ix_nI (by omega)) (by rw [stcI0 (x := 0) (v := 0) (k_X_2) rfl]; exact (rdR (k_RR _ (by omega)))) (hA _ (by omega) (by omega)) (ah_ix_nI (by omega)) (by rw [stcI0 (x := 0) (v := 0) (k_X_2) rfl]; exact (rdE (k_R _ (by omega) _ (by omega)))) (by rw [stcI0 (x := 0) (v := 0) (k_X_2) rfl, stcI (x := r) (v := nI r) (k_R _ (by omega) _ (by omega)) rfl]; exact (rdR (k_X_0))) (by rw [stcI0 (x := 0) (v := 0) (k_X_2) rfl, stcI (x := r) (v := nI r) (k_R _ (by omega) _ (by omega)) rfl]; exact (rdR (k_T_4))) (ah_ix_nI (by omega)) (by rw [stcI0 (x := 0) (v := 0) (k_X_2) rfl, stcI (x := r) (v := nI r) (k_R _ (by omega) _ (by omega)) rfl]; exact (rdR (k_RR _ (by omega)))) (hA _ (by omega) (by omega)) (ah_ix_nI (by omega)) (by rw [stcI0 (x := 0) (v := 0) (k_X_2) rfl, stcI (x := r) (v := nI r) (k_R _ (by omega) _ (by omega)) rfl]; exact (rdE (k_R _ (by omega) _ (by omega)))))
        · rfl
        · rw [stcI0 (x := 0) (v := 0) (k_X_2) rfl, stcI (x := r) (v := nI r) (k_R _ (by omega) _ (by omega)) rfl, stcI (x := r) (v := nI r) (k_R _ (by omega) _ (by omega)) rfl] <;> (rfl)
      · replace z3 := pz0.mp (Decidable.not_not.mp z3)
        exfalso; omega
theorem x_cut1 {d : Nat} {A : Nat → Prop} {g : ah_H} {b : Nat} {D : rg_D} (hO : ∀ f j, D f j < 2 ^ 30) (hd : 2 ≤ d) {x1 : Int64} {p1 : Int} (h1 : x1.toInt = p1) (hn : ¬ (0 ≤ p1 ∧ p1 ≤ 1000000000)) : ah_Ev mt_X_cut d A [.ref b, .long x1] (rg LTc g b D) (.returned (some (.int 0))) (rg LTc g b D) := by
  refine ah_Ev.of (by decide +kernel) (Nat.le_of_ble_eq_true rfl) ?_
  show ah_At mt_X_cut d A (rg LTc g b D) (.returned (some (.int 0))) (rg LTc g b D) 0 [(0, .ref b), (1, .long x1)] [] (rg LTc g b D)
  refine b_X_cut_0 (c_isBetween (d := d - 1) (A := A) h1 (show ((0 : Int64)).toInt = 0 from by decide) (show ((1000000000 : Int64)).toInt = 1000000000 from by decide)) (by omega) (fun q hq => hq) ?_
  refine aft_1 ?_
  refine b_X_cut_8 (fun z1 => ?_) (fun z1 => ?_)
  · replace z1 := pz1.mp z1
    exfalso; omega
  · replace z1 := pz0.mp (Decidable.not_not.mp z1)
    refine rt_i ?_ ?_ (b_X_cut_11 )
    · rfl
    · rfl
theorem x_cut0 {d : Nat} {A : Nat → Prop} {g : ah_H} {b : Nat} {D : rg_D} (hO : ∀ f j, D f j < 2 ^ 30) (hA : ∀ q, b ≤ q → q < b + 75 → A q) (hd : 30 ≤ d) {t : Nat} (g1 : t ≤ 1000000000) : ah_Ev mt_X_cut d A [.ref b, .long (lN t)] (rg LTc g b D) (.returned (some (.int 1))) (rg LTc g b (up (up D 16 0 0) 2 0 t)) := by
  refine ah_Ev.of (by decide +kernel) (Nat.le_of_ble_eq_true rfl) ?_
  show ah_At mt_X_cut d A (rg LTc g b D) (.returned (some (.int 1))) (rg LTc g b (up (up D 16 0 0) 2 0 t)) 0 [(0, .ref b), (1, .long (lN t))] [] (rg LTc g b D)
  refine b_X_cut_0 (c_isBetween (d := d - 1) (A := A) (lN_toInt (n := t) (by omega)) (show ((0 : Int64)).toInt = 0 from by decide) (show ((1000000000 : Int64)).toInt = 1000000000 from by decide)) (by omega) (fun q hq => hq) ?_
  refine aft_1 ?_
  refine b_X_cut_8 (fun z1 => ?_) (fun z1 => ?_)
  · replace z1 := pz1.mp z1
    refine rt_i ?_ ?_ (b_X_cut_13 (v2 := b + 1) (hA _ (by omega) (by omega)) (rdE (k_X_2)) (by rw [stcI0 (x := 0) (v := 0) (k_X_2) rfl]; exact (rdR (k_X_0))) (hA _ (by omega) (by omega)) (by rw [stcI0 (x := 0) (v := 0) (k_X_2) rfl]; exact (rdE (k_T_5))))
    · rfl
    · rw [stcI0 (x := 0) (v := 0) (k_X_2) rfl, stcL (x := t) (v := lN t) (k_T_5) rfl] <;> (rfl)
  · replace z1 := pz0.mp (Decidable.not_not.mp z1)
    exfalso; omega
theorem x_out1 {d : Nat} {A : Nat → Prop} {g : ah_H} {b : Nat} {D : rg_D} (hO : ∀ f j, D f j < 2 ^ 30) (hd : 2 ≤ d) {x1 : Int32} {p1 : Int} (h1 : x1.toInt = p1) {x2 : Int32} (hn : ¬ (0 ≤ p1 ∧ p1 < ((D 0 0 : Nat) : Int))) : ah_Ev mt_X_out d A [.ref b, .int x1, .int x2] (rg LTc g b D) (.returned (some (.int 0))) (rg LTc g b D) := by
  refine ah_Ev.of (by decide +kernel) (Nat.le_of_ble_eq_true rfl) ?_
  show ah_At mt_X_out d A (rg LTc g b D) (.returned (some (.int 0))) (rg LTc g b D) 0 [(0, .ref b), (1, .int x1), (2, .int x2)] [] (rg LTc g b D)
  refine b_X_out_0 (rdR (k_X_0)) (c_hasWagon (d := d - 1) (A := A) hO h1) (by omega) (fun q hq => hq) ?_ (rdN (k_T_0))
  refine aft_1 ?_
  refine b_X_out_8 (fun z1 => ?_) (fun z1 => ?_)
  · replace z1 := pz0.mp z1
    refine rt_i ?_ ?_ (b_X_out_27 )
    · rfl
    · rfl
  · replace z1 := pz1.mp z1
    exfalso; omega
theorem x_out2_0 {d : Nat} {A : Nat → Prop} {g : ah_H} {b : Nat} {D : rg_D} (hO : ∀ f j, D f j < 2 ^ 30) (hd : 2 ≤ d) {w : Nat} (h3 : D 0 0 ≤ 3) (hw : w < D 0 0) (hq : D 7 w = 0) : ah_Ev mt_X_out d A [.ref b, .int (nI w), .int 0] (rg LTc g b D) (.returned (some (.int 0))) (rg LTc g b D) := by
  refine ah_Ev.of (by decide +kernel) (Nat.le_of_ble_eq_true rfl) ?_
  show ah_At mt_X_out d A (rg LTc g b D) (.returned (some (.int 0))) (rg LTc g b D) 0 [(0, .ref b), (1, .int (nI w)), (2, .int 0)] [] (rg LTc g b D)
  refine b_X_out_0 (rdR (k_X_0)) (c_hasWagon (d := d - 1) (A := A) hO (nI_toInt (n := w) (by omega))) (by omega) (fun q hq => hq) ?_ (rdN (k_T_0))
  refine aft_1 ?_
  refine b_X_out_8 (fun z1 => ?_) (fun z1 => ?_)
  · replace z1 := pz0.mp z1
    refine rt_i ?_ ?_ (b_X_out_27 )
    · rfl
    · rfl
  · replace z1 := pz1.mp z1
    refine b_X_out_11 (rdR (k_X_0)) (rdR (k_T_0)) (ah_ix_nI (by omega)) (rdR (k_Gs _ (by omega))) (rdI (k_G_6 _ (by omega)) rfl) (fun z2 => ?_) (fun z2 => ?_)
    · replace z2 := mt (cveq (nI_toInt (n := D 7 w) (by have := hO 7 w; omega)) (show ((0 : Int32)).toInt = 0 from by decide)).mpr z2
      exfalso; omega
    · replace z2 := (cveq (nI_toInt (n := D 7 w) (by have := hO 7 w; omega)) (show ((0 : Int32)).toInt = 0 from by decide)).mp (Decidable.not_not.mp z2)
      refine rt_i ?_ ?_ (b_X_out_27 )
      · rfl
      · rfl
theorem x_out0_0 {d : Nat} {A : Nat → Prop} {g : ah_H} {b : Nat} {D : rg_D} (hO : ∀ f j, D f j < 2 ^ 30) (hA : ∀ q, b ≤ q → q < b + 75 → A q) (hd : 30 ≤ d) {w : Nat} (h3 : D 0 0 ≤ 3) (hw : w < D 0 0) (hq : D 7 w ≠ 0) : ah_Ev mt_X_out d A [.ref b, .int (nI w), .int 0] (rg LTc g b D) (.returned (some (.int 1))) (rg LTc g b (up (up D 16 0 0) 7 w 0)) := by
  refine ah_Ev.of (by decide +kernel) (Nat.le_of_ble_eq_true rfl) ?_
  show ah_At mt_X_out d A (rg LTc g b D) (.returned (some (.int 1))) (rg LTc g b (up (up D 16 0 0) 7 w 0)) 0 [(0, .ref b), (1, .int (nI w)), (2, .int 0)] [] (rg LTc g b D)
  refine b_X_out_0 (rdR (k_X_0)) (c_hasWagon (d := d - 1) (A := A) hO (nI_toInt (n := w) (by omega))) (by omega) (fun q hq => hq) ?_ (rdN (k_T_0))
  refine aft_1 ?_
  refine b_X_out_8 (fun z1 => ?_) (fun z1 => ?_)
  · replace z1 := pz0.mp z1
    exfalso; omega
  · replace z1 := pz1.mp z1
    refine b_X_out_11 (rdR (k_X_0)) (rdR (k_T_0)) (ah_ix_nI (by omega)) (rdR (k_Gs _ (by omega))) (rdI (k_G_6 _ (by omega)) rfl) (fun z2 => ?_) (fun z2 => ?_)
    · replace z2 := mt (cveq (nI_toInt (n := D 7 w) (by have := hO 7 w; omega)) (show ((0 : Int32)).toInt = 0 from by decide)).mpr z2
      refine rt_i ?_ ?_ (b_X_out_29 (v2 := b + 1) (v3 := b + 2) (v4 := b + (9 + 14 * w)) (hA _ (by omega) (by omega)) (rdE (k_X_2)) (by rw [stcI0 (x := 0) (v := 0) (k_X_2) rfl]; exact (rdR (k_X_0))) (by rw [stcI0 (x := 0) (v := 0) (k_X_2) rfl]; exact (rdR (k_T_0))) (ah_ix_nI (by omega)) (by rw [stcI0 (x := 0) (v := 0) (k_X_2) rfl]; exact (rdR (k_Gs _ (by omega)))) (by decide) (hA _ (by omega) (by omega)) (by rw [stcI0 (x := 0) (v := 0) (k_X_2) rfl]; exact (rdE (k_G_6 _ (by omega)))))
      · rfl
      · rw [stcI0 (x := 0) (v := 0) (k_X_2) rfl, stcI (x := 0) (v := 0) (k_G_6 _ (by omega)) rfl] <;> (rfl)
    · replace z2 := (cveq (nI_toInt (n := D 7 w) (by have := hO 7 w; omega)) (show ((0 : Int32)).toInt = 0 from by decide)).mp (Decidable.not_not.mp z2)
      exfalso; omega
theorem x_out2_1 {d : Nat} {A : Nat → Prop} {g : ah_H} {b : Nat} {D : rg_D} (hO : ∀ f j, D f j < 2 ^ 30) (hd : 2 ≤ d) {w : Nat} (h3 : D 0 0 ≤ 3) (hw : w < D 0 0) (hq : D 7 w = 1) : ah_Ev mt_X_out d A [.ref b, .int (nI w), .int 1] (rg LTc g b D) (.returned (some (.int 0))) (rg LTc g b D) := by
  refine ah_Ev.of (by decide +kernel) (Nat.le_of_ble_eq_true rfl) ?_
  show ah_At mt_X_out d A (rg LTc g b D) (.returned (some (.int 0))) (rg LTc g b D) 0 [(0, .ref b), (1, .int (nI w)), (2, .int 1)] [] (rg LTc g b D)
  refine b_X_out_0 (rdR (k_X_0)) (c_hasWagon (d := d - 1) (A := A) hO (nI_toInt (n := w) (by omega))) (by omega) (fun q hq => hq) ?_ (rdN (k_T_0))
  refine aft_1 ?_
  refine b_X_out_8 (fun z1 => ?_) (fun z1 => ?_)
  · replace z1 := pz0.mp z1
    refine rt_i ?_ ?_ (b_X_out_27 )
    · rfl
    · rfl
  · replace z1 := pz1.mp z1
    refine b_X_out_11 (rdR (k_X_0)) (rdR (k_T_0)) (ah_ix_nI (by omega)) (rdR (k_Gs _ (by omega))) (rdI (k_G_6 _ (by omega)) rfl) (fun z2 => ?_) (fun z2 => ?_)
    · replace z2 := mt (cveq (nI_toInt (n := D 7 w) (by have := hO 7 w; omega)) (show ((1 : Int32)).toInt = 1 from by decide)).mpr z2
      exfalso; omega
    · replace z2 := (cveq (nI_toInt (n := D 7 w) (by have := hO 7 w; omega)) (show ((1 : Int32)).toInt = 1 from by decide)).mp (Decidable.not_not.mp z2)
      refine rt_i ?_ ?_ (b_X_out_27 )
      · rfl
      · rfl
theorem x_out0_1 {d : Nat} {A : Nat → Prop} {g : ah_H} {b : Nat} {D : rg_D} (hO : ∀ f j, D f j < 2 ^ 30) (hA : ∀ q, b ≤ q → q < b + 75 → A q) (hd : 30 ≤ d) {w : Nat} (h3 : D 0 0 ≤ 3) (hw : w < D 0 0) (hq : D 7 w ≠ 1) : ah_Ev mt_X_out d A [.ref b, .int (nI w), .int 1] (rg LTc g b D) (.returned (some (.int 1))) (rg LTc g b (up (up D 16 0 0) 7 w 1)) := by
  refine ah_Ev.of (by decide +kernel) (Nat.le_of_ble_eq_true rfl) ?_
  show ah_At mt_X_out d A (rg LTc g b D) (.returned (some (.int 1))) (rg LTc g b (up (up D 16 0 0) 7 w 1)) 0 [(0, .ref b), (1, .int (nI w)), (2, .int 1)] [] (rg LTc g b D)
  refine b_X_out_0 (rdR (k_X_0)) (c_hasWagon (d := d - 1) (A := A) hO (nI_toInt (n := w) (by omega))) (by omega) (fun q hq => hq) ?_ (rdN (k_T_0))
  refine aft_1 ?_
  refine b_X_out_8 (fun z1 => ?_) (fun z1 => ?_)
  · replace z1 := pz0.mp z1
    exfalso; omega
  · replace z1 := pz1.mp z1
    refine b_X_out_11 (rdR (k_X_0)) (rdR (k_T_0)) (ah_ix_nI (by omega)) (rdR (k_Gs _ (by omega))) (rdI (k_G_6 _ (by omega)) rfl) (fun z2 => ?_) (fun z2 => ?_)
    · replace z2 := mt (cveq (nI_toInt (n := D 7 w) (by have := hO 7 w; omega)) (show ((1 : Int32)).toInt = 1 from by decide)).mpr z2
      refine rt_i ?_ ?_ (b_X_out_29 (v2 := b + 1) (v3 := b + 2) (v4 := b + (9 + 14 * w)) (hA _ (by omega) (by omega)) (rdE (k_X_2)) (by rw [stcI0 (x := 0) (v := 0) (k_X_2) rfl]; exact (rdR (k_X_0))) (by rw [stcI0 (x := 0) (v := 0) (k_X_2) rfl]; exact (rdR (k_T_0))) (ah_ix_nI (by omega)) (by rw [stcI0 (x := 0) (v := 0) (k_X_2) rfl]; exact (rdR (k_Gs _ (by omega)))) (by decide) (hA _ (by omega) (by omega)) (by rw [stcI0 (x := 0) (v := 0) (k_X_2) rfl]; exact (rdE (k_G_6 _ (by omega)))))
      · rfl
      · rw [stcI0 (x := 0) (v := 0) (k_X_2) rfl, stcI (x := 1) (v := 1) (k_G_6 _ (by omega)) rfl] <;> (rfl)
    · replace z2 := (cveq (nI_toInt (n := D 7 w) (by have := hO 7 w; omega)) (show ((1 : Int32)).toInt = 1 from by decide)).mp (Decidable.not_not.mp z2)
      exfalso; omega
theorem x_plan1 {d : Nat} {A : Nat → Prop} {g : ah_H} {b : Nat} {D : rg_D} (hO : ∀ f j, D f j < 2 ^ 30) (hd : 2 ≤ d) (h3 : D 0 0 ≤ 3) (hq : D 16 0 = 1) : ah_Ev mt_X_plan d A [.ref b] (rg LTc g b D) (.returned (some (.int (nI (sm (D 21) (D 0 0)))))) (rg LTc g b D) := by
  refine ah_Ev.of (by decide +kernel) (Nat.le_of_ble_eq_true rfl) ?_
  show ah_At mt_X_plan d A (rg LTc g b D) (.returned (some (.int (nI (sm (D 21) (D 0 0)))))) (rg LTc g b D) 0 [(0, .ref b)] [] (rg LTc g b D)
  refine b_X_plan_0 (rdI (k_X_2) rfl) (fun z1 => ?_) (fun z1 => ?_)
  · replace z1 := mt (cveq (nI_toInt (n := D 16 0) (by have := hO 16 0; omega)) (show ((0 : Int32)).toInt = 0 from by decide)).mpr z1
    refine b_X_plan_19 (rdR (k_X_1)) (c_lengthUsed (d := d - 1) (A := A) hO (by omega)) (by omega) (fun q hq => hq) ?_ (rdN (k_N_0))
    refine aft_1 ?_
    refine rt_i ?_ ?_ (b_X_plan_26 )
    · rfl
    · rfl
  · replace z1 := (cveq (nI_toInt (n := D 16 0) (by have := hO 16 0; omega)) (show ((0 : Int32)).toInt = 0 from by decide)).mp (Decidable.not_not.mp z1)
    exfalso; omega
theorem x_need1 {d : Nat} {A : Nat → Prop} {g : ah_H} {b : Nat} {D : rg_D} (hO : ∀ f j, D f j < 2 ^ 30) (hA0 : ∀ q, ¬ A q) (hs9 : ∃ a c, (rg LTc g b D).2.2 a = some (97, c)) (hd : 10 ≤ d) (hq : D 16 0 = 0) : ah_Ev mt_X_needPlan d A [.ref b] (rg LTc g b D) (.threw g.1) (ah_newx (rg LTc g b D) 93) := by
  refine ah_Ev.of (by decide +kernel) (Nat.le_of_ble_eq_true rfl) ?_
  show ah_At mt_X_needPlan d A (rg LTc g b D) (.threw g.1) (ah_newx (rg LTc g b D) 93) 0 [(0, .ref b)] [] (rg LTc g b D)
  refine b_X_needPlan_0 (rdI (k_X_2) rfl) (fun z1 => ?_) (fun z1 => ?_)
  · replace z1 := mt (cveq (nI_toInt (n := D 16 0) (by have := hO 16 0; omega)) (show ((0 : Int32)).toInt = 0 from by decide)).mpr z1
    exfalso; omega
  · replace z1 := (cveq (nI_toInt (n := D 16 0) (by have := hO 16 0; omega)) (show ((0 : Int32)).toInt = 0 from by decide)).mp (Decidable.not_not.mp z1)
    exact b_X_needPlan_7 hA0 (by omega) hs9
theorem x_need0 {d : Nat} {A : Nat → Prop} {g : ah_H} {b : Nat} {D : rg_D} (hO : ∀ f j, D f j < 2 ^ 30) (hq : D 16 0 = 1) : ah_Ev mt_X_needPlan d A [.ref b] (rg LTc g b D) (.returned none) (rg LTc g b D) := by
  refine ah_Ev.of (by decide +kernel) (Nat.le_of_ble_eq_true rfl) ?_
  show ah_At mt_X_needPlan d A (rg LTc g b D) (.returned none) (rg LTc g b D) 0 [(0, .ref b)] [] (rg LTc g b D)
  refine b_X_needPlan_0 (rdI (k_X_2) rfl) (fun z1 => ?_) (fun z1 => ?_)
  · replace z1 := mt (cveq (nI_toInt (n := D 16 0) (by have := hO 16 0; omega)) (show ((0 : Int32)).toInt = 0 from by decide)).mpr z1
    refine rt_v ?_ (b_X_needPlan_17 )
    · rfl
  · replace z1 := (cveq (nI_toInt (n := D 16 0) (by have := hO 16 0; omega)) (show ((0 : Int32)).toInt = 0 from by decide)).mp (Decidable.not_not.mp z1)
    exfalso; omega
theorem x_at1 {d : Nat} {A : Nat → Prop} {g : ah_H} {b : Nat} {D : rg_D} (hO : ∀ f j, D f j < 2 ^ 30) (hA0 : ∀ q, ¬ A q) (hs9 : ∃ a c, (rg LTc g b D).2.2 a = some (97, c)) (hd : 10 ≤ d) {x1 : Int32} {p1 : Int} (h1 : x1.toInt = p1) {x2 : Int32} {p2 : Int} (h2 : x2.toInt = p2) (hn : ¬ (0 ≤ p1 ∧ p1 < ((D 1 0 : Nat) : Int)) ∨ ¬ (0 ≤ p2 ∧ p2 ≤ 1)) : ah_Ev mt_X_at d A [.ref b, .int x1, .int x2] (rg LTc g b D) (.threw g.1) (ah_newx (rg LTc g b D) 92) := by
  refine ah_Ev.of (by decide +kernel) (Nat.le_of_ble_eq_true rfl) ?_
  show ah_At mt_X_at d A (rg LTc g b D) (.threw g.1) (ah_newx (rg LTc g b D) 92) 0 [(0, .ref b), (1, .int x1), (2, .int x2)] [] (rg LTc g b D)
  refine b_X_at_0 (rdR (k_X_0)) (c_hasBox (d := d - 1) (A := A) hO h1) (by omega) (fun q hq => hq) ?_ (rdN (k_T_0))
  refine aft_1 ?_
  refine b_X_at_8 (fun z1 => ?_) (fun z1 => ?_)
  · replace z1 := pz0.mp z1
    exact b_X_at_21 hA0 (by omega) hs9
  · replace z1 := pz1.mp z1
    refine b_X_at_11 (c_isBetween (d := d - 1) (A := A) ((i2l_toInt x2).trans h2) (show ((0 : Int64)).toInt = 0 from by decide) (show ((1 : Int64)).toInt = 1 from by decide)) (by omega) (fun q hq => hq) ?_
    refine aft_1 ?_
    refine b_X_at_18 (fun z2 => ?_) (fun z2 => ?_)
    · replace z2 := pz1.mp z2
      exfalso; omega
    · replace z2 := pz0.mp (Decidable.not_not.mp z2)
      exact b_X_at_21 hA0 (by omega) hs9
theorem x_at2 {d : Nat} {A : Nat → Prop} {g : ah_H} {b : Nat} {D : rg_D} (hO : ∀ f j, D f j < 2 ^ 30) (hA0 : ∀ q, ¬ A q) (hs9 : ∃ a c, (rg LTc g b D).2.2 a = some (97, c)) (hd : 12 ≤ d) {x1 : Int32} {p1 : Int} (h1 : x1.toInt = p1) {x2 : Int32} {p2 : Int} (h2 : x2.toInt = p2) (g1 : 0 ≤ p1 ∧ p1 < ((D 1 0 : Nat) : Int)) (g2 : 0 ≤ p2 ∧ p2 ≤ 1) (hq : D 16 0 = 0) : ah_Ev mt_X_at d A [.ref b, .int x1, .int x2] (rg LTc g b D) (.threw g.1) (ah_newx (rg LTc g b D) 93) := by
  refine ah_Ev.of (by decide +kernel) (Nat.le_of_ble_eq_true rfl) ?_
  show ah_At mt_X_at d A (rg LTc g b D) (.threw g.1) (ah_newx (rg LTc g b D) 93) 0 [(0, .ref b), (1, .int x1), (2, .int x2)] [] (rg LTc g b D)
  refine b_X_at_0 (rdR (k_X_0)) (c_hasBox (d := d - 1) (A := A) hO h1) (by omega) (fun q hq => hq) ?_ (rdN (k_T_0))
  refine aft_1 ?_
  refine b_X_at_8 (fun z1 => ?_) (fun z1 => ?_)
  · replace z1 := pz0.mp z1
    exfalso; omega
  · replace z1 := pz1.mp z1
    refine b_X_at_11 (c_isBetween (d := d - 1) (A := A) ((i2l_toInt x2).trans h2) (show ((0 : Int64)).toInt = 0 from by decide) (show ((1 : Int64)).toInt = 1 from by decide)) (by omega) (fun q hq => hq) ?_
    refine aft_1 ?_
    refine b_X_at_18 (fun z2 => ?_) (fun z2 => ?_)
    · replace z2 := pz1.mp z2
      refine b_X_at_31 (x_need1 (d := d - 1) (A := A) hO hA0 hs9 (by omega) hq) (by omega) (fun q hq => hq) ?_ (rdN (k_X_0))
      exact ah_thr_out (fun x hx => absurd hx List.not_mem_nil)
    · replace z2 := pz0.mp (Decidable.not_not.mp z2)
      exfalso; omega
theorem x_at00 {d : Nat} {A : Nat → Prop} {g : ah_H} {b : Nat} {D : rg_D} (hO : ∀ f j, D f j < 2 ^ 30) (hd : 12 ≤ d) (h3 : D 0 0 ≤ 3) (h8 : D 1 0 ≤ 8) (hq : D 16 0 = 1) {i : Nat} (hi : i < D 1 0) : ah_Ev mt_X_at d A [.ref b, .int (nI i), .int 0] (rg LTc g b D) (.returned (some (.int (nI (D 29 i) - 1)))) (rg LTc g b D) := by
  refine ah_Ev.of (by decide +kernel) (Nat.le_of_ble_eq_true rfl) ?_
  show ah_At mt_X_at d A (rg LTc g b D) (.returned (some (.int (nI (D 29 i) - 1)))) (rg LTc g b D) 0 [(0, .ref b), (1, .int (nI i)), (2, .int 0)] [] (rg LTc g b D)
  refine b_X_at_0 (rdR (k_X_0)) (c_hasBox (d := d - 1) (A := A) hO (nI_toInt (n := i) (by omega))) (by omega) (fun q hq => hq) ?_ (rdN (k_T_0))
  refine aft_1 ?_
  refine b_X_at_8 (fun z1 => ?_) (fun z1 => ?_)
  · replace z1 := pz0.mp z1
    exfalso; omega
  · replace z1 := pz1.mp z1
    refine b_X_at_11 (c_isBetween (d := d - 1) (A := A) (show ((Int32.toInt64 0 : Int64)).toInt = 0 from by decide) (show ((0 : Int64)).toInt = 0 from by decide) (show ((1 : Int64)).toInt = 1 from by decide)) (by omega) (fun q hq => hq) ?_
    refine aft_1 ?_
    refine b_X_at_18 (fun z2 => ?_) (fun z2 => ?_)
    · replace z2 := pz1.mp z2
      refine b_X_at_31 (x_need0 (d := d - 1) (A := A) hO hq) (by omega) (fun q hq => hq) ?_ (rdN (k_X_0))
      refine aft_0 ?_
      refine b_X_at_35 (fun z => absurd z (by decide)) (fun z3 => ?_)
      refine b_X_at_39 (rdR (k_X_1)) (c_wagonOf (d := d - 1) (A := A) hO h8 hi (by omega)) (by omega) (fun q hq => hq) ?_ (rdN (k_N_0))
      refine aft_1 ?_
      refine b_X_at_47 ?_
      refine rt_i ?_ ?_ (b_X_at_58 )
      · rfl
      · rfl
    · replace z2 := pz0.mp (Decidable.not_not.mp z2)
      exfalso; omega
theorem x_at01 {d : Nat} {A : Nat → Prop} {g : ah_H} {b : Nat} {D : rg_D} (hO : ∀ f j, D f j < 2 ^ 30) (hd : 12 ≤ d) (h3 : D 0 0 ≤ 3) (h8 : D 1 0 ≤ 8) (hq : D 16 0 = 1) {i : Nat} (hi : i < D 1 0) {v : Int32} (hP : ah_Ev mt_N_placeOf (d - 1) A [.ref (b + 59), .int (nI i)] (rg LTc g b D) (.returned (some (.int v))) (rg LTc g b D)) : ah_Ev mt_X_at d A [.ref b, .int (nI i), .int 1] (rg LTc g b D) (.returned (some (.int v))) (rg LTc g b D) := by
  refine ah_Ev.of (by decide +kernel) (Nat.le_of_ble_eq_true rfl) ?_
  show ah_At mt_X_at d A (rg LTc g b D) (.returned (some (.int v))) (rg LTc g b D) 0 [(0, .ref b), (1, .int (nI i)), (2, .int 1)] [] (rg LTc g b D)
  refine b_X_at_0 (rdR (k_X_0)) (c_hasBox (d := d - 1) (A := A) hO (nI_toInt (n := i) (by omega))) (by omega) (fun q hq => hq) ?_ (rdN (k_T_0))
  refine aft_1 ?_
  refine b_X_at_8 (fun z1 => ?_) (fun z1 => ?_)
  · replace z1 := pz0.mp z1
    exfalso; omega
  · replace z1 := pz1.mp z1
    refine b_X_at_11 (c_isBetween (d := d - 1) (A := A) (show ((Int32.toInt64 1 : Int64)).toInt = 1 from by decide) (show ((0 : Int64)).toInt = 0 from by decide) (show ((1 : Int64)).toInt = 1 from by decide)) (by omega) (fun q hq => hq) ?_
    refine aft_1 ?_
    refine b_X_at_18 (fun z2 => ?_) (fun z2 => ?_)
    · replace z2 := pz1.mp z2
      refine b_X_at_31 (x_need0 (d := d - 1) (A := A) hO hq) (by omega) (fun q hq => hq) ?_ (rdN (k_X_0))
      refine aft_0 ?_
      refine b_X_at_35 (fun z3 => ?_) (fun z => absurd (by decide) z)
      refine b_X_at_50 (rdR (k_X_1)) (hP) (by omega) (fun q hq => hq) ?_ (rdN (k_N_0))
      refine aft_1 ?_
      refine rt_i ?_ ?_ (b_X_at_58 )
      · rfl
      · rfl
    · replace z2 := pz0.mp (Decidable.not_not.mp z2)
      exfalso; omega
theorem x_load1 {d : Nat} {A : Nat → Prop} {g : ah_H} {b : Nat} {D : rg_D} (hO : ∀ f j, D f j < 2 ^ 30) (hA0 : ∀ q, ¬ A q) (hs9 : ∃ a c, (rg LTc g b D).2.2 a = some (97, c)) (hd : 10 ≤ d) {x1 : Int32} {p1 : Int} (h1 : x1.toInt = p1) {x2 : Int32} {p2 : Int} (h2 : x2.toInt = p2) (hn : ¬ (0 ≤ p1 ∧ p1 < ((D 0 0 : Nat) : Int)) ∨ ¬ (0 ≤ p2 ∧ p2 ≤ 3)) : ah_Ev mt_X_load d A [.ref b, .int x1, .int x2] (rg LTc g b D) (.threw g.1) (ah_newx (rg LTc g b D) 92) := by
  refine ah_Ev.of (by decide +kernel) (Nat.le_of_ble_eq_true rfl) ?_
  show ah_At mt_X_load d A (rg LTc g b D) (.threw g.1) (ah_newx (rg LTc g b D) 92) 0 [(0, .ref b), (1, .int x1), (2, .int x2)] [] (rg LTc g b D)
  refine b_X_load_0 (rdR (k_X_0)) (c_hasWagon (d := d - 1) (A := A) hO h1) (by omega) (fun q hq => hq) ?_ (rdN (k_T_0))
  refine aft_1 ?_
  refine b_X_load_8 (fun z1 => ?_) (fun z1 => ?_)
  · replace z1 := pz0.mp z1
    exact b_X_load_23 hA0 (by omega) hs9
  · replace z1 := pz1.mp z1
    refine b_X_load_11 (c_isBetween (d := d - 1) (A := A) ((i2l_toInt x2).trans h2) (show ((0 : Int64)).toInt = 0 from by decide) (show ((3 : Int64)).toInt = 3 from by decide)) (by omega) (fun q hq => hq) ?_
    refine aft_1 ?_
    refine b_X_load_20 (fun z2 => ?_) (fun z2 => ?_)
    · replace z2 := pz1.mp z2
      exfalso; omega
    · replace z2 := pz0.mp (Decidable.not_not.mp z2)
      exact b_X_load_23 hA0 (by omega) hs9
theorem x_load2 {d : Nat} {A : Nat → Prop} {g : ah_H} {b : Nat} {D : rg_D} (hO : ∀ f j, D f j < 2 ^ 30) (hA0 : ∀ q, ¬ A q) (hs9 : ∃ a c, (rg LTc g b D).2.2 a = some (97, c)) (hd : 12 ≤ d) {x1 : Int32} {p1 : Int} (h1 : x1.toInt = p1) {x2 : Int32} {p2 : Int} (h2 : x2.toInt = p2) (g1 : 0 ≤ p1 ∧ p1 < ((D 0 0 : Nat) : Int)) (g2 : 0 ≤ p2 ∧ p2 ≤ 3) (hq : D 16 0 = 0) : ah_Ev mt_X_load d A [.ref b, .int x1, .int x2] (rg LTc g b D) (.threw g.1) (ah_newx (rg LTc g b D) 93) := by
  refine ah_Ev.of (by decide +kernel) (Nat.le_of_ble_eq_true rfl) ?_
  show ah_At mt_X_load d A (rg LTc g b D) (.threw g.1) (ah_newx (rg LTc g b D) 93) 0 [(0, .ref b), (1, .int x1), (2, .int x2)] [] (rg LTc g b D)
  refine b_X_load_0 (rdR (k_X_0)) (c_hasWagon (d := d - 1) (A := A) hO h1) (by omega) (fun q hq => hq) ?_ (rdN (k_T_0))
  refine aft_1 ?_
  refine b_X_load_8 (fun z1 => ?_) (fun z1 => ?_)
  · replace z1 := pz0.mp z1
    exfalso; omega
  · replace z1 := pz1.mp z1
    refine b_X_load_11 (c_isBetween (d := d - 1) (A := A) ((i2l_toInt x2).trans h2) (show ((0 : Int64)).toInt = 0 from by decide) (show ((3 : Int64)).toInt = 3 from by decide)) (by omega) (fun q hq => hq) ?_
    refine aft_1 ?_
    refine b_X_load_20 (fun z2 => ?_) (fun z2 => ?_)
    · replace z2 := pz1.mp z2
      refine b_X_load_33 (x_need1 (d := d - 1) (A := A) hO hA0 hs9 (by omega) hq) (by omega) (fun q hq => hq) ?_ (rdN (k_X_0))
      exact ah_thr_out (fun x hx => absurd hx List.not_mem_nil)
    · replace z2 := pz0.mp (Decidable.not_not.mp z2)
      exfalso; omega
theorem x_load00 {d : Nat} {A : Nat → Prop} {g : ah_H} {b : Nat} {D : rg_D} (hO : ∀ f j, D f j < 2 ^ 30) (hd : 12 ≤ d) (h3 : D 0 0 ≤ 3) (h8 : D 1 0 ≤ 8) (hq : D 16 0 = 1) {w : Nat} (hw : w < D 0 0) (hp : ∀ w, D 8 w ≤ 4) : ah_Ev mt_X_load d A [.ref b, .int (nI w), .int 0] (rg LTc g b D) (.returned (some (.long (Int32.toInt64 (nI (pa D w) - 1))))) (rg LTc g b D) := by
  refine ah_Ev.of (by decide +kernel) (Nat.le_of_ble_eq_true rfl) ?_
  show ah_At mt_X_load d A (rg LTc g b D) (.returned (some (.long (Int32.toInt64 (nI (pa D w) - 1))))) (rg LTc g b D) 0 [(0, .ref b), (1, .int (nI w)), (2, .int 0)] [] (rg LTc g b D)
  refine b_X_load_0 (rdR (k_X_0)) (c_hasWagon (d := d - 1) (A := A) hO (nI_toInt (n := w) (by omega))) (by omega) (fun q hq => hq) ?_ (rdN (k_T_0))
  refine aft_1 ?_
  refine b_X_load_8 (fun z1 => ?_) (fun z1 => ?_)
  · replace z1 := pz0.mp z1
    exfalso; omega
  · replace z1 := pz1.mp z1
    refine b_X_load_11 (c_isBetween (d := d - 1) (A := A) (show ((Int32.toInt64 0 : Int64)).toInt = 0 from by decide) (show ((0 : Int64)).toInt = 0 from by decide) (show ((3 : Int64)).toInt = 3 from by decide)) (by omega) (fun q hq => hq) ?_
    refine aft_1 ?_
    refine b_X_load_20 (fun z2 => ?_) (fun z2 => ?_)
    · replace z2 := pz1.mp z2
      refine b_X_load_33 (x_need0 (d := d - 1) (A := A) hO hq) (by omega) (fun q hq => hq) ?_ (rdN (k_X_0))
      refine aft_0 ?_
      refine b_X_load_37 (rdR (k_X_1)) (rdR (k_N_1)) (ah_ix_nI (by omega)) (rdR (k_Ls _ (by omega))) (fun z => by exfalso; revert z; decide) (fun _ => ?_) (fun z => by exfalso; revert z; decide) (fun z => by exfalso; revert z; decide)
      refine b_X_load_76 (rdR (k_X_1)) (c_patternOf (d := d - 1) (A := A) hO h3 hw hp (by omega)) (by omega) (fun q hq => hq) ?_ (rdN (k_N_0))
      refine aft_1 ?_
      refine rt_l ?_ ?_ (b_X_load_84 )
      · rfl
      · rfl
    · replace z2 := pz0.mp (Decidable.not_not.mp z2)
      exfalso; omega
theorem x_load01 {d : Nat} {A : Nat → Prop} {g : ah_H} {b : Nat} {D : rg_D} (hO : ∀ f j, D f j < 2 ^ 30) (hd : 12 ≤ d) (h3 : D 0 0 ≤ 3) (h8 : D 1 0 ≤ 8) (hq : D 16 0 = 1) {w : Nat} (hw : w < D 0 0) (hp : ∀ w, D 8 w ≤ 4) : ah_Ev mt_X_load d A [.ref b, .int (nI w), .int 1] (rg LTc g b D) (.returned (some (.long (lN (D 20 w))))) (rg LTc g b D) := by
  refine ah_Ev.of (by decide +kernel) (Nat.le_of_ble_eq_true rfl) ?_
  show ah_At mt_X_load d A (rg LTc g b D) (.returned (some (.long (lN (D 20 w))))) (rg LTc g b D) 0 [(0, .ref b), (1, .int (nI w)), (2, .int 1)] [] (rg LTc g b D)
  refine b_X_load_0 (rdR (k_X_0)) (c_hasWagon (d := d - 1) (A := A) hO (nI_toInt (n := w) (by omega))) (by omega) (fun q hq => hq) ?_ (rdN (k_T_0))
  refine aft_1 ?_
  refine b_X_load_8 (fun z1 => ?_) (fun z1 => ?_)
  · replace z1 := pz0.mp z1
    exfalso; omega
  · replace z1 := pz1.mp z1
    refine b_X_load_11 (c_isBetween (d := d - 1) (A := A) (show ((Int32.toInt64 1 : Int64)).toInt = 1 from by decide) (show ((0 : Int64)).toInt = 0 from by decide) (show ((3 : Int64)).toInt = 3 from by decide)) (by omega) (fun q hq => hq) ?_
    refine aft_1 ?_
    refine b_X_load_20 (fun z2 => ?_) (fun z2 => ?_)
    · replace z2 := pz1.mp z2
      refine b_X_load_33 (x_need0 (d := d - 1) (A := A) hO hq) (by omega) (fun q hq => hq) ?_ (rdN (k_X_0))
      refine aft_0 ?_
      refine b_X_load_37 (rdR (k_X_1)) (rdR (k_N_1)) (ah_ix_nI (by omega)) (rdR (k_Ls _ (by omega))) (fun z => by exfalso; revert z; decide) (fun z => by exfalso; revert z; decide) (fun _ => ?_) (fun z => by exfalso; revert z; decide)
      refine rt_l ?_ ?_ (b_X_load_86 (rdI (k_L_2 _ (by omega)) rfl))
      · exact (il_n rfl (by have := hO 20 w; omega))
      · rfl
    · replace z2 := pz0.mp (Decidable.not_not.mp z2)
      exfalso; omega
theorem x_load02 {d : Nat} {A : Nat → Prop} {g : ah_H} {b : Nat} {D : rg_D} (hO : ∀ f j, D f j < 2 ^ 30) (hd : 12 ≤ d) (h3 : D 0 0 ≤ 3) (h8 : D 1 0 ≤ 8) (hq : D 16 0 = 1) {w : Nat} (hw : w < D 0 0) (hp : ∀ w, D 8 w ≤ 4) : ah_Ev mt_X_load d A [.ref b, .int (nI w), .int 2] (rg LTc g b D) (.returned (some (.long (lN (D 21 w))))) (rg LTc g b D) := by
  refine ah_Ev.of (by decide +kernel) (Nat.le_of_ble_eq_true rfl) ?_
  show ah_At mt_X_load d A (rg LTc g b D) (.returned (some (.long (lN (D 21 w))))) (rg LTc g b D) 0 [(0, .ref b), (1, .int (nI w)), (2, .int 2)] [] (rg LTc g b D)
  refine b_X_load_0 (rdR (k_X_0)) (c_hasWagon (d := d - 1) (A := A) hO (nI_toInt (n := w) (by omega))) (by omega) (fun q hq => hq) ?_ (rdN (k_T_0))
  refine aft_1 ?_
  refine b_X_load_8 (fun z1 => ?_) (fun z1 => ?_)
  · replace z1 := pz0.mp z1
    exfalso; omega
  · replace z1 := pz1.mp z1
    refine b_X_load_11 (c_isBetween (d := d - 1) (A := A) (show ((Int32.toInt64 2 : Int64)).toInt = 2 from by decide) (show ((0 : Int64)).toInt = 0 from by decide) (show ((3 : Int64)).toInt = 3 from by decide)) (by omega) (fun q hq => hq) ?_
    refine aft_1 ?_
    refine b_X_load_20 (fun z2 => ?_) (fun z2 => ?_)
    · replace z2 := pz1.mp z2
      refine b_X_load_33 (x_need0 (d := d - 1) (A := A) hO hq) (by omega) (fun q hq => hq) ?_ (rdN (k_X_0))
      refine aft_0 ?_
      refine b_X_load_37 (rdR (k_X_1)) (rdR (k_N_1)) (ah_ix_nI (by omega)) (rdR (k_Ls _ (by omega))) (fun z => by exfalso; revert z; decide) (fun z => by exfalso; revert z; decide) (fun z => by exfalso; revert z; decide) (fun _ => ?_)
      refine rt_l ?_ ?_ (b_X_load_92 (rdI (k_L_3 _ (by omega)) rfl))
      · exact (il_n rfl (by have := hO 21 w; omega))
      · rfl
    · replace z2 := pz0.mp (Decidable.not_not.mp z2)
      exfalso; omega
theorem x_load03 {d : Nat} {A : Nat → Prop} {g : ah_H} {b : Nat} {D : rg_D} (hO : ∀ f j, D f j < 2 ^ 30) (hd : 12 ≤ d) (h3 : D 0 0 ≤ 3) (h8 : D 1 0 ≤ 8) (hq : D 16 0 = 1) {w : Nat} (hw : w < D 0 0) (hp : ∀ w, D 8 w ≤ 4) : ah_Ev mt_X_load d A [.ref b, .int (nI w), .int 3] (rg LTc g b D) (.returned (some (.long (lN (D 22 w))))) (rg LTc g b D) := by
  refine ah_Ev.of (by decide +kernel) (Nat.le_of_ble_eq_true rfl) ?_
  show ah_At mt_X_load d A (rg LTc g b D) (.returned (some (.long (lN (D 22 w))))) (rg LTc g b D) 0 [(0, .ref b), (1, .int (nI w)), (2, .int 3)] [] (rg LTc g b D)
  refine b_X_load_0 (rdR (k_X_0)) (c_hasWagon (d := d - 1) (A := A) hO (nI_toInt (n := w) (by omega))) (by omega) (fun q hq => hq) ?_ (rdN (k_T_0))
  refine aft_1 ?_
  refine b_X_load_8 (fun z1 => ?_) (fun z1 => ?_)
  · replace z1 := pz0.mp z1
    exfalso; omega
  · replace z1 := pz1.mp z1
    refine b_X_load_11 (c_isBetween (d := d - 1) (A := A) (show ((Int32.toInt64 3 : Int64)).toInt = 3 from by decide) (show ((0 : Int64)).toInt = 0 from by decide) (show ((3 : Int64)).toInt = 3 from by decide)) (by omega) (fun q hq => hq) ?_
    refine aft_1 ?_
    refine b_X_load_20 (fun z2 => ?_) (fun z2 => ?_)
    · replace z2 := pz1.mp z2
      refine b_X_load_33 (x_need0 (d := d - 1) (A := A) hO hq) (by omega) (fun q hq => hq) ?_ (rdN (k_X_0))
      refine aft_0 ?_
      refine b_X_load_37 (rdR (k_X_1)) (rdR (k_N_1)) (ah_ix_nI (by omega)) (rdR (k_Ls _ (by omega))) (fun _ => ?_) (fun z => by exfalso; revert z; decide) (fun z => by exfalso; revert z; decide) (fun z => by exfalso; revert z; decide)
      refine rt_l ?_ ?_ (b_X_load_98 (rdL (k_L_4 _ (by omega)) rfl))
      · rfl
      · rfl
    · replace z2 := pz0.mp (Decidable.not_not.mp z2)
      exfalso; omega
theorem x_axle1 {d : Nat} {A : Nat → Prop} {g : ah_H} {b : Nat} {D : rg_D} (hO : ∀ f j, D f j < 2 ^ 30) (hA0 : ∀ q, ¬ A q) (hs9 : ∃ a c, (rg LTc g b D).2.2 a = some (97, c)) (hd : 10 ≤ d) {x1 : Int32} {p1 : Int} (h1 : x1.toInt = p1) {x2 : Int32} {p2 : Int} (h2 : x2.toInt = p2) (hn : ¬ (0 ≤ p1 ∧ p1 < ((D 0 0 : Nat) : Int)) ∨ ¬ (0 ≤ p2 ∧ p2 ≤ 1)) : ah_Ev mt_X_axle d A [.ref b, .int x1, .int x2] (rg LTc g b D) (.threw g.1) (ah_newx (rg LTc g b D) 92) := by
  refine ah_Ev.of (by decide +kernel) (Nat.le_of_ble_eq_true rfl) ?_
  show ah_At mt_X_axle d A (rg LTc g b D) (.threw g.1) (ah_newx (rg LTc g b D) 92) 0 [(0, .ref b), (1, .int x1), (2, .int x2)] [] (rg LTc g b D)
  refine b_X_axle_0 (rdR (k_X_0)) (c_hasWagon (d := d - 1) (A := A) hO h1) (by omega) (fun q hq => hq) ?_ (rdN (k_T_0))
  refine aft_1 ?_
  refine b_X_axle_8 (fun z1 => ?_) (fun z1 => ?_)
  · replace z1 := pz0.mp z1
    exact b_X_axle_21 hA0 (by omega) hs9
  · replace z1 := pz1.mp z1
    refine b_X_axle_11 (c_isBetween (d := d - 1) (A := A) ((i2l_toInt x2).trans h2) (show ((0 : Int64)).toInt = 0 from by decide) (show ((1 : Int64)).toInt = 1 from by decide)) (by omega) (fun q hq => hq) ?_
    refine aft_1 ?_
    refine b_X_axle_18 (fun z2 => ?_) (fun z2 => ?_)
    · replace z2 := pz1.mp z2
      exfalso; omega
    · replace z2 := pz0.mp (Decidable.not_not.mp z2)
      exact b_X_axle_21 hA0 (by omega) hs9
theorem x_axle2 {d : Nat} {A : Nat → Prop} {g : ah_H} {b : Nat} {D : rg_D} (hO : ∀ f j, D f j < 2 ^ 30) (hA0 : ∀ q, ¬ A q) (hs9 : ∃ a c, (rg LTc g b D).2.2 a = some (97, c)) (hd : 12 ≤ d) {x1 : Int32} {p1 : Int} (h1 : x1.toInt = p1) {x2 : Int32} {p2 : Int} (h2 : x2.toInt = p2) (g1 : 0 ≤ p1 ∧ p1 < ((D 0 0 : Nat) : Int)) (g2 : 0 ≤ p2 ∧ p2 ≤ 1) (hq : D 16 0 = 0) : ah_Ev mt_X_axle d A [.ref b, .int x1, .int x2] (rg LTc g b D) (.threw g.1) (ah_newx (rg LTc g b D) 93) := by
  refine ah_Ev.of (by decide +kernel) (Nat.le_of_ble_eq_true rfl) ?_
  show ah_At mt_X_axle d A (rg LTc g b D) (.threw g.1) (ah_newx (rg LTc g b D) 93) 0 [(0, .ref b), (1, .int x1), (2, .int x2)] [] (rg LTc g b D)
  refine b_X_axle_0 (rdR (k_X_0)) (c_hasWagon (d := d - 1) (A := A) hO h1) (by omega) (fun q hq => hq) ?_ (rdN (k_T_0))
  refine aft_1 ?_
  refine b_X_axle_8 (fun z1 => ?_) (fun z1 => ?_)
  · replace z1 := pz0.mp z1
    exfalso; omega
  · replace z1 := pz1.mp z1
    refine b_X_axle_11 (c_isBetween (d := d - 1) (A := A) ((i2l_toInt x2).trans h2) (show ((0 : Int64)).toInt = 0 from by decide) (show ((1 : Int64)).toInt = 1 from by decide)) (by omega) (fun q hq => hq) ?_
    refine aft_1 ?_
    refine b_X_axle_18 (fun z2 => ?_) (fun z2 => ?_)
    · replace z2 := pz1.mp z2
      refine b_X_axle_31 (x_need1 (d := d - 1) (A := A) hO hA0 hs9 (by omega) hq) (by omega) (fun q hq => hq) ?_ (rdN (k_X_0))
      exact ah_thr_out (fun x hx => absurd hx List.not_mem_nil)
    · replace z2 := pz0.mp (Decidable.not_not.mp z2)
      exfalso; omega
theorem x_axle3 {d : Nat} {A : Nat → Prop} {g : ah_H} {b : Nat} {D : rg_D} (hO : ∀ f j, D f j < 2 ^ 30) (hA0 : ∀ q, ¬ A q) (hs9 : ∃ a c, (rg LTc g b D).2.2 a = some (97, c)) (hd : 10 ≤ d) {x2 : Int32} {p2 : Int} (h2 : x2.toInt = p2) (g2 : 0 ≤ p2 ∧ p2 ≤ 1) (h3 : D 0 0 ≤ 3) {w : Nat} (hw : w < D 0 0) (hq : D 16 0 = 1) (hx : D 5 w = 0) : ah_Ev mt_X_axle d A [.ref b, .int (nI w), .int x2] (rg LTc g b D) (.threw g.1) (ah_newx (rg LTc g b D) 94) := by
  refine ah_Ev.of (by decide +kernel) (Nat.le_of_ble_eq_true rfl) ?_
  show ah_At mt_X_axle d A (rg LTc g b D) (.threw g.1) (ah_newx (rg LTc g b D) 94) 0 [(0, .ref b), (1, .int (nI w)), (2, .int x2)] [] (rg LTc g b D)
  refine b_X_axle_0 (rdR (k_X_0)) (c_hasWagon (d := d - 1) (A := A) hO (nI_toInt (n := w) (by omega))) (by omega) (fun q hq => hq) ?_ (rdN (k_T_0))
  refine aft_1 ?_
  refine b_X_axle_8 (fun z1 => ?_) (fun z1 => ?_)
  · replace z1 := pz0.mp z1
    exfalso; omega
  · replace z1 := pz1.mp z1
    refine b_X_axle_11 (c_isBetween (d := d - 1) (A := A) ((i2l_toInt x2).trans h2) (show ((0 : Int64)).toInt = 0 from by decide) (show ((1 : Int64)).toInt = 1 from by decide)) (by omega) (fun q hq => hq) ?_
    refine aft_1 ?_
    refine b_X_axle_18 (fun z2 => ?_) (fun z2 => ?_)
    · replace z2 := pz1.mp z2
      refine b_X_axle_31 (x_need0 (d := d - 1) (A := A) hO hq) (by omega) (fun q hq => hq) ?_ (rdN (k_X_0))
      refine aft_0 ?_
      refine b_X_axle_35 (rdR (k_X_0)) (rdR (k_T_0)) (ah_ix_nI (by omega)) (rdR (k_Gs _ (by omega))) (rdI (k_G_4 _ (by omega)) rfl) (fun z3 => ?_) (fun z3 => ?_)
      · replace z3 := mt (cveq (nI_toInt (n := D 5 w) (by have := hO 5 w; omega)) (show ((0 : Int32)).toInt = 0 from by decide)).mpr z3
        exfalso; omega
      · replace z3 := (cveq (nI_toInt (n := D 5 w) (by have := hO 5 w; omega)) (show ((0 : Int32)).toInt = 0 from by decide)).mp (Decidable.not_not.mp z3)
        exact b_X_axle_52 hA0 (by omega) hs9
    · replace z2 := pz0.mp (Decidable.not_not.mp z2)
      exfalso; omega
theorem x_axle00 {d : Nat} {A : Nat → Prop} {g : ah_H} {b : Nat} {D : rg_D} (hO : ∀ f j, D f j < 2 ^ 30) (hd : 12 ≤ d) (h3 : D 0 0 ≤ 3) (h8 : D 1 0 ≤ 8) (hq : D 16 0 = 1) {w : Nat} (hw : w < D 0 0) (hp : ∀ w, D 8 w ≤ 4) (hx : 0 < D 5 w) : ah_Ev mt_X_axle d A [.ref b, .int (nI w), .int 0] (rg LTc g b D) (.returned (some (.long (lN (D 22 w / D 5 w))))) (rg LTc g b D) := by
  refine ah_Ev.of (by decide +kernel) (Nat.le_of_ble_eq_true rfl) ?_
  show ah_At mt_X_axle d A (rg LTc g b D) (.returned (some (.long (lN (D 22 w / D 5 w))))) (rg LTc g b D) 0 [(0, .ref b), (1, .int (nI w)), (2, .int 0)] [] (rg LTc g b D)
  refine b_X_axle_0 (rdR (k_X_0)) (c_hasWagon (d := d - 1) (A := A) hO (nI_toInt (n := w) (by omega))) (by omega) (fun q hq => hq) ?_ (rdN (k_T_0))
  refine aft_1 ?_
  refine b_X_axle_8 (fun z1 => ?_) (fun z1 => ?_)
  · replace z1 := pz0.mp z1
    exfalso; omega
  · replace z1 := pz1.mp z1
    refine b_X_axle_11 (c_isBetween (d := d - 1) (A := A) (show ((Int32.toInt64 0 : Int64)).toInt = 0 from by decide) (show ((0 : Int64)).toInt = 0 from by decide) (show ((1 : Int64)).toInt = 1 from by decide)) (by omega) (fun q hq => hq) ?_
    refine aft_1 ?_
    refine b_X_axle_18 (fun z2 => ?_) (fun z2 => ?_)
    · replace z2 := pz1.mp z2
      refine b_X_axle_31 (x_need0 (d := d - 1) (A := A) hO hq) (by omega) (fun q hq => hq) ?_ (rdN (k_X_0))
      refine aft_0 ?_
      refine b_X_axle_35 (rdR (k_X_0)) (rdR (k_T_0)) (ah_ix_nI (by omega)) (rdR (k_Gs _ (by omega))) (rdI (k_G_4 _ (by omega)) rfl) (fun z3 => ?_) (fun z3 => ?_)
      · replace z3 := mt (cveq (nI_toInt (n := D 5 w) (by have := hO 5 w; omega)) (show ((0 : Int32)).toInt = 0 from by decide)).mpr z3
        refine b_X_axle_62 (rdR (k_X_1)) (rdR (k_N_1)) (ah_ix_nI (by omega)) (rdR (k_Ls _ (by omega))) (rdL (k_L_4 _ (by omega)) rfl) (fun z => absurd z (by decide)) (fun z4 => ?_)
        refine b_X_axle_80 (nz_l (il_n rfl (by have := hO 5 w; omega)) (by omega) (by have := hO 5 w; omega)) ?_
        rw [show ((lN (D 22 w)) / (Int32.toInt64 (nI (D 5 w))) : Int64) = lN ((D 22 w) / (D 5 w)) from (dv_l rfl (il_n rfl (by have := hO 5 w; omega)) (by have := hO 22 w; omega) (by omega) (by have := hO 5 w; omega))]
        refine rt_l ?_ ?_ (b_X_axle_93 )
        · rfl
        · rfl
      · replace z3 := (cveq (nI_toInt (n := D 5 w) (by have := hO 5 w; omega)) (show ((0 : Int32)).toInt = 0 from by decide)).mp (Decidable.not_not.mp z3)
        exfalso; omega
    · replace z2 := pz0.mp (Decidable.not_not.mp z2)
      exfalso; omega
theorem x_axle01 {d : Nat} {A : Nat → Prop} {g : ah_H} {b : Nat} {D : rg_D} (hO : ∀ f j, D f j < 2 ^ 30) (hd : 12 ≤ d) (h3 : D 0 0 ≤ 3) (h8 : D 1 0 ≤ 8) (hq : D 16 0 = 1) {w : Nat} (hw : w < D 0 0) (hp : ∀ w, D 8 w ≤ 4) (hx : 0 < D 5 w) : ah_Ev mt_X_axle d A [.ref b, .int (nI w), .int 1] (rg LTc g b D) (.returned (some (.long (lN (D 22 w % D 5 w))))) (rg LTc g b D) := by
  refine ah_Ev.of (by decide +kernel) (Nat.le_of_ble_eq_true rfl) ?_
  show ah_At mt_X_axle d A (rg LTc g b D) (.returned (some (.long (lN (D 22 w % D 5 w))))) (rg LTc g b D) 0 [(0, .ref b), (1, .int (nI w)), (2, .int 1)] [] (rg LTc g b D)
  refine b_X_axle_0 (rdR (k_X_0)) (c_hasWagon (d := d - 1) (A := A) hO (nI_toInt (n := w) (by omega))) (by omega) (fun q hq => hq) ?_ (rdN (k_T_0))
  refine aft_1 ?_
  refine b_X_axle_8 (fun z1 => ?_) (fun z1 => ?_)
  · replace z1 := pz0.mp z1
    exfalso; omega
  · replace z1 := pz1.mp z1
    refine b_X_axle_11 (c_isBetween (d := d - 1) (A := A) (show ((Int32.toInt64 1 : Int64)).toInt = 1 from by decide) (show ((0 : Int64)).toInt = 0 from by decide) (show ((1 : Int64)).toInt = 1 from by decide)) (by omega) (fun q hq => hq) ?_
    refine aft_1 ?_
    refine b_X_axle_18 (fun z2 => ?_) (fun z2 => ?_)
    · replace z2 := pz1.mp z2
      refine b_X_axle_31 (x_need0 (d := d - 1) (A := A) hO hq) (by omega) (fun q hq => hq) ?_ (rdN (k_X_0))
      refine aft_0 ?_
      refine b_X_axle_35 (rdR (k_X_0)) (rdR (k_T_0)) (ah_ix_nI (by omega)) (rdR (k_Gs _ (by omega))) (rdI (k_G_4 _ (by omega)) rfl) (fun z3 => ?_) (fun z3 => ?_)
      · replace z3 := mt (cveq (nI_toInt (n := D 5 w) (by have := hO 5 w; omega)) (show ((0 : Int32)).toInt = 0 from by decide)).mpr z3
        refine b_X_axle_62 (rdR (k_X_1)) (rdR (k_N_1)) (ah_ix_nI (by omega)) (rdR (k_Ls _ (by omega))) (rdL (k_L_4 _ (by omega)) rfl) (fun z4 => ?_) (fun z => absurd (by decide) z)
        refine b_X_axle_88 (nz_l (il_n rfl (by have := hO 5 w; omega)) (by omega) (by have := hO 5 w; omega)) ?_
        rw [show ((lN (D 22 w)) - (lN (D 22 w)) / (Int32.toInt64 (nI (D 5 w))) * (Int32.toInt64 (nI (D 5 w))) : Int64) = lN ((D 22 w) % (D 5 w)) from (rm_l rfl (il_n rfl (by have := hO 5 w; omega)) (by have := hO 22 w; omega) (by omega) (by have := hO 5 w; omega))]
        refine rt_l ?_ ?_ (b_X_axle_93 )
        · rfl
        · rfl
      · replace z3 := (cveq (nI_toInt (n := D 5 w) (by have := hO 5 w; omega)) (show ((0 : Int32)).toInt = 0 from by decide)).mp (Decidable.not_not.mp z3)
        exfalso; omega
    · replace z2 := pz0.mp (Decidable.not_not.mp z2)
      exfalso; omega
theorem x_standby1 {d : Nat} {A : Nat → Prop} {g : ah_H} {b : Nat} {D : rg_D} (hO : ∀ f j, D f j < 2 ^ 30) (hA0 : ∀ q, ¬ A q) (hs9 : ∃ a c, (rg LTc g b D).2.2 a = some (97, c)) (hd : 12 ≤ d) {x1 : Int32} {p1 : Int} (h1 : x1.toInt = p1) (hq : D 16 0 = 0) : ah_Ev mt_X_standby d A [.ref b, .int x1] (rg LTc g b D) (.threw g.1) (ah_newx (rg LTc g b D) 93) := by
  refine ah_Ev.of (by decide +kernel) (Nat.le_of_ble_eq_true rfl) ?_
  show ah_At mt_X_standby d A (rg LTc g b D) (.threw g.1) (ah_newx (rg LTc g b D) 93) 0 [(0, .ref b), (1, .int x1)] [] (rg LTc g b D)
  refine b_X_standby_0 (x_need1 (d := d - 1) (A := A) hO hA0 hs9 (by omega) hq) (by omega) (fun q hq => hq) ?_ (rdN (k_X_0))
  exact ah_thr_out (fun x hx => absurd hx List.not_mem_nil)
theorem x_standby0 {d : Nat} {A : Nat → Prop} {g : ah_H} {b : Nat} {D : rg_D} (hO : ∀ f j, D f j < 2 ^ 30) (hd : 12 ≤ d) (h3 : D 0 0 ≤ 3) (h8 : D 1 0 ≤ 8) (hq : D 16 0 = 1) {x1 : Int32} {p1 : Int} (h1 : x1.toInt = p1) (hr : ∀ r, r < D 1 0 → D 25 r < 8) : ah_Ev mt_X_standby d A [.ref b, .int x1] (rg LTc g b D) (.returned (some (.int (nI (lbf D p1 (D 1 0) 0 0) - 1)))) (rg LTc g b D) := by
  refine ah_Ev.of (by decide +kernel) (Nat.le_of_ble_eq_true rfl) ?_
  show ah_At mt_X_standby d A (rg LTc g b D) (.returned (some (.int (nI (lbf D p1 (D 1 0) 0 0) - 1)))) (rg LTc g b D) 0 [(0, .ref b), (1, .int x1)] [] (rg LTc g b D)
  refine b_X_standby_0 (x_need0 (d := d - 1) (A := A) hO hq) (by omega) (fun q hq => hq) ?_ (rdN (k_X_0))
  refine aft_0 ?_
  refine b_X_standby_4 (rdR (k_X_1)) (c_leftBehind (d := d - 1) (A := A) hO h1 h8 hr) (by omega) (fun q hq => hq) ?_ (rdN (k_N_0))
  refine aft_1 ?_
  refine rt_i ?_ ?_ (b_X_standby_12 )
  · rfl
  · rfl
theorem x_refused1 {d : Nat} {A : Nat → Prop} {g : ah_H} {b : Nat} {D : rg_D} (hO : ∀ f j, D f j < 2 ^ 30) (hA0 : ∀ q, ¬ A q) (hs9 : ∃ a c, (rg LTc g b D).2.2 a = some (97, c)) (hd : 10 ≤ d) {x1 : Int32} {p1 : Int} (h1 : x1.toInt = p1) (hn : ¬ (0 ≤ p1 ∧ p1 < ((D 1 0 : Nat) : Int))) : ah_Ev mt_X_refused d A [.ref b, .int x1] (rg LTc g b D) (.threw g.1) (ah_newx (rg LTc g b D) 92) := by
  refine ah_Ev.of (by decide +kernel) (Nat.le_of_ble_eq_true rfl) ?_
  show ah_At mt_X_refused d A (rg LTc g b D) (.threw g.1) (ah_newx (rg LTc g b D) 92) 0 [(0, .ref b), (1, .int x1)] [] (rg LTc g b D)
  refine b_X_refused_0 (rdR (k_X_0)) (c_hasBox (d := d - 1) (A := A) hO h1) (by omega) (fun q hq => hq) ?_ (rdN (k_T_0))
  refine aft_1 ?_
  refine b_X_refused_8 (fun z1 => ?_) (fun z1 => ?_)
  · replace z1 := pz1.mp z1
    exfalso; omega
  · replace z1 := pz0.mp (Decidable.not_not.mp z1)
    exact b_X_refused_11 hA0 (by omega) hs9
theorem x_refused0 {d : Nat} {A : Nat → Prop} {g : ah_H} {b : Nat} {D : rg_D} (hO : ∀ f j, D f j < 2 ^ 30) (hd : 12 ≤ d) (h3 : D 0 0 ≤ 3) (h8 : D 1 0 ≤ 8) {i : Nat} (hi : i < D 1 0) (hs : D 10 i < 4) (hp : ∀ w, D 8 w ≤ 4) : ah_Ev mt_X_refused d A [.ref b, .int (nI i)] (rg LTc g b D) (.returned (some (.int (nI (rsn D i))))) (rg LTc g b D) := by
  refine ah_Ev.of (by decide +kernel) (Nat.le_of_ble_eq_true rfl) ?_
  show ah_At mt_X_refused d A (rg LTc g b D) (.returned (some (.int (nI (rsn D i))))) (rg LTc g b D) 0 [(0, .ref b), (1, .int (nI i))] [] (rg LTc g b D)
  refine b_X_refused_0 (rdR (k_X_0)) (c_hasBox (d := d - 1) (A := A) hO (nI_toInt (n := i) (by omega))) (by omega) (fun q hq => hq) ?_ (rdN (k_T_0))
  refine aft_1 ?_
  refine b_X_refused_8 (fun z1 => ?_) (fun z1 => ?_)
  · replace z1 := pz1.mp z1
    refine b_X_refused_21 (rdR (k_X_0)) (rdR (k_X_0)) (rdR (k_T_2)) (ah_ix_nI (by omega)) (rdR (k_Bs _ (by omega))) (c_reasonT (d := d - 1) (A := A) hO (by omega) hs h3 hp (by omega)) (by omega) (fun q hq => hq) ?_ (rdN (k_T_0))
    refine aft_1 ?_
    refine rt_i ?_ ?_ (b_X_refused_37 )
    · rfl
    · rfl
  · replace z1 := pz0.mp (Decidable.not_not.mp z1)
    exfalso; omega
theorem x_together1 {d : Nat} {A : Nat → Prop} {g : ah_H} {b : Nat} {D : rg_D} (hO : ∀ f j, D f j < 2 ^ 30) (hA0 : ∀ q, ¬ A q) (hs9 : ∃ a c, (rg LTc g b D).2.2 a = some (97, c)) (hd : 10 ≤ d) {x1 : Int32} {p1 : Int} (h1 : x1.toInt = p1) {x2 : Int32} {p2 : Int} (h2 : x2.toInt = p2) (hn : ¬ (0 ≤ p1 ∧ p1 < ((D 1 0 : Nat) : Int)) ∨ ¬ (0 ≤ p2 ∧ p2 < ((D 1 0 : Nat) : Int))) : ah_Ev mt_X_together d A [.ref b, .int x1, .int x2] (rg LTc g b D) (.threw g.1) (ah_newx (rg LTc g b D) 92) := by
  refine ah_Ev.of (by decide +kernel) (Nat.le_of_ble_eq_true rfl) ?_
  show ah_At mt_X_together d A (rg LTc g b D) (.threw g.1) (ah_newx (rg LTc g b D) 92) 0 [(0, .ref b), (1, .int x1), (2, .int x2)] [] (rg LTc g b D)
  refine b_X_together_0 (rdR (k_X_0)) (c_hasBox (d := d - 1) (A := A) hO h1) (by omega) (fun q hq => hq) ?_ (rdN (k_T_0))
  refine aft_1 ?_
  refine b_X_together_8 (fun z1 => ?_) (fun z1 => ?_)
  · replace z1 := pz0.mp z1
    exact b_X_together_22 hA0 (by omega) hs9
  · replace z1 := pz1.mp z1
    refine b_X_together_11 (rdR (k_X_0)) (c_hasBox (d := d - 1) (A := A) hO h2) (by omega) (fun q hq => hq) ?_ (rdN (k_T_0))
    refine aft_1 ?_
    refine b_X_together_19 (fun z2 => ?_) (fun z2 => ?_)
    · replace z2 := pz1.mp z2
      exfalso; omega
    · replace z2 := pz0.mp (Decidable.not_not.mp z2)
      exact b_X_together_22 hA0 (by omega) hs9
theorem x_together0 {d : Nat} {A : Nat → Prop} {g : ah_H} {b : Nat} {D : rg_D} (hO : ∀ f j, D f j < 2 ^ 30) (hd : 12 ≤ d) (h8 : D 1 0 ≤ 8) {i j : Nat} (hi : i < D 1 0) (hj : j < D 1 0) (hs : D 13 i < 4) (hs2 : D 13 j < 4) : ah_Ev mt_X_together d A [.ref b, .int (nI i), .int (nI j)] (rg LTc g b D) (.returned (some (.int (bz (pb (D 15 (4 * D 13 i + D 13 j) = 0)))))) (rg LTc g b D) := by
  refine ah_Ev.of (by decide +kernel) (Nat.le_of_ble_eq_true rfl) ?_
  show ah_At mt_X_together d A (rg LTc g b D) (.returned (some (.int (bz (pb (D 15 (4 * D 13 i + D 13 j) = 0)))))) (rg LTc g b D) 0 [(0, .ref b), (1, .int (nI i)), (2, .int (nI j))] [] (rg LTc g b D)
  refine b_X_together_0 (rdR (k_X_0)) (c_hasBox (d := d - 1) (A := A) hO (nI_toInt (n := i) (by omega))) (by omega) (fun q hq => hq) ?_ (rdN (k_T_0))
  refine aft_1 ?_
  refine b_X_together_8 (fun z1 => ?_) (fun z1 => ?_)
  · replace z1 := pz0.mp z1
    exfalso; omega
  · replace z1 := pz1.mp z1
    refine b_X_together_11 (rdR (k_X_0)) (c_hasBox (d := d - 1) (A := A) hO (nI_toInt (n := j) (by omega))) (by omega) (fun q hq => hq) ?_ (rdN (k_T_0))
    refine aft_1 ?_
    refine b_X_together_19 (fun z2 => ?_) (fun z2 => ?_)
    · replace z2 := pz1.mp z2
      refine b_X_together_32 (rdR (k_X_0)) (rdR (k_T_4)) (rdR (k_X_0)) (rdR (k_T_2)) (ah_ix_nI (by omega)) (rdR (k_Bs _ (by omega))) (rdI (k_B_3 _ (by omega)) rfl) (ah_ix_nI (by have := hO 13 i; omega)) (rdR (k_RR _ (by omega))) (rdR (k_X_0)) (rdR (k_T_2)) (ah_ix_nI (by omega)) (rdR (k_Bs _ (by omega))) (rdI (k_B_3 _ (by omega)) rfl) (ah_ix_nI (by have := hO 13 j; omega)) (rdI (k_R _ (by omega) _ (by omega)) rfl) (fun z3 => ?_) (fun z3 => ?_)
      · replace z3 := (cvle (show ((1 : Int32)).toInt = 1 from by decide) (nI_toInt (n := D 15 (4 * (((D 13 i))) + (D 13 j))) (by have := hO 13 i; have := hO 13 j; have := hO 15 (4 * (((D 13 i))) + (D 13 j)); omega))).mp z3
        refine b_X_together_73 ?_
        refine rt_i ?_ ?_ (b_X_together_74 (by decide +kernel))
        · refine bz_np ?_; omega
        · rfl
      · replace z3 := mt (cvle (show ((1 : Int32)).toInt = 1 from by decide) (nI_toInt (n := D 15 (4 * (((D 13 i))) + (D 13 j))) (by have := hO 13 i; have := hO 13 j; have := hO 15 (4 * (((D 13 i))) + (D 13 j)); omega))).mpr z3
        refine b_X_together_69 ?_
        refine rt_i ?_ ?_ (b_X_together_74 (by decide +kernel))
        · refine bz_p ?_; omega
        · rfl
    · replace z2 := pz0.mp (Decidable.not_not.mp z2)
      exfalso; omega
