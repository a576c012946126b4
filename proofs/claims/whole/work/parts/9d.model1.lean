/-! CONTRACTS of the model: what is told; small ones. Printed out of wip/ -/
theorem c_in {d : Nat} {A : Nat → Prop} {h : ah_H} {x y z : Int64} {p q r : Int} (hx : x.toInt = p) (hy : y.toInt = q) (hz : z.toInt = r) : ah_Ev mt_M_in d A [.long x, .long y, .long z] h (.returned (some (.int (bz (pb (q ≤ p ∧ p ≤ r)))))) h := by
  refine ah_Ev.of (by decide +kernel) (Nat.le_of_ble_eq_true rfl) ?_
  show ah_At mt_M_in d A h (.returned (some (.int (bz (pb (q ≤ p ∧ p ≤ r)))))) h 0 [(0, .long x), (2, .long y), (4, .long z)] [] h
  refine b_M_in_0 (fun z1 => ?_) (fun z1 => ?_)
  · replace z1 := (cLlt hx hy).mp z1
    refine b_M_in_17 ?_
    refine rt_i ?_ ?_ (b_M_in_18 (by decide +kernel))
    · refine bz_np ?_; omega
    · rfl
  · replace z1 := mt (cLlt hx hy).mpr z1
    refine b_M_in_6 (fun z2 => ?_) (fun z2 => ?_)
    · replace z2 := (cLgt hx hz).mp z2
      refine b_M_in_17 ?_
      refine rt_i ?_ ?_ (b_M_in_18 (by decide +kernel))
      · refine bz_np ?_; omega
      · rfl
    · replace z2 := mt (cLgt hx hz).mpr z2
      refine b_M_in_13 ?_
      refine rt_i ?_ ?_ (b_M_in_18 (by decide +kernel))
      · refine bz_p ?_; omega
      · rfl
def lm (n : Nat) : Nat := if n = 1 then 4 else if n = 2 then 8 else 9
theorem lm_le (n : Nat) : lm n ≤ 9 := by unfold lm; split; omega; split <;> omega
theorem lm_ln {n : Nat} (h1 : 1 ≤ n) (h3 : n ≤ 3) : lm n = ln n := by unfold lm ln; split; rfl; split; rfl; rw [if_pos (by omega)]
theorem c_lengthOf {d : Nat} {A : Nat → Prop} {h : ah_H} {n : Nat} (hn : n < 2 ^ 31) : ah_Ev mt_M_lengthOf d A [.int (nI n)] h (.returned (some (.int (nI (lm n))))) h := by
  refine ah_Ev.of (by decide +kernel) (Nat.le_of_ble_eq_true rfl) ?_
  show ah_At mt_M_lengthOf d A h (.returned (some (.int (nI (lm n))))) h 0 [(0, .int (nI n))] [] h
  refine b_M_lengthOf_0 (fun z1 => ?_) (fun z1 => ?_)
  · replace z1 := mt (cveq (nI_toInt (n := n) (by omega)) (show ((1 : Int32)).toInt = 1 from by decide)).mpr z1
    refine b_M_lengthOf_9 (fun z2 => ?_) (fun z2 => ?_)
    · replace z2 := mt (cveq (nI_toInt (n := n) (by omega)) (show ((2 : Int32)).toInt = 2 from by decide)).mpr z2
      refine b_M_lengthOf_19 ?_
      refine rt_i ?_ ?_ (b_M_lengthOf_21 )
      · show nI 9 = nI (lm n); congr 1; unfold lm; split; omega; split <;> omega
      · rfl
    · replace z2 := (cveq (nI_toInt (n := n) (by omega)) (show ((2 : Int32)).toInt = 2 from by decide)).mp (Decidable.not_not.mp z2)
      refine b_M_lengthOf_14 ?_
      refine rt_i ?_ ?_ (b_M_lengthOf_21 )
      · show nI 8 = nI (lm n); congr 1; unfold lm; split; omega; split <;> omega
      · rfl
  · replace z1 := (cveq (nI_toInt (n := n) (by omega)) (show ((1 : Int32)).toInt = 1 from by decide)).mp (Decidable.not_not.mp z1)
    refine b_M_lengthOf_5 ?_
    refine rt_i ?_ ?_ (b_M_lengthOf_21 )
    · show nI 4 = nI (lm n); congr 1; unfold lm; split; omega; split <;> omega
    · rfl
theorem c_isWagon {d : Nat} {A : Nat → Prop} {g : ah_H} {m : Nat} {E : rg_D} (hO : ∀ f j, E f j < 2 ^ 30) {x : Int32} {p : Int} (hx : x.toInt = p) {n : Nat} (hn : E 0 0 = n) : ah_Ev mt_M_isWagon d A [.ref m, .int x] (rg LTm g m E) (.returned (some (.int (bz (pb (0 ≤ p ∧ p < ((n : Nat) : Int))))))) (rg LTm g m E) := by
  refine ah_Ev.of (by decide +kernel) (Nat.le_of_ble_eq_true rfl) ?_
  show ah_At mt_M_isWagon d A (rg LTm g m E) (.returned (some (.int (bz (pb (0 ≤ p ∧ p < ((n : Nat) : Int))))))) (rg LTm g m E) 0 [(0, .ref m), (1, .int x)] [] (rg LTm g m E)
  refine b_M_isWagon_0 (fun z1 => ?_) (fun z1 => ?_)
  · replace z1 := (cvlt hx (show ((0 : Int32)).toInt = 0 from by decide)).mp z1
    refine b_M_isWagon_16 ?_
    refine rt_i ?_ ?_ (b_M_isWagon_17 (by decide +kernel))
    · refine bz_np ?_; omega
    · rfl
  · replace z1 := mt (cvlt hx (show ((0 : Int32)).toInt = 0 from by decide)).mpr z1
    refine b_M_isWagon_4 (rdI (k_M_1) rfl) (fun z2 => ?_) (fun z2 => ?_)
    · replace z2 := (cvle (nI_toInt (n := E 0 0) (by have := hO 0 0; omega)) hx).mp z2
      refine b_M_isWagon_16 ?_
      refine rt_i ?_ ?_ (b_M_isWagon_17 (by decide +kernel))
      · refine bz_np ?_; omega
      · rfl
    · replace z2 := mt (cvle (nI_toInt (n := E 0 0) (by have := hO 0 0; omega)) hx).mpr z2
      refine b_M_isWagon_12 ?_
      refine rt_i ?_ ?_ (b_M_isWagon_17 (by decide +kernel))
      · refine bz_p ?_; omega
      · rfl
theorem c_isBox {d : Nat} {A : Nat → Prop} {g : ah_H} {m : Nat} {E : rg_D} (hO : ∀ f j, E f j < 2 ^ 30) {x : Int32} {p : Int} (hx : x.toInt = p) {n : Nat} (hn : E 1 0 = n) : ah_Ev mt_M_isBox d A [.ref m, .int x] (rg LTm g m E) (.returned (some (.int (bz (pb (0 ≤ p ∧ p < ((n : Nat) : Int))))))) (rg LTm g m E) := by
  refine ah_Ev.of (by decide +kernel) (Nat.le_of_ble_eq_true rfl) ?_
  show ah_At mt_M_isBox d A (rg LTm g m E) (.returned (some (.int (bz (pb (0 ≤ p ∧ p < ((n : Nat) : Int))))))) (rg LTm g m E) 0 [(0, .ref m), (1, .int x)] [] (rg LTm g m E)
  refine b_M_isBox_0 (fun z1 => ?_) (fun z1 => ?_)
  · replace z1 := (cvlt hx (show ((0 : Int32)).toInt = 0 from by decide)).mp z1
    refine b_M_isBox_16 ?_
    refine rt_i ?_ ?_ (b_M_isBox_17 (by decide +kernel))
    · refine bz_np ?_; omega
    · rfl
  · replace z1 := mt (cvlt hx (show ((0 : Int32)).toInt = 0 from by decide)).mpr z1
    refine b_M_isBox_4 (rdI (k_M_2) rfl) (fun z2 => ?_) (fun z2 => ?_)
    · replace z2 := (cvle (nI_toInt (n := E 1 0) (by have := hO 1 0; omega)) hx).mp z2
      refine b_M_isBox_16 ?_
      refine rt_i ?_ ?_ (b_M_isBox_17 (by decide +kernel))
      · refine bz_np ?_; omega
      · rfl
    · replace z2 := mt (cvle (nI_toInt (n := E 1 0) (by have := hO 1 0; omega)) hx).mpr z2
      refine b_M_isBox_12 ?_
      refine rt_i ?_ ?_ (b_M_isBox_17 (by decide +kernel))
      · refine bz_p ?_; omega
      · rfl
theorem c_thrown {d : Nat} {A : Nat → Prop} {g : ah_H} {m : Nat} {E : rg_D} (hO : ∀ f j, E f j < 2 ^ 30) : ah_Ev mt_M_thrown d A [.ref m] (rg LTm g m E) (.returned (some (.int (nI (E 32 0))))) (rg LTm g m E) := by
  refine ah_Ev.of (by decide +kernel) (Nat.le_of_ble_eq_true rfl) ?_
  show ah_At mt_M_thrown d A (rg LTm g m E) (.returned (some (.int (nI (E 32 0))))) (rg LTm g m E) 0 [(0, .ref m)] [] (rg LTm g m E)
  refine rt_i ?_ ?_ (b_M_thrown_0 (rdI (k_M_0) rfl))
  · rfl
  · rfl
theorem m_wagon1 {d : Nat} {A : Nat → Prop} {g : ah_H} {m : Nat} {E : rg_D} (hO : ∀ f j, E f j < 2 ^ 30) (hA : ∀ q, m ≤ q → q < m + 16 → A q) (hd : 8 ≤ d) {x1 : Int32} {p1 : Int} (h1 : x1.toInt = p1) {x2 : Int64} {p2 : Int} (h2 : x2.toInt = p2) {x3 : Int32} {p3 : Int} (h3 : x3.toInt = p3) {x4 : Int32} {p4 : Int} (h4 : x4.toInt = p4) (hn : ¬ ((1 ≤ p1 ∧ p1 ≤ 30) ∧ (0 ≤ p2 ∧ p2 ≤ 1000000) ∧ (0 ≤ p3 ∧ p3 ≤ 8) ∧ (1 ≤ p4 ∧ p4 ≤ 100))) : ah_Ev mt_M_wagon d A [.ref m, .int x1, .long x2, .int x3, .int x4] (rg LTm g m E) (.returned (some (.int 0))) (rg LTm g m (up E 32 0 1)) := by
  refine ah_Ev.of (by decide +kernel) (Nat.le_of_ble_eq_true rfl) ?_
  show ah_At mt_M_wagon d A (rg LTm g m E) (.returned (some (.int 0))) (rg LTm g m (up E 32 0 1)) 0 [(0, .ref m), (1, .int x1), (2, .long x2), (4, .int x3), (5, .int x4)] [] (rg LTm g m E)
  refine b_M_wagon_0 (c_in (d := d - 1) (A := A) ((i2l_toInt x1).trans h1) (show ((1 : Int64)).toInt = 1 from by decide) (show ((30 : Int64)).toInt = 30 from by decide)) (by omega) (fun q hq => hq) ?_
  refine aft_1 ?_
  refine b_M_wagon_10 (fun z1 => ?_) (fun z1 => ?_)
  · replace z1 := pz0.mp z1
    refine b_M_wagon_50 ?_
    refine b_M_wagon_67 (v2 := 1) (hA _ (by omega) (by omega)) (rdE (k_M_0)) (by rw [stmI0 (x := 1) (v := 1) (k_M_0) rfl]; exact (rdI (e := 1) (k_M_0) (by simp [up]))) (fun z => absurd z (by decide)) (fun z2 => ?_)
    rw [stmI0 (x := 1) (v := 1) (k_M_0) rfl]
    refine rt_i ?_ ?_ (b_M_wagon_77 )
    · rfl
    · rfl
  · replace z1 := pz1.mp z1
    refine b_M_wagon_13 (c_in (d := d - 1) (A := A) h2 (show ((0 : Int64)).toInt = 0 from by decide) (show ((1000000 : Int64)).toInt = 1000000 from by decide)) (by omega) (fun q hq => hq) ?_
    refine aft_1 ?_
    refine b_M_wagon_21 (fun z3 => ?_) (fun z3 => ?_)
    · replace z3 := pz0.mp z3
      refine b_M_wagon_50 ?_
      refine b_M_wagon_67 (v2 := 1) (hA _ (by omega) (by omega)) (rdE (k_M_0)) (by rw [stmI0 (x := 1) (v := 1) (k_M_0) rfl]; exact (rdI (e := 1) (k_M_0) (by simp [up]))) (fun z => absurd z (by decide)) (fun z4 => ?_)
      rw [stmI0 (x := 1) (v := 1) (k_M_0) rfl]
      refine rt_i ?_ ?_ (b_M_wagon_77 )
      · rfl
      · rfl
    · replace z3 := pz1.mp z3
      refine b_M_wagon_24 (c_in (d := d - 1) (A := A) ((i2l_toInt x3).trans h3) (show ((0 : Int64)).toInt = 0 from by decide) (show ((8 : Int64)).toInt = 8 from by decide)) (by omega) (fun q hq => hq) ?_
      refine aft_1 ?_
      refine b_M_wagon_34 (fun z5 => ?_) (fun z5 => ?_)
      · replace z5 := pz0.mp z5
        refine b_M_wagon_50 ?_
        refine b_M_wagon_67 (v2 := 1) (hA _ (by omega) (by omega)) (rdE (k_M_0)) (by rw [stmI0 (x := 1) (v := 1) (k_M_0) rfl]; exact (rdI (e := 1) (k_M_0) (by simp [up]))) (fun z => absurd z (by decide)) (fun z6 => ?_)
        rw [stmI0 (x := 1) (v := 1) (k_M_0) rfl]
        refine rt_i ?_ ?_ (b_M_wagon_77 )
        · rfl
        · rfl
      · replace z5 := pz1.mp z5
        refine b_M_wagon_37 (c_in (d := d - 1) (A := A) ((i2l_toInt x4).trans h4) (show ((1 : Int64)).toInt = 1 from by decide) (show ((100 : Int64)).toInt = 100 from by decide)) (by omega) (fun q hq => hq) ?_
        refine aft_1 ?_
        refine b_M_wagon_47 (fun z7 => ?_) (fun z7 => ?_)
        · replace z7 := pz1.mp z7
          exfalso; omega
        · replace z7 := pz0.mp (Decidable.not_not.mp z7)
          refine b_M_wagon_50 ?_
          refine b_M_wagon_67 (v2 := 1) (hA _ (by omega) (by omega)) (rdE (k_M_0)) (by rw [stmI0 (x := 1) (v := 1) (k_M_0) rfl]; exact (rdI (e := 1) (k_M_0) (by simp [up]))) (fun z => absurd z (by decide)) (fun z8 => ?_)
          rw [stmI0 (x := 1) (v := 1) (k_M_0) rfl]
          refine rt_i ?_ ?_ (b_M_wagon_77 )
          · rfl
          · rfl
theorem m_wagon2 {d : Nat} {A : Nat → Prop} {g : ah_H} {m : Nat} {E : rg_D} (hO : ∀ f j, E f j < 2 ^ 30) (hA : ∀ q, m ≤ q → q < m + 16 → A q) (hd : 8 ≤ d) {x1 : Int32} {p1 : Int} (h1 : x1.toInt = p1) {x2 : Int64} {p2 : Int} (h2 : x2.toInt = p2) {x3 : Int32} {p3 : Int} (h3 : x3.toInt = p3) {x4 : Int32} {p4 : Int} (h4 : x4.toInt = p4) (g1 : 1 ≤ p1 ∧ p1 ≤ 30) (g2 : 0 ≤ p2 ∧ p2 ≤ 1000000) (g3 : 0 ≤ p3 ∧ p3 ≤ 8) (g4 : 1 ≤ p4 ∧ p4 ≤ 100) (hn : E 0 0 = 3) : ah_Ev mt_M_wagon d A [.ref m, .int x1, .long x2, .int x3, .int x4] (rg LTm g m E) (.returned (some (.int 0))) (rg LTm g m (up E 32 0 2)) := by
  refine ah_Ev.of (by decide +kernel) (Nat.le_of_ble_eq_true rfl) ?_
  show ah_At mt_M_wagon d A (rg LTm g m E) (.returned (some (.int 0))) (rg LTm g m (up E 32 0 2)) 0 [(0, .ref m), (1, .int x1), (2, .long x2), (4, .int x3), (5, .int x4)] [] (rg LTm g m E)
  refine b_M_wagon_0 (c_in (d := d - 1) (A := A) ((i2l_toInt x1).trans h1) (show ((1 : Int64)).toInt = 1 from by decide) (show ((30 : Int64)).toInt = 30 from by decide)) (by omega) (fun q hq => hq) ?_
  refine aft_1 ?_
  refine b_M_wagon_10 (fun z1 => ?_) (fun z1 => ?_)
  · replace z1 := pz0.mp z1
    exfalso; omega
  · replace z1 := pz1.mp z1
    refine b_M_wagon_13 (c_in (d := d - 1) (A := A) h2 (show ((0 : Int64)).toInt = 0 from by decide) (show ((1000000 : Int64)).toInt = 1000000 from by decide)) (by omega) (fun q hq => hq) ?_
    refine aft_1 ?_
    refine b_M_wagon_21 (fun z2 => ?_) (fun z2 => ?_)
    · replace z2 := pz0.mp z2
      exfalso; omega
    · replace z2 := pz1.mp z2
      refine b_M_wagon_24 (c_in (d := d - 1) (A := A) ((i2l_toInt x3).trans h3) (show ((0 : Int64)).toInt = 0 from by decide) (show ((8 : Int64)).toInt = 8 from by decide)) (by omega) (fun q hq => hq) ?_
      refine aft_1 ?_
      refine b_M_wagon_34 (fun z3 => ?_) (fun z3 => ?_)
      · replace z3 := pz0.mp z3
        exfalso; omega
      · replace z3 := pz1.mp z3
        refine b_M_wagon_37 (c_in (d := d - 1) (A := A) ((i2l_toInt x4).trans h4) (show ((1 : Int64)).toInt = 1 from by decide) (show ((100 : Int64)).toInt = 100 from by decide)) (by omega) (fun q hq => hq) ?_
        refine aft_1 ?_
        refine b_M_wagon_47 (fun z4 => ?_) (fun z4 => ?_)
        · replace z4 := pz1.mp z4
          refine b_M_wagon_54 (rdI (k_M_1) rfl) (fun z5 => ?_) (fun z5 => ?_)
          · replace z5 := mt (cveq (nI_toInt (n := E 0 0) (by have := hO 0 0; omega)) (show ((3 : Int32)).toInt = 3 from by decide)).mpr z5
            exfalso; omega
          · replace z5 := (cveq (nI_toInt (n := E 0 0) (by have := hO 0 0; omega)) (show ((3 : Int32)).toInt = 3 from by decide)).mp (Decidable.not_not.mp z5)
            refine b_M_wagon_62 ?_
            refine b_M_wagon_67 (v2 := 2) (hA _ (by omega) (by omega)) (rdE (k_M_0)) (by rw [stmI0 (x := 2) (v := 2) (k_M_0) rfl]; exact (rdI (e := 2) (k_M_0) (by simp [up]))) (fun z => absurd z (by decide)) (fun z6 => ?_)
            rw [stmI0 (x := 2) (v := 2) (k_M_0) rfl]
            refine rt_i ?_ ?_ (b_M_wagon_77 )
            · rfl
            · rfl
        · replace z4 := pz0.mp (Decidable.not_not.mp z4)
          exfalso; omega
theorem m_wagon0 {d : Nat} {A : Nat → Prop} {g : ah_H} {m : Nat} {E : rg_D} (hO : ∀ f j, E f j < 2 ^ 30) (hA : ∀ q, m ≤ q → q < m + 16 → A q) (hd : 8 ≤ d) {l q a u : Nat} (g1 : 1 ≤ l ∧ l ≤ 30) (g2 : q ≤ 1000000) (g3 : a ≤ 8) (g4 : 1 ≤ u ∧ u ≤ 100) (hn : E 0 0 < 3) : ah_Ev mt_M_wagon d A [.ref m, .int (nI l), .long (lN q), .int (nI a), .int (nI u)] (rg LTm g m E) (.returned (some (.int (nI (E 0 0))))) (rg LTm g m (up (up (up (up (up (up (up E 32 0 0) 3 (E 0 0) l) 4 (E 0 0) q) 5 (E 0 0) a) 6 (E 0 0) u) 0 0 (E 0 0 + 1)) 16 0 0)) := by
  refine ah_Ev.of (by decide +kernel) (Nat.le_of_ble_eq_true rfl) ?_
  show ah_At mt_M_wagon d A (rg LTm g m E) (.returned (some (.int (nI (E 0 0))))) (rg LTm g m (up (up (up (up (up (up (up E 32 0 0) 3 (E 0 0) l) 4 (E 0 0) q) 5 (E 0 0) a) 6 (E 0 0) u) 0 0 (E 0 0 + 1)) 16 0 0)) 0 [(0, .ref m), (1, .int (nI l)), (2, .long (lN q)), (4, .int (nI a)), (5, .int (nI u))] [] (rg LTm g m E)
  refine b_M_wagon_0 (c_in (d := d - 1) (A := A) (tl_n (show (Int32.toInt64 (nI l) : Int64) = lN (l) from (il_n rfl (by omega))) (by omega)) (show ((1 : Int64)).toInt = 1 from by decide) (show ((30 : Int64)).toInt = 30 from by decide)) (by omega) (fun q hq => hq) ?_
  refine aft_1 ?_
  refine b_M_wagon_10 (fun z1 => ?_) (fun z1 => ?_)
  · replace z1 := pz0.mp z1
    exfalso; omega
  · replace z1 := pz1.mp z1
    refine b_M_wagon_13 (c_in (d := d - 1) (A := A) (lN_toInt (n := q) (by omega)) (show ((0 : Int64)).toInt = 0 from by decide) (show ((1000000 : Int64)).toInt = 1000000 from by decide)) (by omega) (fun q hq => hq) ?_
    refine aft_1 ?_
    refine b_M_wagon_21 (fun z2 => ?_) (fun z2 => ?_)
    · replace z2 := pz0.mp z2
      exfalso; omega
    · replace z2 := pz1.mp z2
      refine b_M_wagon_24 (c_in (d := d - 1) (A := A) (tl_n (show (Int32.toInt64 (nI a) : Int64) = lN (a) from (il_n rfl (by omega))) (by omega)) (show ((0 : Int64)).toInt = 0 from by decide) (show ((8 : Int64)).toInt = 8 from by decide)) (by omega) (fun q hq => hq) ?_
      refine aft_1 ?_
      refine b_M_wagon_34 (fun z3 => ?_) (fun z3 => ?_)
      · replace z3 := pz0.mp z3
        exfalso; omega
      · replace z3 := pz1.mp z3
        refine b_M_wagon_37 (c_in (d := d - 1) (A := A) (tl_n (show (Int32.toInt64 (nI u) : Int64) = lN (u) from (il_n rfl (by omega))) (by omega)) (show ((1 : Int64)).toInt = 1 from by decide) (show ((100 : Int64)).toInt = 100 from by decide)) (by omega) (fun q hq => hq) ?_
        refine aft_1 ?_
        refine b_M_wagon_47 (fun z4 => ?_) (fun z4 => ?_)
        · replace z4 := pz1.mp z4
          refine b_M_wagon_54 (rdI (k_M_1) rfl) (fun z5 => ?_) (fun z5 => ?_)
          · replace z5 := mt (cveq (nI_toInt (n := E 0 0) (by have := hO 0 0; omega)) (show ((3 : Int32)).toInt = 3 from by decide)).mpr z5
            refine b_M_wagon_66 ?_
            refine b_M_wagon_67 (v2 := 0) (hA _ (by omega) (by omega)) (rdE (k_M_0)) (by rw [stmI0 (x := 0) (v := 0) (k_M_0) rfl]; exact (rdI (e := 0) (k_M_0) (by simp [up]))) (fun z6 => ?_) (fun z => absurd (by decide) z)
            rw [stmI0 (x := 0) (v := 0) (k_M_0) rfl]
            refine rt_i ?_ ?_ (b_M_wagon_79 (v4 := m + 2) (v5 := nI (E 0 0)) (v7 := m + 3) (v8 := nI (E 0 0)) (v10 := m + 4) (v11 := nI (E 0 0)) (v13 := nI (E 0 0)) (v16 := nI ((E 0 0) + 1)) (rdR (k_M_3)) (rdI (e := E 0 0) (k_M_1) (by simp [up])) (hA _ (by omega) (by omega)) (ah_ix_nI (by have := hO 0 0; omega)) (rdE (k_M3 _ (by omega))) (by rw [stmI (x := l) (v := nI l) (k_M3 _ (by omega)) rfl]; exact (rdR (k_M_4))) (by rw [stmI (x := l) (v := nI l) (k_M3 _ (by omega)) rfl]; exact (rdI (e := E 0 0) (k_M_1) (by simp [up]))) (hA _ (by omega) (by omega)) (ah_ix_nI (by have := hO 0 0; omega)) (by rw [stmI (x := l) (v := nI l) (k_M3 _ (by omega)) rfl]; exact (rdE (k_M4 _ (by omega)))) (by rw [stmI (x := l) (v := nI l) (k_M3 _ (by omega)) rfl, stmL (x := q) (v := lN q) (k_M4 _ (by omega)) rfl]; exact (rdR (k_M_5))) (by rw [stmI (x := l) (v := nI l) (k_M3 _ (by omega)) rfl, stmL (x := q) (v := lN q) (k_M4 _ (by omega)) rfl]; exact (rdI (e := E 0 0) (k_M_1) (by simp [up]))) (hA _ (by omega) (by omega)) (ah_ix_nI (by have := hO 0 0; omega)) (by rw [stmI (x := l) (v := nI l) (k_M3 _ (by omega)) rfl, stmL (x := q) (v := lN q) (k_M4 _ (by omega)) rfl]; exact (rdE (k_M5 _ (by omega)))) (by rw [stmI (x := l) (v := nI l) (k_M3 _ (by omega)) rfl, stmL (x := q) (v := lN q) (k_M4 _ (by omega)) rfl, stmI (x := a) (v := nI a) (k_M5 _ (by omega)) rfl]; exact (rdR (k_M_6))) (by rw [stmI (x := l) (v := nI l) (k_M3 _ (by omega)) rfl, stmL (x := q) (v := lN q) (k_M4 _ (by omega)) rfl, stmI (x := a) (v := nI a) (k_M5 _ (by omega)) rfl]; exact (rdI (e := E 0 0) (k_M_1) (by simp [up]))) (hA _ (by omega) (by omega)) (ah_ix_nI (by have := hO 0 0; omega)) (by rw [stmI (x := l) (v := nI l) (k_M3 _ (by omega)) rfl, stmL (x := q) (v := lN q) (k_M4 _ (by omega)) rfl, stmI (x := a) (v := nI a) (k_M5 _ (by omega)) rfl]; exact (rdE (k_M6 _ (by omega)))) (by rw [stmI (x := l) (v := nI l) (k_M3 _ (by omega)) rfl, stmL (x := q) (v := lN q) (k_M4 _ (by omega)) rfl, stmI (x := a) (v := nI a) (k_M5 _ (by omega)) rfl, stmI (x := u) (v := nI u) (k_M6 _ (by omega)) rfl]; exact (rdI (e := E 0 0) (k_M_1) (by simp [up]))) (hA _ (by omega) (by omega)) (by rw [stmI (x := l) (v := nI l) (k_M3 _ (by omega)) rfl, stmL (x := q) (v := lN q) (k_M4 _ (by omega)) rfl, stmI (x := a) (v := nI a) (k_M5 _ (by omega)) rfl, stmI (x := u) (v := nI u) (k_M6 _ (by omega)) rfl]; exact (rdE (k_M_1))) (hA _ (by omega) (by omega)) (by rw [stmI (x := l) (v := nI l) (k_M3 _ (by omega)) rfl, stmL (x := q) (v := lN q) (k_M4 _ (by omega)) rfl, stmI (x := a) (v := nI a) (k_M5 _ (by omega)) rfl, stmI (x := u) (v := nI u) (k_M6 _ (by omega)) rfl, stmI0 (x := (E 0 0) + 1) (v := (nI (E 0 0)) + 1) (k_M_1) (ad_n rfl rfl)]; exact (rdE (k_M_17))) (by rw [stmI (x := l) (v := nI l) (k_M3 _ (by omega)) rfl, stmL (x := q) (v := lN q) (k_M4 _ (by omega)) rfl, stmI (x := a) (v := nI a) (k_M5 _ (by omega)) rfl, stmI (x := u) (v := nI u) (k_M6 _ (by omega)) rfl, stmI0 (x := (E 0 0) + 1) (v := (nI (E 0 0)) + 1) (k_M_1) (ad_n rfl rfl), stmI0 (x := 0) (v := 0) (k_M_17) rfl]; exact (rdI (e := (E 0 0) + 1) (k_M_1) (by simp [up]))))
            · exact nI_pred _
            · rw [stmI (x := l) (v := nI l) (k_M3 _ (by omega)) rfl, stmL (x := q) (v := lN q) (k_M4 _ (by omega)) rfl, stmI (x := a) (v := nI a) (k_M5 _ (by omega)) rfl, stmI (x := u) (v := nI u) (k_M6 _ (by omega)) rfl, stmI0 (x := (E 0 0) + 1) (v := (nI (E 0 0)) + 1) (k_M_1) (ad_n rfl rfl), stmI0 (x := 0) (v := 0) (k_M_17) rfl] <;> (rfl)
          · replace z5 := (cveq (nI_toInt (n := E 0 0) (by have := hO 0 0; omega)) (show ((3 : Int32)).toInt = 3 from by decide)).mp (Decidable.not_not.mp z5)
            exfalso; omega
        · replace z4 := pz0.mp (Decidable.not_not.mp z4)
          exfalso; omega
theorem m_box1 {d : Nat} {A : Nat → Prop} {g : ah_H} {m : Nat} {E : rg_D} (hO : ∀ f j, E f j < 2 ^ 30) (hA : ∀ q, m ≤ q → q < m + 16 → A q) (hd : 8 ≤ d) {x1 : Int32} {p1 : Int} (h1 : x1.toInt = p1) {x2 : Int64} {p2 : Int} (h2 : x2.toInt = p2) {x3 : Int32} {p3 : Int} (h3 : x3.toInt = p3) {x4 : Int32} {p4 : Int} (h4 : x4.toInt = p4) {x5 : Int64} {p5 : Int} (h5 : x5.toInt = p5) (hn : ¬ ((1 ≤ p1 ∧ p1 ≤ 3) ∧ (0 ≤ p2 ∧ p2 ≤ 1000000) ∧ (1 ≤ p3 ∧ p3 ≤ 100) ∧ (0 ≤ p4 ∧ p4 ≤ 3) ∧ (0 ≤ p5 ∧ p5 ≤ 1000000000))) : ah_Ev mt_M_box d A [.ref m, .int x1, .long x2, .int x3, .int x4, .long x5] (rg LTm g m E) (.returned (some (.int 0))) (rg LTm g m (up E 32 0 1)) := by
  refine ah_Ev.of (by decide +kernel) (Nat.le_of_ble_eq_true rfl) ?_
  show ah_At mt_M_box d A (rg LTm g m E) (.returned (some (.int 0))) (rg LTm g m (up E 32 0 1)) 0 [(0, .ref m), (1, .int x1), (2, .long x2), (4, .int x3), (5, .int x4), (6, .long x5)] [] (rg LTm g m E)
  refine b_M_box_0 (c_in (d := d - 1) (A := A) ((i2l_toInt x1).trans h1) (show ((1 : Int64)).toInt = 1 from by decide) (show ((3 : Int64)).toInt = 3 from by decide)) (by omega) (fun q hq => hq) ?_
  refine aft_1 ?_
  refine b_M_box_10 (fun z1 => ?_) (fun z1 => ?_)
  · replace z1 := pz0.mp z1
    refine b_M_box_62 ?_
    refine b_M_box_80 (v2 := 1) (hA _ (by omega) (by omega)) (rdE (k_M_0)) (by rw [stmI0 (x := 1) (v := 1) (k_M_0) rfl]; exact (rdI (e := 1) (k_M_0) (by simp [up]))) (fun z => absurd z (by decide)) (fun z2 => ?_)
    rw [stmI0 (x := 1) (v := 1) (k_M_0) rfl]
    refine rt_i ?_ ?_ (b_M_box_90 )
    · rfl
    · rfl
  · replace z1 := pz1.mp z1
    refine b_M_box_13 (c_in (d := d - 1) (A := A) h2 (show ((0 : Int64)).toInt = 0 from by decide) (show ((1000000 : Int64)).toInt = 1000000 from by decide)) (by omega) (fun q hq => hq) ?_
    refine aft_1 ?_
    refine b_M_box_21 (fun z3 => ?_) (fun z3 => ?_)
    · replace z3 := pz0.mp z3
      refine b_M_box_62 ?_
      refine b_M_box_80 (v2 := 1) (hA _ (by omega) (by omega)) (rdE (k_M_0)) (by rw [stmI0 (x := 1) (v := 1) (k_M_0) rfl]; exact (rdI (e := 1) (k_M_0) (by simp [up]))) (fun z => absurd z (by decide)) (fun z4 => ?_)
      rw [stmI0 (x := 1) (v := 1) (k_M_0) rfl]
      refine rt_i ?_ ?_ (b_M_box_90 )
      · rfl
      · rfl
    · replace z3 := pz1.mp z3
      refine b_M_box_24 (c_in (d := d - 1) (A := A) ((i2l_toInt x3).trans h3) (show ((1 : Int64)).toInt = 1 from by decide) (show ((100 : Int64)).toInt = 100 from by decide)) (by omega) (fun q hq => hq) ?_
      refine aft_1 ?_
      refine b_M_box_34 (fun z5 => ?_) (fun z5 => ?_)
      · replace z5 := pz0.mp z5
        refine b_M_box_62 ?_
        refine b_M_box_80 (v2 := 1) (hA _ (by omega) (by omega)) (rdE (k_M_0)) (by rw [stmI0 (x := 1) (v := 1) (k_M_0) rfl]; exact (rdI (e := 1) (k_M_0) (by simp [up]))) (fun z => absurd z (by decide)) (fun z6 => ?_)
        rw [stmI0 (x := 1) (v := 1) (k_M_0) rfl]
        refine rt_i ?_ ?_ (b_M_box_90 )
        · rfl
        · rfl
      · replace z5 := pz1.mp z5
        refine b_M_box_37 (c_in (d := d - 1) (A := A) ((i2l_toInt x4).trans h4) (show ((0 : Int64)).toInt = 0 from by decide) (show ((3 : Int64)).toInt = 3 from by decide)) (by omega) (fun q hq => hq) ?_
        refine aft_1 ?_
        refine b_M_box_47 (fun z7 => ?_) (fun z7 => ?_)
        · replace z7 := pz0.mp z7
          refine b_M_box_62 ?_
          refine b_M_box_80 (v2 := 1) (hA _ (by omega) (by omega)) (rdE (k_M_0)) (by rw [stmI0 (x := 1) (v := 1) (k_M_0) rfl]; exact (rdI (e := 1) (k_M_0) (by simp [up]))) (fun z => absurd z (by decide)) (fun z8 => ?_)
          rw [stmI0 (x := 1) (v := 1) (k_M_0) rfl]
          refine rt_i ?_ ?_ (b_M_box_90 )
          · rfl
          · rfl
        · replace z7 := pz1.mp z7
          refine b_M_box_50 (c_in (d := d - 1) (A := A) h5 (show ((0 : Int64)).toInt = 0 from by decide) (show ((1000000000 : Int64)).toInt = 1000000000 from by decide)) (by omega) (fun q hq => hq) ?_
          refine aft_1 ?_
          refine b_M_box_59 (fun z9 => ?_) (fun z9 => ?_)
          · replace z9 := pz1.mp z9
            exfalso; omega
          · replace z9 := pz0.mp (Decidable.not_not.mp z9)
            refine b_M_box_62 ?_
            refine b_M_box_80 (v2 := 1) (hA _ (by omega) (by omega)) (rdE (k_M_0)) (by rw [stmI0 (x := 1) (v := 1) (k_M_0) rfl]; exact (rdI (e := 1) (k_M_0) (by simp [up]))) (fun z => absurd z (by decide)) (fun z10 => ?_)
            rw [stmI0 (x := 1) (v := 1) (k_M_0) rfl]
            refine rt_i ?_ ?_ (b_M_box_90 )
            · rfl
            · rfl
theorem m_box2 {d : Nat} {A : Nat → Prop} {g : ah_H} {m : Nat} {E : rg_D} (hO : ∀ f j, E f j < 2 ^ 30) (hA : ∀ q, m ≤ q → q < m + 16 → A q) (hd : 8 ≤ d) {x1 : Int32} {p1 : Int} (h1 : x1.toInt = p1) {x2 : Int64} {p2 : Int} (h2 : x2.toInt = p2) {x3 : Int32} {p3 : Int} (h3 : x3.toInt = p3) {x4 : Int32} {p4 : Int} (h4 : x4.toInt = p4) {x5 : Int64} {p5 : Int} (h5 : x5.toInt = p5) (g1 : 1 ≤ p1 ∧ p1 ≤ 3) (g2 : 0 ≤ p2 ∧ p2 ≤ 1000000) (g3 : 1 ≤ p3 ∧ p3 ≤ 100) (g4 : 0 ≤ p4 ∧ p4 ≤ 3) (g5 : 0 ≤ p5 ∧ p5 ≤ 1000000000) (hn : E 1 0 = 8) : ah_Ev mt_M_box d A [.ref m, .int x1, .long x2, .int x3, .int x4, .long x5] (rg LTm g m E) (.returned (some (.int 0))) (rg LTm g m (up E 32 0 2)) := by
  refine ah_Ev.of (by decide +kernel) (Nat.le_of_ble_eq_true rfl) ?_
  show ah_At mt_M_box d A (rg LTm g m E) (.returned (some (.int 0))) (rg LTm g m (up E 32 0 2)) 0 [(0, .ref m), (1, .int x1), (2, .long x2), (4, .int x3), (5, .int x4), (6, .long x5)] [] (rg LTm g m E)
  refine b_M_box_0 (c_in (d := d - 1) (A := A) ((i2l_toInt x1).trans h1) (show ((1 : Int64)).toInt = 1 from by decide) (show ((3 : Int64)).toInt = 3 from by decide)) (by omega) (fun q hq => hq) ?_
  refine aft_1 ?_
  refine b_M_box_10 (fun z1 => ?_) (fun z1 => ?_)
  · replace z1 := pz0.mp z1
    exfalso; omega
  · replace z1 := pz1.mp z1
    refine b_M_box_13 (c_in (d := d - 1) (A := A) h2 (show ((0 : Int64)).toInt = 0 from by decide) (show ((1000000 : Int64)).toInt = 1000000 from by decide)) (by omega) (fun q hq => hq) ?_
    refine aft_1 ?_
    refine b_M_box_21 (fun z2 => ?_) (fun z2 => ?_)
    · replace z2 := pz0.mp z2
      exfalso; omega
    · replace z2 := pz1.mp z2
      refine b_M_box_24 (c_in (d := d - 1) (A := A) ((i2l_toInt x3).trans h3) (show ((1 : Int64)).toInt = 1 from by decide) (show ((100 : Int64)).toInt = 100 from by decide)) (by omega) (fun q hq => hq) ?_
      refine aft_1 ?_
      refine b_M_box_34 (fun z3 => ?_) (fun z3 => ?_)
      · replace z3 := pz0.mp z3
        exfalso; omega
      · replace z3 := pz1.mp z3
        refine b_M_box_37 (c_in (d := d - 1) (A := A) ((i2l_toInt x4).trans h4) (show ((0 : Int64)).toInt = 0 from by decide) (show ((3 : Int64)).toInt = 3 from by decide)) (by omega) (fun q hq => hq) ?_
        refine aft_1 ?_
        refine b_M_box_47 (fun z4 => ?_) (fun z4 => ?_)
        · replace z4 := pz0.mp z4
          exfalso; omega
        · replace z4 := pz1.mp z4
          refine b_M_box_50 (c_in (d := d - 1) (A := A) h5 (show ((0 : Int64)).toInt = 0 from by decide) (show ((1000000000 : Int64)).toInt = 1000000000 from by decide)) (by omega) (fun q hq => hq) ?_
          refine aft_1 ?_
          refine b_M_box_59 (fun z5 => ?_) (fun z5 => ?_)
          · replace z5 := pz1.mp z5
            refine b_M_box_66 (rdI (k_M_2) rfl) (fun z6 => ?_) (fun z6 => ?_)
            · replace z6 := mt (cveq (nI_toInt (n := E 1 0) (by have := hO 1 0; omega)) (show ((8 : Int32)).toInt = 8 from by decide)).mpr z6
              exfalso; omega
            · replace z6 := (cveq (nI_toInt (n := E 1 0) (by have := hO 1 0; omega)) (show ((8 : Int32)).toInt = 8 from by decide)).mp (Decidable.not_not.mp z6)
              refine b_M_box_75 ?_
              refine b_M_box_80 (v2 := 2) (hA _ (by omega) (by omega)) (rdE (k_M_0)) (by rw [stmI0 (x := 2) (v := 2) (k_M_0) rfl]; exact (rdI (e := 2) (k_M_0) (by simp [up]))) (fun z => absurd z (by decide)) (fun z7 => ?_)
              rw [stmI0 (x := 2) (v := 2) (k_M_0) rfl]
              refine rt_i ?_ ?_ (b_M_box_90 )
              · rfl
              · rfl
          · replace z5 := pz0.mp (Decidable.not_not.mp z5)
            exfalso; omega
theorem m_box0 {d : Nat} {A : Nat → Prop} {g : ah_H} {m : Nat} {E : rg_D} (hO : ∀ f j, E f j < 2 ^ 30) (hA : ∀ q, m ≤ q → q < m + 16 → A q) (hd : 8 ≤ d) {s q h u t : Nat} (g1 : 1 ≤ s ∧ s ≤ 3) (g2 : q ≤ 1000000) (g3 : 1 ≤ h ∧ h ≤ 100) (g4 : u ≤ 3) (g5 : t ≤ 1000000000) (hn : E 1 0 < 8) : ah_Ev mt_M_box d A [.ref m, .int (nI s), .long (lN q), .int (nI h), .int (nI u), .long (lN t)] (rg LTm g m E) (.returned (some (.int (nI (E 1 0))))) (rg LTm g m (up (up (up (up (up (up (up (up E 32 0 0) 10 (E 1 0) s) 11 (E 1 0) q) 12 (E 1 0) h) 13 (E 1 0) u) 14 (E 1 0) t) 1 0 (E 1 0 + 1)) 16 0 0)) := by
  refine ah_Ev.of (by decide +kernel) (Nat.le_of_ble_eq_true rfl) ?_
  show ah_At mt_M_box d A (rg LTm g m E) (.returned (some (.int (nI (E 1 0))))) (rg LTm g m (up (up (up (up (up (up (up (up E 32 0 0) 10 (E 1 0) s) 11 (E 1 0) q) 12 (E 1 0) h) 13 (E 1 0) u) 14 (E 1 0) t) 1 0 (E 1 0 + 1)) 16 0 0)) 0 [(0, .ref m), (1, .int (nI s)), (2, .long (lN q)), (4, .int (nI h)), (5, .int (nI u)), (6, .long (lN t))] [] (rg LTm g m E)
  refine b_M_box_0 (c_in (d := d - 1) (A := A) (tl_n (show (Int32.toInt64 (nI s) : Int64) = lN (s) from (il_n rfl (by omega))) (by omega)) (show ((1 : Int64)).toInt = 1 from by decide) (show ((3 : Int64)).toInt = 3 from by decide)) (by omega) (fun q hq => hq) ?_
  refine aft_1 ?_
  refine b_M_box_10 (fun z1 => ?_) (fun z1 => ?_)
  · replace z1 := pz0.mp z1
    exfalso; omega
  · replace z1 := pz1.mp z1
    refine b_M_box_13 (c_in (d := d - 1) (A := A) (lN_toInt (n := q) (by omega)) (show ((0 : Int64)).toInt = 0 from by decide) (show ((1000000 : Int64)).toInt = 1000000 from by decide)) (by omega) (fun q hq => hq) ?_
    refine aft_1 ?_
    refine b_M_box_21 (fun z2 => ?_) (fun z2 => ?_)
    · replace z2 := pz0.mp z2
      exfalso; omega
    · replace z2 := pz1.mp z2
      refine b_M_box_24 (c_in (d := d - 1) (A := A) (tl_n (show (Int32.toInt64 (nI h) : Int64) = lN (h) from (il_n rfl (by omega))) (by omega)) (show ((1 : Int64)).toInt = 1 from by decide) (show ((100 : Int64)).toInt = 100 from by decide)) (by omega) (fun q hq => hq) ?_
      refine aft_1 ?_
      refine b_M_box_34 (fun z3 => ?_) (fun z3 => ?_)
      · replace z3 := pz0.mp z3
        exfalso; omega
      · replace z3 := pz1.mp z3
        refine b_M_box_37 (c_in (d := d - 1) (A := A) (tl_n (show (Int32.toInt64 (nI u) : Int64) = lN (u) from (il_n rfl (by omega))) (by omega)) (show ((0 : Int64)).toInt = 0 from by decide) (show ((3 : Int64)).toInt = 3 from by decide)) (by omega) (fun q hq => hq) ?_
        refine aft_1 ?_
        refine b_M_box_47 (fun z4 => ?_) (fun z4 => ?_)
        · replace z4 := pz0.mp z4
          exfalso; omega
        · replace z4 := pz1.mp z4
          refine b_M_box_50 (c_in (d := d - 1) (A := A) (lN_toInt (n := t) (by omega)) (show ((0 : Int64)).toInt = 0 from by decide) (show ((1000000000 : Int64)).toInt = 1000000000 from by decide)) (by omega) (fun q hq => hq) ?_
          refine aft_1 ?_
          refine b_M_box_59 (fun z5 => ?_) (fun z5 => ?_)
          · replace z5 := pz1.mp z5
            refine b_M_box_66 (rdI (k_M_2) rfl) (fun z6 => ?_) (fun z6 => ?_)
            · replace z6 := mt (cveq (nI_toInt (n := E 1 0) (by have := hO 1 0; omega)) (show ((8 : Int32)).toInt = 8 from by decide)).mpr z6
              refine b_M_box_79 ?_
              refine b_M_box_80 (v2 := 0) (hA _ (by omega) (by omega)) (rdE (k_M_0)) (by rw [stmI0 (x := 0) (v := 0) (k_M_0) rfl]; exact (rdI (e := 0) (k_M_0) (by simp [up]))) (fun z7 => ?_) (fun z => absurd (by decide) z)
              rw [stmI0 (x := 0) (v := 0) (k_M_0) rfl]
              refine rt_i ?_ ?_ (b_M_box_92 (v4 := m + 9) (v5 := nI (E 1 0)) (v7 := m + 10) (v8 := nI (E 1 0)) (v10 := m + 11) (v11 := nI (E 1 0)) (v13 := m + 12) (v14 := nI (E 1 0)) (v16 := nI (E 1 0)) (v19 := nI ((E 1 0) + 1)) (rdR (k_M_10)) (rdI (e := E 1 0) (k_M_2) (by simp [up])) (hA _ (by omega) (by omega)) (ah_ix_nI (by have := hO 1 0; omega)) (rdE (k_M10 _ (by omega))) (by rw [stmI (x := s) (v := nI s) (k_M10 _ (by omega)) rfl]; exact (rdR (k_M_11))) (by rw [stmI (x := s) (v := nI s) (k_M10 _ (by omega)) rfl]; exact (rdI (e := E 1 0) (k_M_2) (by simp [up]))) (hA _ (by omega) (by omega)) (ah_ix_nI (by have := hO 1 0; omega)) (by rw [stmI (x := s) (v := nI s) (k_M10 _ (by omega)) rfl]; exact (rdE (k_M11 _ (by omega)))) (by rw [stmI (x := s) (v := nI s) (k_M10 _ (by omega)) rfl, stmL (x := q) (v := lN q) (k_M11 _ (by omega)) rfl]; exact (rdR (k_M_12))) (by rw [stmI (x := s) (v := nI s) (k_M10 _ (by omega)) rfl, stmL (x := q) (v := lN q) (k_M11 _ (by omega)) rfl]; exact (rdI (e := E 1 0) (k_M_2) (by simp [up]))) (hA _ (by omega) (by omega)) (ah_ix_nI (by have := hO 1 0; omega)) (by rw [stmI (x := s) (v := nI s) (k_M10 _ (by omega)) rfl, stmL (x := q) (v := lN q) (k_M11 _ (by omega)) rfl]; exact (rdE (k_M12 _ (by omega)))) (by rw [stmI (x := s) (v := nI s) (k_M10 _ (by omega)) rfl, stmL (x := q) (v := lN q) (k_M11 _ (by omega)) rfl, stmI (x := h) (v := nI h) (k_M12 _ (by omega)) rfl]; exact (rdR (k_M_13))) (by rw [stmI (x := s) (v := nI s) (k_M10 _ (by omega)) rfl, stmL (x := q) (v := lN q) (k_M11 _ (by omega)) rfl, stmI (x := h) (v := nI h) (k_M12 _ (by omega)) rfl]; exact (rdI (e := E 1 0) (k_M_2) (by simp [up]))) (hA _ (by omega) (by omega)) (ah_ix_nI (by have := hO 1 0; omega)) (by rw [stmI (x := s) (v := nI s) (k_M10 _ (by omega)) rfl, stmL (x := q) (v := lN q) (k_M11 _ (by omega)) rfl, stmI (x := h) (v := nI h) (k_M12 _ (by omega)) rfl]; exact (rdE (k_M13 _ (by omega)))) (by rw [stmI (x := s) (v := nI s) (k_M10 _ (by omega)) rfl, stmL (x := q) (v := lN q) (k_M11 _ (by omega)) rfl, stmI (x := h) (v := nI h) (k_M12 _ (by omega)) rfl, stmI (x := u) (v := nI u) (k_M13 _ (by omega)) rfl]; exact (rdR (k_M_14))) (by rw [stmI (x := s) (v := nI s) (k_M10 _ (by omega)) rfl, stmL (x := q) (v := lN q) (k_M11 _ (by omega)) rfl, stmI (x := h) (v := nI h) (k_M12 _ (by omega)) rfl, stmI (x := u) (v := nI u) (k_M13 _ (by omega)) rfl]; exact (rdI (e := E 1 0) (k_M_2) (by simp [up]))) (hA _ (by omega) (by omega)) (ah_ix_nI (by have := hO 1 0; omega)) (by rw [stmI (x := s) (v := nI s) (k_M10 _ (by omega)) rfl, stmL (x := q) (v := lN q) (k_M11 _ (by omega)) rfl, stmI (x := h) (v := nI h) (k_M12 _ (by omega)) rfl, stmI (x := u) (v := nI u) (k_M13 _ (by omega)) rfl]; exact (rdE (k_M14 _ (by omega)))) (by rw [stmI (x := s) (v := nI s) (k_M10 _ (by omega)) rfl, stmL (x := q) (v := lN q) (k_M11 _ (by omega)) rfl, stmI (x := h) (v := nI h) (k_M12 _ (by omega)) rfl, stmI (x := u) (v := nI u) (k_M13 _ (by omega)) rfl, stmL (x := t) (v := lN t) (k_M14 _ (by omega)) rfl]; exact (rdI (e := E 1 0) (k_M_2) (by simp [up]))) (hA _ (by omega) (by omega)) (by rw [stmI (x := s) (v := nI s) (k_M10 _ (by omega)) rfl, stmL (x := q) (v := lN q) (k_M11 _ (by omega)) rfl, stmI (x := h) (v := nI h) (k_M12 _ (by omega)) rfl, stmI (x := u) (v := nI u) (k_M13 _ (by omega)) rfl, stmL (x := t) (v := lN t) (k_M14 _ (by omega)) rfl]; exact (rdE (k_M_2))) (hA _ (by omega) (by omega)) (by rw [stmI (x := s) (v := nI s) (k_M10 _ (by omega)) rfl, stmL (x := q) (v := lN q) (k_M11 _ (by omega)) rfl, stmI (x := h) (v := nI h) (k_M12 _ (by omega)) rfl, stmI (x := u) (v := nI u) (k_M13 _ (by omega)) rfl, stmL (x := t) (v := lN t) (k_M14 _ (by omega)) rfl, stmI0 (x := (E 1 0) + 1) (v := (nI (E 1 0)) + 1) (k_M_2) (ad_n rfl rfl)]; exact (rdE (k_M_17))) (by rw [stmI (x := s) (v := nI s) (k_M10 _ (by omega)) rfl, stmL (x := q) (v := lN q) (k_M11 _ (by omega)) rfl, stmI (x := h) (v := nI h) (k_M12 _ (by omega)) rfl, stmI (x := u) (v := nI u) (k_M13 _ (by omega)) rfl, stmL (x := t) (v := lN t) (k_M14 _ (by omega)) rfl, stmI0 (x := (E 1 0) + 1) (v := (nI (E 1 0)) + 1) (k_M_2) (ad_n rfl rfl), stmI0 (x := 0) (v := 0) (k_M_17) rfl]; exact (rdI (e := (E 1 0) + 1) (k_M_2) (by simp [up]))))
              · exact nI_pred _
              · rw [stmI (x := s) (v := nI s) (k_M10 _ (by omega)) rfl, stmL (x := q) (v := lN q) (k_M11 _ (by omega)) rfl, stmI (x := h) (v := nI h) (k_M12 _ (by omega)) rfl, stmI (x := u) (v := nI u) (k_M13 _ (by omega)) rfl, stmL (x := t) (v := lN t) (k_M14 _ (by omega)) rfl, stmI0 (x := (E 1 0) + 1) (v := (nI (E 1 0)) + 1) (k_M_2) (ad_n rfl rfl), stmI0 (x := 0) (v := 0) (k_M_17) rfl] <;> (rfl)
            · replace z6 := (cveq (nI_toInt (n := E 1 0) (by have := hO 1 0; omega)) (show ((8 : Int32)).toInt = 8 from by decide)).mp (Decidable.not_not.mp z6)
              exfalso; omega
          · replace z5 := pz0.mp (Decidable.not_not.mp z5)
            exfalso; omega
theorem m_rule1 {d : Nat} {A : Nat → Prop} {g : ah_H} {m : Nat} {E : rg_D} (hO : ∀ f j, E f j < 2 ^ 30) (hA : ∀ q, m ≤ q → q < m + 16 → A q) (hd : 8 ≤ d) {x1 : Int32} {p1 : Int} (h1 : x1.toInt = p1) {x2 : Int32} {p2 : Int} (h2 : x2.toInt = p2) {x3 : Int32} {p3 : Int} (h3 : x3.toInt = p3) (hn : ¬ ((1 ≤ p1 ∧ p1 ≤ 3) ∧ (1 ≤ p2 ∧ p2 ≤ 3) ∧ (0 ≤ p3 ∧ p3 ≤ 2))) : ah_Ev mt_M_rule d A [.ref m, .int x1, .int x2, .int x3] (rg LTm g m E) (.returned (some (.int 0))) (rg LTm g m (up E 32 0 0)) := by
  refine ah_Ev.of (by decide +kernel) (Nat.le_of_ble_eq_true rfl) ?_
  show ah_At mt_M_rule d A (rg LTm g m E) (.returned (some (.int 0))) (rg LTm g m (up E 32 0 0)) 0 [(0, .ref m), (1, .int x1), (2, .int x2), (3, .int x3)] [] (rg LTm g m E)
  refine b_M_rule_0 (o' := .returned (some (.int (bz (pb (1 ≤ p1 ∧ p1 ≤ 3)))))) (h' := (rg LTm g m (up E 32 0 0))) (hA _ (by omega) (by omega)) (rdE (k_M_0)) (by rw [stmI0 (x := 0) (v := 0) (k_M_0) rfl]; exact c_in (d := d - 1) (A := A) ((i2l_toInt x1).trans h1) (show ((1 : Int64)).toInt = 1 from by decide) (show ((3 : Int64)).toInt = 3 from by decide)) (by omega) (fun q hq => hq) ?_
  refine aft_1 ?_
  refine b_M_rule_14 (fun z1 => ?_) (fun z1 => ?_)
  · replace z1 := pz0.mp z1
    refine rt_i ?_ ?_ (b_M_rule_41 )
    · rfl
    · rfl
  · replace z1 := pz1.mp z1
    refine b_M_rule_17 (c_in (d := d - 1) (A := A) ((i2l_toInt x2).trans h2) (show ((1 : Int64)).toInt = 1 from by decide) (show ((3 : Int64)).toInt = 3 from by decide)) (by omega) (fun q hq => hq) ?_
    refine aft_1 ?_
    refine b_M_rule_26 (fun z2 => ?_) (fun z2 => ?_)
    · replace z2 := pz0.mp z2
      refine rt_i ?_ ?_ (b_M_rule_41 )
      · rfl
      · rfl
    · replace z2 := pz1.mp z2
      refine b_M_rule_29 (c_in (d := d - 1) (A := A) ((i2l_toInt x3).trans h3) (show ((0 : Int64)).toInt = 0 from by decide) (show ((2 : Int64)).toInt = 2 from by decide)) (by omega) (fun q hq => hq) ?_
      refine aft_1 ?_
      refine b_M_rule_38 (fun z3 => ?_) (fun z3 => ?_)
      · replace z3 := pz1.mp z3
        exfalso; omega
      · replace z3 := pz0.mp (Decidable.not_not.mp z3)
        refine rt_i ?_ ?_ (b_M_rule_41 )
        · rfl
        · rfl
theorem m_rule0 {d : Nat} {A : Nat → Prop} {g : ah_H} {m : Nat} {E : rg_D} (hO : ∀ f j, E f j < 2 ^ 30) (hA : ∀ q, m ≤ q → q < m + 16 → A q) (hd : 8 ≤ d) {a c r : Nat} (g1 : 1 ≤ a ∧ a ≤ 3) (g2 : 1 ≤ c ∧ c ≤ 3) (g3 : r ≤ 2) : ah_Ev mt_M_rule d A [.ref m, .int (nI a), .int (nI c), .int (nI r)] (rg LTm g m E) (.returned (some (.int 1))) (rg LTm g m (up (up (up (up E 32 0 0) 15 (4 * a + c) r) 15 (4 * c + a) r) 16 0 0)) := by
  refine ah_Ev.of (by decide +kernel) (Nat.le_of_ble_eq_true rfl) ?_
  show ah_At mt_M_rule d A (rg LTm g m E) (.returned (some (.int 1))) (rg LTm g m (up (up (up (up E 32 0 0) 15 (4 * a + c) r) 15 (4 * c + a) r) 16 0 0)) 0 [(0, .ref m), (1, .int (nI a)), (2, .int (nI c)), (3, .int (nI r))] [] (rg LTm g m E)
  refine b_M_rule_0 (o' := .returned (some (.int (bz (pb (1 ≤ ((a : Nat) : Int) ∧ ((a : Nat) : Int) ≤ 3)))))) (h' := (rg LTm g m (up E 32 0 0))) (hA _ (by omega) (by omega)) (rdE (k_M_0)) (by rw [stmI0 (x := 0) (v := 0) (k_M_0) rfl]; exact c_in (d := d - 1) (A := A) (tl_n (show (Int32.toInt64 (nI a) : Int64) = lN (a) from (il_n rfl (by omega))) (by omega)) (show ((1 : Int64)).toInt = 1 from by decide) (show ((3 : Int64)).toInt = 3 from by decide)) (by omega) (fun q hq => hq) ?_
  refine aft_1 ?_
  refine b_M_rule_14 (fun z1 => ?_) (fun z1 => ?_)
  · replace z1 := pz0.mp z1
    exfalso; omega
  · replace z1 := pz1.mp z1
    refine b_M_rule_17 (c_in (d := d - 1) (A := A) (tl_n (show (Int32.toInt64 (nI c) : Int64) = lN (c) from (il_n rfl (by omega))) (by omega)) (show ((1 : Int64)).toInt = 1 from by decide) (show ((3 : Int64)).toInt = 3 from by decide)) (by omega) (fun q hq => hq) ?_
    refine aft_1 ?_
    refine b_M_rule_26 (fun z2 => ?_) (fun z2 => ?_)
    · replace z2 := pz0.mp z2
      exfalso; omega
    · replace z2 := pz1.mp z2
      refine b_M_rule_29 (c_in (d := d - 1) (A := A) (tl_n (show (Int32.toInt64 (nI r) : Int64) = lN (r) from (il_n rfl (by omega))) (by omega)) (show ((0 : Int64)).toInt = 0 from by decide) (show ((2 : Int64)).toInt = 2 from by decide)) (by omega) (fun q hq => hq) ?_
      refine aft_1 ?_
      refine b_M_rule_38 (fun z3 => ?_) (fun z3 => ?_)
      · replace z3 := pz1.mp z3
        refine rt_i ?_ ?_ (b_M_rule_43 (v3 := m + 13) (rdR (k_M_15)) (hA _ (by omega) (by omega)) (ix_n (show ((4 * (nI a)) + (nI c) : Int32) = nI ((4 * a) + c) from (ad_n (mu_n rfl rfl) rfl)) (by omega)) (rdE (k_M15 _ (by omega))) (by rw [stmI (x := r) (v := nI r) (k_M15 _ (by omega)) rfl]; exact (rdR (k_M_15))) (hA _ (by omega) (by omega)) (ix_n (show ((4 * (nI c)) + (nI a) : Int32) = nI ((4 * c) + a) from (ad_n (mu_n rfl rfl) rfl)) (by omega)) (by rw [stmI (x := r) (v := nI r) (k_M15 _ (by omega)) rfl]; exact (rdE (k_M15 _ (by omega)))) (hA _ (by omega) (by omega)) (by rw [stmI (x := r) (v := nI r) (k_M15 _ (by omega)) rfl, stmI (x := r) (v := nI r) (k_M15 _ (by omega)) rfl]; exact (rdE (k_M_17))))
        · rfl
        · rw [stmI (x := r) (v := nI r) (k_M15 _ (by omega)) rfl, stmI (x := r) (v := nI r) (k_M15 _ (by omega)) rfl, stmI0 (x := 0) (v := 0) (k_M_17) rfl] <;> (rfl)
      · replace z3 := pz0.mp (Decidable.not_not.mp z3)
        exfalso; omega
theorem m_cut1 {d : Nat} {A : Nat → Prop} {g : ah_H} {m : Nat} {E : rg_D} (hO : ∀ f j, E f j < 2 ^ 30) (hA : ∀ q, m ≤ q → q < m + 16 → A q) (hd : 8 ≤ d) {x1 : Int64} {p1 : Int} (h1 : x1.toInt = p1) (hn : ¬ (0 ≤ p1 ∧ p1 ≤ 1000000000)) : ah_Ev mt_M_cut d A [.ref m, .long x1] (rg LTm g m E) (.returned (some (.int 0))) (rg LTm g m (up E 32 0 0)) := by
  refine ah_Ev.of (by decide +kernel) (Nat.le_of_ble_eq_true rfl) ?_
  show ah_At mt_M_cut d A (rg LTm g m E) (.returned (some (.int 0))) (rg LTm g m (up E 32 0 0)) 0 [(0, .ref m), (1, .long x1)] [] (rg LTm g m E)
  refine b_M_cut_0 (o' := .returned (some (.int (bz (pb (0 ≤ p1 ∧ p1 ≤ 1000000000)))))) (h' := (rg LTm g m (up E 32 0 0))) (hA _ (by omega) (by omega)) (rdE (k_M_0)) (by rw [stmI0 (x := 0) (v := 0) (k_M_0) rfl]; exact c_in (d := d - 1) (A := A) h1 (show ((0 : Int64)).toInt = 0 from by decide) (show ((1000000000 : Int64)).toInt = 1000000000 from by decide)) (by omega) (fun q hq => hq) ?_
  refine aft_1 ?_
  refine b_M_cut_13 (fun z1 => ?_) (fun z1 => ?_)
  · replace z1 := pz1.mp z1
    exfalso; omega
  · replace z1 := pz0.mp (Decidable.not_not.mp z1)
    refine rt_i ?_ ?_ (b_M_cut_16 )
    · rfl
    · rfl
theorem m_cut0 {d : Nat} {A : Nat → Prop} {g : ah_H} {m : Nat} {E : rg_D} (hO : ∀ f j, E f j < 2 ^ 30) (hA : ∀ q, m ≤ q → q < m + 16 → A q) (hd : 8 ≤ d) {t : Nat} (g1 : t ≤ 1000000000) : ah_Ev mt_M_cut d A [.ref m, .long (lN t)] (rg LTm g m E) (.returned (some (.int 1))) (rg LTm g m (up (up (up E 32 0 0) 2 0 t) 16 0 0)) := by
  refine ah_Ev.of (by decide +kernel) (Nat.le_of_ble_eq_true rfl) ?_
  show ah_At mt_M_cut d A (rg LTm g m E) (.returned (some (.int 1))) (rg LTm g m (up (up (up E 32 0 0) 2 0 t) 16 0 0)) 0 [(0, .ref m), (1, .long (lN t))] [] (rg LTm g m E)
  refine b_M_cut_0 (o' := .returned (some (.int (bz (pb (0 ≤ ((t : Nat) : Int) ∧ ((t : Nat) : Int) ≤ 1000000000)))))) (h' := (rg LTm g m (up E 32 0 0))) (hA _ (by omega) (by omega)) (rdE (k_M_0)) (by rw [stmI0 (x := 0) (v := 0) (k_M_0) rfl]; exact c_in (d := d - 1) (A := A) (lN_toInt (n := t) (by omega)) (show ((0 : Int64)).toInt = 0 from by decide) (show ((1000000000 : Int64)).toInt = 1000000000 from by decide)) (by omega) (fun q hq => hq) ?_
  refine aft_1 ?_
  refine b_M_cut_13 (fun z1 => ?_) (fun z1 => ?_)
  · replace z1 := pz1.mp z1
    refine rt_i ?_ ?_ (b_M_cut_18 (hA _ (by omega) (by omega)) (rdE (k_M_16)) (hA _ (by omega) (by omega)) (by rw [stmL0 (x := t) (v := lN t) (k_M_16) rfl]; exact (rdE (k_M_17))))
    · rfl
    · rw [stmL0 (x := t) (v := lN t) (k_M_16) rfl, stmI0 (x := 0) (v := 0) (k_M_17) rfl] <;> (rfl)
  · replace z1 := pz0.mp (Decidable.not_not.mp z1)
    exfalso; omega
theorem m_out1 {d : Nat} {A : Nat → Prop} {g : ah_H} {m : Nat} {E : rg_D} (hO : ∀ f j, E f j < 2 ^ 30) (hA : ∀ q, m ≤ q → q < m + 16 → A q) (hd : 8 ≤ d) {x1 : Int32} {p1 : Int} (h1 : x1.toInt = p1) {x2 : Int32} (hn : ¬ (0 ≤ p1 ∧ p1 < ((E 0 0 : Nat) : Int))) : ah_Ev mt_M_out d A [.ref m, .int x1, .int x2] (rg LTm g m E) (.returned (some (.int 0))) (rg LTm g m (up E 32 0 0)) := by
  refine ah_Ev.of (by decide +kernel) (Nat.le_of_ble_eq_true rfl) ?_
  show ah_At mt_M_out d A (rg LTm g m E) (.returned (some (.int 0))) (rg LTm g m (up E 32 0 0)) 0 [(0, .ref m), (1, .int x1), (2, .int x2)] [] (rg LTm g m E)
  refine b_M_out_0 (o' := .returned (some (.int (bz (pb (0 ≤ p1 ∧ p1 < ((E 0 0 : Nat) : Int))))))) (h' := (rg LTm g m (up E 32 0 0))) (hA _ (by omega) (by omega)) (rdE (k_M_0)) (by rw [stmI0 (x := 0) (v := 0) (k_M_0) rfl]; exact c_isWagon (d := d - 1) (A := A) (E := (up E 32 0 0)) (up_O hO (by first | decide | omega)) h1 (n := E 0 0) (by simp [up])) (by omega) (fun q hq => hq) ?_ (by rw [stmI0 (x := 0) (v := 0) (k_M_0) rfl]; exact (rdN (k_M_0)))
  refine aft_1 ?_
  refine b_M_out_10 (fun z1 => ?_) (fun z1 => ?_)
  · replace z1 := pz0.mp z1
    refine rt_i ?_ ?_ (b_M_out_23 )
    · rfl
    · rfl
  · replace z1 := pz1.mp z1
    exfalso; omega
theorem m_out2_0 {d : Nat} {A : Nat → Prop} {g : ah_H} {m : Nat} {E : rg_D} (hO : ∀ f j, E f j < 2 ^ 30) (hA : ∀ q, m ≤ q → q < m + 16 → A q) (hd : 8 ≤ d) {w : Nat} (h3 : E 0 0 ≤ 3) (hw : w < E 0 0) (hq : E 7 w = 0) : ah_Ev mt_M_out d A [.ref m, .int (nI w), .int 0] (rg LTm g m E) (.returned (some (.int 0))) (rg LTm g m (up E 32 0 0)) := by
  refine ah_Ev.of (by decide +kernel) (Nat.le_of_ble_eq_true rfl) ?_
  show ah_At mt_M_out d A (rg LTm g m E) (.returned (some (.int 0))) (rg LTm g m (up E 32 0 0)) 0 [(0, .ref m), (1, .int (nI w)), (2, .int 0)] [] (rg LTm g m E)
  refine b_M_out_0 (o' := .returned (some (.int (bz (pb (0 ≤ ((w : Nat) : Int) ∧ ((w : Nat) : Int) < ((E 0 0 : Nat) : Int))))))) (h' := (rg LTm g m (up E 32 0 0))) (hA _ (by omega) (by omega)) (rdE (k_M_0)) (by rw [stmI0 (x := 0) (v := 0) (k_M_0) rfl]; exact c_isWagon (d := d - 1) (A := A) (E := (up E 32 0 0)) (up_O hO (by first | decide | omega)) (nI_toInt (n := w) (by omega)) (n := E 0 0) (by simp [up])) (by omega) (fun q hq => hq) ?_ (by rw [stmI0 (x := 0) (v := 0) (k_M_0) rfl]; exact (rdN (k_M_0)))
  refine aft_1 ?_
  refine b_M_out_10 (fun z1 => ?_) (fun z1 => ?_)
  · replace z1 := pz0.mp z1
    refine rt_i ?_ ?_ (b_M_out_23 )
    · rfl
    · rfl
  · replace z1 := pz1.mp z1
    refine b_M_out_13 (rdR (k_M_7)) (ah_ix_nI (by omega)) (rdI (e := E 7 w) (k_M7 _ (by omega)) (by simp [up])) (fun z2 => ?_) (fun z2 => ?_)
    · replace z2 := mt (cveq (nI_toInt (n := E 7 w) (by have := hO 7 w; omega)) (show ((0 : Int32)).toInt = 0 from by decide)).mpr z2
      exfalso; omega
    · replace z2 := (cveq (nI_toInt (n := E 7 w) (by have := hO 7 w; omega)) (show ((0 : Int32)).toInt = 0 from by decide)).mp (Decidable.not_not.mp z2)
      refine rt_i ?_ ?_ (b_M_out_23 )
      · rfl
      · rfl
theorem m_out0_0 {d : Nat} {A : Nat → Prop} {g : ah_H} {m : Nat} {E : rg_D} (hO : ∀ f j, E f j < 2 ^ 30) (hA : ∀ q, m ≤ q → q < m + 16 → A q) (hd : 8 ≤ d) {w : Nat} (h3 : E 0 0 ≤ 3) (hw : w < E 0 0) (hq : E 7 w ≠ 0) : ah_Ev mt_M_out d A [.ref m, .int (nI w), .int 0] (rg LTm g m E) (.returned (some (.int 1))) (rg LTm g m (up (up (up E 32 0 0) 7 w 0) 16 0 0)) := by
  refine ah_Ev.of (by decide +kernel) (Nat.le_of_ble_eq_true rfl) ?_
  show ah_At mt_M_out d A (rg LTm g m E) (.returned (some (.int 1))) (rg LTm g m (up (up (up E 32 0 0) 7 w 0) 16 0 0)) 0 [(0, .ref m), (1, .int (nI w)), (2, .int 0)] [] (rg LTm g m E)
  refine b_M_out_0 (o' := .returned (some (.int (bz (pb (0 ≤ ((w : Nat) : Int) ∧ ((w : Nat) : Int) < ((E 0 0 : Nat) : Int))))))) (h' := (rg LTm g m (up E 32 0 0))) (hA _ (by omega) (by omega)) (rdE (k_M_0)) (by rw [stmI0 (x := 0) (v := 0) (k_M_0) rfl]; exact c_isWagon (d := d - 1) (A := A) (E := (up E 32 0 0)) (up_O hO (by first | decide | omega)) (nI_toInt (n := w) (by omega)) (n := E 0 0) (by simp [up])) (by omega) (fun q hq => hq) ?_ (by rw [stmI0 (x := 0) (v := 0) (k_M_0) rfl]; exact (rdN (k_M_0)))
  refine aft_1 ?_
  refine b_M_out_10 (fun z1 => ?_) (fun z1 => ?_)
  · replace z1 := pz0.mp z1
    exfalso; omega
  · replace z1 := pz1.mp z1
    refine b_M_out_13 (rdR (k_M_7)) (ah_ix_nI (by omega)) (rdI (e := E 7 w) (k_M7 _ (by omega)) (by simp [up])) (fun z2 => ?_) (fun z2 => ?_)
    · replace z2 := mt (cveq (nI_toInt (n := E 7 w) (by have := hO 7 w; omega)) (show ((0 : Int32)).toInt = 0 from by decide)).mpr z2
      refine rt_i ?_ ?_ (b_M_out_25 (rdR (k_M_7)) (hA _ (by omega) (by omega)) (ah_ix_nI (by omega)) (rdE (k_M7 _ (by omega))) (by decide) (hA _ (by omega) (by omega)) (by rw [stmI (x := 0) (v := 0) (k_M7 _ (by omega)) rfl]; exact (rdE (k_M_17))))
      · rfl
      · rw [stmI (x := 0) (v := 0) (k_M7 _ (by omega)) rfl, stmI0 (x := 0) (v := 0) (k_M_17) rfl] <;> (rfl)
    · replace z2 := (cveq (nI_toInt (n := E 7 w) (by have := hO 7 w; omega)) (show ((0 : Int32)).toInt = 0 from by decide)).mp (Decidable.not_not.mp z2)
      exfalso; omega
theorem m_out2_1 {d : Nat} {A : Nat → Prop} {g : ah_H} {m : Nat} {E : rg_D} (hO : ∀ f j, E f j < 2 ^ 30) (hA : ∀ q, m ≤ q → q < m + 16 → A q) (hd : 8 ≤ d) {w : Nat} (h3 : E 0 0 ≤ 3) (hw : w < E 0 0) (hq : E 7 w = 1) : ah_Ev mt_M_out d A [.ref m, .int (nI w), .int 1] (rg LTm g m E) (.returned (some (.int 0))) (rg LTm g m (up E 32 0 0)) := by
  refine ah_Ev.of (by decide +kernel) (Nat.le_of_ble_eq_true rfl) ?_
  show ah_At mt_M_out d A (rg LTm g m E) (.returned (some (.int 0))) (rg LTm g m (up E 32 0 0)) 0 [(0, .ref m), (1, .int (nI w)), (2, .int 1)] [] (rg LTm g m E)
  refine b_M_out_0 (o' := .returned (some (.int (bz (pb (0 ≤ ((w : Nat) : Int) ∧ ((w : Nat) : Int) < ((E 0 0 : Nat) : Int))))))) (h' := (rg LTm g m (up E 32 0 0))) (hA _ (by omega) (by omega)) (rdE (k_M_0)) (by rw [stmI0 (x := 0) (v := 0) (k_M_0) rfl]; exact c_isWagon (d := d - 1) (A := A) (E := (up E 32 0 0)) (up_O hO (by first | decide | omega)) (nI_toInt (n := w) (by omega)) (n := E 0 0) (by simp [up])) (by omega) (fun q hq => hq) ?_ (by rw [stmI0 (x := 0) (v := 0) (k_M_0) rfl]; exact (rdN (k_M_0)))
  refine aft_1 ?_
  refine b_M_out_10 (fun z1 => ?_) (fun z1 => ?_)
  · replace z1 := pz0.mp z1
    refine rt_i ?_ ?_ (b_M_out_23 )
    · rfl
    · rfl
  · replace z1 := pz1.mp z1
    refine b_M_out_13 (rdR (k_M_7)) (ah_ix_nI (by omega)) (rdI (e := E 7 w) (k_M7 _ (by omega)) (by simp [up])) (fun z2 => ?_) (fun z2 => ?_)
    · replace z2 := mt (cveq (nI_toInt (n := E 7 w) (by have := hO 7 w; omega)) (show ((1 : Int32)).toInt = 1 from by decide)).mpr z2
      exfalso; omega
    · replace z2 := (cveq (nI_toInt (n := E 7 w) (by have := hO 7 w; omega)) (show ((1 : Int32)).toInt = 1 from by decide)).mp (Decidable.not_not.mp z2)
      refine rt_i ?_ ?_ (b_M_out_23 )
      · rfl
      · rfl
theorem m_out0_1 {d : Nat} {A : Nat → Prop} {g : ah_H} {m : Nat} {E : rg_D} (hO : ∀ f j, E f j < 2 ^ 30) (hA : ∀ q, m ≤ q → q < m + 16 → A q) (hd : 8 ≤ d) {w : Nat} (h3 : E 0 0 ≤ 3) (hw : w < E 0 0) (hq : E 7 w ≠ 1) : ah_Ev mt_M_out d A [.ref m, .int (nI w), .int 1] (rg LTm g m E) (.returned (some (.int 1))) (rg LTm g m (up (up (up E 32 0 0) 7 w 1) 16 0 0)) := by
  refine ah_Ev.of (by decide +kernel) (Nat.le_of_ble_eq_true rfl) ?_
  show ah_At mt_M_out d A (rg LTm g m E) (.returned (some (.int 1))) (rg LTm g m (up (up (up E 32 0 0) 7 w 1) 16 0 0)) 0 [(0, .ref m), (1, .int (nI w)), (2, .int 1)] [] (rg LTm g m E)
  refine b_M_out_0 (o' := .returned (some (.int (bz (pb (0 ≤ ((w : Nat) : Int) ∧ ((w : Nat) : Int) < ((E 0 0 : Nat) : Int))))))) (h' := (rg LTm g m (up E 32 0 0))) (hA _ (by omega) (by omega)) (rdE (k_M_0)) (by rw [stmI0 (x := 0) (v := 0) (k_M_0) rfl]; exact c_isWagon (d := d - 1) (A := A) (E := (up E 32 0 0)) (up_O hO (by first | decide | omega)) (nI_toInt (n := w) (by omega)) (n := E 0 0) (by simp [up])) (by omega) (fun q hq => hq) ?_ (by rw [stmI0 (x := 0) (v := 0) (k_M_0) rfl]; exact (rdN (k_M_0)))
  refine aft_1 ?_
  refine b_M_out_10 (fun z1 => ?_) (fun z1 => ?_)
  · replace z1 := pz0.mp z1
    exfalso; omega
  · replace z1 := pz1.mp z1
    refine b_M_out_13 (rdR (k_M_7)) (ah_ix_nI (by omega)) (rdI (e := E 7 w) (k_M7 _ (by omega)) (by simp [up])) (fun z2 => ?_) (fun z2 => ?_)
    · replace z2 := mt (cveq (nI_toInt (n := E 7 w) (by have := hO 7 w; omega)) (show ((1 : Int32)).toInt = 1 from by decide)).mpr z2
      refine rt_i ?_ ?_ (b_M_out_25 (rdR (k_M_7)) (hA _ (by omega) (by omega)) (ah_ix_nI (by omega)) (rdE (k_M7 _ (by omega))) (by decide) (hA _ (by omega) (by omega)) (by rw [stmI (x := 1) (v := 1) (k_M7 _ (by omega)) rfl]; exact (rdE (k_M_17))))
      · rfl
      · rw [stmI (x := 1) (v := 1) (k_M7 _ (by omega)) rfl, stmI0 (x := 0) (v := 0) (k_M_17) rfl] <;> (rfl)
    · replace z2 := (cveq (nI_toInt (n := E 7 w) (by have := hO 7 w; omega)) (show ((1 : Int32)).toInt = 1 from by decide)).mp (Decidable.not_not.mp z2)
      exfalso; omega
theorem c_rulesOf {d : Nat} {A : Nat → Prop} {g : ah_H} {m : Nat} {E : rg_D} (hO : ∀ f j, E f j < 2 ^ 30) {i j : Nat} (hi : i < 8) (hj : j < 8) (h1 : E 13 i < 4) (h2 : E 13 j < 4) : ah_Ev mt_M_rulesOf d A [.ref m, .int (nI i), .int (nI j)] (rg LTm g m E) (.returned (some (.int (nI (E 15 (4 * E 13 i + E 13 j)))))) (rg LTm g m E) := by
  refine ah_Ev.of (by decide +kernel) (Nat.le_of_ble_eq_true rfl) ?_
  show ah_At mt_M_rulesOf d A (rg LTm g m E) (.returned (some (.int (nI (E 15 (4 * E 13 i + E 13 j)))))) (rg LTm g m E) 0 [(0, .ref m), (1, .int (nI i)), (2, .int (nI j))] [] (rg LTm g m E)
  refine rt_i ?_ ?_ (b_M_rulesOf_0 (rdR (k_M_15)) (rdR (k_M_13)) (ah_ix_nI (by omega)) (rdI (k_M13 _ (by omega)) rfl) (rdR (k_M_13)) (ah_ix_nI (by omega)) (rdI (k_M13 _ (by omega)) rfl) (ix_n (show ((4 * (nI (E 13 i))) + (nI (E 13 j)) : Int32) = nI ((4 * (E 13 i)) + (E 13 j)) from (ad_n (mu_n rfl rfl) rfl)) (by have := hO 13 i; have := hO 13 j; omega)) (rdI (k_M15 _ (by omega)) rfl))
  · rfl
  · rfl
def cd : Nat → Nat → Nat → Nat
  | 0, _, _ => 0
  | k + 1, v, s => if v = 0 then 0 else (if v % 10 = s then 1 else 0) + cd k (v / 10) s
theorem cd_le : ∀ (k v s : Nat), cd k v s ≤ k
  | 0, _, _ => by simp [cd]
  | k + 1, v, s => by
    have := cd_le k (v / 10) s
    rw [cd]
    split
    · omega
    · split <;> omega
theorem lo_placesOf {d : Nat} {A : Nat → Prop} {h : ah_H} {s : Nat} (hs : s < 4) {h0 : ah_H} : ∀ (k v c : Nat), v < 10 ^ k ∧ v < 10 ^ 9 → c + k < 1000 → ah_At mt_M_placesOf d A h0 (.returned (some (.int (nI (c + cd k v s))))) h 4 [(1, .int (nI s)), (2, .int (nI c)), (3, .int (nI v))] [] h
  | 0, v, c, hv, hc => by
    have hv0 : v = 0 := by omega
    refine b_M_placesOf_4 (fun z1 => ?_) (fun z1 => by exfalso; replace z1 := mt (cvle (nI_toInt (n := v) (by omega)) (show ((0 : Int32)).toInt = 0 from by decide)).mpr z1; omega)
    replace z1 := (cvle (nI_toInt (n := v) (by omega)) (show ((0 : Int32)).toInt = 0 from by decide)).mp z1
    refine rt_i ?_ ?_ (b_M_placesOf_32 )
    · rfl
    · rfl
  | k + 1, v, c, hv, hc => by
    have hpk : 10 ^ (k + 1) = 10 * 10 ^ k := by rw [Nat.pow_succ, Nat.mul_comm]
    rw [hpk] at hv
    refine b_M_placesOf_4 (fun z1 => ?_) (fun z1 => ?_)
    · replace z1 := (cvle (nI_toInt (n := v) (by omega)) (show ((0 : Int32)).toInt = 0 from by decide)).mp z1
      refine rt_i ?_ ?_ (b_M_placesOf_32 )
      · rw [cd, if_pos (by omega)]; rfl
      · rfl
    · replace z1 := mt (cvle (nI_toInt (n := v) (by omega)) (show ((0 : Int32)).toInt = 0 from by decide)).mpr z1
      refine b_M_placesOf_8 (fun z2 => ?_) (fun z2 => ?_)
      · replace z2 := mt (cveq (tn_n (show ((nI v) - (nI v) / 10 * 10 : Int32) = nI (v % 10) from (rm_n rfl rfl (by omega) (by omega) (by decide))) (by omega)) (nI_toInt (n := s) (by omega))).mpr z2
        refine b_M_placesOf_21 ?_
        refine b_M_placesOf_22 ?_
        rw [show ((nI c) + 0 : Int32) = nI (c + 0) from (ad_n rfl rfl)]
        rw [show ((nI v) / 10 : Int32) = nI (v / 10) from (dv_n rfl rfl (by omega) (by omega) (by decide))]
        rw [show c + cd (k + 1) v s = (c + 0) + cd k (v / 10) s from by rw [cd, if_neg (by omega), if_neg (by omega)]; omega]
        exact lo_placesOf hs k (v / 10) (c + 0) (by omega) (by omega)
      · replace z2 := (cveq (tn_n (show ((nI v) - (nI v) / 10 * 10 : Int32) = nI (v % 10) from (rm_n rfl rfl (by omega) (by omega) (by decide))) (by omega)) (nI_toInt (n := s) (by omega))).mp (Decidable.not_not.mp z2)
        refine b_M_placesOf_17 ?_
        refine b_M_placesOf_22 ?_
        rw [show ((nI c) + 1 : Int32) = nI (c + 1) from (ad_n rfl rfl)]
        rw [show ((nI v) / 10 : Int32) = nI (v / 10) from (dv_n rfl rfl (by omega) (by omega) (by decide))]
        rw [show c + cd (k + 1) v s = (c + 1) + cd k (v / 10) s from by rw [cd, if_neg (by omega), if_pos (by omega)]; omega]
        exact lo_placesOf hs k (v / 10) (c + 1) (by omega) (by omega)
theorem c_placesOf {d : Nat} {A : Nat → Prop} {h : ah_H} {n s : Nat} (hs : s < 4) (hn : n < 10000) : ah_Ev mt_M_placesOf d A [.int (nI n), .int (nI s)] h (.returned (some (.int (nI (cd 4 n s))))) h := by
  refine ah_Ev.of (by decide +kernel) (Nat.le_of_ble_eq_true rfl) ?_
  show ah_At mt_M_placesOf d A h (.returned (some (.int (nI (cd 4 n s))))) h 0 [(0, .int (nI n)), (1, .int (nI s))] [] h
  refine b_M_placesOf_0 ?_
  have k := lo_placesOf (d := d) (A := A) (h := h) (h0 := h) hs 4 n 0 (by omega) (by decide)
  rw [Nat.zero_add] at k
  exact k
