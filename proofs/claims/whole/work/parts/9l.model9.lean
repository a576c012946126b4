/-! CONTRACTS of the model: at, load, axle, standby. Printed out of wip/ -/
theorem m_at1 {d : Nat} {A : Nat → Prop} {g : ah_H} {m : Nat} {E : rg_D} (hO : ∀ f j, E f j < 2 ^ 30) (hA : ∀ q, m ≤ q → q < m + 16 → A q) (hM : MI E) (hd : 9 ≤ d) {x1 : Int32} {p1 : Int} (h1 : x1.toInt = p1) {x2 : Int32} {p2 : Int} (h2 : x2.toInt = p2) (hn : ¬ (0 ≤ p1 ∧ p1 < ((E 1 0 : Nat) : Int)) ∨ ¬ (0 ≤ p2 ∧ p2 ≤ 1)) : ah_Ev mt_M_at d A [.ref m, .int x1, .int x2] (rg LTm g m E) (.returned (some (.int 0))) (rg LTm g m (up E 32 0 1)) := by
  refine ah_Ev.of (by decide +kernel) (Nat.le_of_ble_eq_true rfl) ?_
  show ah_At mt_M_at d A (rg LTm g m E) (.returned (some (.int 0))) (rg LTm g m (up E 32 0 1)) 0 [(0, .ref m), (1, .int x1), (2, .int x2)] [] (rg LTm g m E)
  refine b_M_at_0 (c_isBox (d := d - 1) (A := A) (E := E) hO h1 (n := E 1 0) rfl) (by omega) (fun q hq => hq) ?_ (rdN (k_M_0))
  refine aft_1 ?_
  refine b_M_at_6 (fun z1 => ?_) (fun z1 => ?_)
  · replace z1 := pz0.mp z1
    refine b_M_at_18 ?_
    refine b_M_at_34 (v2 := 1) (hA _ (by omega) (by omega)) (rdE (k_M_0)) (by rw [stmI0 (x := 1) (v := 1) (k_M_0) rfl]; exact (rdI (e := 1) (k_M_0) (by simp [up]))) (fun z => absurd z (by decide)) (fun z2 => ?_)
    rw [stmI0 (x := 1) (v := 1) (k_M_0) rfl]
    refine rt_i ?_ ?_ (b_M_at_44 )
    · rfl
    · rfl
  · replace z1 := pz1.mp z1
    refine b_M_at_9 (fun z3 => ?_) (fun z3 => ?_)
    · replace z3 := (cvlt h2 (show ((0 : Int32)).toInt = 0 from by decide)).mp z3
      refine b_M_at_18 ?_
      refine b_M_at_34 (v2 := 1) (hA _ (by omega) (by omega)) (rdE (k_M_0)) (by rw [stmI0 (x := 1) (v := 1) (k_M_0) rfl]; exact (rdI (e := 1) (k_M_0) (by simp [up]))) (fun z => absurd z (by decide)) (fun z4 => ?_)
      rw [stmI0 (x := 1) (v := 1) (k_M_0) rfl]
      refine rt_i ?_ ?_ (b_M_at_44 )
      · rfl
      · rfl
    · replace z3 := mt (cvlt h2 (show ((0 : Int32)).toInt = 0 from by decide)).mpr z3
      refine b_M_at_13 (fun z5 => ?_) (fun z5 => ?_)
      · replace z5 := (cvle h2 (show ((1 : Int32)).toInt = 1 from by decide)).mp z5
        exfalso; omega
      · replace z5 := mt (cvle h2 (show ((1 : Int32)).toInt = 1 from by decide)).mpr z5
        refine b_M_at_18 ?_
        refine b_M_at_34 (v2 := 1) (hA _ (by omega) (by omega)) (rdE (k_M_0)) (by rw [stmI0 (x := 1) (v := 1) (k_M_0) rfl]; exact (rdI (e := 1) (k_M_0) (by simp [up]))) (fun z => absurd z (by decide)) (fun z6 => ?_)
        rw [stmI0 (x := 1) (v := 1) (k_M_0) rfl]
        refine rt_i ?_ ?_ (b_M_at_44 )
        · rfl
        · rfl
theorem m_at2 {d : Nat} {A : Nat → Prop} {g : ah_H} {m : Nat} {E : rg_D} (hO : ∀ f j, E f j < 2 ^ 30) (hA : ∀ q, m ≤ q → q < m + 16 → A q) (hM : MI E) (hd : 9 ≤ d) {x1 : Int32} {p1 : Int} (h1 : x1.toInt = p1) {x2 : Int32} {p2 : Int} (h2 : x2.toInt = p2) (g1 : 0 ≤ p1 ∧ p1 < ((E 1 0 : Nat) : Int)) (g2 : 0 ≤ p2 ∧ p2 ≤ 1) (hq : E 16 0 = 0) : ah_Ev mt_M_at d A [.ref m, .int x1, .int x2] (rg LTm g m E) (.returned (some (.int 0))) (rg LTm g m (up E 32 0 2)) := by
  refine ah_Ev.of (by decide +kernel) (Nat.le_of_ble_eq_true rfl) ?_
  show ah_At mt_M_at d A (rg LTm g m E) (.returned (some (.int 0))) (rg LTm g m (up E 32 0 2)) 0 [(0, .ref m), (1, .int x1), (2, .int x2)] [] (rg LTm g m E)
  refine b_M_at_0 (c_isBox (d := d - 1) (A := A) (E := E) hO h1 (n := E 1 0) rfl) (by omega) (fun q hq => hq) ?_ (rdN (k_M_0))
  refine aft_1 ?_
  refine b_M_at_6 (fun z1 => ?_) (fun z1 => ?_)
  · replace z1 := pz0.mp z1
    exfalso; omega
  · replace z1 := pz1.mp z1
    refine b_M_at_9 (fun z2 => ?_) (fun z2 => ?_)
    · replace z2 := (cvlt h2 (show ((0 : Int32)).toInt = 0 from by decide)).mp z2
      exfalso; omega
    · replace z2 := mt (cvlt h2 (show ((0 : Int32)).toInt = 0 from by decide)).mpr z2
      refine b_M_at_13 (fun z3 => ?_) (fun z3 => ?_)
      · replace z3 := (cvle h2 (show ((1 : Int32)).toInt = 1 from by decide)).mp z3
        refine b_M_at_22 (rdI (k_M_17) rfl) (fun z4 => ?_) (fun z4 => ?_)
        · replace z4 := (cveq (nI_toInt (n := E 16 0) (by have := hO 16 0; omega)) (show ((0 : Int32)).toInt = 0 from by decide)).mp z4
          refine b_M_at_33 ?_
          refine b_M_at_34 (v2 := 2) (hA _ (by omega) (by omega)) (rdE (k_M_0)) (by rw [stmI0 (x := 2) (v := 2) (k_M_0) rfl]; exact (rdI (e := 2) (k_M_0) (by simp [up]))) (fun z => absurd z (by decide)) (fun z5 => ?_)
          rw [stmI0 (x := 2) (v := 2) (k_M_0) rfl]
          refine rt_i ?_ ?_ (b_M_at_44 )
          · rfl
          · rfl
        · replace z4 := mt (cveq (nI_toInt (n := E 16 0) (by have := hO 16 0; omega)) (show ((0 : Int32)).toInt = 0 from by decide)).mpr z4
          exfalso; omega
      · replace z3 := mt (cvle h2 (show ((1 : Int32)).toInt = 1 from by decide)).mpr z3
        exfalso; omega
theorem m_load1 {d : Nat} {A : Nat → Prop} {g : ah_H} {m : Nat} {E : rg_D} (hO : ∀ f j, E f j < 2 ^ 30) (hA : ∀ q, m ≤ q → q < m + 16 → A q) (hM : MI E) (hd : 9 ≤ d) {x1 : Int32} {p1 : Int} (h1 : x1.toInt = p1) {x2 : Int32} {p2 : Int} (h2 : x2.toInt = p2) (hn : ¬ (0 ≤ p1 ∧ p1 < ((E 0 0 : Nat) : Int)) ∨ ¬ (0 ≤ p2 ∧ p2 ≤ 3)) : ah_Ev mt_M_load d A [.ref m, .int x1, .int x2] (rg LTm g m E) (.returned (some (.long 0))) (rg LTm g m (up E 32 0 1)) := by
  refine ah_Ev.of (by decide +kernel) (Nat.le_of_ble_eq_true rfl) ?_
  show ah_At mt_M_load d A (rg LTm g m E) (.returned (some (.long 0))) (rg LTm g m (up E 32 0 1)) 0 [(0, .ref m), (1, .int x1), (2, .int x2)] [] (rg LTm g m E)
  refine b_M_load_0 (c_isWagon (d := d - 1) (A := A) (E := E) hO h1 (n := E 0 0) rfl) (by omega) (fun q hq => hq) ?_ (rdN (k_M_0))
  refine aft_1 ?_
  refine b_M_load_6 (fun z1 => ?_) (fun z1 => ?_)
  · replace z1 := pz0.mp z1
    refine b_M_load_18 ?_
    refine b_M_load_34 (v2 := 1) (hA _ (by omega) (by omega)) (rdE (k_M_0)) (by rw [stmI0 (x := 1) (v := 1) (k_M_0) rfl]; exact (rdI (e := 1) (k_M_0) (by simp [up]))) (fun z => absurd z (by decide)) (fun z2 => ?_)
    rw [stmI0 (x := 1) (v := 1) (k_M_0) rfl]
    refine rt_l ?_ ?_ (b_M_load_44 )
    · rfl
    · rfl
  · replace z1 := pz1.mp z1
    refine b_M_load_9 (fun z3 => ?_) (fun z3 => ?_)
    · replace z3 := (cvlt h2 (show ((0 : Int32)).toInt = 0 from by decide)).mp z3
      refine b_M_load_18 ?_
      refine b_M_load_34 (v2 := 1) (hA _ (by omega) (by omega)) (rdE (k_M_0)) (by rw [stmI0 (x := 1) (v := 1) (k_M_0) rfl]; exact (rdI (e := 1) (k_M_0) (by simp [up]))) (fun z => absurd z (by decide)) (fun z4 => ?_)
      rw [stmI0 (x := 1) (v := 1) (k_M_0) rfl]
      refine rt_l ?_ ?_ (b_M_load_44 )
      · rfl
      · rfl
    · replace z3 := mt (cvlt h2 (show ((0 : Int32)).toInt = 0 from by decide)).mpr z3
      refine b_M_load_13 (fun z5 => ?_) (fun z5 => ?_)
      · replace z5 := (cvle h2 (show ((3 : Int32)).toInt = 3 from by decide)).mp z5
        exfalso; omega
      · replace z5 := mt (cvle h2 (show ((3 : Int32)).toInt = 3 from by decide)).mpr z5
        refine b_M_load_18 ?_
        refine b_M_load_34 (v2 := 1) (hA _ (by omega) (by omega)) (rdE (k_M_0)) (by rw [stmI0 (x := 1) (v := 1) (k_M_0) rfl]; exact (rdI (e := 1) (k_M_0) (by simp [up]))) (fun z => absurd z (by decide)) (fun z6 => ?_)
        rw [stmI0 (x := 1) (v := 1) (k_M_0) rfl]
        refine rt_l ?_ ?_ (b_M_load_44 )
        · rfl
        · rfl
theorem m_load2 {d : Nat} {A : Nat → Prop} {g : ah_H} {m : Nat} {E : rg_D} (hO : ∀ f j, E f j < 2 ^ 30) (hA : ∀ q, m ≤ q → q < m + 16 → A q) (hM : MI E) (hd : 9 ≤ d) {x1 : Int32} {p1 : Int} (h1 : x1.toInt = p1) {x2 : Int32} {p2 : Int} (h2 : x2.toInt = p2) (g1 : 0 ≤ p1 ∧ p1 < ((E 0 0 : Nat) : Int)) (g2 : 0 ≤ p2 ∧ p2 ≤ 3) (hq : E 16 0 = 0) : ah_Ev mt_M_load d A [.ref m, .int x1, .int x2] (rg LTm g m E) (.returned (some (.long 0))) (rg LTm g m (up E 32 0 2)) := by
  refine ah_Ev.of (by decide +kernel) (Nat.le_of_ble_eq_true rfl) ?_
  show ah_At mt_M_load d A (rg LTm g m E) (.returned (some (.long 0))) (rg LTm g m (up E 32 0 2)) 0 [(0, .ref m), (1, .int x1), (2, .int x2)] [] (rg LTm g m E)
  refine b_M_load_0 (c_isWagon (d := d - 1) (A := A) (E := E) hO h1 (n := E 0 0) rfl) (by omega) (fun q hq => hq) ?_ (rdN (k_M_0))
  refine aft_1 ?_
  refine b_M_load_6 (fun z1 => ?_) (fun z1 => ?_)
  · replace z1 := pz0.mp z1
    exfalso; omega
  · replace z1 := pz1.mp z1
    refine b_M_load_9 (fun z2 => ?_) (fun z2 => ?_)
    · replace z2 := (cvlt h2 (show ((0 : Int32)).toInt = 0 from by decide)).mp z2
      exfalso; omega
    · replace z2 := mt (cvlt h2 (show ((0 : Int32)).toInt = 0 from by decide)).mpr z2
      refine b_M_load_13 (fun z3 => ?_) (fun z3 => ?_)
      · replace z3 := (cvle h2 (show ((3 : Int32)).toInt = 3 from by decide)).mp z3
        refine b_M_load_22 (rdI (k_M_17) rfl) (fun z4 => ?_) (fun z4 => ?_)
        · replace z4 := (cveq (nI_toInt (n := E 16 0) (by have := hO 16 0; omega)) (show ((0 : Int32)).toInt = 0 from by decide)).mp z4
          refine b_M_load_33 ?_
          refine b_M_load_34 (v2 := 2) (hA _ (by omega) (by omega)) (rdE (k_M_0)) (by rw [stmI0 (x := 2) (v := 2) (k_M_0) rfl]; exact (rdI (e := 2) (k_M_0) (by simp [up]))) (fun z => absurd z (by decide)) (fun z5 => ?_)
          rw [stmI0 (x := 2) (v := 2) (k_M_0) rfl]
          refine rt_l ?_ ?_ (b_M_load_44 )
          · rfl
          · rfl
        · replace z4 := mt (cveq (nI_toInt (n := E 16 0) (by have := hO 16 0; omega)) (show ((0 : Int32)).toInt = 0 from by decide)).mpr z4
          exfalso; omega
      · replace z3 := mt (cvle h2 (show ((3 : Int32)).toInt = 3 from by decide)).mpr z3
        exfalso; omega
theorem m_axle1 {d : Nat} {A : Nat → Prop} {g : ah_H} {m : Nat} {E : rg_D} (hO : ∀ f j, E f j < 2 ^ 30) (hA : ∀ q, m ≤ q → q < m + 16 → A q) (hM : MI E) (hd : 9 ≤ d) {x1 : Int32} {p1 : Int} (h1 : x1.toInt = p1) {x2 : Int32} {p2 : Int} (h2 : x2.toInt = p2) (hn : ¬ (0 ≤ p1 ∧ p1 < ((E 0 0 : Nat) : Int)) ∨ ¬ (0 ≤ p2 ∧ p2 ≤ 1)) : ah_Ev mt_M_axle d A [.ref m, .int x1, .int x2] (rg LTm g m E) (.returned (some (.long 0))) (rg LTm g m (up E 32 0 1)) := by
  refine ah_Ev.of (by decide +kernel) (Nat.le_of_ble_eq_true rfl) ?_
  show ah_At mt_M_axle d A (rg LTm g m E) (.returned (some (.long 0))) (rg LTm g m (up E 32 0 1)) 0 [(0, .ref m), (1, .int x1), (2, .int x2)] [] (rg LTm g m E)
  refine b_M_axle_0 (c_isWagon (d := d - 1) (A := A) (E := E) hO h1 (n := E 0 0) rfl) (by omega) (fun q hq => hq) ?_ (rdN (k_M_0))
  refine aft_1 ?_
  refine b_M_axle_6 (fun z1 => ?_) (fun z1 => ?_)
  · replace z1 := pz0.mp z1
    refine b_M_axle_18 ?_
    refine b_M_axle_59 (v2 := 1) (hA _ (by omega) (by omega)) (rdE (k_M_0)) (by rw [stmI0 (x := 1) (v := 1) (k_M_0) rfl]; exact (rdI (e := 1) (k_M_0) (by simp [up]))) (fun z => absurd z (by decide)) (fun z2 => ?_)
    rw [stmI0 (x := 1) (v := 1) (k_M_0) rfl]
    refine b_M_axle_69 ?_
    refine rt_l ?_ ?_ (b_M_axle_106 )
    · rfl
    · rfl
  · replace z1 := pz1.mp z1
    refine b_M_axle_9 (fun z3 => ?_) (fun z3 => ?_)
    · replace z3 := (cvlt h2 (show ((0 : Int32)).toInt = 0 from by decide)).mp z3
      refine b_M_axle_18 ?_
      refine b_M_axle_59 (v2 := 1) (hA _ (by omega) (by omega)) (rdE (k_M_0)) (by rw [stmI0 (x := 1) (v := 1) (k_M_0) rfl]; exact (rdI (e := 1) (k_M_0) (by simp [up]))) (fun z => absurd z (by decide)) (fun z4 => ?_)
      rw [stmI0 (x := 1) (v := 1) (k_M_0) rfl]
      refine b_M_axle_69 ?_
      refine rt_l ?_ ?_ (b_M_axle_106 )
      · rfl
      · rfl
    · replace z3 := mt (cvlt h2 (show ((0 : Int32)).toInt = 0 from by decide)).mpr z3
      refine b_M_axle_13 (fun z5 => ?_) (fun z5 => ?_)
      · replace z5 := (cvle h2 (show ((1 : Int32)).toInt = 1 from by decide)).mp z5
        exfalso; omega
      · replace z5 := mt (cvle h2 (show ((1 : Int32)).toInt = 1 from by decide)).mpr z5
        refine b_M_axle_18 ?_
        refine b_M_axle_59 (v2 := 1) (hA _ (by omega) (by omega)) (rdE (k_M_0)) (by rw [stmI0 (x := 1) (v := 1) (k_M_0) rfl]; exact (rdI (e := 1) (k_M_0) (by simp [up]))) (fun z => absurd z (by decide)) (fun z6 => ?_)
        rw [stmI0 (x := 1) (v := 1) (k_M_0) rfl]
        refine b_M_axle_69 ?_
        refine rt_l ?_ ?_ (b_M_axle_106 )
        · rfl
        · rfl
theorem m_axle2 {d : Nat} {A : Nat → Prop} {g : ah_H} {m : Nat} {E : rg_D} (hO : ∀ f j, E f j < 2 ^ 30) (hA : ∀ q, m ≤ q → q < m + 16 → A q) (hM : MI E) (hd : 9 ≤ d) {x1 : Int32} {p1 : Int} (h1 : x1.toInt = p1) {x2 : Int32} {p2 : Int} (h2 : x2.toInt = p2) (g1 : 0 ≤ p1 ∧ p1 < ((E 0 0 : Nat) : Int)) (g2 : 0 ≤ p2 ∧ p2 ≤ 1) (hq : E 16 0 = 0) : ah_Ev mt_M_axle d A [.ref m, .int x1, .int x2] (rg LTm g m E) (.returned (some (.long 0))) (rg LTm g m (up E 32 0 2)) := by
  refine ah_Ev.of (by decide +kernel) (Nat.le_of_ble_eq_true rfl) ?_
  show ah_At mt_M_axle d A (rg LTm g m E) (.returned (some (.long 0))) (rg LTm g m (up E 32 0 2)) 0 [(0, .ref m), (1, .int x1), (2, .int x2)] [] (rg LTm g m E)
  refine b_M_axle_0 (c_isWagon (d := d - 1) (A := A) (E := E) hO h1 (n := E 0 0) rfl) (by omega) (fun q hq => hq) ?_ (rdN (k_M_0))
  refine aft_1 ?_
  refine b_M_axle_6 (fun z1 => ?_) (fun z1 => ?_)
  · replace z1 := pz0.mp z1
    exfalso; omega
  · replace z1 := pz1.mp z1
    refine b_M_axle_9 (fun z2 => ?_) (fun z2 => ?_)
    · replace z2 := (cvlt h2 (show ((0 : Int32)).toInt = 0 from by decide)).mp z2
      exfalso; omega
    · replace z2 := mt (cvlt h2 (show ((0 : Int32)).toInt = 0 from by decide)).mpr z2
      refine b_M_axle_13 (fun z3 => ?_) (fun z3 => ?_)
      · replace z3 := (cvle h2 (show ((1 : Int32)).toInt = 1 from by decide)).mp z3
        refine b_M_axle_22 (rdI (k_M_17) rfl) (fun z4 => ?_) (fun z4 => ?_)
        · replace z4 := mt (cveq (nI_toInt (n := E 16 0) (by have := hO 16 0; omega)) (show ((0 : Int32)).toInt = 0 from by decide)).mpr z4
          exfalso; omega
        · replace z4 := (cveq (nI_toInt (n := E 16 0) (by have := hO 16 0; omega)) (show ((0 : Int32)).toInt = 0 from by decide)).mp (Decidable.not_not.mp z4)
          refine b_M_axle_29 ?_
          refine b_M_axle_59 (v2 := 2) (hA _ (by omega) (by omega)) (rdE (k_M_0)) (by rw [stmI0 (x := 2) (v := 2) (k_M_0) rfl]; exact (rdI (e := 2) (k_M_0) (by simp [up]))) (fun z => absurd z (by decide)) (fun z5 => ?_)
          rw [stmI0 (x := 2) (v := 2) (k_M_0) rfl]
          refine b_M_axle_69 ?_
          refine rt_l ?_ ?_ (b_M_axle_106 )
          · rfl
          · rfl
      · replace z3 := mt (cvle h2 (show ((1 : Int32)).toInt = 1 from by decide)).mpr z3
        exfalso; omega
theorem m_at0n0 {d : Nat} {A : Nat → Prop} {g : ah_H} {m : Nat} {E : rg_D} (hO : ∀ f j, E f j < 2 ^ 30) (hA : ∀ q, m ≤ q → q < m + 16 → A q) (hM : MI E) (hd : 9 ≤ d) {i : Nat} (hi : i < E 1 0) (hq : E 16 0 = 1) (he : E 29 i = 0) : ah_Ev mt_M_at d A [.ref m, .int (nI i), .int 0] (rg LTm g m E) (.returned (some (.int (-1)))) (rg LTm g m (up E 32 0 0)) := by
  refine ah_Ev.of (by decide +kernel) (Nat.le_of_ble_eq_true rfl) ?_
  show ah_At mt_M_at d A (rg LTm g m E) (.returned (some (.int (-1)))) (rg LTm g m (up E 32 0 0)) 0 [(0, .ref m), (1, .int (nI i)), (2, .int 0)] [] (rg LTm g m E)
  have h8 := hM.1.2
  refine b_M_at_0 (c_isBox (d := d - 1) (A := A) (E := E) hO (nI_toInt (n := i) (by omega)) (n := E 1 0) rfl) (by omega) (fun q hq => hq) ?_ (rdN (k_M_0))
  refine aft_1 ?_
  refine b_M_at_6 (fun z1 => ?_) (fun z1 => ?_)
  · replace z1 := pz0.mp z1
    exfalso; omega
  · replace z1 := pz1.mp z1
    refine b_M_at_9 (fun z => absurd z (by decide)) (fun z2 => ?_)
    refine b_M_at_13 (fun z3 => ?_) (fun z => absurd (by decide) z)
    refine b_M_at_22 (rdI (k_M_17) rfl) (fun z4 => ?_) (fun z4 => ?_)
    · replace z4 := (cveq (nI_toInt (n := E 16 0) (by have := hO 16 0; omega)) (show ((0 : Int32)).toInt = 0 from by decide)).mp z4
      exfalso; omega
    · replace z4 := mt (cveq (nI_toInt (n := E 16 0) (by have := hO 16 0; omega)) (show ((0 : Int32)).toInt = 0 from by decide)).mpr z4
      refine b_M_at_29 ?_
      refine b_M_at_34 (v2 := 0) (hA _ (by omega) (by omega)) (rdE (k_M_0)) (by rw [stmI0 (x := 0) (v := 0) (k_M_0) rfl]; exact (rdI (e := 0) (k_M_0) (by simp [up]))) (fun z5 => ?_) (fun z => absurd (by decide) z)
      rw [stmI0 (x := 0) (v := 0) (k_M_0) rfl]
      refine b_M_at_46 (rdR (k_M_19)) (ah_ix_nI (by omega)) (rdI (e := E 29 i) (k_M29 _ (by omega)) (by simp [up])) (fun z6 => ?_) (fun z6 => ?_)
      · replace z6 := mt (cveq (nI_toInt (n := E 29 i) (by have := hO 29 i; omega)) (show ((0 : Int32)).toInt = 0 from by decide)).mpr z6
        exfalso; omega
      · replace z6 := (cveq (nI_toInt (n := E 29 i) (by have := hO 29 i; omega)) (show ((0 : Int32)).toInt = 0 from by decide)).mp (Decidable.not_not.mp z6)
        refine b_M_at_55 ?_
        refine rt_i ?_ ?_ (b_M_at_79 )
        · rfl
        · rfl
theorem m_at0n1 {d : Nat} {A : Nat → Prop} {g : ah_H} {m : Nat} {E : rg_D} (hO : ∀ f j, E f j < 2 ^ 30) (hA : ∀ q, m ≤ q → q < m + 16 → A q) (hM : MI E) (hd : 9 ≤ d) {i : Nat} (hi : i < E 1 0) (hq : E 16 0 = 1) (he : E 29 i = 0) : ah_Ev mt_M_at d A [.ref m, .int (nI i), .int 1] (rg LTm g m E) (.returned (some (.int (-1)))) (rg LTm g m (up E 32 0 0)) := by
  refine ah_Ev.of (by decide +kernel) (Nat.le_of_ble_eq_true rfl) ?_
  show ah_At mt_M_at d A (rg LTm g m E) (.returned (some (.int (-1)))) (rg LTm g m (up E 32 0 0)) 0 [(0, .ref m), (1, .int (nI i)), (2, .int 1)] [] (rg LTm g m E)
  have h8 := hM.1.2
  refine b_M_at_0 (c_isBox (d := d - 1) (A := A) (E := E) hO (nI_toInt (n := i) (by omega)) (n := E 1 0) rfl) (by omega) (fun q hq => hq) ?_ (rdN (k_M_0))
  refine aft_1 ?_
  refine b_M_at_6 (fun z1 => ?_) (fun z1 => ?_)
  · replace z1 := pz0.mp z1
    exfalso; omega
  · replace z1 := pz1.mp z1
    refine b_M_at_9 (fun z => absurd z (by decide)) (fun z2 => ?_)
    refine b_M_at_13 (fun z3 => ?_) (fun z => absurd (by decide) z)
    refine b_M_at_22 (rdI (k_M_17) rfl) (fun z4 => ?_) (fun z4 => ?_)
    · replace z4 := (cveq (nI_toInt (n := E 16 0) (by have := hO 16 0; omega)) (show ((0 : Int32)).toInt = 0 from by decide)).mp z4
      exfalso; omega
    · replace z4 := mt (cveq (nI_toInt (n := E 16 0) (by have := hO 16 0; omega)) (show ((0 : Int32)).toInt = 0 from by decide)).mpr z4
      refine b_M_at_29 ?_
      refine b_M_at_34 (v2 := 0) (hA _ (by omega) (by omega)) (rdE (k_M_0)) (by rw [stmI0 (x := 0) (v := 0) (k_M_0) rfl]; exact (rdI (e := 0) (k_M_0) (by simp [up]))) (fun z5 => ?_) (fun z => absurd (by decide) z)
      rw [stmI0 (x := 0) (v := 0) (k_M_0) rfl]
      refine b_M_at_46 (rdR (k_M_19)) (ah_ix_nI (by omega)) (rdI (e := E 29 i) (k_M29 _ (by omega)) (by simp [up])) (fun z6 => ?_) (fun z6 => ?_)
      · replace z6 := mt (cveq (nI_toInt (n := E 29 i) (by have := hO 29 i; omega)) (show ((0 : Int32)).toInt = 0 from by decide)).mpr z6
        exfalso; omega
      · replace z6 := (cveq (nI_toInt (n := E 29 i) (by have := hO 29 i; omega)) (show ((0 : Int32)).toInt = 0 from by decide)).mp (Decidable.not_not.mp z6)
        refine b_M_at_55 ?_
        refine rt_i ?_ ?_ (b_M_at_79 )
        · rfl
        · rfl
theorem m_at00 {d : Nat} {A : Nat → Prop} {g : ah_H} {m : Nat} {E : rg_D} (hO : ∀ f j, E f j < 2 ^ 30) (hA : ∀ q, m ≤ q → q < m + 16 → A q) (hM : MI E) (hd : 9 ≤ d) {i w : Nat} (hi : i < E 1 0) (hq : E 16 0 = 1) (he : E 29 i = w + 1) : ah_Ev mt_M_at d A [.ref m, .int (nI i), .int 0] (rg LTm g m E) (.returned (some (.int (nI w)))) (rg LTm g m (up E 32 0 0)) := by
  refine ah_Ev.of (by decide +kernel) (Nat.le_of_ble_eq_true rfl) ?_
  show ah_At mt_M_at d A (rg LTm g m E) (.returned (some (.int (nI w)))) (rg LTm g m (up E 32 0 0)) 0 [(0, .ref m), (1, .int (nI i)), (2, .int 0)] [] (rg LTm g m E)
  have h8 := hM.1.2
  have hw1 := hO 29 i
  rw [he] at hw1
  refine b_M_at_0 (c_isBox (d := d - 1) (A := A) (E := E) hO (nI_toInt (n := i) (by omega)) (n := E 1 0) rfl) (by omega) (fun q hq => hq) ?_ (rdN (k_M_0))
  refine aft_1 ?_
  refine b_M_at_6 (fun z1 => ?_) (fun z1 => ?_)
  · replace z1 := pz0.mp z1
    exfalso; omega
  · replace z1 := pz1.mp z1
    refine b_M_at_9 (fun z => absurd z (by decide)) (fun z2 => ?_)
    refine b_M_at_13 (fun z3 => ?_) (fun z => absurd (by decide) z)
    refine b_M_at_22 (rdI (k_M_17) rfl) (fun z4 => ?_) (fun z4 => ?_)
    · replace z4 := (cveq (nI_toInt (n := E 16 0) (by have := hO 16 0; omega)) (show ((0 : Int32)).toInt = 0 from by decide)).mp z4
      exfalso; omega
    · replace z4 := mt (cveq (nI_toInt (n := E 16 0) (by have := hO 16 0; omega)) (show ((0 : Int32)).toInt = 0 from by decide)).mpr z4
      refine b_M_at_29 ?_
      refine b_M_at_34 (v2 := 0) (hA _ (by omega) (by omega)) (rdE (k_M_0)) (by rw [stmI0 (x := 0) (v := 0) (k_M_0) rfl]; exact (rdI (e := 0) (k_M_0) (by simp [up]))) (fun z5 => ?_) (fun z => absurd (by decide) z)
      rw [stmI0 (x := 0) (v := 0) (k_M_0) rfl]
      refine b_M_at_46 (rdR (k_M_19)) (ah_ix_nI (by omega)) (rdI (e := w + 1) (k_M29 _ (by omega)) (by simp [up, he])) (fun z6 => ?_) (fun z6 => ?_)
      · replace z6 := mt (cveq (nI_toInt (n := w + 1) (by omega)) (show ((0 : Int32)).toInt = 0 from by decide)).mpr z6
        refine b_M_at_59 (fun z => absurd z (by decide)) (fun z7 => ?_)
        refine b_M_at_63 (rdR (k_M_19)) (ah_ix_nI (by omega)) (rdI (e := w + 1) (k_M29 _ (by omega)) (by simp [up, he])) ?_
        rw [show ((nI (w + 1)) - 1 : Int32) = nI w from (pr_n rfl)]
        refine rt_i ?_ ?_ (b_M_at_79 )
        · exact rfl
        · rfl
      · replace z6 := (cveq (nI_toInt (n := w + 1) (by omega)) (show ((0 : Int32)).toInt = 0 from by decide)).mp (Decidable.not_not.mp z6)
        exfalso; omega
theorem m_at01 {d : Nat} {A : Nat → Prop} {g : ah_H} {m : Nat} {E : rg_D} (hO : ∀ f j, E f j < 2 ^ 30) (hA : ∀ q, m ≤ q → q < m + 16 → A q) (hM : MI E) (hd : 9 ≤ d) {i w : Nat} (hi : i < E 1 0) (hq : E 16 0 = 1) (he : E 29 i = w + 1) {v : Int32} (hP : ah_Ev mt_M_placeIn (d - 1) A [.ref m, .int (nI i)] (rg LTm g m (up E 32 0 0)) (.returned (some (.int v))) (rg LTm g m (up E 32 0 0))) : ah_Ev mt_M_at d A [.ref m, .int (nI i), .int 1] (rg LTm g m E) (.returned (some (.int v))) (rg LTm g m (up E 32 0 0)) := by
  refine ah_Ev.of (by decide +kernel) (Nat.le_of_ble_eq_true rfl) ?_
  show ah_At mt_M_at d A (rg LTm g m E) (.returned (some (.int v))) (rg LTm g m (up E 32 0 0)) 0 [(0, .ref m), (1, .int (nI i)), (2, .int 1)] [] (rg LTm g m E)
  have h8 := hM.1.2
  have hw1 := hO 29 i
  rw [he] at hw1
  refine b_M_at_0 (c_isBox (d := d - 1) (A := A) (E := E) hO (nI_toInt (n := i) (by omega)) (n := E 1 0) rfl) (by omega) (fun q hq => hq) ?_ (rdN (k_M_0))
  refine aft_1 ?_
  refine b_M_at_6 (fun z1 => ?_) (fun z1 => ?_)
  · replace z1 := pz0.mp z1
    exfalso; omega
  · replace z1 := pz1.mp z1
    refine b_M_at_9 (fun z => absurd z (by decide)) (fun z2 => ?_)
    refine b_M_at_13 (fun z3 => ?_) (fun z => absurd (by decide) z)
    refine b_M_at_22 (rdI (k_M_17) rfl) (fun z4 => ?_) (fun z4 => ?_)
    · replace z4 := (cveq (nI_toInt (n := E 16 0) (by have := hO 16 0; omega)) (show ((0 : Int32)).toInt = 0 from by decide)).mp z4
      exfalso; omega
    · replace z4 := mt (cveq (nI_toInt (n := E 16 0) (by have := hO 16 0; omega)) (show ((0 : Int32)).toInt = 0 from by decide)).mpr z4
      refine b_M_at_29 ?_
      refine b_M_at_34 (v2 := 0) (hA _ (by omega) (by omega)) (rdE (k_M_0)) (by rw [stmI0 (x := 0) (v := 0) (k_M_0) rfl]; exact (rdI (e := 0) (k_M_0) (by simp [up]))) (fun z5 => ?_) (fun z => absurd (by decide) z)
      rw [stmI0 (x := 0) (v := 0) (k_M_0) rfl]
      refine b_M_at_46 (rdR (k_M_19)) (ah_ix_nI (by omega)) (rdI (e := w + 1) (k_M29 _ (by omega)) (by simp [up, he])) (fun z6 => ?_) (fun z6 => ?_)
      · replace z6 := mt (cveq (nI_toInt (n := w + 1) (by omega)) (show ((0 : Int32)).toInt = 0 from by decide)).mpr z6
        refine b_M_at_59 (fun z7 => ?_) (fun z => absurd (by decide) z)
        refine b_M_at_74 (hP) (by omega) (fun q hq => hq) ?_ (rdN (k_M_0))
        refine aft_1 ?_
        refine rt_i ?_ ?_ (b_M_at_79 )
        · rfl
        · rfl
      · replace z6 := (cveq (nI_toInt (n := w + 1) (by omega)) (show ((0 : Int32)).toInt = 0 from by decide)).mp (Decidable.not_not.mp z6)
        exfalso; omega
def llf (E : rg_D) (w j : Nat) : Nat := if E 29 j = w + 1 then lm (E 10 j) else 0
theorem lo_load {d : Nat} {A : Nat → Prop} {g : ah_H} {m : Nat} {E : rg_D} (hO : ∀ f j, E f j < 2 ^ 30) {w : Nat} (hw : w < 3) (hb : E 1 0 ≤ 8) (hd : 1 ≤ d) {h0 h2 : ah_H} {o : Outcome} {x : Int32} (K : ah_At mt_M_load d A h0 o h2 97 [(0, .ref m), (1, .int (nI w)), (2, .int x), (3, .long (lN (sm (llf E w) (E 1 0))))] [] (rg LTm g m E)) : ∀ (k j n : Nat), j + k = E 1 0 → n = sm (llf E w) j → ah_At mt_M_load d A h0 o h2 51 [(0, .ref m), (1, .int (nI w)), (2, .int x), (3, .long (lN n)), (5, .int (nI j))] [] (rg LTm g m E)
  | 0, j, n, hk, hn => by
    refine b_M_load_51 (rdI (k_M_2) rfl) (fun z1 => ?_) (fun z1 => by exfalso; replace z1 := mt (cvle (nI_toInt (n := E 1 0) (by have := hO 1 0; omega)) (nI_toInt (n := j) (by omega))).mpr z1; omega)
    replace z1 := (cvle (nI_toInt (n := E 1 0) (by have := hO 1 0; omega)) (nI_toInt (n := j) (by omega))).mp z1
    rw [hn, show j = E 1 0 by omega]
    exact K
  | k + 1, j, n, hk, hn => by
    have hlm := lm_le (E 10 j)
    refine b_M_load_51 (rdI (k_M_2) rfl) (fun z1 => by exfalso; replace z1 := (cvle (nI_toInt (n := E 1 0) (by have := hO 1 0; omega)) (nI_toInt (n := j) (by omega))).mp z1; omega) (fun z1 => ?_)
    replace z1 := mt (cvle (nI_toInt (n := E 1 0) (by have := hO 1 0; omega)) (nI_toInt (n := j) (by omega))).mpr z1
    refine b_M_load_60 (rdR (k_M_19)) (ah_ix_nI (by omega)) (rdI (k_M29 _ (by omega)) rfl) (fun z2 => ?_) (fun z2 => ?_)
    · replace z2 := mt (cveq (nI_toInt (n := E 29 j) (by have := hO 29 j; omega)) (tn_n (show ((nI w) + 1 : Int32) = nI (w + 1) from (ad_n rfl rfl)) (by omega))).mpr z2
      refine b_M_load_88 ?_
      refine b_M_load_89 ?_
      rw [show ((lN n) + 0 : Int64) = lN (n + 0) from (ad_l rfl rfl)]
      rw [show ((nI j) + 1 : Int32) = nI (j + 1) from (ad_n rfl rfl)]
      exact lo_load hO hw hb hd K k (j + 1) _ (by omega) (by simp only [sm]; rw [← hn]; unfold llf; split <;> omega)
    · replace z2 := (cveq (nI_toInt (n := E 29 j) (by have := hO 29 j; omega)) (tn_n (show ((nI w) + 1 : Int32) = nI (w + 1) from (ad_n rfl rfl)) (by omega))).mp (Decidable.not_not.mp z2)
      refine b_M_load_74 (rdR (k_M_10)) (ah_ix_nI (by omega)) (rdI (k_M10 _ (by omega)) rfl) (c_lengthOf (d := d - 1) (A := A) (n := E 10 j) (by have := hO 10 j; omega)) (by omega) (fun q hq => hq) ?_
      refine aft_1 ?_
      refine b_M_load_84 ?_
      rw [show (Int32.toInt64 (nI (lm (E 10 j))) : Int64) = lN (lm (E 10 j)) from (il_n rfl (by have := hO 10 j; omega))]
      refine b_M_load_89 ?_
      rw [show ((lN n) + (lN (lm (E 10 j))) : Int64) = lN (n + (lm (E 10 j))) from (ad_l rfl rfl)]
      rw [show ((nI j) + 1 : Int32) = nI (j + 1) from (ad_n rfl rfl)]
      exact lo_load hO hw hb hd K k (j + 1) _ (by omega) (by simp only [sm]; rw [← hn]; unfold llf; split <;> omega)
theorem ld_97_0 {d : Nat} {A : Nat → Prop} {g : ah_H} {m : Nat} {E : rg_D} (hO : ∀ f j, E f j < 2 ^ 30) (hM : MI E) (hd : 6 ≤ d) {w : Nat} (hw : w < 3) {h0 : ah_H} : ah_At mt_M_load d A h0 (.returned (some (.long (Int32.toInt64 (nI (pm E w) - 1))))) (rg LTm g m E) 97 [(0, .ref m), (1, .int (nI w)), (2, .int 0), (3, .long (lN (sm (llf E w) (E 1 0))))] [] (rg LTm g m E) := by
  refine b_M_load_97 (fun z => absurd z (by decide)) (fun z1 => ?_)
  refine b_M_load_101 (c_patternOfM (d := d - 1) (A := A) hO hM (by omega) hw) (by omega) (fun q hq => hq) ?_ (rdN (k_M_0))
  refine aft_1 ?_
  refine b_M_load_106 ?_
  refine rt_l ?_ ?_ (b_M_load_143 )
  · rfl
  · rfl
theorem m_load00 {d : Nat} {A : Nat → Prop} {g : ah_H} {m : Nat} {E : rg_D} (hO : ∀ f j, E f j < 2 ^ 30) (hA : ∀ q, m ≤ q → q < m + 16 → A q) (hM : MI E) (hd : 9 ≤ d) {w : Nat} (hw : w < E 0 0) (hq : E 16 0 = 1) : ah_Ev mt_M_load d A [.ref m, .int (nI w), .int 0] (rg LTm g m E) (.returned (some (.long (Int32.toInt64 (nI (pm (up E 32 0 0) w) - 1))))) (rg LTm g m (up E 32 0 0)) := by
  refine ah_Ev.of (by decide +kernel) (Nat.le_of_ble_eq_true rfl) ?_
  show ah_At mt_M_load d A (rg LTm g m E) (.returned (some (.long (Int32.toInt64 (nI (pm (up E 32 0 0) w) - 1))))) (rg LTm g m (up E 32 0 0)) 0 [(0, .ref m), (1, .int (nI w)), (2, .int 0)] [] (rg LTm g m E)
  have h3 := hM.1.1
  have hM2 : MI (up E 32 0 0) := hM.of (fun f j q => up_f (by omega))
  refine b_M_load_0 (c_isWagon (d := d - 1) (A := A) (E := E) hO (nI_toInt (n := w) (by omega)) (n := E 0 0) rfl) (by omega) (fun q hq => hq) ?_ (rdN (k_M_0))
  refine aft_1 ?_
  refine b_M_load_6 (fun z1 => ?_) (fun z1 => ?_)
  · replace z1 := pz0.mp z1
    exfalso; omega
  · replace z1 := pz1.mp z1
    refine b_M_load_9 (fun z => absurd z (by decide)) (fun z2 => ?_)
    refine b_M_load_13 (fun z3 => ?_) (fun z => absurd (by decide) z)
    refine b_M_load_22 (rdI (k_M_17) rfl) (fun z4 => ?_) (fun z4 => ?_)
    · replace z4 := (cveq (nI_toInt (n := E 16 0) (by have := hO 16 0; omega)) (show ((0 : Int32)).toInt = 0 from by decide)).mp z4
      exfalso; omega
    · replace z4 := mt (cveq (nI_toInt (n := E 16 0) (by have := hO 16 0; omega)) (show ((0 : Int32)).toInt = 0 from by decide)).mpr z4
      refine b_M_load_29 ?_
      refine b_M_load_34 (v2 := 0) (hA _ (by omega) (by omega)) (rdE (k_M_0)) (by rw [stmI0 (x := 0) (v := 0) (k_M_0) rfl]; exact (rdI (e := 0) (k_M_0) (by simp [up]))) (fun z5 => ?_) (fun z => absurd (by decide) z)
      rw [stmI0 (x := 0) (v := 0) (k_M_0) rfl]
      refine b_M_load_46 ?_
      exact lo_load (up_O hO (by decide)) (by omega) hM2.1.2 (by omega) (ld_97_0 (up_O hO (by decide)) hM2 (by omega) (by omega)) _ 0 0 (Nat.zero_add _) rfl
theorem ld_97_1 {d : Nat} {A : Nat → Prop} {g : ah_H} {m : Nat} {E : rg_D} (hO : ∀ f j, E f j < 2 ^ 30) (hM : MI E) (hd : 6 ≤ d) {w : Nat} (hw : w < 3) {h0 : ah_H} : ah_At mt_M_load d A h0 (.returned (some (.long (lN (co E 29 w 0))))) (rg LTm g m E) 97 [(0, .ref m), (1, .int (nI w)), (2, .int 1), (3, .long (lN (sm (llf E w) (E 1 0))))] [] (rg LTm g m E) := by
  refine b_M_load_97 (fun z1 => ?_) (fun z => absurd (by decide) z)
  refine b_M_load_110 (fun z => absurd z (by decide)) (fun z2 => ?_)
  refine b_M_load_115 (rdR (k_M_19)) (c_countOf29 (d := d - 1) (A := A) (w := w) (s := 0) hO (by omega) (by decide) hM.1.2) (by omega) (fun q hq => hq) ?_ (rdN (k_M_0))
  refine aft_1 ?_
  have hco := co_le (f := 29) (w := w) (s := 0) hM.1.2
  refine b_M_load_125 ?_
  rw [show (Int32.toInt64 (nI (co E 29 w 0)) : Int64) = lN (co E 29 w 0) from (il_n rfl (by have := hO 29 w; omega))]
  refine rt_l ?_ ?_ (b_M_load_143 )
  · rfl
  · rfl
theorem m_load01 {d : Nat} {A : Nat → Prop} {g : ah_H} {m : Nat} {E : rg_D} (hO : ∀ f j, E f j < 2 ^ 30) (hA : ∀ q, m ≤ q → q < m + 16 → A q) (hM : MI E) (hd : 9 ≤ d) {w : Nat} (hw : w < E 0 0) (hq : E 16 0 = 1) : ah_Ev mt_M_load d A [.ref m, .int (nI w), .int 1] (rg LTm g m E) (.returned (some (.long (lN (co (up E 32 0 0) 29 w 0))))) (rg LTm g m (up E 32 0 0)) := by
  refine ah_Ev.of (by decide +kernel) (Nat.le_of_ble_eq_true rfl) ?_
  show ah_At mt_M_load d A (rg LTm g m E) (.returned (some (.long (lN (co (up E 32 0 0) 29 w 0))))) (rg LTm g m (up E 32 0 0)) 0 [(0, .ref m), (1, .int (nI w)), (2, .int 1)] [] (rg LTm g m E)
  have h3 := hM.1.1
  have hM2 : MI (up E 32 0 0) := hM.of (fun f j q => up_f (by omega))
  refine b_M_load_0 (c_isWagon (d := d - 1) (A := A) (E := E) hO (nI_toInt (n := w) (by omega)) (n := E 0 0) rfl) (by omega) (fun q hq => hq) ?_ (rdN (k_M_0))
  refine aft_1 ?_
  refine b_M_load_6 (fun z1 => ?_) (fun z1 => ?_)
  · replace z1 := pz0.mp z1
    exfalso; omega
  · replace z1 := pz1.mp z1
    refine b_M_load_9 (fun z => absurd z (by decide)) (fun z2 => ?_)
    refine b_M_load_13 (fun z3 => ?_) (fun z => absurd (by decide) z)
    refine b_M_load_22 (rdI (k_M_17) rfl) (fun z4 => ?_) (fun z4 => ?_)
    · replace z4 := (cveq (nI_toInt (n := E 16 0) (by have := hO 16 0; omega)) (show ((0 : Int32)).toInt = 0 from by decide)).mp z4
      exfalso; omega
    · replace z4 := mt (cveq (nI_toInt (n := E 16 0) (by have := hO 16 0; omega)) (show ((0 : Int32)).toInt = 0 from by decide)).mpr z4
      refine b_M_load_29 ?_
      refine b_M_load_34 (v2 := 0) (hA _ (by omega) (by omega)) (rdE (k_M_0)) (by rw [stmI0 (x := 0) (v := 0) (k_M_0) rfl]; exact (rdI (e := 0) (k_M_0) (by simp [up]))) (fun z5 => ?_) (fun z => absurd (by decide) z)
      rw [stmI0 (x := 0) (v := 0) (k_M_0) rfl]
      refine b_M_load_46 ?_
      exact lo_load (up_O hO (by decide)) (by omega) hM2.1.2 (by omega) (ld_97_1 (up_O hO (by decide)) hM2 (by omega) (by omega)) _ 0 0 (Nat.zero_add _) rfl
theorem ld_97_2 {d : Nat} {A : Nat → Prop} {g : ah_H} {m : Nat} {E : rg_D} (hO : ∀ f j, E f j < 2 ^ 30) (hM : MI E) (hd : 6 ≤ d) {w : Nat} (hw : w < 3) {h0 : ah_H} : ah_At mt_M_load d A h0 (.returned (some (.long (lN (sm (llf E w) (E 1 0)))))) (rg LTm g m E) 97 [(0, .ref m), (1, .int (nI w)), (2, .int 2), (3, .long (lN (sm (llf E w) (E 1 0))))] [] (rg LTm g m E) := by
  refine b_M_load_97 (fun z1 => ?_) (fun z => absurd (by decide) z)
  refine b_M_load_110 (fun z2 => ?_) (fun z => absurd (by decide) z)
  refine b_M_load_129 (fun z => absurd z (by decide)) (fun z3 => ?_)
  refine b_M_load_134 ?_
  refine rt_l ?_ ?_ (b_M_load_143 )
  · rfl
  · rfl
theorem m_load02 {d : Nat} {A : Nat → Prop} {g : ah_H} {m : Nat} {E : rg_D} (hO : ∀ f j, E f j < 2 ^ 30) (hA : ∀ q, m ≤ q → q < m + 16 → A q) (hM : MI E) (hd : 9 ≤ d) {w : Nat} (hw : w < E 0 0) (hq : E 16 0 = 1) : ah_Ev mt_M_load d A [.ref m, .int (nI w), .int 2] (rg LTm g m E) (.returned (some (.long (lN (sm (llf (up E 32 0 0) w) ((up E 32 0 0) 1 0)))))) (rg LTm g m (up E 32 0 0)) := by
  refine ah_Ev.of (by decide +kernel) (Nat.le_of_ble_eq_true rfl) ?_
  show ah_At mt_M_load d A (rg LTm g m E) (.returned (some (.long (lN (sm (llf (up E 32 0 0) w) ((up E 32 0 0) 1 0)))))) (rg LTm g m (up E 32 0 0)) 0 [(0, .ref m), (1, .int (nI w)), (2, .int 2)] [] (rg LTm g m E)
  have h3 := hM.1.1
  have hM2 : MI (up E 32 0 0) := hM.of (fun f j q => up_f (by omega))
  refine b_M_load_0 (c_isWagon (d := d - 1) (A := A) (E := E) hO (nI_toInt (n := w) (by omega)) (n := E 0 0) rfl) (by omega) (fun q hq => hq) ?_ (rdN (k_M_0))
  refine aft_1 ?_
  refine b_M_load_6 (fun z1 => ?_) (fun z1 => ?_)
  · replace z1 := pz0.mp z1
    exfalso; omega
  · replace z1 := pz1.mp z1
    refine b_M_load_9 (fun z => absurd z (by decide)) (fun z2 => ?_)
    refine b_M_load_13 (fun z3 => ?_) (fun z => absurd (by decide) z)
    refine b_M_load_22 (rdI (k_M_17) rfl) (fun z4 => ?_) (fun z4 => ?_)
    · replace z4 := (cveq (nI_toInt (n := E 16 0) (by have := hO 16 0; omega)) (show ((0 : Int32)).toInt = 0 from by decide)).mp z4
      exfalso; omega
    · replace z4 := mt (cveq (nI_toInt (n := E 16 0) (by have := hO 16 0; omega)) (show ((0 : Int32)).toInt = 0 from by decide)).mpr z4
      refine b_M_load_29 ?_
      refine b_M_load_34 (v2 := 0) (hA _ (by omega) (by omega)) (rdE (k_M_0)) (by rw [stmI0 (x := 0) (v := 0) (k_M_0) rfl]; exact (rdI (e := 0) (k_M_0) (by simp [up]))) (fun z5 => ?_) (fun z => absurd (by decide) z)
      rw [stmI0 (x := 0) (v := 0) (k_M_0) rfl]
      refine b_M_load_46 ?_
      exact lo_load (up_O hO (by decide)) (by omega) hM2.1.2 (by omega) (ld_97_2 (up_O hO (by decide)) hM2 (by omega) (by omega)) _ 0 0 (Nat.zero_add _) rfl
theorem ld_97_3 {d : Nat} {A : Nat → Prop} {g : ah_H} {m : Nat} {E : rg_D} (hO : ∀ f j, E f j < 2 ^ 30) (hM : MI E) (hd : 6 ≤ d) {w : Nat} (hw : w < 3) {h0 : ah_H} : ah_At mt_M_load d A h0 (.returned (some (.long (lN (ws E 29 w))))) (rg LTm g m E) 97 [(0, .ref m), (1, .int (nI w)), (2, .int 3), (3, .long (lN (sm (llf E w) (E 1 0))))] [] (rg LTm g m E) := by
  refine b_M_load_97 (fun z1 => ?_) (fun z => absurd (by decide) z)
  refine b_M_load_110 (fun z2 => ?_) (fun z => absurd (by decide) z)
  refine b_M_load_129 (fun z3 => ?_) (fun z => absurd (by decide) z)
  refine b_M_load_138 (c_weightOn (d := d - 1) (A := A) hO hw hM.1.2 (fun j => (hM.2.2.2 j).1)) (by omega) (fun q hq => hq) ?_ (rdN (k_M_0))
  refine aft_1 ?_
  refine rt_l ?_ ?_ (b_M_load_143 )
  · rfl
  · rfl
theorem m_load03 {d : Nat} {A : Nat → Prop} {g : ah_H} {m : Nat} {E : rg_D} (hO : ∀ f j, E f j < 2 ^ 30) (hA : ∀ q, m ≤ q → q < m + 16 → A q) (hM : MI E) (hd : 9 ≤ d) {w : Nat} (hw : w < E 0 0) (hq : E 16 0 = 1) : ah_Ev mt_M_load d A [.ref m, .int (nI w), .int 3] (rg LTm g m E) (.returned (some (.long (lN (ws (up E 32 0 0) 29 w))))) (rg LTm g m (up E 32 0 0)) := by
  refine ah_Ev.of (by decide +kernel) (Nat.le_of_ble_eq_true rfl) ?_
  show ah_At mt_M_load d A (rg LTm g m E) (.returned (some (.long (lN (ws (up E 32 0 0) 29 w))))) (rg LTm g m (up E 32 0 0)) 0 [(0, .ref m), (1, .int (nI w)), (2, .int 3)] [] (rg LTm g m E)
  have h3 := hM.1.1
  have hM2 : MI (up E 32 0 0) := hM.of (fun f j q => up_f (by omega))
  refine b_M_load_0 (c_isWagon (d := d - 1) (A := A) (E := E) hO (nI_toInt (n := w) (by omega)) (n := E 0 0) rfl) (by omega) (fun q hq => hq) ?_ (rdN (k_M_0))
  refine aft_1 ?_
  refine b_M_load_6 (fun z1 => ?_) (fun z1 => ?_)
  · replace z1 := pz0.mp z1
    exfalso; omega
  · replace z1 := pz1.mp z1
    refine b_M_load_9 (fun z => absurd z (by decide)) (fun z2 => ?_)
    refine b_M_load_13 (fun z3 => ?_) (fun z => absurd (by decide) z)
    refine b_M_load_22 (rdI (k_M_17) rfl) (fun z4 => ?_) (fun z4 => ?_)
    · replace z4 := (cveq (nI_toInt (n := E 16 0) (by have := hO 16 0; omega)) (show ((0 : Int32)).toInt = 0 from by decide)).mp z4
      exfalso; omega
    · replace z4 := mt (cveq (nI_toInt (n := E 16 0) (by have := hO 16 0; omega)) (show ((0 : Int32)).toInt = 0 from by decide)).mpr z4
      refine b_M_load_29 ?_
      refine b_M_load_34 (v2 := 0) (hA _ (by omega) (by omega)) (rdE (k_M_0)) (by rw [stmI0 (x := 0) (v := 0) (k_M_0) rfl]; exact (rdI (e := 0) (k_M_0) (by simp [up]))) (fun z5 => ?_) (fun z => absurd (by decide) z)
      rw [stmI0 (x := 0) (v := 0) (k_M_0) rfl]
      refine b_M_load_46 ?_
      exact lo_load (up_O hO (by decide)) (by omega) hM2.1.2 (by omega) (ld_97_3 (up_O hO (by decide)) hM2 (by omega) (by omega)) _ 0 0 (Nat.zero_add _) rfl
theorem ws_le {E : rg_D} {f w : Nat} (hM : MI E) : ws E f w ≤ 8000000 := by
  have h1 := sm_le (f := wsf E f w) (B := 1000000) (fun j => by have := (hM.2.2.2 j).1; unfold wsf; split <;> omega) (E 1 0)
  exact Nat.le_trans h1 (bm_le hM.1.2)
theorem m_axle3 {d : Nat} {A : Nat → Prop} {g : ah_H} {m : Nat} {E : rg_D} (hO : ∀ f j, E f j < 2 ^ 30) (hA : ∀ q, m ≤ q → q < m + 16 → A q) (hM : MI E) (hd : 9 ≤ d) {x2 : Int32} {p2 : Int} (h2 : x2.toInt = p2) (g2 : 0 ≤ p2 ∧ p2 ≤ 1) {w : Nat} (hw : w < E 0 0) (hq : E 16 0 = 1) (hx : E 5 w = 0) : ah_Ev mt_M_axle d A [.ref m, .int (nI w), .int x2] (rg LTm g m E) (.returned (some (.long 0))) (rg LTm g m (up E 32 0 3)) := by
  refine ah_Ev.of (by decide +kernel) (Nat.le_of_ble_eq_true rfl) ?_
  show ah_At mt_M_axle d A (rg LTm g m E) (.returned (some (.long 0))) (rg LTm g m (up E 32 0 3)) 0 [(0, .ref m), (1, .int (nI w)), (2, .int x2)] [] (rg LTm g m E)
  have h3 := hM.1.1
  refine b_M_axle_0 (c_isWagon (d := d - 1) (A := A) (E := E) hO (nI_toInt (n := w) (by omega)) (n := E 0 0) rfl) (by omega) (fun q hq => hq) ?_ (rdN (k_M_0))
  refine aft_1 ?_
  refine b_M_axle_6 (fun z1 => ?_) (fun z1 => ?_)
  · replace z1 := pz0.mp z1
    exfalso; omega
  · replace z1 := pz1.mp z1
    refine b_M_axle_9 (fun z2 => ?_) (fun z2 => ?_)
    · replace z2 := (cvlt h2 (show ((0 : Int32)).toInt = 0 from by decide)).mp z2
      exfalso; omega
    · replace z2 := mt (cvlt h2 (show ((0 : Int32)).toInt = 0 from by decide)).mpr z2
      refine b_M_axle_13 (fun z3 => ?_) (fun z3 => ?_)
      · replace z3 := (cvle h2 (show ((1 : Int32)).toInt = 1 from by decide)).mp z3
        refine b_M_axle_22 (rdI (k_M_17) rfl) (fun z4 => ?_) (fun z4 => ?_)
        · replace z4 := mt (cveq (nI_toInt (n := E 16 0) (by have := hO 16 0; omega)) (show ((0 : Int32)).toInt = 0 from by decide)).mpr z4
          refine b_M_axle_33 (rdR (k_M_5)) (c_isWagon (d := d - 1) (A := A) (E := E) hO (nI_toInt (n := w) (by omega)) (n := E 0 0) rfl) (by omega) (fun q hq => hq) ?_ (rdN (k_M_0))
          refine aft_1 ?_
          refine b_M_axle_42 (fun z5 => ?_) (fun z5 => ?_)
          · replace z5 := pz0.mp z5
            exfalso; omega
          · replace z5 := pz1.mp z5
            refine b_M_axle_45 ?_
            refine b_M_axle_50 (ah_ix_nI (by omega)) (rdI (k_M5 _ (by omega)) rfl) (fun z6 => ?_) (fun z6 => ?_)
            · replace z6 := mt (cveq (nI_toInt (n := E 5 w) (by have := hO 5 w; omega)) (show ((0 : Int32)).toInt = 0 from by decide)).mpr z6
              exfalso; omega
            · replace z6 := (cveq (nI_toInt (n := E 5 w) (by have := hO 5 w; omega)) (show ((0 : Int32)).toInt = 0 from by decide)).mp (Decidable.not_not.mp z6)
              refine b_M_axle_54 ?_
              refine b_M_axle_59 (v2 := 3) (hA _ (by omega) (by omega)) (rdE (k_M_0)) (by rw [stmI0 (x := 3) (v := 3) (k_M_0) rfl]; exact (rdI (e := 3) (k_M_0) (by simp [up]))) (fun z => absurd z (by decide)) (fun z7 => ?_)
              rw [stmI0 (x := 3) (v := 3) (k_M_0) rfl]
              refine b_M_axle_69 ?_
              refine rt_l ?_ ?_ (b_M_axle_106 )
              · rfl
              · rfl
        · replace z4 := (cveq (nI_toInt (n := E 16 0) (by have := hO 16 0; omega)) (show ((0 : Int32)).toInt = 0 from by decide)).mp (Decidable.not_not.mp z4)
          exfalso; omega
      · replace z3 := mt (cvle h2 (show ((1 : Int32)).toInt = 1 from by decide)).mpr z3
        exfalso; omega
theorem m_axle00 {d : Nat} {A : Nat → Prop} {g : ah_H} {m : Nat} {E : rg_D} (hO : ∀ f j, E f j < 2 ^ 30) (hA : ∀ q, m ≤ q → q < m + 16 → A q) (hM : MI E) (hd : 9 ≤ d) {w : Nat} (hw : w < E 0 0) (hq : E 16 0 = 1) (hx : 0 < E 5 w) : ah_Ev mt_M_axle d A [.ref m, .int (nI w), .int 0] (rg LTm g m E) (.returned (some (.long (lN (ws (up E 32 0 0) 29 w / E 5 w))))) (rg LTm g m (up E 32 0 0)) := by
  refine ah_Ev.of (by decide +kernel) (Nat.le_of_ble_eq_true rfl) ?_
  show ah_At mt_M_axle d A (rg LTm g m E) (.returned (some (.long (lN (ws (up E 32 0 0) 29 w / E 5 w))))) (rg LTm g m (up E 32 0 0)) 0 [(0, .ref m), (1, .int (nI w)), (2, .int 0)] [] (rg LTm g m E)
  have h3 := hM.1.1
  have hM2 : MI (up E 32 0 0) := hM.of (fun f j q => up_f (by omega))
  refine b_M_axle_0 (c_isWagon (d := d - 1) (A := A) (E := E) hO (nI_toInt (n := w) (by omega)) (n := E 0 0) rfl) (by omega) (fun q hq => hq) ?_ (rdN (k_M_0))
  refine aft_1 ?_
  refine b_M_axle_6 (fun z1 => ?_) (fun z1 => ?_)
  · replace z1 := pz0.mp z1
    exfalso; omega
  · replace z1 := pz1.mp z1
    refine b_M_axle_9 (fun z => absurd z (by decide)) (fun z2 => ?_)
    refine b_M_axle_13 (fun z3 => ?_) (fun z => absurd (by decide) z)
    refine b_M_axle_22 (rdI (k_M_17) rfl) (fun z4 => ?_) (fun z4 => ?_)
    · replace z4 := mt (cveq (nI_toInt (n := E 16 0) (by have := hO 16 0; omega)) (show ((0 : Int32)).toInt = 0 from by decide)).mpr z4
      refine b_M_axle_33 (rdR (k_M_5)) (c_isWagon (d := d - 1) (A := A) (E := E) hO (nI_toInt (n := w) (by omega)) (n := E 0 0) rfl) (by omega) (fun q hq => hq) ?_ (rdN (k_M_0))
      refine aft_1 ?_
      refine b_M_axle_42 (fun z5 => ?_) (fun z5 => ?_)
      · replace z5 := pz0.mp z5
        exfalso; omega
      · replace z5 := pz1.mp z5
        refine b_M_axle_45 ?_
        refine b_M_axle_50 (ah_ix_nI (by omega)) (rdI (k_M5 _ (by omega)) rfl) (fun z6 => ?_) (fun z6 => ?_)
        · replace z6 := mt (cveq (nI_toInt (n := E 5 w) (by have := hO 5 w; omega)) (show ((0 : Int32)).toInt = 0 from by decide)).mpr z6
          refine b_M_axle_58 ?_
          refine b_M_axle_59 (v2 := 0) (hA _ (by omega) (by omega)) (rdE (k_M_0)) (by rw [stmI0 (x := 0) (v := 0) (k_M_0) rfl]; exact (rdI (e := 0) (k_M_0) (by simp [up]))) (fun z7 => ?_) (fun z => absurd (by decide) z)
          rw [stmI0 (x := 0) (v := 0) (k_M_0) rfl]
          refine b_M_axle_73 (fun z => absurd z (by decide)) (fun z8 => ?_)
          refine b_M_axle_77 (c_weightOn (d := d - 1) (A := A) (E := (up E 32 0 0)) (up_O hO (by first | decide | omega)) (by omega) hM2.1.2 (fun j => (hM2.2.2.2 j).1)) (by omega) (fun q hq => hq) ?_ (rdN (k_M_0))
          refine aft_1 ?_
          have hws := ws_le (E := up E 32 0 0) (f := 29) (w := w) hM2
          refine b_M_axle_82 (rdR (k_M_5)) (ah_ix_nI (by omega)) (rdI (e := E 5 w) (k_M5 _ (by omega)) (by simp [up])) (nz_l (show (Int32.toInt64 (nI (E 5 w)) : Int64) = lN (E 5 w) from (il_n rfl (by have := hO 5 w; omega))) (by omega) (by have := hO 5 w; omega)) ?_
          rw [show ((lN (ws (up E 32 0 0) 29 w)) / (Int32.toInt64 (nI (E 5 w))) : Int64) = lN ((ws (up E 32 0 0) 29 w) / (E 5 w)) from (dv_l rfl (il_n rfl (by have := hO 5 w; omega)) (by have := hO 32 0; omega) (by omega) (by have := hO 5 w; omega))]
          refine rt_l ?_ ?_ (b_M_axle_106 )
          · rfl
          · rfl
        · replace z6 := (cveq (nI_toInt (n := E 5 w) (by have := hO 5 w; omega)) (show ((0 : Int32)).toInt = 0 from by decide)).mp (Decidable.not_not.mp z6)
          exfalso; omega
    · replace z4 := (cveq (nI_toInt (n := E 16 0) (by have := hO 16 0; omega)) (show ((0 : Int32)).toInt = 0 from by decide)).mp (Decidable.not_not.mp z4)
      exfalso; omega
theorem m_axle01 {d : Nat} {A : Nat → Prop} {g : ah_H} {m : Nat} {E : rg_D} (hO : ∀ f j, E f j < 2 ^ 30) (hA : ∀ q, m ≤ q → q < m + 16 → A q) (hM : MI E) (hd : 9 ≤ d) {w : Nat} (hw : w < E 0 0) (hq : E 16 0 = 1) (hx : 0 < E 5 w) : ah_Ev mt_M_axle d A [.ref m, .int (nI w), .int 1] (rg LTm g m E) (.returned (some (.long (lN (ws (up E 32 0 0) 29 w % E 5 w))))) (rg LTm g m (up E 32 0 0)) := by
  refine ah_Ev.of (by decide +kernel) (Nat.le_of_ble_eq_true rfl) ?_
  show ah_At mt_M_axle d A (rg LTm g m E) (.returned (some (.long (lN (ws (up E 32 0 0) 29 w % E 5 w))))) (rg LTm g m (up E 32 0 0)) 0 [(0, .ref m), (1, .int (nI w)), (2, .int 1)] [] (rg LTm g m E)
  have h3 := hM.1.1
  have hM2 : MI (up E 32 0 0) := hM.of (fun f j q => up_f (by omega))
  refine b_M_axle_0 (c_isWagon (d := d - 1) (A := A) (E := E) hO (nI_toInt (n := w) (by omega)) (n := E 0 0) rfl) (by omega) (fun q hq => hq) ?_ (rdN (k_M_0))
  refine aft_1 ?_
  refine b_M_axle_6 (fun z1 => ?_) (fun z1 => ?_)
  · replace z1 := pz0.mp z1
    exfalso; omega
  · replace z1 := pz1.mp z1
    refine b_M_axle_9 (fun z => absurd z (by decide)) (fun z2 => ?_)
    refine b_M_axle_13 (fun z3 => ?_) (fun z => absurd (by decide) z)
    refine b_M_axle_22 (rdI (k_M_17) rfl) (fun z4 => ?_) (fun z4 => ?_)
    · replace z4 := mt (cveq (nI_toInt (n := E 16 0) (by have := hO 16 0; omega)) (show ((0 : Int32)).toInt = 0 from by decide)).mpr z4
      refine b_M_axle_33 (rdR (k_M_5)) (c_isWagon (d := d - 1) (A := A) (E := E) hO (nI_toInt (n := w) (by omega)) (n := E 0 0) rfl) (by omega) (fun q hq => hq) ?_ (rdN (k_M_0))
      refine aft_1 ?_
      refine b_M_axle_42 (fun z5 => ?_) (fun z5 => ?_)
      · replace z5 := pz0.mp z5
        exfalso; omega
      · replace z5 := pz1.mp z5
        refine b_M_axle_45 ?_
        refine b_M_axle_50 (ah_ix_nI (by omega)) (rdI (k_M5 _ (by omega)) rfl) (fun z6 => ?_) (fun z6 => ?_)
        · replace z6 := mt (cveq (nI_toInt (n := E 5 w) (by have := hO 5 w; omega)) (show ((0 : Int32)).toInt = 0 from by decide)).mpr z6
          refine b_M_axle_58 ?_
          refine b_M_axle_59 (v2 := 0) (hA _ (by omega) (by omega)) (rdE (k_M_0)) (by rw [stmI0 (x := 0) (v := 0) (k_M_0) rfl]; exact (rdI (e := 0) (k_M_0) (by simp [up]))) (fun z7 => ?_) (fun z => absurd (by decide) z)
          rw [stmI0 (x := 0) (v := 0) (k_M_0) rfl]
          refine b_M_axle_73 (fun z8 => ?_) (fun z => absurd (by decide) z)
          refine b_M_axle_93 (c_weightOn (d := d - 1) (A := A) (E := (up E 32 0 0)) (up_O hO (by first | decide | omega)) (by omega) hM2.1.2 (fun j => (hM2.2.2.2 j).1)) (by omega) (fun q hq => hq) ?_ (rdN (k_M_0))
          refine aft_1 ?_
          have hws := ws_le (E := up E 32 0 0) (f := 29) (w := w) hM2
          refine b_M_axle_98 (rdR (k_M_5)) (ah_ix_nI (by omega)) (rdI (e := E 5 w) (k_M5 _ (by omega)) (by simp [up])) (nz_l (show (Int32.toInt64 (nI (E 5 w)) : Int64) = lN (E 5 w) from (il_n rfl (by have := hO 5 w; omega))) (by omega) (by have := hO 5 w; omega)) ?_
          rw [show ((lN (ws (up E 32 0 0) 29 w)) - (lN (ws (up E 32 0 0) 29 w)) / (Int32.toInt64 (nI (E 5 w))) * (Int32.toInt64 (nI (E 5 w))) : Int64) = lN ((ws (up E 32 0 0) 29 w) % (E 5 w)) from (rm_l rfl (il_n rfl (by have := hO 5 w; omega)) (by have := hO 32 0; omega) (by omega) (by have := hO 5 w; omega))]
          refine rt_l ?_ ?_ (b_M_axle_106 )
          · rfl
          · rfl
        · replace z6 := (cveq (nI_toInt (n := E 5 w) (by have := hO 5 w; omega)) (show ((0 : Int32)).toInt = 0 from by decide)).mp (Decidable.not_not.mp z6)
          exfalso; omega
    · replace z4 := (cveq (nI_toInt (n := E 16 0) (by have := hO 16 0; omega)) (show ((0 : Int32)).toInt = 0 from by decide)).mp (Decidable.not_not.mp z4)
      exfalso; omega
def lbm (E : rg_D) (B : Nat → Nat) (x : Nat) : Nat → Nat → Nat → Nat
  | 0, _, _ => 0
  | k + 1, r, sn => if E 29 (B r) = 0 then (if sn = x then B r + 1 else lbm E B x k (r + 1) (sn + 1)) else lbm E B x k (r + 1) sn
theorem m_standby1 {d : Nat} {A : Nat → Prop} {g : ah_H} {m : Nat} {E : rg_D} (hO : ∀ f j, E f j < 2 ^ 30) (hA : ∀ q, m ≤ q → q < m + 16 → A q) (hM : MI E) (hd : 9 ≤ d) {x1 : Int32} {p1 : Int} (h1 : x1.toInt = p1) (hq : E 16 0 = 0) : ah_Ev mt_M_standby d A [.ref m, .int x1] (rg LTm g m E) (.returned (some (.int 0))) (rg LTm g m (up E 32 0 1)) := by
  refine ah_Ev.of (by decide +kernel) (Nat.le_of_ble_eq_true rfl) ?_
  show ah_At mt_M_standby d A (rg LTm g m E) (.returned (some (.int 0))) (rg LTm g m (up E 32 0 1)) 0 [(0, .ref m), (1, .int x1)] [] (rg LTm g m E)
  refine b_M_standby_0 (rdI (k_M_17) rfl) (fun z1 => ?_) (fun z1 => ?_)
  · replace z1 := (cveq (nI_toInt (n := E 16 0) (by have := hO 16 0; omega)) (show ((0 : Int32)).toInt = 0 from by decide)).mp z1
    refine b_M_standby_12 ?_
    refine b_M_standby_13 (v2 := 1) (hA _ (by omega) (by omega)) (rdE (k_M_0)) (by rw [stmI0 (x := 1) (v := 1) (k_M_0) rfl]; exact (rdI (e := 1) (k_M_0) (by simp [up]))) (fun z => absurd z (by decide)) (fun z2 => ?_)
    rw [stmI0 (x := 1) (v := 1) (k_M_0) rfl]
    refine rt_i ?_ ?_ (b_M_standby_23 )
    · rfl
    · rfl
  · replace z1 := mt (cveq (nI_toInt (n := E 16 0) (by have := hO 16 0; omega)) (show ((0 : Int32)).toInt = 0 from by decide)).mpr z1
    exfalso; omega
theorem m_standby0n {d : Nat} {A : Nat → Prop} {g : ah_H} {m : Nat} {E : rg_D} (hO : ∀ f j, E f j < 2 ^ 30) (hA : ∀ q, m ≤ q → q < m + 16 → A q) (hM : MI E) (hd : 9 ≤ d) {x1 : Int32} {p1 : Int} (h1 : x1.toInt = p1) (hp : p1 < 0) (hq : E 16 0 = 1) : ah_Ev mt_M_standby d A [.ref m, .int x1] (rg LTm g m E) (.returned (some (.int (-1)))) (rg LTm g m (up E 32 0 0)) := by
  refine ah_Ev.of (by decide +kernel) (Nat.le_of_ble_eq_true rfl) ?_
  show ah_At mt_M_standby d A (rg LTm g m E) (.returned (some (.int (-1)))) (rg LTm g m (up E 32 0 0)) 0 [(0, .ref m), (1, .int x1)] [] (rg LTm g m E)
  refine b_M_standby_0 (rdI (k_M_17) rfl) (fun z1 => ?_) (fun z1 => ?_)
  · replace z1 := (cveq (nI_toInt (n := E 16 0) (by have := hO 16 0; omega)) (show ((0 : Int32)).toInt = 0 from by decide)).mp z1
    exfalso; omega
  · replace z1 := mt (cveq (nI_toInt (n := E 16 0) (by have := hO 16 0; omega)) (show ((0 : Int32)).toInt = 0 from by decide)).mpr z1
    refine b_M_standby_8 ?_
    refine b_M_standby_13 (v2 := 0) (hA _ (by omega) (by omega)) (rdE (k_M_0)) (by rw [stmI0 (x := 0) (v := 0) (k_M_0) rfl]; exact (rdI (e := 0) (k_M_0) (by simp [up]))) (fun z2 => ?_) (fun z => absurd (by decide) z)
    rw [stmI0 (x := 0) (v := 0) (k_M_0) rfl]
    refine b_M_standby_25 ?_
    refine b_M_standby_32 (rdI (e := E 1 0) (k_M_2) (by simp [up])) (fun z3 => ?_) (fun z3 => ?_)
    · replace z3 := (cvle (nI_toInt (n := E 1 0) (by have := hO 1 0; omega)) (show ((0 : Int32)).toInt = 0 from by decide)).mp z3
      refine rt_i ?_ ?_ (b_M_standby_98 )
      · rfl
      · rfl
    · replace z3 := mt (cvle (nI_toInt (n := E 1 0) (by have := hO 1 0; omega)) (show ((0 : Int32)).toInt = 0 from by decide)).mpr z3
      refine b_M_standby_41 (fun z4 => ?_) (fun z4 => ?_)
      · replace z4 := (cvlt h1 (show ((0 : Int32)).toInt = 0 from by decide)).mp z4
        refine rt_i ?_ ?_ (b_M_standby_98 )
        · rfl
        · rfl
      · replace z4 := mt (cvlt h1 (show ((0 : Int32)).toInt = 0 from by decide)).mpr z4
        exfalso; omega
theorem lo_standby {d : Nat} {A : Nat → Prop} {g : ah_H} {m : Nat} {E : rg_D} {B : Nat → Nat} (hM : MI E) (hB : HB E B) (hd : 4 ≤ d) {x : Nat} (hx : x < 2 ^ 31) (hO : ∀ f j, E f j < 2 ^ 30) {h0 : ah_H} : ∀ (k r sn e : Nat) (L : Int32), r + k = E 1 0 → sn ≤ r → L.toInt = ((x : Nat) : Int) - ((sn : Nat) : Int) → (e ≠ 0 → x < sn) → e ≤ 8 → ah_At mt_M_standby d A h0 (.returned (some (.int (nI ((if e = 0 then lbm E B x k r sn else e)) - 1)))) (rg LTm g m E) 32 [(0, .ref m), (1, .int (nI x)), (2, .int L), (3, .int (nI e - 1)), (4, .int (nI r))] [] (rg LTm g m E)
  | 0, r, sn, e, L, hk, hsn, hL, hes, he8 => by
    have h8 := hM.1.2
    refine b_M_standby_32 (rdI (k_M_2) rfl) (fun z1 => ?_) (fun z1 => by exfalso; replace z1 := mt (cvle (nI_toInt (n := E 1 0) (by have := hO 1 0; omega)) (nI_toInt (n := r) (by omega))).mpr z1; omega)
    replace z1 := (cvle (nI_toInt (n := E 1 0) (by have := hO 1 0; omega)) (nI_toInt (n := r) (by omega))).mp z1
    refine rt_i ?_ ?_ (b_M_standby_98 )
    · congr 2; by_cases h : e = 0; rw [if_pos h, lbm, h]; rw [if_neg h]
    · rfl
  | k + 1, r, sn, e, L, hk, hsn, hL, hes, he8 => by
    have h8 := hM.1.2; have hBr := hB r (by omega)
    refine b_M_standby_32 (rdI (k_M_2) rfl) (fun z1 => by exfalso; replace z1 := (cvle (nI_toInt (n := E 1 0) (by have := hO 1 0; omega)) (nI_toInt (n := r) (by omega))).mp z1; omega) (fun z1 => ?_)
    replace z1 := mt (cvle (nI_toInt (n := E 1 0) (by have := hO 1 0; omega)) (nI_toInt (n := r) (by omega))).mpr z1
    refine b_M_standby_41 (fun z2 => by exfalso; replace z2 := (cvlt (nI_toInt (n := x) (by omega)) (show ((0 : Int32)).toInt = 0 from by decide)).mp z2; omega) (fun z2 => ?_)
    replace z2 := mt (cvlt (nI_toInt (n := x) (by omega)) (show ((0 : Int32)).toInt = 0 from by decide)).mpr z2
    refine b_M_standby_45 (c_boxAt (d := d - 1) (A := A) (i := B r) hO hM.1.2 hBr.1 hBr.2.1 (fun q hq e => by have := hBr.2.2 q (by omega) e; omega) (by omega)) (by omega) (fun q hq => hq) ?_ (rdN (k_M_0))
    refine aft_1 ?_
    refine b_M_standby_51 (rdR (k_M_19)) (ah_ix_nI (by omega)) (rdI (k_M29 _ (by omega)) rfl) (fun z3 => ?_) (fun z3 => ?_)
    · replace z3 := mt (cveq (nI_toInt (n := E 29 (B r)) (by have := hO 29 (B r); omega)) (show ((0 : Int32)).toInt = 0 from by decide)).mpr z3
      refine b_M_standby_72 ?_
      refine b_M_standby_73 (rdR (k_M_19)) (ah_ix_nI (by omega)) (rdI (k_M29 _ (by omega)) rfl) (fun z4 => ?_) (fun z4 => ?_)
      · replace z4 := mt (cveq (nI_toInt (n := E 29 (B r)) (by have := hO 29 (B r); omega)) (show ((0 : Int32)).toInt = 0 from by decide)).mpr z4
        refine b_M_standby_89 ?_
        refine b_M_standby_90 ?_
        rw [show ((nI r) + 1 : Int32) = nI (r + 1) from (ad_n rfl rfl)]
        rw [show (if e = 0 then lbm E B x (k + 1) r sn else e) = (if e = 0 then lbm E B x k (r + 1) sn else e) from by by_cases h : e = 0; rw [if_pos h, if_pos h, lbm, if_neg (by omega)]; rw [if_neg h, if_neg h]]
        exact lo_standby hM hB hd hx hO k (r + 1) sn e _ (by omega) (by omega) ((sbk_n hL (show ((0 : Int32)).toInt = 0 from by decide) (by omega)).trans (by omega)) (by omega) (by omega)
      · replace z4 := (cveq (nI_toInt (n := E 29 (B r)) (by have := hO 29 (B r); omega)) (show ((0 : Int32)).toInt = 0 from by decide)).mp (Decidable.not_not.mp z4)
        refine b_M_standby_85 ?_
        refine b_M_standby_90 ?_
        rw [show ((nI r) + 1 : Int32) = nI (r + 1) from (ad_n rfl rfl)]
        rw [show (if e = 0 then lbm E B x (k + 1) r sn else e) = (if e = 0 then lbm E B x k (r + 1) (sn + 1) else e) from by by_cases h : e = 0; rw [if_pos h, if_pos h, lbm, if_pos (by omega), if_neg (by omega)]; rw [if_neg h, if_neg h]]
        exact lo_standby hM hB hd hx hO k (r + 1) (sn + 1) e _ (by omega) (by omega) ((sbk_n hL (show ((1 : Int32)).toInt = 1 from by decide) (by omega)).trans (by omega)) (by omega) (by omega)
    · replace z3 := (cveq (nI_toInt (n := E 29 (B r)) (by have := hO 29 (B r); omega)) (show ((0 : Int32)).toInt = 0 from by decide)).mp (Decidable.not_not.mp z3)
      refine b_M_standby_63 (fun z5 => ?_) (fun z5 => ?_)
      · replace z5 := mt (cveq hL (show ((0 : Int32)).toInt = 0 from by decide)).mpr z5
        refine b_M_standby_72 ?_
        refine b_M_standby_73 (rdR (k_M_19)) (ah_ix_nI (by omega)) (rdI (k_M29 _ (by omega)) rfl) (fun z6 => ?_) (fun z6 => ?_)
        · replace z6 := mt (cveq (nI_toInt (n := E 29 (B r)) (by have := hO 29 (B r); omega)) (show ((0 : Int32)).toInt = 0 from by decide)).mpr z6
          refine b_M_standby_89 ?_
          refine b_M_standby_90 ?_
          rw [show ((nI r) + 1 : Int32) = nI (r + 1) from (ad_n rfl rfl)]
          rw [show (if e = 0 then lbm E B x (k + 1) r sn else e) = (if e = 0 then lbm E B x k (r + 1) sn else e) from by by_cases h : e = 0; rw [if_pos h, if_pos h, lbm, if_neg (by omega)]; rw [if_neg h, if_neg h]]
          exact lo_standby hM hB hd hx hO k (r + 1) sn e _ (by omega) (by omega) ((sbk_n hL (show ((0 : Int32)).toInt = 0 from by decide) (by omega)).trans (by omega)) (by omega) (by omega)
        · replace z6 := (cveq (nI_toInt (n := E 29 (B r)) (by have := hO 29 (B r); omega)) (show ((0 : Int32)).toInt = 0 from by decide)).mp (Decidable.not_not.mp z6)
          refine b_M_standby_85 ?_
          refine b_M_standby_90 ?_
          rw [show ((nI r) + 1 : Int32) = nI (r + 1) from (ad_n rfl rfl)]
          rw [show (if e = 0 then lbm E B x (k + 1) r sn else e) = (if e = 0 then lbm E B x k (r + 1) (sn + 1) else e) from by by_cases h : e = 0; rw [if_pos h, if_pos h, lbm, if_pos (by omega), if_neg (by omega)]; rw [if_neg h, if_neg h]]
          exact lo_standby hM hB hd hx hO k (r + 1) (sn + 1) e _ (by omega) (by omega) ((sbk_n hL (show ((1 : Int32)).toInt = 1 from by decide) (by omega)).trans (by omega)) (by omega) (by omega)
      · replace z5 := (cveq hL (show ((0 : Int32)).toInt = 0 from by decide)).mp (Decidable.not_not.mp z5)
        refine b_M_standby_67 ?_
        refine b_M_standby_73 (rdR (k_M_19)) (ah_ix_nI (by omega)) (rdI (k_M29 _ (by omega)) rfl) (fun z7 => ?_) (fun z7 => ?_)
        · replace z7 := mt (cveq (nI_toInt (n := E 29 (B r)) (by have := hO 29 (B r); omega)) (show ((0 : Int32)).toInt = 0 from by decide)).mpr z7
          refine b_M_standby_89 ?_
          refine b_M_standby_90 ?_
          rw [show ((nI r) + 1 : Int32) = nI (r + 1) from (ad_n rfl rfl)]
          rw [show (nI (B r) : Int32) = nI (B r + 1) - 1 from (nI_pred _).symm]
          rw [show (if e = 0 then lbm E B x (k + 1) r sn else e) = (if (B r + 1) = 0 then lbm E B x k (r + 1) sn else (B r + 1)) from by rw [if_pos (by omega), if_neg (by omega), lbm, if_pos (by omega), if_pos (by omega)]]
          exact lo_standby hM hB hd hx hO k (r + 1) sn (B r + 1) _ (by omega) (by omega) ((sbk_n hL (show ((0 : Int32)).toInt = 0 from by decide) (by omega)).trans (by omega)) (by omega) (by omega)
        · replace z7 := (cveq (nI_toInt (n := E 29 (B r)) (by have := hO 29 (B r); omega)) (show ((0 : Int32)).toInt = 0 from by decide)).mp (Decidable.not_not.mp z7)
          refine b_M_standby_85 ?_
          refine b_M_standby_90 ?_
          rw [show ((nI r) + 1 : Int32) = nI (r + 1) from (ad_n rfl rfl)]
          rw [show (nI (B r) : Int32) = nI (B r + 1) - 1 from (nI_pred _).symm]
          rw [show (if e = 0 then lbm E B x (k + 1) r sn else e) = (if (B r + 1) = 0 then lbm E B x k (r + 1) (sn + 1) else (B r + 1)) from by rw [if_pos (by omega), if_neg (by omega), lbm, if_pos (by omega), if_pos (by omega)]]
          exact lo_standby hM hB hd hx hO k (r + 1) (sn + 1) (B r + 1) _ (by omega) (by omega) ((sbk_n hL (show ((1 : Int32)).toInt = 1 from by decide) (by omega)).trans (by omega)) (by omega) (by omega)
theorem m_standby0 {d : Nat} {A : Nat → Prop} {g : ah_H} {m : Nat} {E : rg_D} (hO : ∀ f j, E f j < 2 ^ 30) (hA : ∀ q, m ≤ q → q < m + 16 → A q) (hM : MI E) (hd : 9 ≤ d) {B : Nat → Nat} (hB : HB E B) {x : Nat} (hx : x < 2 ^ 31) (hq : E 16 0 = 1) : ah_Ev mt_M_standby d A [.ref m, .int (nI x)] (rg LTm g m E) (.returned (some (.int (nI (lbm (up E 32 0 0) B x (E 1 0) 0 0) - 1)))) (rg LTm g m (up E 32 0 0)) := by
  refine ah_Ev.of (by decide +kernel) (Nat.le_of_ble_eq_true rfl) ?_
  show ah_At mt_M_standby d A (rg LTm g m E) (.returned (some (.int (nI (lbm (up E 32 0 0) B x (E 1 0) 0 0) - 1)))) (rg LTm g m (up E 32 0 0)) 0 [(0, .ref m), (1, .int (nI x))] [] (rg LTm g m E)
  have hM2 : MI (up E 32 0 0) := hM.of (fun f j q => up_f (by omega))
  have hB2 : HB (up E 32 0 0) B := hB.of (fun f j q => up_f (by omega))
  have e1 : up E 32 0 0 1 0 = E 1 0 := up_f (by decide)
  refine b_M_standby_0 (rdI (k_M_17) rfl) (fun z1 => ?_) (fun z1 => ?_)
  · replace z1 := (cveq (nI_toInt (n := E 16 0) (by have := hO 16 0; omega)) (show ((0 : Int32)).toInt = 0 from by decide)).mp z1
    exfalso; omega
  · replace z1 := mt (cveq (nI_toInt (n := E 16 0) (by have := hO 16 0; omega)) (show ((0 : Int32)).toInt = 0 from by decide)).mpr z1
    refine b_M_standby_8 ?_
    refine b_M_standby_13 (v2 := 0) (hA _ (by omega) (by omega)) (rdE (k_M_0)) (by rw [stmI0 (x := 0) (v := 0) (k_M_0) rfl]; exact (rdI (e := 0) (k_M_0) (by simp [up]))) (fun z2 => ?_) (fun z => absurd (by decide) z)
    rw [stmI0 (x := 0) (v := 0) (k_M_0) rfl]
    refine b_M_standby_25 ?_
    exact lo_standby hM2 hB2 (by omega) hx (up_O hO (by decide)) (E 1 0) 0 0 0 _ (by rw [e1]; exact Nat.zero_add _) (by decide) (by rw [nI_toInt hx]; omega) (by omega) (by decide)
