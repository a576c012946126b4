/-! CONTRACTS: pattern, plan, count. Printed out of wip/ -/
theorem lnF_le : ∀ (k r : Nat), lnF k r ≤ 9 * k
  | 0, r => by simp [lnF]
  | k + 1, r => by
    rw [lnF]
    have h1 := ln_le (r % 10)
    have h2 := lnF_le k (r / 10)
    split <;> omega
theorem x_pattern1 {d : Nat} {A : Nat → Prop} {g : ah_H} {b : Nat} {D : rg_D} (hO : ∀ f j, D f j < 2 ^ 30) (hA0 : ∀ q, ¬ A q) (hs9 : ∃ a c, (rg LTc g b D).2.2 a = some (97, c)) (hd : 10 ≤ d) {x1 : Int32} {p1 : Int} (h1 : x1.toInt = p1) {x2 : Int32} {p2 : Int} (h2 : x2.toInt = p2) (hn : ¬ (0 ≤ p1 ∧ p1 < ((D 0 0 : Nat) : Int))) : ah_Ev mt_X_pattern d A [.ref b, .int x1, .int x2] (rg LTc g b D) (.threw g.1) (ah_newx (rg LTc g b D) 90) := by
  refine ah_Ev.of (by decide +kernel) (Nat.le_of_ble_eq_true rfl) ?_
  show ah_At mt_X_pattern d A (rg LTc g b D) (.threw g.1) (ah_newx (rg LTc g b D) 90) 0 [(0, .ref b), (1, .int x1), (2, .int x2)] [] (rg LTc g b D)
  refine b_X_pattern_0 (rdR (k_X_0)) (c_hasWagon (d := d - 1) (A := A) hO h1) (by omega) (fun q hq => hq) ?_ (rdN (k_T_0))
  refine aft_1 ?_
  refine b_X_pattern_8 (fun z1 => ?_) (fun z1 => ?_)
  · replace z1 := pz1.mp z1
    exfalso; omega
  · replace z1 := pz0.mp (Decidable.not_not.mp z1)
    exact b_X_pattern_11 hA0 (by omega) hs9
theorem x_pattern1b {d : Nat} {A : Nat → Prop} {g : ah_H} {b : Nat} {D : rg_D} (hO : ∀ f j, D f j < 2 ^ 30) (hA0 : ∀ q, ¬ A q) (hs9 : ∃ a c, (rg LTc g b D).2.2 a = some (97, c)) (hd : 10 ≤ d) {x2 : Int32} {p2 : Int} (h2 : x2.toInt = p2) (h3 : D 0 0 ≤ 3) {w : Nat} (hw : w < D 0 0) (hp : p2 ≤ 0) : ah_Ev mt_X_pattern d A [.ref b, .int (nI w), .int x2] (rg LTc g b D) (.threw g.1) (ah_newx (rg LTc g b D) 90) := by
  refine ah_Ev.of (by decide +kernel) (Nat.le_of_ble_eq_true rfl) ?_
  show ah_At mt_X_pattern d A (rg LTc g b D) (.threw g.1) (ah_newx (rg LTc g b D) 90) 0 [(0, .ref b), (1, .int (nI w)), (2, .int x2)] [] (rg LTc g b D)
  refine b_X_pattern_0 (rdR (k_X_0)) (c_hasWagon (d := d - 1) (A := A) hO (nI_toInt (n := w) (by omega))) (by omega) (fun q hq => hq) ?_ (rdN (k_T_0))
  refine aft_1 ?_
  refine b_X_pattern_8 (fun z1 => ?_) (fun z1 => ?_)
  · replace z1 := pz1.mp z1
    refine b_X_pattern_21 (rdR (k_X_0)) (rdR (k_T_0)) (ah_ix_nI (by omega)) (rdR (k_Gs _ (by omega))) (c_row0 (d := d - 1) (A := A) h2 hp) (by omega) (fun q hq => hq) ?_
    refine aft_1 ?_
    refine b_X_pattern_35 (fun z2 => ?_) (fun z2 => ?_)
    · replace z2 := pz0.mp z2
      exact b_X_pattern_49 hA0 (by omega) hs9
    · replace z2 := pz1.mp z2
      contradiction
  · replace z1 := pz0.mp (Decidable.not_not.mp z1)
    exfalso; omega
theorem x_pattern1c {d : Nat} {A : Nat → Prop} {g : ah_H} {b : Nat} {D : rg_D} (hO : ∀ f j, D f j < 2 ^ 30) (hA0 : ∀ q, ¬ A q) (hs9 : ∃ a c, (rg LTc g b D).2.2 a = some (97, c)) (hd : 10 ≤ d)  (h3 : D 0 0 ≤ 3) {w n : Nat} (hw : w < D 0 0) (h0n : 0 < n) (hn2 : n < 2 ^ 31) (hn : ¬ (rowF 4 n ∧ lnF 4 n ≤ D 3 w)) : ah_Ev mt_X_pattern d A [.ref b, .int (nI w), .int (nI n)] (rg LTc g b D) (.threw g.1) (ah_newx (rg LTc g b D) 90) := by
  refine ah_Ev.of (by decide +kernel) (Nat.le_of_ble_eq_true rfl) ?_
  show ah_At mt_X_pattern d A (rg LTc g b D) (.threw g.1) (ah_newx (rg LTc g b D) 90) 0 [(0, .ref b), (1, .int (nI w)), (2, .int (nI n))] [] (rg LTc g b D)
  refine b_X_pattern_0 (rdR (k_X_0)) (c_hasWagon (d := d - 1) (A := A) hO (nI_toInt (n := w) (by omega))) (by omega) (fun q hq => hq) ?_ (rdN (k_T_0))
  refine aft_1 ?_
  refine b_X_pattern_8 (fun z1 => ?_) (fun z1 => ?_)
  · replace z1 := pz1.mp z1
    refine b_X_pattern_21 (rdR (k_X_0)) (rdR (k_T_0)) (ah_ix_nI (by omega)) (rdR (k_Gs _ (by omega))) (c_row (d := d - 1) (A := A) h0n hn2 (by omega)) (by omega) (fun q hq => hq) ?_
    refine aft_1 ?_
    refine b_X_pattern_35 (fun z2 => ?_) (fun z2 => ?_)
    · replace z2 := pz0.mp z2
      exact b_X_pattern_49 hA0 (by omega) hs9
    · replace z2 := pz1.mp z2
      refine b_X_pattern_38 (c_lrow (d := d - 1) (A := A) hn2 (by omega)) (by omega) (fun q hq => hq) ?_
      refine aft_1 ?_
      have hln := lnF_le 4 n
      refine b_X_pattern_42 (rdI (k_G_2 _ (by omega)) rfl) (fun z3 => ?_) (fun z3 => ?_)
      · replace z3 := (cvle (nI_toInt (n := lnF 4 n) (by omega)) (nI_toInt (n := D 3 w) (by have := hO 3 w; omega))).mp z3
        exact absurd ⟨by assumption, by omega⟩ hn
      · replace z3 := mt (cvle (nI_toInt (n := lnF 4 n) (by omega)) (nI_toInt (n := D 3 w) (by have := hO 3 w; omega))).mpr z3
        exact b_X_pattern_49 hA0 (by omega) hs9
  · replace z1 := pz0.mp (Decidable.not_not.mp z1)
    exfalso; omega
theorem x_pattern2 {d : Nat} {A : Nat → Prop} {g : ah_H} {b : Nat} {D : rg_D} (hO : ∀ f j, D f j < 2 ^ 30) (hA0 : ∀ q, ¬ A q) (hs9 : ∃ a c, (rg LTc g b D).2.2 a = some (97, c)) (hd : 10 ≤ d)  (h3 : D 0 0 ≤ 3) {w n : Nat} (hw : w < D 0 0) (h0n : 0 < n) (hn2 : n < 2 ^ 31) (hr : rowF 4 n) (hl : lnF 4 n ≤ D 3 w) (hf : ¬ D 8 w < 4) : ah_Ev mt_X_pattern d A [.ref b, .int (nI w), .int (nI n)] (rg LTc g b D) (.threw g.1) (ah_newx (rg LTc g b D) 91) := by
  refine ah_Ev.of (by decide +kernel) (Nat.le_of_ble_eq_true rfl) ?_
  show ah_At mt_X_pattern d A (rg LTc g b D) (.threw g.1) (ah_newx (rg LTc g b D) 91) 0 [(0, .ref b), (1, .int (nI w)), (2, .int (nI n))] [] (rg LTc g b D)
  refine b_X_pattern_0 (rdR (k_X_0)) (c_hasWagon (d := d - 1) (A := A) hO (nI_toInt (n := w) (by omega))) (by omega) (fun q hq => hq) ?_ (rdN (k_T_0))
  refine aft_1 ?_
  refine b_X_pattern_8 (fun z1 => ?_) (fun z1 => ?_)
  · replace z1 := pz1.mp z1
    refine b_X_pattern_21 (rdR (k_X_0)) (rdR (k_T_0)) (ah_ix_nI (by omega)) (rdR (k_Gs _ (by omega))) (c_row (d := d - 1) (A := A) h0n hn2 (by omega)) (by omega) (fun q hq => hq) ?_
    refine aft_1 ?_
    refine b_X_pattern_35 (fun z2 => ?_) (fun z2 => ?_)
    · replace z2 := pz0.mp z2
      exfalso; first | omega | contradiction
    · replace z2 := pz1.mp z2
      refine b_X_pattern_38 (c_lrow (d := d - 1) (A := A) hn2 (by omega)) (by omega) (fun q hq => hq) ?_
      refine aft_1 ?_
      have hln := lnF_le 4 n
      refine b_X_pattern_42 (rdI (k_G_2 _ (by omega)) rfl) (fun z3 => ?_) (fun z3 => ?_)
      · replace z3 := (cvle (nI_toInt (n := lnF 4 n) (by omega)) (nI_toInt (n := D 3 w) (by have := hO 3 w; omega))).mp z3
        refine b_X_pattern_59 (rdI (k_G_1 _ (by omega)) rfl) (fun z4 => ?_) (fun z4 => ?_)
        · replace z4 := (cvlt (nI_toInt (n := D 8 w) (by have := hO 8 w; omega)) (show ((4 : Int32)).toInt = 4 from by decide)).mp z4
          exfalso; omega
        · replace z4 := mt (cvlt (nI_toInt (n := D 8 w) (by have := hO 8 w; omega)) (show ((4 : Int32)).toInt = 4 from by decide)).mpr z4
          exact b_X_pattern_67 hA0 (by omega) hs9
      · replace z3 := mt (cvle (nI_toInt (n := lnF 4 n) (by omega)) (nI_toInt (n := D 3 w) (by have := hO 3 w; omega))).mpr z3
        exfalso; first | omega | contradiction
  · replace z1 := pz0.mp (Decidable.not_not.mp z1)
    exfalso; omega
theorem x_pattern0 {d : Nat} {A : Nat → Prop} {g : ah_H} {b : Nat} {D : rg_D} (hO : ∀ f j, D f j < 2 ^ 30) (hA : ∀ q, b ≤ q → q < b + 75 → A q) (hd : 30 ≤ d) (h3 : D 0 0 ≤ 3) {w n : Nat} (hw : w < D 0 0) (h0n : 0 < n) (hn2 : n < 2 ^ 31) (hr : rowF 4 n) (hl : lnF 4 n ≤ D 3 w) (hf : D 8 w < 4) (hz : ∀ p t, D 19 (16 * w + 4 * p + t) ≤ 100) : ah_Ev mt_X_pattern d A [.ref b, .int (nI w), .int (nI n)] (rg LTc g b D) (.returned (some (.int (nI (D 8 w))))) (rg LTc g b (aP (up D 16 0 0) w n)) := by
  refine ah_Ev.of (by decide +kernel) (Nat.le_of_ble_eq_true rfl) ?_
  show ah_At mt_X_pattern d A (rg LTc g b D) (.returned (some (.int (nI (D 8 w))))) (rg LTc g b (aP (up D 16 0 0) w n)) 0 [(0, .ref b), (1, .int (nI w)), (2, .int (nI n))] [] (rg LTc g b D)
  refine b_X_pattern_0 (rdR (k_X_0)) (c_hasWagon (d := d - 1) (A := A) hO (nI_toInt (n := w) (by omega))) (by omega) (fun q hq => hq) ?_ (rdN (k_T_0))
  refine aft_1 ?_
  refine b_X_pattern_8 (fun z1 => ?_) (fun z1 => ?_)
  · replace z1 := pz1.mp z1
    refine b_X_pattern_21 (rdR (k_X_0)) (rdR (k_T_0)) (ah_ix_nI (by omega)) (rdR (k_Gs _ (by omega))) (c_row (d := d - 1) (A := A) h0n hn2 (by omega)) (by omega) (fun q hq => hq) ?_
    refine aft_1 ?_
    refine b_X_pattern_35 (fun z2 => ?_) (fun z2 => ?_)
    · replace z2 := pz0.mp z2
      exfalso; first | omega | contradiction
    · replace z2 := pz1.mp z2
      refine b_X_pattern_38 (c_lrow (d := d - 1) (A := A) hn2 (by omega)) (by omega) (fun q hq => hq) ?_
      refine aft_1 ?_
      have hln := lnF_le 4 n
      refine b_X_pattern_42 (rdI (k_G_2 _ (by omega)) rfl) (fun z3 => ?_) (fun z3 => ?_)
      · replace z3 := (cvle (nI_toInt (n := lnF 4 n) (by omega)) (nI_toInt (n := D 3 w) (by have := hO 3 w; omega))).mp z3
        refine b_X_pattern_59 (rdI (k_G_1 _ (by omega)) rfl) (fun z4 => ?_) (fun z4 => ?_)
        · replace z4 := (cvlt (nI_toInt (n := D 8 w) (by have := hO 8 w; omega)) (show ((4 : Int32)).toInt = 4 from by decide)).mp z4
          refine b_X_pattern_77 (o' := .returned (some (.int (nI (up D 16 0 0 8 w))))) (h' := (rg LTc g b (aP (up D 16 0 0) w n))) (hA _ (by omega) (by omega)) (rdE (k_X_2)) (by rw [stcI0 (x := 0) (v := 0) (k_X_2) rfl]; exact c_addPattern (d := d - 1) (A := A) (D := up D 16 0 0) (up_O hO (by decide)) hA (by omega) (by rw [up_f (by decide)]; exact hf) hn2 (fun p t => by rw [up_f (by decide)]; exact hz p t) (by omega)) (by omega) (fun q hq => hq) ?_ (by rw [stcI0 (x := 0) (v := 0) (k_X_2) rfl]; exact (rdN (k_G_0 _ (by omega))))
          refine aft_1 ?_
          refine rt_i ?_ ?_ (b_X_pattern_87 )
          · rw [up_f (by decide)]
          · rfl
        · replace z4 := mt (cvlt (nI_toInt (n := D 8 w) (by have := hO 8 w; omega)) (show ((4 : Int32)).toInt = 4 from by decide)).mpr z4
          exfalso; omega
      · replace z3 := mt (cvle (nI_toInt (n := lnF 4 n) (by omega)) (nI_toInt (n := D 3 w) (by have := hO 3 w; omega))).mpr z3
        exfalso; first | omega | contradiction
  · replace z1 := pz0.mp (Decidable.not_not.mp z1)
    exfalso; omega
theorem x_plan0 {d : Nat} {A : Nat → Prop} {g : ah_H} {b : Nat} {D : rg_D} (hO : ∀ f j, D f j < 2 ^ 30) (hA : ∀ q, b ≤ q → q < b + 75 → A q) (hd : 30 ≤ d) (hT : TI D) (hG : Gh D) (hB : ∀ j, j < D 1 0 → mk5 D 29 j ≤ D 0 0) (hq : D 16 0 = 0) (hO2 : ∀ f j, mkp D f j < 2 ^ 30) (hn : mkp D 0 0 ≤ 3) : ah_Ev mt_X_plan d A [.ref b] (rg LTc g b D) (.returned (some (.int (nI (sm (mkp D 21) (mkp D 0 0)))))) (rg LTc g b (up (mkp D) 16 0 1)) := by
  refine ah_Ev.of (by decide +kernel) (Nat.le_of_ble_eq_true rfl) ?_
  show ah_At mt_X_plan d A (rg LTc g b D) (.returned (some (.int (nI (sm (mkp D 21) (mkp D 0 0)))))) (rg LTc g b (up (mkp D) 16 0 1)) 0 [(0, .ref b)] [] (rg LTc g b D)
  refine b_X_plan_0 (rdI (k_X_2) rfl) (fun z1 => ?_) (fun z1 => ?_)
  · exact absurd (by rw [hq]; rfl) z1
  · refine b_X_plan_7 (rdR (k_X_1)) (c_makePlan (d := d - 1) (A := A) hA (by omega) hT hO hG hB) (by omega) (fun q hq => hq) ?_ (rdN (k_N_0))
    refine aft_0 ?_
    refine b_X_plan_14 (hA _ (by omega) (by omega)) (rdE (k_X_2)) ?_
    rw [stcI0 (x := 1) (v := 1) (k_X_2) rfl]
    have k := c_lengthUsed (d := d - 1) (A := A) (g := g) (b := b) (D := up (mkp D) 16 0 1) (up_O hO2 (by decide)) (by rw [up_f (by decide)]; exact hn)
    have e : (up (mkp D) 16 0 1 21) = mkp D 21 := funext fun j => up_f (by decide)
    rw [e, up_f (by decide)] at k
    refine b_X_plan_19 (rdR (k_X_1)) k (by omega) (fun q hq => hq) ?_ (rdN (k_N_0))
    refine aft_1 ?_
    exact b_X_plan_26
theorem x_count0 {d : Nat} {A : Nat → Prop} {g : ah_H} {b : Nat} {D : rg_D} (hO : ∀ f j, D f j < 2 ^ 30) (hd : 4 ≤ d) (h3 : D 0 0 ≤ 3) : ah_Ev mt_X_count d A [.ref b, .int 0] (rg LTc g b D) (.returned (some (.int (nI (D 0 0))))) (rg LTc g b D) := by
  refine ah_Ev.of (by decide +kernel) (Nat.le_of_ble_eq_true rfl) ?_
  show ah_At mt_X_count d A (rg LTc g b D) (.returned (some (.int (nI (D 0 0))))) (rg LTc g b D) 0 [(0, .ref b), (1, .int 0)] [] (rg LTc g b D)
  refine b_X_count_0 (fun z => by exfalso; revert z; decide) (fun _ => ?_) (fun z => by exfalso; revert z; decide) (fun z => by exfalso; revert z; decide) (fun z => by exfalso; revert z; decide) (fun z => by exfalso; revert z; decide)
  refine rt_i ?_ ?_ (b_X_count_36 (rdR (k_X_0)) (rdI (k_T_1) rfl))
  · rfl
  · rfl
theorem x_count1 {d : Nat} {A : Nat → Prop} {g : ah_H} {b : Nat} {D : rg_D} (hO : ∀ f j, D f j < 2 ^ 30) (hd : 4 ≤ d) (h3 : D 0 0 ≤ 3) : ah_Ev mt_X_count d A [.ref b, .int 1] (rg LTc g b D) (.returned (some (.int (nI (D 1 0))))) (rg LTc g b D) := by
  refine ah_Ev.of (by decide +kernel) (Nat.le_of_ble_eq_true rfl) ?_
  show ah_At mt_X_count d A (rg LTc g b D) (.returned (some (.int (nI (D 1 0))))) (rg LTc g b D) 0 [(0, .ref b), (1, .int 1)] [] (rg LTc g b D)
  refine b_X_count_0 (fun z => by exfalso; revert z; decide) (fun z => by exfalso; revert z; decide) (fun _ => ?_) (fun z => by exfalso; revert z; decide) (fun z => by exfalso; revert z; decide) (fun z => by exfalso; revert z; decide)
  refine rt_i ?_ ?_ (b_X_count_44 (rdR (k_X_0)) (rdI (k_T_3) rfl))
  · rfl
  · rfl
theorem x_count2n {d : Nat} {A : Nat → Prop} {g : ah_H} {b : Nat} {D : rg_D} (hO : ∀ f j, D f j < 2 ^ 30) (hd : 4 ≤ d) (h3 : D 0 0 ≤ 3) (hq : D 16 0 = 0) : ah_Ev mt_X_count d A [.ref b, .int 2] (rg LTc g b D) (.returned (some (.int (-1)))) (rg LTc g b D) := by
  refine ah_Ev.of (by decide +kernel) (Nat.le_of_ble_eq_true rfl) ?_
  show ah_At mt_X_count d A (rg LTc g b D) (.returned (some (.int (-1)))) (rg LTc g b D) 0 [(0, .ref b), (1, .int 2)] [] (rg LTc g b D)
  refine b_X_count_0 (fun z => by exfalso; revert z; decide) (fun z => by exfalso; revert z; decide) (fun z => by exfalso; revert z; decide) (fun _ => ?_) (fun z => by exfalso; revert z; decide) (fun z => by exfalso; revert z; decide)
  refine b_X_count_52 (rdI (k_X_2) rfl) (fun z1 => ?_) (fun z1 => ?_)
  · replace z1 := (cveq (nI_toInt (n := D 16 0) (by have := hO 16 0; omega)) (show ((0 : Int32)).toInt = 0 from by decide)).mp z1
    refine b_X_count_69 ?_
    refine rt_i ?_ ?_ (b_X_count_70 )
    · rfl
    · rfl
  · replace z1 := mt (cveq (nI_toInt (n := D 16 0) (by have := hO 16 0; omega)) (show ((0 : Int32)).toInt = 0 from by decide)).mpr z1
    exfalso; omega
theorem x_count2 {d : Nat} {A : Nat → Prop} {g : ah_H} {b : Nat} {D : rg_D} (hO : ∀ f j, D f j < 2 ^ 30) (hd : 4 ≤ d) (h3 : D 0 0 ≤ 3) (hq : D 16 0 = 1) : ah_Ev mt_X_count d A [.ref b, .int 2] (rg LTc g b D) (.returned (some (.int (nI (sm (D 20) (D 0 0)))))) (rg LTc g b D) := by
  refine ah_Ev.of (by decide +kernel) (Nat.le_of_ble_eq_true rfl) ?_
  show ah_At mt_X_count d A (rg LTc g b D) (.returned (some (.int (nI (sm (D 20) (D 0 0)))))) (rg LTc g b D) 0 [(0, .ref b), (1, .int 2)] [] (rg LTc g b D)
  refine b_X_count_0 (fun z => by exfalso; revert z; decide) (fun z => by exfalso; revert z; decide) (fun z => by exfalso; revert z; decide) (fun _ => ?_) (fun z => by exfalso; revert z; decide) (fun z => by exfalso; revert z; decide)
  refine b_X_count_52 (rdI (k_X_2) rfl) (fun z1 => ?_) (fun z1 => ?_)
  · replace z1 := (cveq (nI_toInt (n := D 16 0) (by have := hO 16 0; omega)) (show ((0 : Int32)).toInt = 0 from by decide)).mp z1
    exfalso; omega
  · replace z1 := mt (cveq (nI_toInt (n := D 16 0) (by have := hO 16 0; omega)) (show ((0 : Int32)).toInt = 0 from by decide)).mpr z1
    refine b_X_count_59 (rdR (k_X_1)) (c_boxesLoaded (d := d - 1) (A := A) hO (by omega)) (by omega) (fun q hq => hq) ?_ (rdN (k_N_0))
    refine aft_1 ?_
    refine b_X_count_66 ?_
    refine rt_i ?_ ?_ (b_X_count_70 )
    · rfl
    · rfl
theorem x_count3n {d : Nat} {A : Nat → Prop} {g : ah_H} {b : Nat} {D : rg_D} (hO : ∀ f j, D f j < 2 ^ 30) (hd : 4 ≤ d) (h3 : D 0 0 ≤ 3) (hq : D 16 0 = 0) : ah_Ev mt_X_count d A [.ref b, .int 3] (rg LTc g b D) (.returned (some (.int (-1)))) (rg LTc g b D) := by
  refine ah_Ev.of (by decide +kernel) (Nat.le_of_ble_eq_true rfl) ?_
  show ah_At mt_X_count d A (rg LTc g b D) (.returned (some (.int (-1)))) (rg LTc g b D) 0 [(0, .ref b), (1, .int 3)] [] (rg LTc g b D)
  refine b_X_count_0 (fun z => by exfalso; revert z; decide) (fun z => by exfalso; revert z; decide) (fun z => by exfalso; revert z; decide) (fun z => by exfalso; revert z; decide) (fun _ => ?_) (fun z => by exfalso; revert z; decide)
  refine b_X_count_71 (rdI (k_X_2) rfl) (fun z1 => ?_) (fun z1 => ?_)
  · replace z1 := (cveq (nI_toInt (n := D 16 0) (by have := hO 16 0; omega)) (show ((0 : Int32)).toInt = 0 from by decide)).mp z1
    refine b_X_count_88 ?_
    refine rt_i ?_ ?_ (b_X_count_89 )
    · rfl
    · rfl
  · replace z1 := mt (cveq (nI_toInt (n := D 16 0) (by have := hO 16 0; omega)) (show ((0 : Int32)).toInt = 0 from by decide)).mpr z1
    exfalso; omega
theorem x_count3 {d : Nat} {A : Nat → Prop} {g : ah_H} {b : Nat} {D : rg_D} (hO : ∀ f j, D f j < 2 ^ 30) (hd : 4 ≤ d) (h3 : D 0 0 ≤ 3) (hq : D 16 0 = 1) : ah_Ev mt_X_count d A [.ref b, .int 3] (rg LTc g b D) (.returned (some (.int (nI (sm (D 21) (D 0 0)))))) (rg LTc g b D) := by
  refine ah_Ev.of (by decide +kernel) (Nat.le_of_ble_eq_true rfl) ?_
  show ah_At mt_X_count d A (rg LTc g b D) (.returned (some (.int (nI (sm (D 21) (D 0 0)))))) (rg LTc g b D) 0 [(0, .ref b), (1, .int 3)] [] (rg LTc g b D)
  refine b_X_count_0 (fun z => by exfalso; revert z; decide) (fun z => by exfalso; revert z; decide) (fun z => by exfalso; revert z; decide) (fun z => by exfalso; revert z; decide) (fun _ => ?_) (fun z => by exfalso; revert z; decide)
  refine b_X_count_71 (rdI (k_X_2) rfl) (fun z1 => ?_) (fun z1 => ?_)
  · replace z1 := (cveq (nI_toInt (n := D 16 0) (by have := hO 16 0; omega)) (show ((0 : Int32)).toInt = 0 from by decide)).mp z1
    exfalso; omega
  · replace z1 := mt (cveq (nI_toInt (n := D 16 0) (by have := hO 16 0; omega)) (show ((0 : Int32)).toInt = 0 from by decide)).mpr z1
    refine b_X_count_78 (rdR (k_X_1)) (c_lengthUsed (d := d - 1) (A := A) hO (by omega)) (by omega) (fun q hq => hq) ?_ (rdN (k_N_0))
    refine aft_1 ?_
    refine b_X_count_85 ?_
    refine rt_i ?_ ?_ (b_X_count_89 )
    · rfl
    · rfl
theorem x_count4n {d : Nat} {A : Nat → Prop} {g : ah_H} {b : Nat} {D : rg_D} (hO : ∀ f j, D f j < 2 ^ 30) (hd : 4 ≤ d) (h3 : D 0 0 ≤ 3) (hq : D 16 0 = 0) : ah_Ev mt_X_count d A [.ref b, .int 4] (rg LTc g b D) (.returned (some (.int 0))) (rg LTc g b D) := by
  refine ah_Ev.of (by decide +kernel) (Nat.le_of_ble_eq_true rfl) ?_
  show ah_At mt_X_count d A (rg LTc g b D) (.returned (some (.int 0))) (rg LTc g b D) 0 [(0, .ref b), (1, .int 4)] [] (rg LTc g b D)
  refine b_X_count_0 (fun z => by exfalso; revert z; decide) (fun z => by exfalso; revert z; decide) (fun z => by exfalso; revert z; decide) (fun z => by exfalso; revert z; decide) (fun z => by exfalso; revert z; decide) (fun _ => ?_)
  refine b_X_count_90 (rdI (k_X_2) rfl) (fun z1 => ?_) (fun z1 => ?_)
  · replace z1 := (cveq (nI_toInt (n := D 16 0) (by have := hO 16 0; omega)) (show ((0 : Int32)).toInt = 0 from by decide)).mp z1
    refine b_X_count_101 ?_
    refine rt_i ?_ ?_ (b_X_count_102 )
    · rfl
    · rfl
  · replace z1 := mt (cveq (nI_toInt (n := D 16 0) (by have := hO 16 0; omega)) (show ((0 : Int32)).toInt = 0 from by decide)).mpr z1
    exfalso; omega
theorem x_count4 {d : Nat} {A : Nat → Prop} {g : ah_H} {b : Nat} {D : rg_D} (hO : ∀ f j, D f j < 2 ^ 30) (hd : 4 ≤ d) (h3 : D 0 0 ≤ 3) (hq : D 16 0 = 1) : ah_Ev mt_X_count d A [.ref b, .int 4] (rg LTc g b D) (.returned (some (.int 1))) (rg LTc g b D) := by
  refine ah_Ev.of (by decide +kernel) (Nat.le_of_ble_eq_true rfl) ?_
  show ah_At mt_X_count d A (rg LTc g b D) (.returned (some (.int 1))) (rg LTc g b D) 0 [(0, .ref b), (1, .int 4)] [] (rg LTc g b D)
  refine b_X_count_0 (fun z => by exfalso; revert z; decide) (fun z => by exfalso; revert z; decide) (fun z => by exfalso; revert z; decide) (fun z => by exfalso; revert z; decide) (fun z => by exfalso; revert z; decide) (fun _ => ?_)
  refine b_X_count_90 (rdI (k_X_2) rfl) (fun z1 => ?_) (fun z1 => ?_)
  · replace z1 := (cveq (nI_toInt (n := D 16 0) (by have := hO 16 0; omega)) (show ((0 : Int32)).toInt = 0 from by decide)).mp z1
    exfalso; omega
  · replace z1 := mt (cveq (nI_toInt (n := D 16 0) (by have := hO 16 0; omega)) (show ((0 : Int32)).toInt = 0 from by decide)).mpr z1
    refine b_X_count_97 ?_
    refine rt_i ?_ ?_ (b_X_count_102 )
    · rfl
    · rfl
theorem c_patternsOf1 {d : Nat} {A : Nat → Prop} {g : ah_H} {b : Nat} {D : rg_D} (hO : ∀ f j, D f j < 2 ^ 30) (hd : 4 ≤ d) (h3 : D 0 0 ≤ 3) {w : Nat} (hw : w < D 0 0) : ah_Ev mt_X_patternsOf d A [.ref b, .int (nI (w + 10))] (rg LTc g b D) (.returned (some (.int (nI (D 8 w))))) (rg LTc g b D) := by
  refine ah_Ev.of (by decide +kernel) (Nat.le_of_ble_eq_true rfl) ?_
  show ah_At mt_X_patternsOf d A (rg LTc g b D) (.returned (some (.int (nI (D 8 w))))) (rg LTc g b D) 0 [(0, .ref b), (1, .int (nI (w + 10)))] [] (rg LTc g b D)
  refine b_X_patternsOf_0 (rdR (k_X_0)) (c_hasWagon (d := d - 1) (A := A) hO (tn_n (show ((nI (w + 10)) - 10 : Int32) = nI ((w + 10) - 10) from (su_n rfl rfl (by omega))) (by omega))) (by omega) (fun q hq => hq) ?_ (rdN (k_T_0))
  refine aft_1 ?_
  rw [show ((nI (w + 10)) - 10 : Int32) = nI ((w + 10) - 10) from (su_n rfl rfl (by omega))]
  refine b_X_patternsOf_13 (fun z1 => ?_) (fun z1 => ?_)
  · replace z1 := pz0.mp z1
    exfalso; omega
  · replace z1 := pz1.mp z1
    refine b_X_patternsOf_16 (rdR (k_X_0)) (rdR (k_T_0)) (ah_ix_nI (by omega)) (rdR (k_Gs _ (by omega))) (rdI (k_G_1 _ (by omega)) rfl) ?_
    refine rt_i ?_ ?_ (b_X_patternsOf_32 )
    · rw [Nat.add_sub_cancel]
    · rfl
theorem c_patternsOf0 {d : Nat} {A : Nat → Prop} {g : ah_H} {b : Nat} {D : rg_D} (hO : ∀ f j, D f j < 2 ^ 30) (hd : 4 ≤ d) (h3 : D 0 0 ≤ 3) {x1 : Int32} (hn : ¬ (0 ≤ Int32.toInt (x1 - 10) ∧ Int32.toInt (x1 - 10) < ((D 0 0 : Nat) : Int))) : ah_Ev mt_X_patternsOf d A [.ref b, .int x1] (rg LTc g b D) (.returned (some (.int (-1)))) (rg LTc g b D) := by
  refine ah_Ev.of (by decide +kernel) (Nat.le_of_ble_eq_true rfl) ?_
  show ah_At mt_X_patternsOf d A (rg LTc g b D) (.returned (some (.int (-1)))) (rg LTc g b D) 0 [(0, .ref b), (1, .int x1)] [] (rg LTc g b D)
  refine b_X_patternsOf_0 (rdR (k_X_0)) (c_hasWagon (d := d - 1) (A := A) hO (rfl : Int32.toInt (x1 - 10) = _)) (by omega) (fun q hq => hq) ?_ (rdN (k_T_0))
  refine aft_1 ?_
  refine b_X_patternsOf_13 (fun z1 => ?_) (fun z1 => ?_)
  · replace z1 := pz0.mp z1
    refine b_X_patternsOf_31 ?_
    refine rt_i ?_ ?_ (b_X_patternsOf_32 )
    · rfl
    · rfl
  · replace z1 := pz1.mp z1
    exfalso; omega
theorem x_countn {d : Nat} {A : Nat → Prop} {g : ah_H} {b : Nat} {D : rg_D} (hO : ∀ f j, D f j < 2 ^ 30) (hd : 6 ≤ d) (h3 : D 0 0 ≤ 3) {x1 : Int32} {p1 : Int} (h1 : x1.toInt = p1) (hp : p1 < 0 ∨ 5 ≤ p1) (hn : ¬ (0 ≤ Int32.toInt (x1 - 10) ∧ Int32.toInt (x1 - 10) < ((D 0 0 : Nat) : Int))) : ah_Ev mt_X_count d A [.ref b, .int x1] (rg LTc g b D) (.returned (some (.int (-1)))) (rg LTc g b D) := by
  refine ah_Ev.of (by decide +kernel) (Nat.le_of_ble_eq_true rfl) ?_
  show ah_At mt_X_count d A (rg LTc g b D) (.returned (some (.int (-1)))) (rg LTc g b D) 0 [(0, .ref b), (1, .int x1)] [] (rg LTc g b D)
  refine b_X_count_0 (fun _ => ?_) (fun z => by exfalso; have q1 := congrArg Int32.toInt z; rw [h1] at q1; have q2 : Int32.toInt 0 = 0 := (by decide); omega) (fun z => by exfalso; have q1 := congrArg Int32.toInt z; rw [h1] at q1; have q2 : Int32.toInt 1 = 1 := (by decide); omega) (fun z => by exfalso; have q1 := congrArg Int32.toInt z; rw [h1] at q1; have q2 : Int32.toInt 2 = 2 := (by decide); omega) (fun z => by exfalso; have q1 := congrArg Int32.toInt z; rw [h1] at q1; have q2 : Int32.toInt 3 = 3 := (by decide); omega) (fun z => by exfalso; have q1 := congrArg Int32.toInt z; rw [h1] at q1; have q2 : Int32.toInt 4 = 4 := (by decide); omega)
  refine b_X_count_103 (c_patternsOf0 (d := d - 1) (A := A) hO (by omega) h3 hn) (by omega) (fun q hq => hq) ?_ (rdN (k_X_0))
  refine aft_1 ?_
  refine rt_i ?_ ?_ (b_X_count_108 )
  · rfl
  · rfl
theorem x_countp {d : Nat} {A : Nat → Prop} {g : ah_H} {b : Nat} {D : rg_D} (hO : ∀ f j, D f j < 2 ^ 30) (hd : 6 ≤ d) (h3 : D 0 0 ≤ 3) {w : Nat} (hw : w < D 0 0) : ah_Ev mt_X_count d A [.ref b, .int (nI (w + 10))] (rg LTc g b D) (.returned (some (.int (nI (D 8 w))))) (rg LTc g b D) := by
  refine ah_Ev.of (by decide +kernel) (Nat.le_of_ble_eq_true rfl) ?_
  show ah_At mt_X_count d A (rg LTc g b D) (.returned (some (.int (nI (D 8 w))))) (rg LTc g b D) 0 [(0, .ref b), (1, .int (nI (w + 10)))] [] (rg LTc g b D)
  refine b_X_count_0 (fun _ => ?_) (fun z => by exfalso; have q1 := congrArg Int32.toInt z; rw [nI_toInt (by omega)] at q1; have q2 : Int32.toInt 0 = 0 := (by decide); omega) (fun z => by exfalso; have q1 := congrArg Int32.toInt z; rw [nI_toInt (by omega)] at q1; have q2 : Int32.toInt 1 = 1 := (by decide); omega) (fun z => by exfalso; have q1 := congrArg Int32.toInt z; rw [nI_toInt (by omega)] at q1; have q2 : Int32.toInt 2 = 2 := (by decide); omega) (fun z => by exfalso; have q1 := congrArg Int32.toInt z; rw [nI_toInt (by omega)] at q1; have q2 : Int32.toInt 3 = 3 := (by decide); omega) (fun z => by exfalso; have q1 := congrArg Int32.toInt z; rw [nI_toInt (by omega)] at q1; have q2 : Int32.toInt 4 = 4 := (by decide); omega)
  refine b_X_count_103 (c_patternsOf1 (d := d - 1) (A := A) hO (by omega) h3 hw) (by omega) (fun q hq => hq) ?_ (rdN (k_X_0))
  refine aft_1 ?_
  refine rt_i ?_ ?_ (b_X_count_108 )
  · rfl
  · rfl
