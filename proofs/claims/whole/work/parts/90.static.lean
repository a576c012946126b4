/-! CONTRACTS: numbers and who is there. Printed out of wip/ -/
def ln (n : Nat) : Nat := if n = 1 then 4 else if n = 2 then 8 else if n = 3 then 9 else 0
theorem ln_le (n : Nat) : ln n ≤ 9 := by unfold ln; split; omega; split; omega; split <;> omega
theorem c_isBetween {d : Nat} {A : Nat → Prop} {h : ah_H} {x y z : Int64} {p q r : Int} (hx : x.toInt = p) (hy : y.toInt = q) (hz : z.toInt = r) : ah_Ev mt_X_isBetween d A [.long x, .long y, .long z] h (.returned (some (.int (bz (pb (q ≤ p ∧ p ≤ r)))))) h := by
  refine ah_Ev.of (by decide +kernel) (Nat.le_of_ble_eq_true rfl) ?_
  show ah_At mt_X_isBetween d A h (.returned (some (.int (bz (pb (q ≤ p ∧ p ≤ r)))))) h 0 [(0, .long x), (2, .long y), (4, .long z)] [] h
  refine b_X_isBetween_0 (fun z1 => ?_) (fun z1 => ?_)
  · replace z1 := (cLgt hy hx).mp z1
    refine b_X_isBetween_17 ?_
    refine rt_i ?_ ?_ (b_X_isBetween_18 (by decide +kernel))
    · refine bz_np ?_; omega
    · rfl
  · replace z1 := mt (cLgt hy hx).mpr z1
    refine b_X_isBetween_6 (fun z2 => ?_) (fun z2 => ?_)
    · replace z2 := (cLgt hx hz).mp z2
      refine b_X_isBetween_17 ?_
      refine rt_i ?_ ?_ (b_X_isBetween_18 (by decide +kernel))
      · refine bz_np ?_; omega
      · rfl
    · replace z2 := mt (cLgt hx hz).mpr z2
      refine b_X_isBetween_13 ?_
      refine rt_i ?_ ?_ (b_X_isBetween_18 (by decide +kernel))
      · refine bz_p ?_; omega
      · rfl
theorem c_lengthOfSize {d : Nat} {A : Nat → Prop} {h : ah_H} {n : Nat} (hn : n < 2 ^ 31) : ah_Ev mt_X_lengthOfSize d A [.int (nI n)] h (.returned (some (.int (nI (ln n))))) h := by
  refine ah_Ev.of (by decide +kernel) (Nat.le_of_ble_eq_true rfl) ?_
  show ah_At mt_X_lengthOfSize d A h (.returned (some (.int (nI (ln n))))) h 0 [(0, .int (nI n))] [] h
  refine b_X_lengthOfSize_0 (fun z1 => ?_) (fun z1 => ?_) (fun z1 => ?_) (fun z1 => ?_)
  · rw [(nI_toInt (n := n) (by omega))] at z1
    refine rt_i ?_ ?_ (b_X_lengthOfSize_36 )
    · show nI 0 = nI (ln n); congr 1; unfold ln; split; omega; split; omega; split <;> omega
    · rfl
  · replace z1 := (cveq (nI_toInt (n := n) (by omega)) (show ((1 : Int32)).toInt = 1 from by decide)).mp z1
    refine rt_i ?_ ?_ (b_X_lengthOfSize_28 )
    · show nI 4 = nI (ln n); congr 1; unfold ln; split; omega; split; omega; split <;> omega
    · rfl
  · replace z1 := (cveq (nI_toInt (n := n) (by omega)) (show ((2 : Int32)).toInt = 2 from by decide)).mp z1
    refine rt_i ?_ ?_ (b_X_lengthOfSize_30 )
    · show nI 8 = nI (ln n); congr 1; unfold ln; split; omega; split; omega; split <;> omega
    · rfl
  · replace z1 := (cveq (nI_toInt (n := n) (by omega)) (show ((3 : Int32)).toInt = 3 from by decide)).mp z1
    refine rt_i ?_ ?_ (b_X_lengthOfSize_33 )
    · show nI 9 = nI (ln n); congr 1; unfold ln; split; omega; split; omega; split <;> omega
    · rfl
theorem c_hasWagon {d : Nat} {A : Nat → Prop} {g : ah_H} {b : Nat} {D : rg_D} (hO : ∀ f j, D f j < 2 ^ 30) {x : Int32} {p : Int} (hx : x.toInt = p) : ah_Ev mt_T_hasWagon d A [.ref (b + 1), .int x] (rg LTc g b D) (.returned (some (.int (bz (pb (0 ≤ p ∧ p < ((D 0 0 : Nat) : Int))))))) (rg LTc g b D) := by
  refine ah_Ev.of (by decide +kernel) (Nat.le_of_ble_eq_true rfl) ?_
  show ah_At mt_T_hasWagon d A (rg LTc g b D) (.returned (some (.int (bz (pb (0 ≤ p ∧ p < ((D 0 0 : Nat) : Int))))))) (rg LTc g b D) 0 [(0, .ref (b + 1)), (1, .int x)] [] (rg LTc g b D)
  refine b_T_hasWagon_0 (fun z1 => ?_) (fun z1 => ?_)
  · replace z1 := (cvlt hx (show ((0 : Int32)).toInt = 0 from by decide)).mp z1
    refine b_T_hasWagon_17 ?_
    refine rt_i ?_ ?_ (b_T_hasWagon_18 (by decide +kernel))
    · refine bz_np ?_; omega
    · rfl
  · replace z1 := mt (cvlt hx (show ((0 : Int32)).toInt = 0 from by decide)).mpr z1
    refine b_T_hasWagon_5 (rdI (k_T_1) rfl) (fun z2 => ?_) (fun z2 => ?_)
    · replace z2 := (cvle (nI_toInt (n := D 0 0) (by have := hO 0 0; omega)) hx).mp z2
      refine b_T_hasWagon_17 ?_
      refine rt_i ?_ ?_ (b_T_hasWagon_18 (by decide +kernel))
      · refine bz_np ?_; omega
      · rfl
    · replace z2 := mt (cvle (nI_toInt (n := D 0 0) (by have := hO 0 0; omega)) hx).mpr z2
      refine b_T_hasWagon_13 ?_
      refine rt_i ?_ ?_ (b_T_hasWagon_18 (by decide +kernel))
      · refine bz_p ?_; omega
      · rfl
theorem c_hasBox {d : Nat} {A : Nat → Prop} {g : ah_H} {b : Nat} {D : rg_D} (hO : ∀ f j, D f j < 2 ^ 30) {x : Int32} {p : Int} (hx : x.toInt = p) : ah_Ev mt_T_hasBox d A [.ref (b + 1), .int x] (rg LTc g b D) (.returned (some (.int (bz (pb (0 ≤ p ∧ p < ((D 1 0 : Nat) : Int))))))) (rg LTc g b D) := by
  refine ah_Ev.of (by decide +kernel) (Nat.le_of_ble_eq_true rfl) ?_
  show ah_At mt_T_hasBox d A (rg LTc g b D) (.returned (some (.int (bz (pb (0 ≤ p ∧ p < ((D 1 0 : Nat) : Int))))))) (rg LTc g b D) 0 [(0, .ref (b + 1)), (1, .int x)] [] (rg LTc g b D)
  refine b_T_hasBox_0 (fun z1 => ?_) (fun z1 => ?_)
  · replace z1 := (cvlt hx (show ((0 : Int32)).toInt = 0 from by decide)).mp z1
    refine b_T_hasBox_17 ?_
    refine rt_i ?_ ?_ (b_T_hasBox_18 (by decide +kernel))
    · refine bz_np ?_; omega
    · rfl
  · replace z1 := mt (cvlt hx (show ((0 : Int32)).toInt = 0 from by decide)).mpr z1
    refine b_T_hasBox_5 (rdI (k_T_3) rfl) (fun z2 => ?_) (fun z2 => ?_)
    · replace z2 := (cvle (nI_toInt (n := D 1 0) (by have := hO 1 0; omega)) hx).mp z2
      refine b_T_hasBox_17 ?_
      refine rt_i ?_ ?_ (b_T_hasBox_18 (by decide +kernel))
      · refine bz_np ?_; omega
      · rfl
    · replace z2 := mt (cvle (nI_toInt (n := D 1 0) (by have := hO 1 0; omega)) hx).mpr z2
      refine b_T_hasBox_13 ?_
      refine rt_i ?_ ?_ (b_T_hasBox_18 (by decide +kernel))
      · refine bz_p ?_; omega
      · rfl
