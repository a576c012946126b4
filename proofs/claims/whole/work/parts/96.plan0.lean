/-! CONTRACTS: rows of sizes, places, clearing. Printed out of wip/ -/
theorem shr_a : ∀ e, e < 9 → (256 : Int32) >>> (nI e &&& 31) = nI (256 / 2 ^ e) := by decide +kernel
theorem shr_n {y : Int32} {e : Nat} (h : y = nI e) (he : e ≤ 8) : (256 : Int32) >>> (y &&& 31) = nI (256 / 2 ^ e) := by rw [h, shr_a e (by omega)]
theorem up_O {D : rg_D} {f0 j0 x : Nat} (h : ∀ f j, D f j < 2 ^ 30) (hx : x < 2 ^ 30) : ∀ f j, up D f0 j0 x f j < 2 ^ 30 := by
  intro f j
  have := h f j
  unfold up
  split <;> omega
def rowF : Nat → Nat → Prop
  | 0, r => r = 0
  | k + 1, r => r = 0 ∨ ((1 ≤ r % 10 ∧ r % 10 ≤ 3) ∧ rowF k (r / 10))
def lnF : Nat → Nat → Nat
  | 0, _ => 0
  | k + 1, r => if r = 0 then 0 else ln (r % 10) + lnF k (r / 10)
theorem lo_row {d : Nat} {A : Nat → Prop} {h : ah_H} {n : Nat} (hn : 0 < n) (hn2 : n < 2 ^ 31) (hd : 1 ≤ d) {h0 : ah_H} : ∀ (k p r : Nat), p + k = 4 → r < 2 ^ 31 → ah_At mt_X_isRowOfSizes d A h0 (.returned (some (.int (bz (pb (rowF k r)))))) h 4 [(0, .int (nI n)), (1, .int (nI r)), (2, .int (nI p))] [] h
  | 0, p, r, hk, hr => by
    refine b_X_isRowOfSizes_4 (fun z1 => ?_) (fun z1 => by exfalso; replace z1 := mt (cvle (show ((4 : Int32)).toInt = 4 from by decide) (nI_toInt (n := p) (by omega))).mpr z1; omega)
    replace z1 := (cvle (show ((4 : Int32)).toInt = 4 from by decide) (nI_toInt (n := p) (by omega))).mp z1
    refine b_X_isRowOfSizes_41 (fun z2 => ?_) (fun z2 => ?_)
    · replace z2 := (cvle (nI_toInt (n := n) (by omega)) (show ((0 : Int32)).toInt = 0 from by decide)).mp z2
      refine b_X_isRowOfSizes_53 ?_
      refine rt_i ?_ ?_ (b_X_isRowOfSizes_54 (by decide +kernel))
      · refine bz_np ?_; first | (exfalso; omega) | (unfold rowF; omega) | (unfold rowF; rintro (q | q) <;> omega)
      · rfl
    · replace z2 := mt (cvle (nI_toInt (n := n) (by omega)) (show ((0 : Int32)).toInt = 0 from by decide)).mpr z2
      refine b_X_isRowOfSizes_45 (fun z3 => ?_) (fun z3 => ?_)
      · replace z3 := mt (cveq (nI_toInt (n := r) (by omega)) (show ((0 : Int32)).toInt = 0 from by decide)).mpr z3
        refine b_X_isRowOfSizes_53 ?_
        refine rt_i ?_ ?_ (b_X_isRowOfSizes_54 (by decide +kernel))
        · refine bz_np ?_; first | (exfalso; omega) | (unfold rowF; omega) | (unfold rowF; rintro (q | q) <;> omega)
        · rfl
      · replace z3 := (cveq (nI_toInt (n := r) (by omega)) (show ((0 : Int32)).toInt = 0 from by decide)).mp (Decidable.not_not.mp z3)
        refine b_X_isRowOfSizes_49 ?_
        refine rt_i ?_ ?_ (b_X_isRowOfSizes_54 (by decide +kernel))
        · refine bz_p ?_; first | (exfalso; omega) | (unfold rowF; omega) | (unfold rowF; left; omega)
        · rfl
  | k + 1, p, r, hk, hr => by
    refine b_X_isRowOfSizes_4 (fun z1 => by exfalso; replace z1 := (cvle (show ((4 : Int32)).toInt = 4 from by decide) (nI_toInt (n := p) (by omega))).mp z1; omega) (fun z1 => ?_)
    replace z1 := mt (cvle (show ((4 : Int32)).toInt = 4 from by decide) (nI_toInt (n := p) (by omega))).mpr z1
    refine b_X_isRowOfSizes_9 (fun z2 => ?_) (fun z2 => ?_)
    · replace z2 := (cvle (nI_toInt (n := r) (by omega)) (show ((0 : Int32)).toInt = 0 from by decide)).mp z2
      refine b_X_isRowOfSizes_41 (fun z3 => ?_) (fun z3 => ?_)
      · replace z3 := (cvle (nI_toInt (n := n) (by omega)) (show ((0 : Int32)).toInt = 0 from by decide)).mp z3
        refine b_X_isRowOfSizes_53 ?_
        refine rt_i ?_ ?_ (b_X_isRowOfSizes_54 (by decide +kernel))
        · refine bz_np ?_; first | (exfalso; omega) | (unfold rowF; omega) | (unfold rowF; rintro (q | q) <;> omega)
        · rfl
      · replace z3 := mt (cvle (nI_toInt (n := n) (by omega)) (show ((0 : Int32)).toInt = 0 from by decide)).mpr z3
        refine b_X_isRowOfSizes_45 (fun z4 => ?_) (fun z4 => ?_)
        · replace z4 := mt (cveq (nI_toInt (n := r) (by omega)) (show ((0 : Int32)).toInt = 0 from by decide)).mpr z4
          refine b_X_isRowOfSizes_53 ?_
          refine rt_i ?_ ?_ (b_X_isRowOfSizes_54 (by decide +kernel))
          · refine bz_np ?_; first | (exfalso; omega) | (unfold rowF; omega) | (unfold rowF; rintro (q | q) <;> omega)
          · rfl
        · replace z4 := (cveq (nI_toInt (n := r) (by omega)) (show ((0 : Int32)).toInt = 0 from by decide)).mp (Decidable.not_not.mp z4)
          refine b_X_isRowOfSizes_49 ?_
          refine rt_i ?_ ?_ (b_X_isRowOfSizes_54 (by decide +kernel))
          · refine bz_p ?_; first | (exfalso; omega) | (unfold rowF; omega) | (unfold rowF; left; omega)
          · rfl
    · replace z2 := mt (cvle (nI_toInt (n := r) (by omega)) (show ((0 : Int32)).toInt = 0 from by decide)).mpr z2
      refine b_X_isRowOfSizes_13 (c_isBetween (d := d - 1) (A := A) (tl_n (show (Int32.toInt64 ((nI r) - (nI r) / 10 * 10) : Int64) = lN (r % 10) from (il_n (rm_n rfl rfl (by omega) (by omega) (by decide)) (by omega))) (by omega)) (show ((1 : Int64)).toInt = 1 from by decide) (show ((3 : Int64)).toInt = 3 from by decide)) (by omega) (fun q hq => hq) ?_
      refine aft_1 ?_
      refine b_X_isRowOfSizes_25 (fun z5 => ?_) (fun z5 => ?_)
      · replace z5 := pz1.mp z5
        refine b_X_isRowOfSizes_30 ?_
        rw [show ((nI r) / 10 : Int32) = nI (r / 10) from (dv_n rfl rfl (by omega) (by omega) (by decide))]
        rw [show ((nI p) + 1 : Int32) = nI (p + 1) from (ad_n rfl rfl)]
        rw [bz_pp (P := rowF (k + 1) r) (Q := rowF k (r / 10)) (by rw [rowF]; exact ⟨fun q => by rcases q with q | q; omega; exact q.2, fun q => Or.inr ⟨⟨by omega, by omega⟩, q⟩⟩)]
        exact lo_row hn hn2 hd k (p + 1) (r / 10) (by omega) (by omega)
      · replace z5 := pz0.mp (Decidable.not_not.mp z5)
        refine rt_i ?_ ?_ (b_X_isRowOfSizes_28 )
        · refine bz_np ?_; first | (exfalso; omega) | (unfold rowF; omega) | (unfold rowF; rintro (q | q) <;> omega)
        · rfl
theorem c_row {d : Nat} {A : Nat → Prop} {h : ah_H} {n : Nat} (hn : 0 < n) (hn2 : n < 2 ^ 31) (hd : 1 ≤ d) : ah_Ev mt_X_isRowOfSizes d A [.int (nI n)] h (.returned (some (.int (bz (pb (rowF 4 n)))))) h := by
  refine ah_Ev.of (by decide +kernel) (Nat.le_of_ble_eq_true rfl) ?_
  show ah_At mt_X_isRowOfSizes d A h (.returned (some (.int (bz (pb (rowF 4 n)))))) h 0 [(0, .int (nI n))] [] h
  refine b_X_isRowOfSizes_0 ?_
  exact lo_row hn hn2 hd 4 0 n (by decide) hn2
theorem c_row0 {d : Nat} {A : Nat → Prop} {h : ah_H} {x : Int32} {p : Int} (hx : x.toInt = p) (hp : p ≤ 0) : ah_Ev mt_X_isRowOfSizes d A [.int x] h (.returned (some (.int (bz (pb (False)))))) h := by
  refine ah_Ev.of (by decide +kernel) (Nat.le_of_ble_eq_true rfl) ?_
  show ah_At mt_X_isRowOfSizes d A h (.returned (some (.int (bz (pb (False)))))) h 0 [(0, .int x)] [] h
  refine b_X_isRowOfSizes_0 ?_
  refine b_X_isRowOfSizes_4 (fun z => absurd z (by decide)) (fun z1 => ?_)
  refine b_X_isRowOfSizes_9 (fun z2 => ?_) (fun z2 => by exfalso; replace z2 := mt (cvle hx (show ((0 : Int32)).toInt = 0 from by decide)).mpr z2; omega)
  replace z2 := (cvle hx (show ((0 : Int32)).toInt = 0 from by decide)).mp z2
  refine b_X_isRowOfSizes_41 (fun z3 => ?_) (fun z3 => ?_)
  · replace z3 := (cvle hx (show ((0 : Int32)).toInt = 0 from by decide)).mp z3
    refine b_X_isRowOfSizes_53 ?_
    refine rt_i ?_ ?_ (b_X_isRowOfSizes_54 (by decide +kernel))
    · first | (exfalso; omega) | exact bz_np (fun q => q)
    · rfl
  · replace z3 := mt (cvle hx (show ((0 : Int32)).toInt = 0 from by decide)).mpr z3
    refine b_X_isRowOfSizes_45 (fun z4 => ?_) (fun z4 => ?_)
    · replace z4 := mt (cveq hx (show ((0 : Int32)).toInt = 0 from by decide)).mpr z4
      refine b_X_isRowOfSizes_53 ?_
      refine rt_i ?_ ?_ (b_X_isRowOfSizes_54 (by decide +kernel))
      · first | (exfalso; omega) | exact bz_np (fun q => q)
      · rfl
    · replace z4 := (cveq hx (show ((0 : Int32)).toInt = 0 from by decide)).mp (Decidable.not_not.mp z4)
      refine b_X_isRowOfSizes_49 ?_
      refine rt_i ?_ ?_ (b_X_isRowOfSizes_54 (by decide +kernel))
      · first | (exfalso; omega) | exact bz_np (fun q => q)
      · rfl
theorem lo_lrow {d : Nat} {A : Nat → Prop} {h : ah_H} (hd : 1 ≤ d) {h0 : ah_H} : ∀ (k p r s : Nat), p + k = 4 → r < 2 ^ 31 → s ≤ 9 * p → ah_At mt_X_lengthOfRow d A h0 (.returned (some (.int (nI (s + lnF k r))))) h 6 [(1, .int (nI s)), (2, .int (nI r)), (3, .int (nI p))] [] h
  | 0, p, r, s, hk, hr, hs => by
    refine b_X_lengthOfRow_6 (fun z1 => ?_) (fun z1 => by exfalso; replace z1 := mt (cvle (show ((4 : Int32)).toInt = 4 from by decide) (nI_toInt (n := p) (by omega))).mpr z1; omega)
    replace z1 := (cvle (show ((4 : Int32)).toInt = 4 from by decide) (nI_toInt (n := p) (by omega))).mp z1
    refine rt_i ?_ ?_ (b_X_lengthOfRow_36 )
    · rfl
    · rfl
  | k + 1, p, r, s, hk, hr, hs => by
    refine b_X_lengthOfRow_6 (fun z1 => by exfalso; replace z1 := (cvle (show ((4 : Int32)).toInt = 4 from by decide) (nI_toInt (n := p) (by omega))).mp z1; omega) (fun z1 => ?_)
    replace z1 := mt (cvle (show ((4 : Int32)).toInt = 4 from by decide) (nI_toInt (n := p) (by omega))).mpr z1
    refine b_X_lengthOfRow_11 (fun z2 => ?_) (fun z2 => ?_)
    · replace z2 := (cvle (nI_toInt (n := r) (by omega)) (show ((0 : Int32)).toInt = 0 from by decide)).mp z2
      refine rt_i ?_ ?_ (b_X_lengthOfRow_36 )
      · rw [lnF, if_pos (by omega)]; rfl
      · rfl
    · replace z2 := mt (cvle (nI_toInt (n := r) (by omega)) (show ((0 : Int32)).toInt = 0 from by decide)).mpr z2
      refine b_X_lengthOfRow_15 ((show ((nI r) - (nI r) / 10 * 10 : Int32) = nI (r % 10) from (rm_n rfl rfl (by omega) (by omega) (by decide))) ▸ c_lengthOfSize (d := d - 1) (A := A) (n := r % 10) (by omega)) (by omega) (fun q hq => hq) ?_
      refine aft_1 ?_
      refine b_X_lengthOfRow_23 ?_
      rw [show ((nI s) + (nI (ln (r % 10))) : Int32) = nI (s + (ln (r % 10))) from (ad_n rfl rfl)]
      rw [show ((nI r) / 10 : Int32) = nI (r / 10) from (dv_n rfl rfl (by omega) (by omega) (by decide))]
      rw [show ((nI p) + 1 : Int32) = nI (p + 1) from (ad_n rfl rfl)]
      rw [show s + lnF (k + 1) r = s + ln (r % 10) + lnF k (r / 10) from by rw [lnF, if_neg (by omega)]; omega]
      exact lo_lrow hd k (p + 1) (r / 10) _ (by omega) (by omega) (by have := ln_le (r % 10); omega)
theorem c_lrow {d : Nat} {A : Nat → Prop} {h : ah_H} {n : Nat} (hn2 : n < 2 ^ 31) (hd : 1 ≤ d) : ah_Ev mt_X_lengthOfRow d A [.int (nI n)] h (.returned (some (.int (nI (lnF 4 n))))) h := by
  refine ah_Ev.of (by decide +kernel) (Nat.le_of_ble_eq_true rfl) ?_
  show ah_At mt_X_lengthOfRow d A h (.returned (some (.int (nI (lnF 4 n))))) h 0 [(0, .int (nI n))] [] h
  refine b_X_lengthOfRow_0 ?_
  have k := lo_lrow (A := A) (h := h) (h0 := h) hd 4 0 n 0 (by decide) hn2 (by decide)
  rw [Nat.zero_add] at k
  exact k
theorem c_wagonOf0 {d : Nat} {A : Nat → Prop} {g : ah_H} {b : Nat} {D : rg_D} (hO : ∀ f j, D f j < 2 ^ 30) {i : Nat} (hb : D 1 0 ≤ 8) (hi : i < D 1 0) (hd : 1 ≤ d) (he : D 29 i = 0) : ah_Ev mt_N_wagonOf d A [.ref (b + 59), .int (nI i)] (rg LTc g b D) (.returned (some (.int (nI 0 - 1)))) (rg LTc g b D) := by
  have k := c_wagonOf (d := d) (A := A) (g := g) (b := b) hO hb hi hd
  rw [he] at k
  exact k
theorem c_wagonOf1 {d : Nat} {A : Nat → Prop} {g : ah_H} {b : Nat} {D : rg_D} (hO : ∀ f j, D f j < 2 ^ 30) {i w : Nat} (hb : D 1 0 ≤ 8) (hi : i < D 1 0) (hd : 1 ≤ d) (he : D 29 i = w + 1) : ah_Ev mt_N_wagonOf d A [.ref (b + 59), .int (nI i)] (rg LTc g b D) (.returned (some (.int (nI w)))) (rg LTc g b D) := by
  have k := c_wagonOf (d := d) (A := A) (g := g) (b := b) hO hb hi hd
  rw [he, nI_pred] at k
  exact k
theorem c_patternOf1 {d : Nat} {A : Nat → Prop} {g : ah_H} {b : Nat} {D : rg_D} (hO : ∀ f j, D f j < 2 ^ 30) {w p : Nat} (hn : D 0 0 ≤ 3) (hw : w < D 0 0) (hp : ∀ w, D 8 w ≤ 4) (hd : 2 ≤ d) (he : pa D w = p + 1) : ah_Ev mt_N_patternOf d A [.ref (b + 59), .int (nI w)] (rg LTc g b D) (.returned (some (.int (nI p)))) (rg LTc g b D) := by
  have k := c_patternOf (d := d) (A := A) (g := g) (b := b) hO hn hw hp hd
  rw [he, nI_pred] at k
  exact k
def bef (D : rg_D) (i w : Nat) : Nat → Nat := sm (fun o => if D 29 o = w + 1 ∧ D 10 o = D 10 i then 1 else 0)
theorem c_placeOf0 {d : Nat} {A : Nat → Prop} {g : ah_H} {b : Nat} {D : rg_D} (hO : ∀ f j, D f j < 2 ^ 30) {i : Nat} (hb : D 1 0 ≤ 8) (hi : i < D 1 0) (hd : 2 ≤ d) (he : D 29 i = 0) : ah_Ev mt_N_placeOf d A [.ref (b + 59), .int (nI i)] (rg LTc g b D) (.returned (some (.int (nI 0 - 1)))) (rg LTc g b D) := by
  refine ah_Ev.of (by decide +kernel) (Nat.le_of_ble_eq_true rfl) ?_
  show ah_At mt_N_placeOf d A (rg LTc g b D) (.returned (some (.int (nI 0 - 1)))) (rg LTc g b D) 0 [(0, .ref (b + 59)), (1, .int (nI i))] [] (rg LTc g b D)
  refine b_N_placeOf_0 (c_wagonOf0 (d := d - 1) (A := A) hO hb hi (by omega) he) (by omega) (fun q hq => hq) ?_ (rdN (k_N_0))
  refine aft_1 ?_
  refine b_N_placeOf_5 (c_patternOf0 (d := d - 1) (A := A) hO (by omega)) (by omega) (fun q hq => hq) ?_ (rdN (k_N_0))
  refine aft_1 ?_
  refine b_N_placeOf_11 (fun z1 => by exfalso; replace z1 := mt (cveq (sI_toInt (n := 0) (by decide)) (show ((-1 : Int32)).toInt = -1 from by decide)).mpr z1; omega) (fun z1 => ?_)
  replace z1 := (cveq (sI_toInt (n := 0) (by decide)) (show ((-1 : Int32)).toInt = -1 from by decide)).mp (Decidable.not_not.mp z1)
  refine rt_i ?_ ?_ (b_N_placeOf_17 )
  · decide
  · rfl
theorem lo_placeOf {d : Nat} {A : Nat → Prop} {g : ah_H} {b : Nat} {D : rg_D} (hO : ∀ f j, D f j < 2 ^ 30) {i w p : Nat} (hb : D 1 0 ≤ 8) (hi : i < D 1 0) (hn : D 0 0 ≤ 3) (hw : w < D 0 0) (hp : ∀ w, D 8 w ≤ 4) (hs : D 10 i < 4) (hd : 3 ≤ d) (he : D 29 i = w + 1) (hq : pa D w = p + 1) (hp4 : p < 4) (hc : D 17 (4 * w + p) ≤ 4) {h0 : ah_H} : ∀ (k o s : Nat), o + k = i → s = bef D i w o → s ≤ o → ah_At mt_N_placeOf d A h0 (.returned (some (.int (nI (pbf D w p (D 10 i) (bef D i w i) (D 17 (4 * w + p)) 0 0) - 1)))) (rg LTc g b D) 39 [(0, .ref (b + 59)), (1, .int (nI i)), (2, .int (nI w)), (3, .int (nI p)), (4, .int (nI (D 10 i))), (5, .int (nI s)), (6, .int (nI o))] [] (rg LTc g b D)
  | 0, o, s, hk, hs2, hso => by
    refine b_N_placeOf_39 (fun z1 => ?_) (fun z1 => by exfalso; replace z1 := mt (cvle (nI_toInt (n := i) (by omega)) (nI_toInt (n := o) (by omega))).mpr z1; omega)
    replace z1 := (cvle (nI_toInt (n := i) (by omega)) (nI_toInt (n := o) (by omega))).mp z1
    refine b_N_placeOf_83 (rdR (k_N_0)) (rdR (k_T_0)) (ah_ix_nI (by omega)) (rdR (k_Gs _ (by omega))) (rdR (k_G_0 _ (by omega))) (ah_ix_nI (by omega)) (rdR (k_Ps _ (by omega) _ (by omega))) (c_placeBehind (d := d - 1) (A := A) hO (by omega) hp4 hs (by omega) hc) (by omega) (fun q hq => hq) ?_ (rdN (k_P_0 _ (by omega) _ (by omega)))
    refine aft_1 ?_
    refine rt_i ?_ ?_ (b_N_placeOf_104 )
    · rw [hs2, show o = i by omega]
    · rfl
  | k + 1, o, s, hk, hs2, hso => by
    refine b_N_placeOf_39 (fun z1 => by exfalso; replace z1 := (cvle (nI_toInt (n := i) (by omega)) (nI_toInt (n := o) (by omega))).mp z1; omega) (fun z1 => ?_)
    replace z1 := mt (cvle (nI_toInt (n := i) (by omega)) (nI_toInt (n := o) (by omega))).mpr z1
    refine b_N_placeOf_45 (rdR (k_N_6)) (ah_ix_nI (by omega)) (rdS (k_NE _ (by omega)) rfl) (fun z2 => ?_) (fun z2 => ?_)
    · replace z2 := mt (cveq (sI_toInt (n := D 29 o) (by have := hO 29 o; omega)) (nI_toInt (n := w) (by omega))).mpr z2
      refine b_N_placeOf_77 ?_
      rw [show ((nI o) + 1 : Int32) = nI (o + 1) from (ad_n rfl rfl)]
      exact lo_placeOf hO hb hi hn hw hp hs hd he hq hp4 hc k (o + 1) _ (by omega) (by unfold bef at *; simp only [sm]; rw [← hs2]; split <;> omega) (by omega)
    · replace z2 := (cveq (sI_toInt (n := D 29 o) (by have := hO 29 o; omega)) (nI_toInt (n := w) (by omega))).mp (Decidable.not_not.mp z2)
      refine b_N_placeOf_56 (rdR (k_N_0)) (rdR (k_T_2)) (ah_ix_nI (by omega)) (rdR (k_Bs _ (by omega))) (rdI (k_B_0 _ (by omega)) rfl) (fun z3 => ?_) (fun z3 => ?_)
      · replace z3 := mt (cveq (nI_toInt (n := D 10 o) (by have := hO 10 o; omega)) (nI_toInt (n := D 10 i) (by have := hO 10 i; omega))).mpr z3
        refine b_N_placeOf_77 ?_
        rw [show ((nI o) + 1 : Int32) = nI (o + 1) from (ad_n rfl rfl)]
        exact lo_placeOf hO hb hi hn hw hp hs hd he hq hp4 hc k (o + 1) _ (by omega) (by unfold bef at *; simp only [sm]; rw [← hs2]; split <;> omega) (by omega)
      · replace z3 := (cveq (nI_toInt (n := D 10 o) (by have := hO 10 o; omega)) (nI_toInt (n := D 10 i) (by have := hO 10 i; omega))).mp (Decidable.not_not.mp z3)
        refine b_N_placeOf_74 ?_
        rw [show ((nI s) + 1 : Int32) = nI (s + 1) from (ad_n rfl rfl)]
        refine b_N_placeOf_77 ?_
        rw [show ((nI o) + 1 : Int32) = nI (o + 1) from (ad_n rfl rfl)]
        exact lo_placeOf hO hb hi hn hw hp hs hd he hq hp4 hc k (o + 1) _ (by omega) (by unfold bef at *; simp only [sm]; rw [← hs2]; split <;> omega) (by omega)
theorem c_placeOf {d : Nat} {A : Nat → Prop} {g : ah_H} {b : Nat} {D : rg_D} (hO : ∀ f j, D f j < 2 ^ 30) {i w p : Nat} (hb : D 1 0 ≤ 8) (hi : i < D 1 0) (hn : D 0 0 ≤ 3) (hw : w < D 0 0) (hp : ∀ w, D 8 w ≤ 4) (hs : D 10 i < 4) (hd : 3 ≤ d) (he : D 29 i = w + 1) (hq : pa D w = p + 1) (hp4 : p < 4) (hc : D 17 (4 * w + p) ≤ 4) : ah_Ev mt_N_placeOf d A [.ref (b + 59), .int (nI i)] (rg LTc g b D) (.returned (some (.int (nI (pbf D w p (D 10 i) (bef D i w i) (D 17 (4 * w + p)) 0 0) - 1)))) (rg LTc g b D) := by
  refine ah_Ev.of (by decide +kernel) (Nat.le_of_ble_eq_true rfl) ?_
  show ah_At mt_N_placeOf d A (rg LTc g b D) (.returned (some (.int (nI (pbf D w p (D 10 i) (bef D i w i) (D 17 (4 * w + p)) 0 0) - 1)))) (rg LTc g b D) 0 [(0, .ref (b + 59)), (1, .int (nI i))] [] (rg LTc g b D)
  refine b_N_placeOf_0 (c_wagonOf1 (d := d - 1) (A := A) hO hb hi (by omega) he) (by omega) (fun q hq => hq) ?_ (rdN (k_N_0))
  refine aft_1 ?_
  refine b_N_placeOf_5 (c_patternOf1 (d := d - 1) (A := A) hO hn hw hp (by omega) hq) (by omega) (fun q hq => hq) ?_ (rdN (k_N_0))
  refine aft_1 ?_
  refine b_N_placeOf_11 (fun z1 => ?_) (fun z1 => by exfalso; replace z1 := (cveq (nI_toInt (n := p) (by omega)) (show ((-1 : Int32)).toInt = -1 from by decide)).mp (Decidable.not_not.mp z1); omega)
  replace z1 := mt (cveq (nI_toInt (n := p) (by omega)) (show ((-1 : Int32)).toInt = -1 from by decide)).mpr z1
  refine b_N_placeOf_19 (rdR (k_N_0)) (rdR (k_T_2)) (ah_ix_nI (by omega)) (rdR (k_Bs _ (by omega))) (rdI (k_B_0 _ (by omega)) rfl) ?_
  exact lo_placeOf hO hb hi hn hw hp hs hd he hq hp4 hc _ 0 0 (Nat.zero_add _) rfl (by decide)
def clrs : Nat → Nat → rg_D → rg_D
  | 0, _, D => D
  | k + 1, l, D => clrs k (l + 1) (clr D l)
theorem lo_clearLoads {d : Nat} {A : Nat → Prop} {g : ah_H} {b : Nat} (hA : ∀ q, b ≤ q → q < b + 75 → A q) (hd : 2 ≤ d) {h0 : ah_H} : ∀ (k l : Nat) (D : rg_D), l + k = 3 → ah_At mt_N_clearLoads d A h0 (.returned none) (rg LTc g b (clrs k l D)) 2 [(0, .ref (b + 59)), (1, .int (nI l))] [] (rg LTc g b D)
  | 0, l, D, hk => by
    refine b_N_clearLoads_2 (fun z1 => ?_) (fun z1 => by exfalso; replace z1 := mt (cvle (show ((3 : Int32)).toInt = 3 from by decide) (nI_toInt (n := l) (by omega))).mpr z1; omega)
    replace z1 := (cvle (show ((3 : Int32)).toInt = 3 from by decide) (nI_toInt (n := l) (by omega))).mp z1
    refine rt_v ?_ (b_N_clearLoads_22 )
    · rfl
  | k + 1, l, D, hk => by
    refine b_N_clearLoads_2 (fun z1 => by exfalso; replace z1 := (cvle (show ((3 : Int32)).toInt = 3 from by decide) (nI_toInt (n := l) (by omega))).mp z1; omega) (fun z1 => ?_)
    replace z1 := mt (cvle (show ((3 : Int32)).toInt = 3 from by decide) (nI_toInt (n := l) (by omega))).mpr z1
    refine b_N_clearLoads_7 (rdR (k_N_1)) (ah_ix_nI (by omega)) (rdR (k_Ls _ (by omega))) (c_clear (d := d - 1) (A := A) hA (by omega) (by omega)) (by omega) (fun q hq => hq) ?_ (rdN (k_L_0 _ (by omega)))
    refine aft_0 ?_
    refine b_N_clearLoads_16 ?_
    rw [show ((nI l) + 1 : Int32) = nI (l + 1) from (ad_n rfl rfl)]
    exact lo_clearLoads hA hd k (l + 1) _ (by omega)
theorem c_clearLoads {d : Nat} {A : Nat → Prop} {g : ah_H} {b : Nat} (hA : ∀ q, b ≤ q → q < b + 75 → A q) {D : rg_D} (hd : 2 ≤ d) : ah_Ev mt_N_clearLoads d A [.ref (b + 59)] (rg LTc g b D) (.returned none) (rg LTc g b (clrs 3 0 D)) := by
  refine ah_Ev.of (by decide +kernel) (Nat.le_of_ble_eq_true rfl) ?_
  show ah_At mt_N_clearLoads d A (rg LTc g b D) (.returned none) (rg LTc g b (clrs 3 0 D)) 0 [(0, .ref (b + 59))] [] (rg LTc g b D)
  refine b_N_clearLoads_0 ?_
  exact lo_clearLoads hA hd 3 0 _ (by decide)
