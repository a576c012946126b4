/-! CONTRACTS: readers of wagons, patterns, boxes. Printed out of wip/ -/
def rkf (D : rg_D) (i o : Nat) : Nat := if D 14 o < D 14 i ∨ (D 14 o = D 14 i ∧ o < i) then 1 else 0
def rk (D : rg_D) (i : Nat) : Nat := sm (rkf D i) (D 1 0)
theorem rkf_le {D : rg_D} {i j : Nat} : rkf D i j ≤ 1 := by unfold rkf; split <;> omega
theorem lo_rankOf {d : Nat} {A : Nat → Prop} {g : ah_H} {b : Nat} {D : rg_D} (hO : ∀ f j, D f j < 2 ^ 30) {i : Nat} (hi : i < 8) (hb : D 1 0 ≤ 8) {h0 : ah_H} : ∀ (k o s : Nat), o + k = D 1 0 → s = sm (rkf D i) o → ah_At mt_T_rankOf d A h0 (.returned (some (.int (nI (rk D i))))) (rg LTc g b D) 4 [(0, .ref (b + 1)), (1, .int (nI i)), (2, .int (nI s)), (3, .int (nI o))] [] (rg LTc g b D)
  | 0, o, s, hk, hs => by
    refine b_T_rankOf_4 (rdI (k_T_3) rfl) (fun z1 => ?_) (fun z1 => by exfalso; replace z1 := mt (cvle (nI_toInt (n := D 1 0) (by have := hO 1 0; omega)) (nI_toInt (n := o) (by omega))).mpr z1; omega)
    replace z1 := (cvle (nI_toInt (n := D 1 0) (by have := hO 1 0; omega)) (nI_toInt (n := o) (by omega))).mp z1
    refine rt_i ?_ ?_ (b_T_rankOf_61 )
    · rw [hs, show o = D 1 0 by omega]; rfl
    · rfl
  | k + 1, o, s, hk, hs => by
    refine b_T_rankOf_4 (rdI (k_T_3) rfl) (fun z1 => by exfalso; replace z1 := (cvle (nI_toInt (n := D 1 0) (by have := hO 1 0; omega)) (nI_toInt (n := o) (by omega))).mp z1; omega) (fun z1 => ?_)
    replace z1 := mt (cvle (nI_toInt (n := D 1 0) (by have := hO 1 0; omega)) (nI_toInt (n := o) (by omega))).mpr z1
    refine b_T_rankOf_12 (rdR (k_T_2)) (ah_ix_nI (by omega)) (rdR (k_Bs _ (by omega))) (rdL (k_B_4 _ (by omega)) rfl) (rdR (k_T_2)) (ah_ix_nI (by omega)) (rdR (k_Bs _ (by omega))) (rdL (k_B_4 _ (by omega)) rfl) (fun z2 => ?_) (fun z2 => ?_)
    · replace z2 := (cLgt (sbl_n (show (lN (D 14 i) : Int64) = lN (D 14 i) from rfl) (show (lN (D 14 o) : Int64) = lN (D 14 o) from rfl) (by have := hO 14 i; omega) (by have := hO 14 o; omega)) (show ((0 : Int64)).toInt = 0 from by decide)).mp z2
      refine b_T_rankOf_52 ?_
      rw [show ((nI s) + 1 : Int32) = nI (s + 1) from (ad_n rfl rfl)]
      refine b_T_rankOf_55 ?_
      rw [show ((nI o) + 1 : Int32) = nI (o + 1) from (ad_n rfl rfl)]
      exact lo_rankOf hO hi hb k (o + 1) _ (by omega) (by simp only [sm]; rw [← hs]; unfold rkf; split <;> omega)
    · replace z2 := mt (cLgt (sbl_n (show (lN (D 14 i) : Int64) = lN (D 14 i) from rfl) (show (lN (D 14 o) : Int64) = lN (D 14 o) from rfl) (by have := hO 14 i; omega) (by have := hO 14 o; omega)) (show ((0 : Int64)).toInt = 0 from by decide)).mpr z2
      refine b_T_rankOf_40 (fun z3 => ?_) (fun z3 => ?_)
      · replace z3 := mt (cLeq (sbl_n (show (lN (D 14 i) : Int64) = lN (D 14 i) from rfl) (show (lN (D 14 o) : Int64) = lN (D 14 o) from rfl) (by have := hO 14 i; omega) (by have := hO 14 o; omega)) (show ((0 : Int64)).toInt = 0 from by decide)).mpr z3
        refine b_T_rankOf_55 ?_
        rw [show ((nI o) + 1 : Int32) = nI (o + 1) from (ad_n rfl rfl)]
        exact lo_rankOf hO hi hb k (o + 1) _ (by omega) (by simp only [sm]; rw [← hs]; unfold rkf; split <;> omega)
      · replace z3 := (cLeq (sbl_n (show (lN (D 14 i) : Int64) = lN (D 14 i) from rfl) (show (lN (D 14 o) : Int64) = lN (D 14 o) from rfl) (by have := hO 14 i; omega) (by have := hO 14 o; omega)) (show ((0 : Int64)).toInt = 0 from by decide)).mp (Decidable.not_not.mp z3)
        refine b_T_rankOf_47 (fun z4 => ?_) (fun z4 => ?_)
        · replace z4 := (cvle (nI_toInt (n := i) (by omega)) (nI_toInt (n := o) (by omega))).mp z4
          refine b_T_rankOf_55 ?_
          rw [show ((nI o) + 1 : Int32) = nI (o + 1) from (ad_n rfl rfl)]
          exact lo_rankOf hO hi hb k (o + 1) _ (by omega) (by simp only [sm]; rw [← hs]; unfold rkf; split <;> omega)
        · replace z4 := mt (cvle (nI_toInt (n := i) (by omega)) (nI_toInt (n := o) (by omega))).mpr z4
          refine b_T_rankOf_52 ?_
          rw [show ((nI s) + 1 : Int32) = nI (s + 1) from (ad_n rfl rfl)]
          refine b_T_rankOf_55 ?_
          rw [show ((nI o) + 1 : Int32) = nI (o + 1) from (ad_n rfl rfl)]
          exact lo_rankOf hO hi hb k (o + 1) _ (by omega) (by simp only [sm]; rw [← hs]; unfold rkf; split <;> omega)
theorem c_rankOf {d : Nat} {A : Nat → Prop} {g : ah_H} {b : Nat} {D : rg_D} (hO : ∀ f j, D f j < 2 ^ 30) {i : Nat} (hi : i < 8) (hb : D 1 0 ≤ 8) : ah_Ev mt_T_rankOf d A [.ref (b + 1), .int (nI i)] (rg LTc g b D) (.returned (some (.int (nI (rk D i))))) (rg LTc g b D) := by
  refine ah_Ev.of (by decide +kernel) (Nat.le_of_ble_eq_true rfl) ?_
  show ah_At mt_T_rankOf d A (rg LTc g b D) (.returned (some (.int (nI (rk D i))))) (rg LTc g b D) 0 [(0, .ref (b + 1)), (1, .int (nI i))] [] (rg LTc g b D)
  refine b_T_rankOf_0 ?_
  exact lo_rankOf hO hi hb _ 0 0 (Nat.zero_add _) rfl
def hpP (D : rg_D) (w s : Nat) : Prop := ∃ p, p < D 8 w ∧ 0 < D 19 (16 * w + 4 * p + s)
theorem lo_hasPlaceFor {d : Nat} {A : Nat → Prop} {g : ah_H} {b : Nat} {D : rg_D} (hO : ∀ f j, D f j < 2 ^ 30) {w : Nat} (hw : w < 3) {s : Nat} (hs : s < 4) (hp : D 8 w ≤ 4) {h0 : ah_H} : ∀ (k p : Nat), p + k = D 8 w → (∀ q, q < p → ¬ (0 < D 19 (16 * w + 4 * q + s))) → ah_At mt_G_hasPlaceFor d A h0 (.returned (some (.int (bz (pb (hpP D w s)))))) (rg LTc g b D) 2 [(0, .ref (b + (9 + 14 * w))), (1, .int (nI s)), (2, .int (nI p))] [] (rg LTc g b D)
  | 0, p, hk, hI => by
    refine b_G_hasPlaceFor_2 (rdI (k_G_1 _ (by omega)) rfl) (fun z1 => ?_) (fun z1 => by exfalso; replace z1 := mt (cvle (nI_toInt (n := D 8 w) (by have := hO 8 w; omega)) (nI_toInt (n := p) (by omega))).mpr z1; omega)
    replace z1 := (cvle (nI_toInt (n := D 8 w) (by have := hO 8 w; omega)) (nI_toInt (n := p) (by omega))).mp z1
    refine rt_i ?_ ?_ (b_G_hasPlaceFor_32 )
    · refine bz_np ?_; rintro ⟨q, h1, h2⟩; exact hI q (by omega) h2
    · rfl
  | k + 1, p, hk, hI => by
    refine b_G_hasPlaceFor_2 (rdI (k_G_1 _ (by omega)) rfl) (fun z1 => by exfalso; replace z1 := (cvle (nI_toInt (n := D 8 w) (by have := hO 8 w; omega)) (nI_toInt (n := p) (by omega))).mp z1; omega) (fun z1 => ?_)
    replace z1 := mt (cvle (nI_toInt (n := D 8 w) (by have := hO 8 w; omega)) (nI_toInt (n := p) (by omega))).mpr z1
    refine b_G_hasPlaceFor_10 (rdR (k_G_0 _ (by omega))) (ah_ix_nI (by omega)) (rdR (k_Ps _ (by omega) _ (by omega))) (rdR (k_P_1 _ (by omega) _ (by omega))) (ah_ix_nI (by omega)) (rdI (k_PB _ (by omega) _ (by omega) _ (by omega)) rfl) (fun z2 => ?_) (fun z2 => ?_)
    · replace z2 := (cvle (nI_toInt (n := D 19 (16 * w + 4 * p + s)) (by have := hO 19 (16 * w + 4 * p + s); omega)) (show ((0 : Int32)).toInt = 0 from by decide)).mp z2
      refine b_G_hasPlaceFor_26 ?_
      rw [show ((nI p) + 1 : Int32) = nI (p + 1) from (ad_n rfl rfl)]
      exact lo_hasPlaceFor hO hw hs hp k (p + 1) (by omega) (lt_s hI (by omega))
    · replace z2 := mt (cvle (nI_toInt (n := D 19 (16 * w + 4 * p + s)) (by have := hO 19 (16 * w + 4 * p + s); omega)) (show ((0 : Int32)).toInt = 0 from by decide)).mpr z2
      refine rt_i ?_ ?_ (b_G_hasPlaceFor_24 )
      · refine bz_p ⟨p, by omega, by omega⟩
      · rfl
theorem c_hasPlaceFor {d : Nat} {A : Nat → Prop} {g : ah_H} {b : Nat} {D : rg_D} (hO : ∀ f j, D f j < 2 ^ 30) {w : Nat} (hw : w < 3) {s : Nat} (hs : s < 4) (hp : D 8 w ≤ 4) : ah_Ev mt_G_hasPlaceFor d A [.ref (b + (9 + 14 * w)), .int (nI s)] (rg LTc g b D) (.returned (some (.int (bz (pb (hpP D w s)))))) (rg LTc g b D) := by
  refine ah_Ev.of (by decide +kernel) (Nat.le_of_ble_eq_true rfl) ?_
  show ah_At mt_G_hasPlaceFor d A (rg LTc g b D) (.returned (some (.int (bz (pb (hpP D w s)))))) (rg LTc g b D) 0 [(0, .ref (b + (9 + 14 * w))), (1, .int (nI s))] [] (rg LTc g b D)
  refine b_G_hasPlaceFor_0 ?_
  exact lo_hasPlaceFor hO hw hs hp _ 0 (Nat.zero_add _) (fun q hq => absurd hq (Nat.not_lt_zero _))
def hoP (D : rg_D) (w p l m : Nat) : Prop := ∀ t, 1 ≤ t → t < 4 → D 23 (4 * l + t) + (if t = m then 1 else 0) ≤ D 19 (16 * w + 4 * p + t)
theorem lo_holds {d : Nat} {A : Nat → Prop} {g : ah_H} {b : Nat} {D : rg_D} (hO : ∀ f j, D f j < 2 ^ 30) {w : Nat} (hw : w < 3) {p l m : Nat} (hp : p < 4) (hl : l < 3) (hm : m < 4) {h0 : ah_H} : ∀ (k s : Nat), s + k = 4 → 1 ≤ s → (∀ t, 1 ≤ t → t < s → D 23 (4 * l + t) + (if t = m then 1 else 0) ≤ D 19 (16 * w + 4 * p + t)) → ah_At mt_P_holds d A h0 (.returned (some (.int (bz (pb (hoP D w p l m)))))) (rg LTc g b D) 2 [(0, .ref (b + (11 + 14 * w + 3 * p))), (1, .ref (b + (66 + 3 * l))), (2, .int (nI m)), (3, .int (nI s))] [] (rg LTc g b D)
  | 0, s, hk, h1s, hI => by
    refine b_P_holds_2 (fun z1 => ?_) (fun z1 => by exfalso; replace z1 := mt (cvlt (show ((3 : Int32)).toInt = 3 from by decide) (nI_toInt (n := s) (by omega))).mpr z1; omega)
    replace z1 := (cvlt (show ((3 : Int32)).toInt = 3 from by decide) (nI_toInt (n := s) (by omega))).mp z1
    refine rt_i ?_ ?_ (b_P_holds_45 )
    · refine bz_p ?_; intro t h1 h2; exact hI t h1 (by omega)
    · rfl
  | k + 1, s, hk, h1s, hI => by
    refine b_P_holds_2 (fun z1 => by exfalso; replace z1 := (cvlt (show ((3 : Int32)).toInt = 3 from by decide) (nI_toInt (n := s) (by omega))).mp z1; omega) (fun z1 => ?_)
    replace z1 := mt (cvlt (show ((3 : Int32)).toInt = 3 from by decide) (nI_toInt (n := s) (by omega))).mpr z1
    refine b_P_holds_7 (rdR (k_L_0 _ (by omega))) (ah_ix_nI (by omega)) (rdI (k_LA _ (by omega) _ (by omega)) rfl) (fun z2 => ?_) (fun z2 => ?_)
    · replace z2 := mt (cveq (nI_toInt (n := s) (by omega)) (nI_toInt (n := m) (by omega))).mpr z2
      refine b_P_holds_22 ?_
      refine b_P_holds_23 (rdR (k_P_1 _ (by omega) _ (by omega))) (ah_ix_nI (by omega)) (rdI (k_PB _ (by omega) _ (by omega) _ (by omega)) rfl) (fun z3 => ?_) (fun z3 => ?_)
      · replace z3 := (cvle (tn_n (show ((nI (D 23 (4 * l + s))) + 0 : Int32) = nI ((D 23 (4 * l + s)) + 0) from (ad_n rfl rfl)) (by have := hO 23 (4 * l + s); omega)) (nI_toInt (n := D 19 (16 * w + 4 * p + s)) (by have := hO 19 (16 * w + 4 * p + s); omega))).mp z3
        refine b_P_holds_39 ?_
        rw [show ((nI s) + 1 : Int32) = nI (s + 1) from (ad_n rfl rfl)]
        exact lo_holds hO hw hp hl hm k (s + 1) (by omega) (by omega) (fun t h1 h2 => by
          by_cases e : t = s
          · subst e
            split <;> omega
          · exact hI t h1 (by omega))
      · replace z3 := mt (cvle (tn_n (show ((nI (D 23 (4 * l + s))) + 0 : Int32) = nI ((D 23 (4 * l + s)) + 0) from (ad_n rfl rfl)) (by have := hO 23 (4 * l + s); omega)) (nI_toInt (n := D 19 (16 * w + 4 * p + s)) (by have := hO 19 (16 * w + 4 * p + s); omega))).mpr z3
        refine rt_i ?_ ?_ (b_P_holds_37 )
        · refine bz_np ?_; intro q; have := q s h1s (by omega); revert this; split <;> omega
        · rfl
    · replace z2 := (cveq (nI_toInt (n := s) (by omega)) (nI_toInt (n := m) (by omega))).mp (Decidable.not_not.mp z2)
      refine b_P_holds_18 ?_
      refine b_P_holds_23 (rdR (k_P_1 _ (by omega) _ (by omega))) (ah_ix_nI (by omega)) (rdI (k_PB _ (by omega) _ (by omega) _ (by omega)) rfl) (fun z4 => ?_) (fun z4 => ?_)
      · replace z4 := (cvle (tn_n (show ((nI (D 23 (4 * l + s))) + 1 : Int32) = nI ((D 23 (4 * l + s)) + 1) from (ad_n rfl rfl)) (by have := hO 23 (4 * l + s); omega)) (nI_toInt (n := D 19 (16 * w + 4 * p + s)) (by have := hO 19 (16 * w + 4 * p + s); omega))).mp z4
        refine b_P_holds_39 ?_
        rw [show ((nI s) + 1 : Int32) = nI (s + 1) from (ad_n rfl rfl)]
        exact lo_holds hO hw hp hl hm k (s + 1) (by omega) (by omega) (fun t h1 h2 => by
          by_cases e : t = s
          · subst e
            split <;> omega
          · exact hI t h1 (by omega))
      · replace z4 := mt (cvle (tn_n (show ((nI (D 23 (4 * l + s))) + 1 : Int32) = nI ((D 23 (4 * l + s)) + 1) from (ad_n rfl rfl)) (by have := hO 23 (4 * l + s); omega)) (nI_toInt (n := D 19 (16 * w + 4 * p + s)) (by have := hO 19 (16 * w + 4 * p + s); omega))).mpr z4
        refine rt_i ?_ ?_ (b_P_holds_37 )
        · refine bz_np ?_; intro q; have := q s h1s (by omega); revert this; split <;> omega
        · rfl
theorem c_holds {d : Nat} {A : Nat → Prop} {g : ah_H} {b : Nat} {D : rg_D} (hO : ∀ f j, D f j < 2 ^ 30) {w : Nat} (hw : w < 3) {p l m : Nat} (hp : p < 4) (hl : l < 3) (hm : m < 4) : ah_Ev mt_P_holds d A [.ref (b + (11 + 14 * w + 3 * p)), .ref (b + (66 + 3 * l)), .int (nI m)] (rg LTc g b D) (.returned (some (.int (bz (pb (hoP D w p l m)))))) (rg LTc g b D) := by
  refine ah_Ev.of (by decide +kernel) (Nat.le_of_ble_eq_true rfl) ?_
  show ah_At mt_P_holds d A (rg LTc g b D) (.returned (some (.int (bz (pb (hoP D w p l m)))))) (rg LTc g b D) 0 [(0, .ref (b + (11 + 14 * w + 3 * p))), (1, .ref (b + (66 + 3 * l))), (2, .int (nI m))] [] (rg LTc g b D)
  refine b_P_holds_0 ?_
  exact lo_holds hO hw hp hl hm 3 1 (by decide) (by decide) (fun t h1 h2 => by omega)
noncomputable def lp (D : rg_D) (w l m : Nat) : Nat := ff (fun p => pb (hoP D w p l m)) (D 8 w) 0
theorem lo_leastPattern {d : Nat} {A : Nat → Prop} {g : ah_H} {b : Nat} {D : rg_D} (hO : ∀ f j, D f j < 2 ^ 30) {w : Nat} (hw : w < 3) {l m : Nat} (hl : l < 3) (hm : m < 4) (hp : D 8 w ≤ 4) (hd : 1 ≤ d) {h0 : ah_H} : ∀ (k p : Nat), p + k = D 8 w → ah_At mt_G_leastPattern d A h0 (.returned (some (.int (nI (ff (fun p => pb (hoP D w p l m)) k p) - 1)))) (rg LTc g b D) 2 [(0, .ref (b + (9 + 14 * w))), (1, .ref (b + (66 + 3 * l))), (2, .int (nI m)), (3, .int (nI p))] [] (rg LTc g b D)
  | 0, p, hk => by
    refine b_G_leastPattern_2 (rdI (k_G_1 _ (by omega)) rfl) (fun z1 => ?_) (fun z1 => by exfalso; replace z1 := mt (cvle (nI_toInt (n := D 8 w) (by have := hO 8 w; omega)) (nI_toInt (n := p) (by omega))).mpr z1; omega)
    replace z1 := (cvle (nI_toInt (n := D 8 w) (by have := hO 8 w; omega)) (nI_toInt (n := p) (by omega))).mp z1
    refine rt_i ?_ ?_ (b_G_leastPattern_32 )
    · show (-1 : Int32) = nI 0 - 1; decide
    · rfl
  | k + 1, p, hk => by
    refine b_G_leastPattern_2 (rdI (k_G_1 _ (by omega)) rfl) (fun z1 => by exfalso; replace z1 := (cvle (nI_toInt (n := D 8 w) (by have := hO 8 w; omega)) (nI_toInt (n := p) (by omega))).mp z1; omega) (fun z1 => ?_)
    replace z1 := mt (cvle (nI_toInt (n := D 8 w) (by have := hO 8 w; omega)) (nI_toInt (n := p) (by omega))).mpr z1
    refine b_G_leastPattern_10 (rdR (k_G_0 _ (by omega))) (ah_ix_nI (by omega)) (rdR (k_Ps _ (by omega) _ (by omega))) (c_holds (d := d - 1) (A := A) hO (by omega) (by omega) (by omega) (by omega)) (by omega) (fun q hq => hq) ?_ (rdN (k_P_0 _ (by omega) _ (by omega)))
    refine aft_1 ?_
    refine b_G_leastPattern_21 (fun z2 => ?_) (fun z2 => ?_)
    · replace z2 := pz0.mp z2
      refine b_G_leastPattern_26 ?_
      rw [show ((nI p) + 1 : Int32) = nI (p + 1) from (ad_n rfl rfl)]
      rw [show ff (fun p => pb (hoP D w p l m)) (k + 1) p = ff (fun p => pb (hoP D w p l m)) k (p + 1) from by rw [ff, if_neg (by rw [pb_f z2]; decide)]]
      exact lo_leastPattern hO hw hl hm hp hd k (p + 1) (by omega)
    · replace z2 := pz1.mp z2
      refine rt_i ?_ ?_ (b_G_leastPattern_24 )
      · rw [ff, if_pos (pb_t z2), nI_pred]
      · rfl
theorem c_leastPattern {d : Nat} {A : Nat → Prop} {g : ah_H} {b : Nat} {D : rg_D} (hO : ∀ f j, D f j < 2 ^ 30) {w : Nat} (hw : w < 3) {l m : Nat} (hl : l < 3) (hm : m < 4) (hp : D 8 w ≤ 4) (hd : 1 ≤ d) : ah_Ev mt_G_leastPattern d A [.ref (b + (9 + 14 * w)), .ref (b + (66 + 3 * l)), .int (nI m)] (rg LTc g b D) (.returned (some (.int (nI (lp D w l m) - 1)))) (rg LTc g b D) := by
  refine ah_Ev.of (by decide +kernel) (Nat.le_of_ble_eq_true rfl) ?_
  show ah_At mt_G_leastPattern d A (rg LTc g b D) (.returned (some (.int (nI (lp D w l m) - 1)))) (rg LTc g b D) 0 [(0, .ref (b + (9 + 14 * w))), (1, .ref (b + (66 + 3 * l))), (2, .int (nI m))] [] (rg LTc g b D)
  refine b_G_leastPattern_0 ?_
  exact lo_leastPattern hO hw hl hm hp hd _ 0 (Nat.zero_add _)
noncomputable def rs (D : rg_D) (w i : Nat) : Nat := if pb (hpP D w (D 10 i)) then (if D 6 w < D 12 i then 2 else if D 4 w < D 11 i then 3 else 0) else 1
theorem rs_le {D : rg_D} {w i : Nat} : rs D w i ≤ 3 := by unfold rs; split; split; omega; split <;> omega; omega
theorem c_reasonG {d : Nat} {A : Nat → Prop} {g : ah_H} {b : Nat} {D : rg_D} (hO : ∀ f j, D f j < 2 ^ 30) {w : Nat} (hw : w < 3) {i : Nat} (hi : i < 8) (hs : D 10 i < 4) (hp : D 8 w ≤ 4) (hd : 1 ≤ d) : ah_Ev mt_G_reasonAgainst d A [.ref (b + (9 + 14 * w)), .ref (b + (51 + i))] (rg LTc g b D) (.returned (some (.int (nI (rs D w i))))) (rg LTc g b D) := by
  refine ah_Ev.of (by decide +kernel) (Nat.le_of_ble_eq_true rfl) ?_
  show ah_At mt_G_reasonAgainst d A (rg LTc g b D) (.returned (some (.int (nI (rs D w i))))) (rg LTc g b D) 0 [(0, .ref (b + (9 + 14 * w))), (1, .ref (b + (51 + i)))] [] (rg LTc g b D)
  refine b_G_reasonAgainst_0 (rdI (k_B_0 _ (by omega)) rfl) (c_hasPlaceFor (d := d - 1) (A := A) hO hw (by omega) hp) (by omega) (fun q hq => hq) ?_ (rdN (k_G_0 _ (by omega)))
  refine aft_1 ?_
  refine b_G_reasonAgainst_8 (fun z1 => ?_) (fun z1 => ?_)
  · replace z1 := pz1.mp z1
    refine b_G_reasonAgainst_13 (rdI (k_B_2 _ (by omega)) rfl) (rdI (k_G_5 _ (by omega)) rfl) (fun z2 => ?_) (fun z2 => ?_)
    · replace z2 := (cvle (nI_toInt (n := D 12 i) (by have := hO 12 i; omega)) (nI_toInt (n := D 6 w) (by have := hO 6 w; omega))).mp z2
      refine b_G_reasonAgainst_26 (rdL (k_B_1 _ (by omega)) rfl) (rdL (k_G_3 _ (by omega)) rfl) (fun z3 => ?_) (fun z3 => ?_)
      · replace z3 := (cLle (lN_toInt (n := D 11 i) (by have := hO 11 i; omega)) (lN_toInt (n := D 4 w) (by have := hO 4 w; omega))).mp z3
        refine b_G_reasonAgainst_42 ?_
        refine rt_i ?_ ?_ (b_G_reasonAgainst_43 )
        · show nI 0 = _; congr 1; unfold rs; rw [pb_t z1, if_pos rfl, if_neg (by omega), if_neg (by omega)]
        · rfl
      · replace z3 := mt (cLle (lN_toInt (n := D 11 i) (by have := hO 11 i; omega)) (lN_toInt (n := D 4 w) (by have := hO 4 w; omega))).mpr z3
        refine b_G_reasonAgainst_38 ?_
        refine rt_i ?_ ?_ (b_G_reasonAgainst_43 )
        · show nI 3 = _; congr 1; unfold rs; rw [pb_t z1, if_pos rfl, if_neg (by omega), if_pos (by omega)]
        · rfl
    · replace z2 := mt (cvle (nI_toInt (n := D 12 i) (by have := hO 12 i; omega)) (nI_toInt (n := D 6 w) (by have := hO 6 w; omega))).mpr z2
      refine rt_i ?_ ?_ (b_G_reasonAgainst_24 )
      · show nI 2 = _; congr 1; unfold rs; rw [pb_t z1, if_pos rfl, if_pos (by omega)]
      · rfl
  · replace z1 := pz0.mp (Decidable.not_not.mp z1)
    refine rt_i ?_ ?_ (b_G_reasonAgainst_11 )
    · show nI 1 = _; congr 1; unfold rs; rw [pb_f z1]; rfl
    · rfl
def mxf (f : Nat → Nat) : Nat → Nat
  | 0 => 0
  | n + 1 => max (mxf f n) (f n)
theorem mxf_le {f : Nat → Nat} {B : Nat} (h : ∀ j, f j ≤ B) : ∀ n, mxf f n ≤ B
  | 0 => Nat.zero_le _
  | n + 1 => Nat.max_le.mpr ⟨mxf_le h n, h n⟩
noncomputable def rsn (D : rg_D) (i : Nat) : Nat := if D 0 0 = 0 then 4 else if pb (∃ w, w < D 0 0 ∧ rs D w i = 0) then 0 else mxf (fun w => rs D w i) (D 0 0)
theorem lo_reasonT {d : Nat} {A : Nat → Prop} {g : ah_H} {b : Nat} {D : rg_D} (hO : ∀ f j, D f j < 2 ^ 30) {i : Nat} (hi : i < 8) (hs : D 10 i < 4) (hn : D 0 0 ≤ 3) (hp : ∀ w, D 8 w ≤ 4) (hd : 3 ≤ d) {h0 : ah_H} : ∀ (k w s : Nat), w + k = D 0 0 → s = (if D 0 0 = 0 then 4 else mxf (fun w => rs D w i) w) → s ≤ 4 → (∀ q, q < w → rs D q i ≠ 0) → ah_At mt_T_reasonAgainst d A h0 (.returned (some (.int (nI (rsn D i))))) (rg LTc g b D) 15 [(0, .ref (b + 1)), (1, .ref (b + (51 + i))), (2, .int (nI s)), (3, .int (nI w))] [] (rg LTc g b D)
  | 0, w, s, hk, hs2, h3, hI => by
    refine b_T_reasonAgainst_15 (rdI (k_T_1) rfl) (fun z1 => ?_) (fun z1 => by exfalso; replace z1 := mt (cvle (nI_toInt (n := D 0 0) (by have := hO 0 0; omega)) (nI_toInt (n := w) (by omega))).mpr z1; omega)
    replace z1 := (cvle (nI_toInt (n := D 0 0) (by have := hO 0 0; omega)) (nI_toInt (n := w) (by omega))).mp z1
    refine rt_i ?_ ?_ (b_T_reasonAgainst_55 )
    · congr 1; unfold rsn; rw [hs2]; split; rfl; rw [pb_f (by rintro ⟨q, h1, h2⟩; exact hI q (by omega) h2), if_neg (by decide), show w = D 0 0 by omega]
    · rfl
  | k + 1, w, s, hk, hs2, h3, hI => by
    refine b_T_reasonAgainst_15 (rdI (k_T_1) rfl) (fun z1 => by exfalso; replace z1 := (cvle (nI_toInt (n := D 0 0) (by have := hO 0 0; omega)) (nI_toInt (n := w) (by omega))).mp z1; omega) (fun z1 => ?_)
    replace z1 := mt (cvle (nI_toInt (n := D 0 0) (by have := hO 0 0; omega)) (nI_toInt (n := w) (by omega))).mpr z1
    refine b_T_reasonAgainst_23 (rdR (k_T_0)) (ah_ix_nI (by omega)) (rdR (k_Gs _ (by omega))) (c_reasonG (d := d - 1) (A := A) hO (by omega) hi hs (hp _) (by omega)) (by omega) (fun q hq => hq) ?_ (rdN (k_G_0 _ (by omega)))
    refine aft_1 ?_
    have hrs := rs_le (D := D) (w := w) (i := i)
    refine b_T_reasonAgainst_33 (fun z2 => ?_) (fun z2 => ?_)
    · replace z2 := mt (cveq (nI_toInt (n := rs D w i) (by omega)) (show ((0 : Int32)).toInt = 0 from by decide)).mpr z2
      refine b_T_reasonAgainst_42 (by omega) ?_
      rw [show (ah_max (nI s) (nI (rs D w i)) : Int32) = nI (max s (rs D w i)) from (mx_n rfl rfl (by omega) (by omega))]
      rw [show ((nI w) + 1 : Int32) = nI (w + 1) from (ad_n rfl rfl)]
      exact lo_reasonT hO hi hs hn hp hd k (w + 1) _ (by omega) (by rw [if_neg (by omega)] at hs2 ⊢; simp only [mxf]; rw [← hs2]) (by have := rs_le (D := D) (w := w) (i := i); omega) (lt_s hI (by omega))
    · replace z2 := (cveq (nI_toInt (n := rs D w i) (by omega)) (show ((0 : Int32)).toInt = 0 from by decide)).mp (Decidable.not_not.mp z2)
      refine rt_i ?_ ?_ (b_T_reasonAgainst_40 )
      · show nI 0 = _; congr 1; unfold rsn; rw [if_neg (by omega), pb_t ⟨w, by omega, by omega⟩]; rfl
      · rfl
theorem c_reasonT {d : Nat} {A : Nat → Prop} {g : ah_H} {b : Nat} {D : rg_D} (hO : ∀ f j, D f j < 2 ^ 30) {i : Nat} (hi : i < 8) (hs : D 10 i < 4) (hn : D 0 0 ≤ 3) (hp : ∀ w, D 8 w ≤ 4) (hd : 3 ≤ d) : ah_Ev mt_T_reasonAgainst d A [.ref (b + 1), .ref (b + (51 + i))] (rg LTc g b D) (.returned (some (.int (nI (rsn D i))))) (rg LTc g b D) := by
  refine ah_Ev.of (by decide +kernel) (Nat.le_of_ble_eq_true rfl) ?_
  show ah_At mt_T_reasonAgainst d A (rg LTc g b D) (.returned (some (.int (nI (rsn D i))))) (rg LTc g b D) 0 [(0, .ref (b + 1)), (1, .ref (b + (51 + i)))] [] (rg LTc g b D)
  refine b_T_reasonAgainst_0 (rdI (k_T_1) rfl) (fun z1 => ?_) (fun z1 => ?_)
  · replace z1 := mt (cveq (nI_toInt (n := D 0 0) (by have := hO 0 0; omega)) (show ((0 : Int32)).toInt = 0 from by decide)).mpr z1
    refine b_T_reasonAgainst_11 ?_
    refine b_T_reasonAgainst_12 ?_
    exact lo_reasonT hO hi hs hn hp hd _ 0 0 (Nat.zero_add _) (by rw [if_neg (by omega)]; rfl) (by decide) (fun q hq => absurd hq (Nat.not_lt_zero _))
  · replace z1 := (cveq (nI_toInt (n := D 0 0) (by have := hO 0 0; omega)) (show ((0 : Int32)).toInt = 0 from by decide)).mp (Decidable.not_not.mp z1)
    refine b_T_reasonAgainst_7 ?_
    refine b_T_reasonAgainst_12 ?_
    exact lo_reasonT hO hi hs hn hp hd _ 0 4 (Nat.zero_add _) (by rw [if_pos (by omega)]) (by decide) (fun q hq => absurd hq (Nat.not_lt_zero _))
