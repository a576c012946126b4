/-! CONTRACTS of the model: loads. Printed out of wip/ -/
def pfP (E : rg_D) (w p a c e : Nat) : Prop := a ≤ cd 4 (E 9 (4 * w + p)) 1 ∧ c ≤ cd 4 (E 9 (4 * w + p)) 2 ∧ e ≤ cd 4 (E 9 (4 * w + p)) 3
noncomputable def pf (E : rg_D) (w a c e : Nat) : Nat := ff (fun p => pb (pfP E w p a c e)) (E 8 w) 0
theorem lo_patternFor {d : Nat} {A : Nat → Prop} {g : ah_H} {m : Nat} {E : rg_D} (hO : ∀ f j, E f j < 2 ^ 30) {w a c e : Nat} (hw : w < 3) (hp : E 8 w ≤ 4) (h9 : ∀ j, E 9 j < 10000) (ha : a < 100) (hc : c < 100) (he : e < 100) (hd : 1 ≤ d) {h0 : ah_H} : ∀ (k p : Nat), p + k = E 8 w → ah_At mt_M_patternFor d A h0 (.returned (some (.int (nI (ff (fun p => pb (pfP E w p a c e)) k p) - 1)))) (rg LTm g m E) 3 [(0, .ref m), (1, .int (nI w)), (2, .int (nI a)), (3, .int (nI c)), (4, .int (nI e)), (5, .int (nI p))] [] (rg LTm g m E)
  | 0, p, hk => by
    refine b_M_patternFor_3 (rdR (k_M_8)) (ah_ix_nI (by omega)) (rdI (k_M8 _ (by omega)) rfl) (fun z1 => ?_) (fun z1 => by exfalso; replace z1 := mt (cvle (nI_toInt (n := E 8 w) (by have := hO 8 w; omega)) (nI_toInt (n := p) (by omega))).mpr z1; omega)
    replace z1 := (cvle (nI_toInt (n := E 8 w) (by have := hO 8 w; omega)) (nI_toInt (n := p) (by omega))).mp z1
    refine b_M_patternFor_78 (rdR (k_M_8)) (ah_ix_nI (by omega)) (rdI (k_M8 _ (by omega)) rfl) (fun z2 => ?_) (fun z2 => by exfalso; replace z2 := mt (cvle (nI_toInt (n := E 8 w) (by have := hO 8 w; omega)) (nI_toInt (n := p) (by omega))).mpr z2; omega)
    replace z2 := (cvle (nI_toInt (n := E 8 w) (by have := hO 8 w; omega)) (nI_toInt (n := p) (by omega))).mp z2
    refine b_M_patternFor_94 ?_
    refine rt_i ?_ ?_ (b_M_patternFor_95 )
    · show (-1 : Int32) = nI 0 - 1; decide
    · rfl
  | k + 1, p, hk => by
    refine b_M_patternFor_3 (rdR (k_M_8)) (ah_ix_nI (by omega)) (rdI (k_M8 _ (by omega)) rfl) (fun z1 => by exfalso; replace z1 := (cvle (nI_toInt (n := E 8 w) (by have := hO 8 w; omega)) (nI_toInt (n := p) (by omega))).mp z1; omega) (fun z1 => ?_)
    replace z1 := mt (cvle (nI_toInt (n := E 8 w) (by have := hO 8 w; omega)) (nI_toInt (n := p) (by omega))).mpr z1
    refine b_M_patternFor_14 (rdR (k_M_9)) (ix_n (show ((4 * (nI w)) + (nI p) : Int32) = nI ((4 * w) + p) from (ad_n (mu_n rfl rfl) rfl)) (by omega)) (rdI (k_M9 _ (by omega)) rfl) (c_placesOf (d := d - 1) (A := A) (by decide) (h9 _)) (by omega) (fun q hq => hq) ?_
    refine aft_1 ?_
    have hcd1 := cd_le 4 (E 9 (4 * w + p)) 1
    refine b_M_patternFor_29 (fun z2 => ?_) (fun z2 => ?_)
    · replace z2 := (cvlt (nI_toInt (n := cd 4 (E 9 (4 * w + p)) 1) (by have := hO 9 (4 * w + p); omega)) (nI_toInt (n := a) (by omega))).mp z2
      refine b_M_patternFor_72 ?_
      rw [show ((nI p) + 1 : Int32) = nI (p + 1) from (ad_n rfl rfl)]
      rw [show ff (fun p => pb (pfP E w p a c e)) (k + 1) p = ff (fun p => pb (pfP E w p a c e)) k (p + 1) from by rw [ff, if_neg (by rw [pb_f (by unfold pfP; omega)]; decide)]]
      exact lo_patternFor hO hw hp h9 ha hc he hd k (p + 1) (by omega)
    · replace z2 := mt (cvlt (nI_toInt (n := cd 4 (E 9 (4 * w + p)) 1) (by have := hO 9 (4 * w + p); omega)) (nI_toInt (n := a) (by omega))).mpr z2
      refine b_M_patternFor_33 (rdR (k_M_9)) (ix_n (show ((4 * (nI w)) + (nI p) : Int32) = nI ((4 * w) + p) from (ad_n (mu_n rfl rfl) rfl)) (by omega)) (rdI (k_M9 _ (by omega)) rfl) (c_placesOf (d := d - 1) (A := A) (by decide) (h9 _)) (by omega) (fun q hq => hq) ?_
      refine aft_1 ?_
      have hcd2 := cd_le 4 (E 9 (4 * w + p)) 2
      refine b_M_patternFor_48 (fun z3 => ?_) (fun z3 => ?_)
      · replace z3 := (cvlt (nI_toInt (n := cd 4 (E 9 (4 * w + p)) 2) (by have := hO 9 (4 * w + p); omega)) (nI_toInt (n := c) (by omega))).mp z3
        refine b_M_patternFor_72 ?_
        rw [show ((nI p) + 1 : Int32) = nI (p + 1) from (ad_n rfl rfl)]
        rw [show ff (fun p => pb (pfP E w p a c e)) (k + 1) p = ff (fun p => pb (pfP E w p a c e)) k (p + 1) from by rw [ff, if_neg (by rw [pb_f (by unfold pfP; omega)]; decide)]]
        exact lo_patternFor hO hw hp h9 ha hc he hd k (p + 1) (by omega)
      · replace z3 := mt (cvlt (nI_toInt (n := cd 4 (E 9 (4 * w + p)) 2) (by have := hO 9 (4 * w + p); omega)) (nI_toInt (n := c) (by omega))).mpr z3
        refine b_M_patternFor_52 (rdR (k_M_9)) (ix_n (show ((4 * (nI w)) + (nI p) : Int32) = nI ((4 * w) + p) from (ad_n (mu_n rfl rfl) rfl)) (by omega)) (rdI (k_M9 _ (by omega)) rfl) (c_placesOf (d := d - 1) (A := A) (by decide) (h9 _)) (by omega) (fun q hq => hq) ?_
        refine aft_1 ?_
        have hcd3 := cd_le 4 (E 9 (4 * w + p)) 3
        refine b_M_patternFor_67 (fun z4 => ?_) (fun z4 => ?_)
        · replace z4 := (cvle (nI_toInt (n := e) (by omega)) (nI_toInt (n := cd 4 (E 9 (4 * w + p)) 3) (by have := hO 9 (4 * w + p); omega))).mp z4
          refine b_M_patternFor_78 (rdR (k_M_8)) (ah_ix_nI (by omega)) (rdI (k_M8 _ (by omega)) rfl) (fun z5 => by exfalso; replace z5 := (cvle (nI_toInt (n := E 8 w) (by have := hO 8 w; omega)) (nI_toInt (n := p) (by omega))).mp z5; omega) (fun z5 => ?_)
          replace z5 := mt (cvle (nI_toInt (n := E 8 w) (by have := hO 8 w; omega)) (nI_toInt (n := p) (by omega))).mpr z5
          refine b_M_patternFor_89 ?_
          refine rt_i ?_ ?_ (b_M_patternFor_95 )
          · rw [ff, if_pos (pb_t (by unfold pfP; omega)), nI_pred]
          · rfl
        · replace z4 := mt (cvle (nI_toInt (n := e) (by omega)) (nI_toInt (n := cd 4 (E 9 (4 * w + p)) 3) (by have := hO 9 (4 * w + p); omega))).mpr z4
          refine b_M_patternFor_72 ?_
          rw [show ((nI p) + 1 : Int32) = nI (p + 1) from (ad_n rfl rfl)]
          rw [show ff (fun p => pb (pfP E w p a c e)) (k + 1) p = ff (fun p => pb (pfP E w p a c e)) k (p + 1) from by rw [ff, if_neg (by rw [pb_f (by unfold pfP; omega)]; decide)]]
          exact lo_patternFor hO hw hp h9 ha hc he hd k (p + 1) (by omega)
theorem c_patternFor {d : Nat} {A : Nat → Prop} {g : ah_H} {m : Nat} {E : rg_D} (hO : ∀ f j, E f j < 2 ^ 30) {w a c e : Nat} (hw : w < 3) (hp : E 8 w ≤ 4) (h9 : ∀ j, E 9 j < 10000) (ha : a < 100) (hc : c < 100) (he : e < 100) (hd : 1 ≤ d) : ah_Ev mt_M_patternFor d A [.ref m, .int (nI w), .int (nI a), .int (nI c), .int (nI e)] (rg LTm g m E) (.returned (some (.int (nI (pf E w a c e) - 1)))) (rg LTm g m E) := by
  refine ah_Ev.of (by decide +kernel) (Nat.le_of_ble_eq_true rfl) ?_
  show ah_At mt_M_patternFor d A (rg LTm g m E) (.returned (some (.int (nI (pf E w a c e) - 1)))) (rg LTm g m E) 0 [(0, .ref m), (1, .int (nI w)), (2, .int (nI a)), (3, .int (nI c)), (4, .int (nI e))] [] (rg LTm g m E)
  refine b_M_patternFor_0 ?_
  exact lo_patternFor hO hw hp h9 ha hc he hd _ 0 (Nat.zero_add _)
def cof (E : rg_D) (f w s : Nat) (j : Nat) : Nat := if E f j = w + 1 ∧ (s = 0 ∨ E 10 j = s) then 1 else 0
def co (E : rg_D) (f w s : Nat) : Nat := sm (cof E f w s) (E 1 0)
theorem cof_le {E : rg_D} {f w s j : Nat} : cof E f w s j ≤ 1 := by unfold cof; split <;> omega
theorem co_le {E : rg_D} {f w s : Nat} (h : E 1 0 ≤ 8) : co E f w s ≤ 8 := by have := sm_le (f := cof E f w s) (fun j => cof_le) (E 1 0); unfold co; omega
theorem lo_countOf28 {d : Nat} {A : Nat → Prop} {g : ah_H} {m : Nat} {E : rg_D} (hO : ∀ f j, E f j < 2 ^ 30) {w s : Nat} (hw : w < 100) (hs : s < 4) (hb : E 1 0 ≤ 8) {h0 : ah_H} : ∀ (k j n : Nat), j + k = E 1 0 → n = sm (cof E 28 w s) j → n ≤ j → ah_At mt_M_countOf d A h0 (.returned (some (.int (nI (co E 28 w s))))) (rg LTm g m E) 6 [(0, .ref m), (1, .ref (m + 14)), (2, .int (nI w)), (3, .int (nI s)), (4, .int (nI n)), (5, .int (nI j))] [] (rg LTm g m E)
  | 0, j, n, hk, hn, hnj => by
    refine b_M_countOf_6 (rdI (k_M_2) rfl) (fun z1 => ?_) (fun z1 => by exfalso; replace z1 := mt (cvle (nI_toInt (n := E 1 0) (by have := hO 1 0; omega)) (nI_toInt (n := j) (by omega))).mpr z1; omega)
    replace z1 := (cvle (nI_toInt (n := E 1 0) (by have := hO 1 0; omega)) (nI_toInt (n := j) (by omega))).mp z1
    refine rt_i ?_ ?_ (b_M_countOf_56 )
    · rw [hn, show j = E 1 0 by omega]; rfl
    · rfl
  | k + 1, j, n, hk, hn, hnj => by
    refine b_M_countOf_6 (rdI (k_M_2) rfl) (fun z1 => by exfalso; replace z1 := (cvle (nI_toInt (n := E 1 0) (by have := hO 1 0; omega)) (nI_toInt (n := j) (by omega))).mp z1; omega) (fun z1 => ?_)
    replace z1 := mt (cvle (nI_toInt (n := E 1 0) (by have := hO 1 0; omega)) (nI_toInt (n := j) (by omega))).mpr z1
    refine b_M_countOf_15 (ah_ix_nI (by omega)) (rdI (k_M28 _ (by omega)) rfl) (fun z2 => ?_) (fun z2 => ?_)
    · replace z2 := mt (cveq (nI_toInt (n := E 28 j) (by have := hO 28 j; omega)) (tn_n (show ((nI w) + 1 : Int32) = nI (w + 1) from (ad_n rfl rfl)) (by omega))).mpr z2
      refine b_M_countOf_46 ?_
      refine b_M_countOf_47 ?_
      rw [show ((nI n) + 0 : Int32) = nI (n + 0) from (ad_n rfl rfl)]
      rw [show ((nI j) + 1 : Int32) = nI (j + 1) from (ad_n rfl rfl)]
      exact lo_countOf28 hO hw hs hb k (j + 1) _ (by omega) (by simp only [sm]; rw [← hn]; unfold cof; split <;> omega) (by omega)
    · replace z2 := (cveq (nI_toInt (n := E 28 j) (by have := hO 28 j; omega)) (tn_n (show ((nI w) + 1 : Int32) = nI (w + 1) from (ad_n rfl rfl)) (by omega))).mp (Decidable.not_not.mp z2)
      refine b_M_countOf_27 (fun z3 => ?_) (fun z3 => ?_)
      · replace z3 := (cveq (nI_toInt (n := s) (by omega)) (show ((0 : Int32)).toInt = 0 from by decide)).mp z3
        refine b_M_countOf_42 ?_
        refine b_M_countOf_47 ?_
        rw [show ((nI n) + 1 : Int32) = nI (n + 1) from (ad_n rfl rfl)]
        rw [show ((nI j) + 1 : Int32) = nI (j + 1) from (ad_n rfl rfl)]
        exact lo_countOf28 hO hw hs hb k (j + 1) _ (by omega) (by simp only [sm]; rw [← hn]; unfold cof; split <;> omega) (by omega)
      · replace z3 := mt (cveq (nI_toInt (n := s) (by omega)) (show ((0 : Int32)).toInt = 0 from by decide)).mpr z3
        refine b_M_countOf_31 (rdR (k_M_10)) (ah_ix_nI (by omega)) (rdI (k_M10 _ (by omega)) rfl) (fun z4 => ?_) (fun z4 => ?_)
        · replace z4 := mt (cveq (nI_toInt (n := E 10 j) (by have := hO 10 j; omega)) (nI_toInt (n := s) (by omega))).mpr z4
          refine b_M_countOf_46 ?_
          refine b_M_countOf_47 ?_
          rw [show ((nI n) + 0 : Int32) = nI (n + 0) from (ad_n rfl rfl)]
          rw [show ((nI j) + 1 : Int32) = nI (j + 1) from (ad_n rfl rfl)]
          exact lo_countOf28 hO hw hs hb k (j + 1) _ (by omega) (by simp only [sm]; rw [← hn]; unfold cof; split <;> omega) (by omega)
        · replace z4 := (cveq (nI_toInt (n := E 10 j) (by have := hO 10 j; omega)) (nI_toInt (n := s) (by omega))).mp (Decidable.not_not.mp z4)
          refine b_M_countOf_42 ?_
          refine b_M_countOf_47 ?_
          rw [show ((nI n) + 1 : Int32) = nI (n + 1) from (ad_n rfl rfl)]
          rw [show ((nI j) + 1 : Int32) = nI (j + 1) from (ad_n rfl rfl)]
          exact lo_countOf28 hO hw hs hb k (j + 1) _ (by omega) (by simp only [sm]; rw [← hn]; unfold cof; split <;> omega) (by omega)
theorem c_countOf28 {d : Nat} {A : Nat → Prop} {g : ah_H} {m : Nat} {E : rg_D} (hO : ∀ f j, E f j < 2 ^ 30) {w s : Nat} (hw : w < 100) (hs : s < 4) (hb : E 1 0 ≤ 8) : ah_Ev mt_M_countOf d A [.ref m, .ref (m + 14), .int (nI w), .int (nI s)] (rg LTm g m E) (.returned (some (.int (nI (co E 28 w s))))) (rg LTm g m E) := by
  refine ah_Ev.of (by decide +kernel) (Nat.le_of_ble_eq_true rfl) ?_
  show ah_At mt_M_countOf d A (rg LTm g m E) (.returned (some (.int (nI (co E 28 w s))))) (rg LTm g m E) 0 [(0, .ref m), (1, .ref (m + 14)), (2, .int (nI w)), (3, .int (nI s))] [] (rg LTm g m E)
  refine b_M_countOf_0 ?_
  exact lo_countOf28 hO hw hs hb _ 0 0 (Nat.zero_add _) rfl (by decide)
theorem lo_countOf29 {d : Nat} {A : Nat → Prop} {g : ah_H} {m : Nat} {E : rg_D} (hO : ∀ f j, E f j < 2 ^ 30) {w s : Nat} (hw : w < 100) (hs : s < 4) (hb : E 1 0 ≤ 8) {h0 : ah_H} : ∀ (k j n : Nat), j + k = E 1 0 → n = sm (cof E 29 w s) j → n ≤ j → ah_At mt_M_countOf d A h0 (.returned (some (.int (nI (co E 29 w s))))) (rg LTm g m E) 6 [(0, .ref m), (1, .ref (m + 15)), (2, .int (nI w)), (3, .int (nI s)), (4, .int (nI n)), (5, .int (nI j))] [] (rg LTm g m E)
  | 0, j, n, hk, hn, hnj => by
    refine b_M_countOf_6 (rdI (k_M_2) rfl) (fun z1 => ?_) (fun z1 => by exfalso; replace z1 := mt (cvle (nI_toInt (n := E 1 0) (by have := hO 1 0; omega)) (nI_toInt (n := j) (by omega))).mpr z1; omega)
    replace z1 := (cvle (nI_toInt (n := E 1 0) (by have := hO 1 0; omega)) (nI_toInt (n := j) (by omega))).mp z1
    refine rt_i ?_ ?_ (b_M_countOf_56 )
    · rw [hn, show j = E 1 0 by omega]; rfl
    · rfl
  | k + 1, j, n, hk, hn, hnj => by
    refine b_M_countOf_6 (rdI (k_M_2) rfl) (fun z1 => by exfalso; replace z1 := (cvle (nI_toInt (n := E 1 0) (by have := hO 1 0; omega)) (nI_toInt (n := j) (by omega))).mp z1; omega) (fun z1 => ?_)
    replace z1 := mt (cvle (nI_toInt (n := E 1 0) (by have := hO 1 0; omega)) (nI_toInt (n := j) (by omega))).mpr z1
    refine b_M_countOf_15 (ah_ix_nI (by omega)) (rdI (k_M29 _ (by omega)) rfl) (fun z2 => ?_) (fun z2 => ?_)
    · replace z2 := mt (cveq (nI_toInt (n := E 29 j) (by have := hO 29 j; omega)) (tn_n (show ((nI w) + 1 : Int32) = nI (w + 1) from (ad_n rfl rfl)) (by omega))).mpr z2
      refine b_M_countOf_46 ?_
      refine b_M_countOf_47 ?_
      rw [show ((nI n) + 0 : Int32) = nI (n + 0) from (ad_n rfl rfl)]
      rw [show ((nI j) + 1 : Int32) = nI (j + 1) from (ad_n rfl rfl)]
      exact lo_countOf29 hO hw hs hb k (j + 1) _ (by omega) (by simp only [sm]; rw [← hn]; unfold cof; split <;> omega) (by omega)
    · replace z2 := (cveq (nI_toInt (n := E 29 j) (by have := hO 29 j; omega)) (tn_n (show ((nI w) + 1 : Int32) = nI (w + 1) from (ad_n rfl rfl)) (by omega))).mp (Decidable.not_not.mp z2)
      refine b_M_countOf_27 (fun z3 => ?_) (fun z3 => ?_)
      · replace z3 := (cveq (nI_toInt (n := s) (by omega)) (show ((0 : Int32)).toInt = 0 from by decide)).mp z3
        refine b_M_countOf_42 ?_
        refine b_M_countOf_47 ?_
        rw [show ((nI n) + 1 : Int32) = nI (n + 1) from (ad_n rfl rfl)]
        rw [show ((nI j) + 1 : Int32) = nI (j + 1) from (ad_n rfl rfl)]
        exact lo_countOf29 hO hw hs hb k (j + 1) _ (by omega) (by simp only [sm]; rw [← hn]; unfold cof; split <;> omega) (by omega)
      · replace z3 := mt (cveq (nI_toInt (n := s) (by omega)) (show ((0 : Int32)).toInt = 0 from by decide)).mpr z3
        refine b_M_countOf_31 (rdR (k_M_10)) (ah_ix_nI (by omega)) (rdI (k_M10 _ (by omega)) rfl) (fun z4 => ?_) (fun z4 => ?_)
        · replace z4 := mt (cveq (nI_toInt (n := E 10 j) (by have := hO 10 j; omega)) (nI_toInt (n := s) (by omega))).mpr z4
          refine b_M_countOf_46 ?_
          refine b_M_countOf_47 ?_
          rw [show ((nI n) + 0 : Int32) = nI (n + 0) from (ad_n rfl rfl)]
          rw [show ((nI j) + 1 : Int32) = nI (j + 1) from (ad_n rfl rfl)]
          exact lo_countOf29 hO hw hs hb k (j + 1) _ (by omega) (by simp only [sm]; rw [← hn]; unfold cof; split <;> omega) (by omega)
        · replace z4 := (cveq (nI_toInt (n := E 10 j) (by have := hO 10 j; omega)) (nI_toInt (n := s) (by omega))).mp (Decidable.not_not.mp z4)
          refine b_M_countOf_42 ?_
          refine b_M_countOf_47 ?_
          rw [show ((nI n) + 1 : Int32) = nI (n + 1) from (ad_n rfl rfl)]
          rw [show ((nI j) + 1 : Int32) = nI (j + 1) from (ad_n rfl rfl)]
          exact lo_countOf29 hO hw hs hb k (j + 1) _ (by omega) (by simp only [sm]; rw [← hn]; unfold cof; split <;> omega) (by omega)
theorem c_countOf29 {d : Nat} {A : Nat → Prop} {g : ah_H} {m : Nat} {E : rg_D} (hO : ∀ f j, E f j < 2 ^ 30) {w s : Nat} (hw : w < 100) (hs : s < 4) (hb : E 1 0 ≤ 8) : ah_Ev mt_M_countOf d A [.ref m, .ref (m + 15), .int (nI w), .int (nI s)] (rg LTm g m E) (.returned (some (.int (nI (co E 29 w s))))) (rg LTm g m E) := by
  refine ah_Ev.of (by decide +kernel) (Nat.le_of_ble_eq_true rfl) ?_
  show ah_At mt_M_countOf d A (rg LTm g m E) (.returned (some (.int (nI (co E 29 w s))))) (rg LTm g m E) 0 [(0, .ref m), (1, .ref (m + 15)), (2, .int (nI w)), (3, .int (nI s))] [] (rg LTm g m E)
  refine b_M_countOf_0 ?_
  exact lo_countOf29 hO hw hs hb _ 0 0 (Nat.zero_add _) rfl (by decide)
def bm (c : Nat) : Nat := c * 1000000
theorem bm_s {c : Nat} : bm (c + 1) = bm c + 1000000 := Nat.succ_mul c 1000000
theorem bm_le {c : Nat} (h : c ≤ 8) : bm c ≤ 8000000 := Nat.mul_le_mul_right 1000000 h
def wsf (E : rg_D) (f w : Nat) (j : Nat) : Nat := if E f j = w + 1 then E 11 j else 0
def ws (E : rg_D) (f w : Nat) : Nat := sm (wsf E f w) (E 1 0)
def gdP (E : rg_D) (w : Nat) : Prop := co E 28 w 0 = 0 ∨ (E 7 w = 0 ∧ pf E w (co E 28 w 1) (co E 28 w 2) (co E 28 w 3) ≠ 0 ∧ (∀ j, j < E 1 0 → E 28 j = w + 1 → E 12 j ≤ E 6 w) ∧ ws E 28 w ≤ E 4 w)
theorem lo_isGood {d : Nat} {A : Nat → Prop} {g : ah_H} {m : Nat} {E : rg_D} (hO : ∀ f j, E f j < 2 ^ 30) {w : Nat} (hw : w < 3) (hb : E 1 0 ≤ 8) (h8 : ∀ w, E 8 w ≤ 4) (h9 : ∀ j, E 9 j < 10000) (h11 : ∀ j, E 11 j ≤ 1000000) (hd : 3 ≤ d) (hc0 : co E 28 w 0 ≠ 0) (ho : E 7 w = 0) (hpf : pf E w (co E 28 w 1) (co E 28 w 2) (co E 28 w 3) ≠ 0) {h0 : ah_H} : ∀ (k j s : Nat) (f : Bool), j + k = E 1 0 → s = sm (wsf E 28 w) j → s ≤ bm j → (f = true ↔ ∀ t, t < j → E 28 t = w + 1 → E 12 t ≤ E 6 w) → ah_At mt_M_isGood d A h0 (.returned (some (.int (bz (pb (gdP E w)))))) (rg LTm g m E) 72 [(0, .ref m), (1, .int (nI w)), (2, .long (lN s)), (4, .int (bz f)), (5, .int (nI j))] [] (rg LTm g m E)
  | 0, j, s, f, hk, hs, hsb, hf => by
    have hsb2 : s ≤ 8000000 := Nat.le_trans hsb (bm_le (by omega))
    refine b_M_isGood_72 (rdI (k_M_2) rfl) (fun z1 => ?_) (fun z1 => by exfalso; replace z1 := mt (cvle (nI_toInt (n := E 1 0) (by have := hO 1 0; omega)) (nI_toInt (n := j) (by omega))).mpr z1; omega)
    replace z1 := (cvle (nI_toInt (n := E 1 0) (by have := hO 1 0; omega)) (nI_toInt (n := j) (by omega))).mp z1
    refine b_M_isGood_155 (fun z2 => ?_) (fun z2 => ?_)
    · replace z2 := (bz0).mp z2
      refine b_M_isGood_175 ?_
      refine rt_i ?_ ?_ (b_M_isGood_176 (by decide +kernel))
      · refine bz_np ?_; rintro (q | ⟨q1, q2, q3, q4⟩); exact hc0 q; first | (have q5 := hf.mpr (fun t ht => q3 t (by omega)); rw [‹f = false›] at q5; cases q5; done) | (unfold ws at q4; rw [← show j = E 1 0 by omega, ← hs] at q4; omega)
      · rfl
    · replace z2 := mt (bz0).mpr z2
      refine b_M_isGood_160 (rdR (k_M_4)) (ah_ix_nI (by omega)) (rdL (k_M4 _ (by omega)) rfl) (fun z3 => ?_) (fun z3 => ?_)
      · replace z3 := (cLgt (lN_toInt (n := s) (by omega)) (lN_toInt (n := E 4 w) (by have := hO 4 w; omega))).mp z3
        refine b_M_isGood_175 ?_
        refine rt_i ?_ ?_ (b_M_isGood_176 (by decide +kernel))
        · refine bz_np ?_; rintro (q | ⟨q1, q2, q3, q4⟩); exact hc0 q; first | (have q5 := hf.mpr (fun t ht => q3 t (by omega)); rw [‹f = false›] at q5; cases q5; done) | (unfold ws at q4; rw [← show j = E 1 0 by omega, ← hs] at q4; omega)
        · rfl
      · replace z3 := mt (cLgt (lN_toInt (n := s) (by omega)) (lN_toInt (n := E 4 w) (by have := hO 4 w; omega))).mpr z3
        refine b_M_isGood_171 ?_
        refine rt_i ?_ ?_ (b_M_isGood_176 (by decide +kernel))
        · refine bz_p (Or.inr ⟨ho, hpf, fun t ht => hf.mp (by simpa using ‹¬ f = false›) t (by omega), by unfold ws; rw [← show j = E 1 0 by omega, ← hs]; omega⟩)
        · rfl
  | k + 1, j, s, f, hk, hs, hsb, hf => by
    have hsb2 : s ≤ 8000000 := Nat.le_trans hsb (bm_le (by omega))
    have h11j := h11 j
    refine b_M_isGood_72 (rdI (k_M_2) rfl) (fun z1 => by exfalso; replace z1 := (cvle (nI_toInt (n := E 1 0) (by have := hO 1 0; omega)) (nI_toInt (n := j) (by omega))).mp z1; omega) (fun z1 => ?_)
    replace z1 := mt (cvle (nI_toInt (n := E 1 0) (by have := hO 1 0; omega)) (nI_toInt (n := j) (by omega))).mpr z1
    refine b_M_isGood_81 (rdR (k_M_18)) (ah_ix_nI (by omega)) (rdI (k_M28 _ (by omega)) rfl) (fun z2 => ?_) (fun z2 => ?_)
    · replace z2 := mt (cveq (nI_toInt (n := E 28 j) (by have := hO 28 j; omega)) (tn_n (show ((nI w) + 1 : Int32) = nI (w + 1) from (ad_n rfl rfl)) (by omega))).mpr z2
      refine b_M_isGood_105 ?_
      refine b_M_isGood_106 (fun z3 => ?_) (fun z3 => ?_)
      · replace z3 := (bz0).mp z3
        rw [show ((lN s) + 0 : Int64) = lN (s + 0) from (ad_l rfl rfl)]
        refine b_M_isGood_146 ?_
        refine b_M_isGood_147 ?_
        rw [show ((nI j) + 1 : Int32) = nI (j + 1) from (ad_n rfl rfl)]
        exact lo_isGood hO hw hb h8 h9 h11 hd hc0 ho hpf k (j + 1) _ false (by omega) (by simp only [sm]; rw [← hs]; unfold wsf; split <;> omega) (by rw [bm_s]; omega) ⟨fun q => (by cases q), fun q => (by exfalso; first | (have q2 := q j (by omega) (by omega); omega) | (have q2 := hf.mpr (fun t ht => q t (by omega)); simp_all))⟩
      · replace z3 := mt (bz0).mpr z3
        rw [show ((lN s) + 0 : Int64) = lN (s + 0) from (ad_l rfl rfl)]
        refine b_M_isGood_113 (rdR (k_M_18)) (ah_ix_nI (by omega)) (rdI (k_M28 _ (by omega)) rfl) (fun z4 => ?_) (fun z4 => ?_)
        · replace z4 := mt (cveq (nI_toInt (n := E 28 j) (by have := hO 28 j; omega)) (tn_n (show ((nI w) + 1 : Int32) = nI (w + 1) from (ad_n rfl rfl)) (by omega))).mpr z4
          refine b_M_isGood_142 ?_
          refine b_M_isGood_147 ?_
          rw [show ((nI j) + 1 : Int32) = nI (j + 1) from (ad_n rfl rfl)]
          exact lo_isGood hO hw hb h8 h9 h11 hd hc0 ho hpf k (j + 1) _ true (by omega) (by simp only [sm]; rw [← hs]; unfold wsf; split <;> omega) (by rw [bm_s]; omega) ⟨fun _ => lt_s (hf.mp (by simpa using ‹¬ f = false›)) (by omega), fun _ => rfl⟩
        · replace z4 := (cveq (nI_toInt (n := E 28 j) (by have := hO 28 j; omega)) (tn_n (show ((nI w) + 1 : Int32) = nI (w + 1) from (ad_n rfl rfl)) (by omega))).mp (Decidable.not_not.mp z4)
          refine b_M_isGood_126 (rdR (k_M_12)) (ah_ix_nI (by omega)) (rdI (k_M12 _ (by omega)) rfl) (rdR (k_M_6)) (ah_ix_nI (by omega)) (rdI (k_M6 _ (by omega)) rfl) (fun z5 => ?_) (fun z5 => ?_)
          · replace z5 := (cvlt (nI_toInt (n := E 6 w) (by have := hO 6 w; omega)) (nI_toInt (n := E 12 j) (by have := hO 12 j; omega))).mp z5
            refine b_M_isGood_146 ?_
            refine b_M_isGood_147 ?_
            rw [show ((nI j) + 1 : Int32) = nI (j + 1) from (ad_n rfl rfl)]
            exact lo_isGood hO hw hb h8 h9 h11 hd hc0 ho hpf k (j + 1) _ false (by omega) (by simp only [sm]; rw [← hs]; unfold wsf; split <;> omega) (by rw [bm_s]; omega) ⟨fun q => (by cases q), fun q => (by exfalso; first | (have q2 := q j (by omega) (by omega); omega) | (have q2 := hf.mpr (fun t ht => q t (by omega)); simp_all))⟩
          · replace z5 := mt (cvlt (nI_toInt (n := E 6 w) (by have := hO 6 w; omega)) (nI_toInt (n := E 12 j) (by have := hO 12 j; omega))).mpr z5
            refine b_M_isGood_142 ?_
            refine b_M_isGood_147 ?_
            rw [show ((nI j) + 1 : Int32) = nI (j + 1) from (ad_n rfl rfl)]
            exact lo_isGood hO hw hb h8 h9 h11 hd hc0 ho hpf k (j + 1) _ true (by omega) (by simp only [sm]; rw [← hs]; unfold wsf; split <;> omega) (by rw [bm_s]; omega) ⟨fun _ => lt_s (hf.mp (by simpa using ‹¬ f = false›)) (by omega), fun _ => rfl⟩
    · replace z2 := (cveq (nI_toInt (n := E 28 j) (by have := hO 28 j; omega)) (tn_n (show ((nI w) + 1 : Int32) = nI (w + 1) from (ad_n rfl rfl)) (by omega))).mp (Decidable.not_not.mp z2)
      refine b_M_isGood_95 (rdR (k_M_11)) (ah_ix_nI (by omega)) (rdL (k_M11 _ (by omega)) rfl) ?_
      refine b_M_isGood_106 (fun z6 => ?_) (fun z6 => ?_)
      · replace z6 := (bz0).mp z6
        rw [show ((lN s) + (lN (E 11 j)) : Int64) = lN (s + (E 11 j)) from (ad_l rfl rfl)]
        refine b_M_isGood_146 ?_
        refine b_M_isGood_147 ?_
        rw [show ((nI j) + 1 : Int32) = nI (j + 1) from (ad_n rfl rfl)]
        exact lo_isGood hO hw hb h8 h9 h11 hd hc0 ho hpf k (j + 1) _ false (by omega) (by simp only [sm]; rw [← hs]; unfold wsf; split <;> omega) (by rw [bm_s]; omega) ⟨fun q => (by cases q), fun q => (by exfalso; first | (have q2 := q j (by omega) (by omega); omega) | (have q2 := hf.mpr (fun t ht => q t (by omega)); simp_all))⟩
      · replace z6 := mt (bz0).mpr z6
        rw [show ((lN s) + (lN (E 11 j)) : Int64) = lN (s + (E 11 j)) from (ad_l rfl rfl)]
        refine b_M_isGood_113 (rdR (k_M_18)) (ah_ix_nI (by omega)) (rdI (k_M28 _ (by omega)) rfl) (fun z7 => ?_) (fun z7 => ?_)
        · replace z7 := mt (cveq (nI_toInt (n := E 28 j) (by have := hO 28 j; omega)) (tn_n (show ((nI w) + 1 : Int32) = nI (w + 1) from (ad_n rfl rfl)) (by omega))).mpr z7
          refine b_M_isGood_142 ?_
          refine b_M_isGood_147 ?_
          rw [show ((nI j) + 1 : Int32) = nI (j + 1) from (ad_n rfl rfl)]
          exact lo_isGood hO hw hb h8 h9 h11 hd hc0 ho hpf k (j + 1) _ true (by omega) (by simp only [sm]; rw [← hs]; unfold wsf; split <;> omega) (by rw [bm_s]; omega) ⟨fun _ => lt_s (hf.mp (by simpa using ‹¬ f = false›)) (by omega), fun _ => rfl⟩
        · replace z7 := (cveq (nI_toInt (n := E 28 j) (by have := hO 28 j; omega)) (tn_n (show ((nI w) + 1 : Int32) = nI (w + 1) from (ad_n rfl rfl)) (by omega))).mp (Decidable.not_not.mp z7)
          refine b_M_isGood_126 (rdR (k_M_12)) (ah_ix_nI (by omega)) (rdI (k_M12 _ (by omega)) rfl) (rdR (k_M_6)) (ah_ix_nI (by omega)) (rdI (k_M6 _ (by omega)) rfl) (fun z8 => ?_) (fun z8 => ?_)
          · replace z8 := (cvlt (nI_toInt (n := E 6 w) (by have := hO 6 w; omega)) (nI_toInt (n := E 12 j) (by have := hO 12 j; omega))).mp z8
            refine b_M_isGood_146 ?_
            refine b_M_isGood_147 ?_
            rw [show ((nI j) + 1 : Int32) = nI (j + 1) from (ad_n rfl rfl)]
            exact lo_isGood hO hw hb h8 h9 h11 hd hc0 ho hpf k (j + 1) _ false (by omega) (by simp only [sm]; rw [← hs]; unfold wsf; split <;> omega) (by rw [bm_s]; omega) ⟨fun q => (by cases q), fun q => (by exfalso; first | (have q2 := q j (by omega) (by omega); omega) | (have q2 := hf.mpr (fun t ht => q t (by omega)); simp_all))⟩
          · replace z8 := mt (cvlt (nI_toInt (n := E 6 w) (by have := hO 6 w; omega)) (nI_toInt (n := E 12 j) (by have := hO 12 j; omega))).mpr z8
            refine b_M_isGood_142 ?_
            refine b_M_isGood_147 ?_
            rw [show ((nI j) + 1 : Int32) = nI (j + 1) from (ad_n rfl rfl)]
            exact lo_isGood hO hw hb h8 h9 h11 hd hc0 ho hpf k (j + 1) _ true (by omega) (by simp only [sm]; rw [← hs]; unfold wsf; split <;> omega) (by rw [bm_s]; omega) ⟨fun _ => lt_s (hf.mp (by simpa using ‹¬ f = false›)) (by omega), fun _ => rfl⟩
theorem c_isGood {d : Nat} {A : Nat → Prop} {g : ah_H} {m : Nat} {E : rg_D} (hO : ∀ f j, E f j < 2 ^ 30) {w : Nat} (hw : w < 3) (hb : E 1 0 ≤ 8) (h8 : ∀ w, E 8 w ≤ 4) (h9 : ∀ j, E 9 j < 10000) (h11 : ∀ j, E 11 j ≤ 1000000) (hd : 3 ≤ d) : ah_Ev mt_M_isGood d A [.ref m, .int (nI w)] (rg LTm g m E) (.returned (some (.int (bz (pb (gdP E w)))))) (rg LTm g m E) := by
  refine ah_Ev.of (by decide +kernel) (Nat.le_of_ble_eq_true rfl) ?_
  show ah_At mt_M_isGood d A (rg LTm g m E) (.returned (some (.int (bz (pb (gdP E w)))))) (rg LTm g m E) 0 [(0, .ref m), (1, .int (nI w))] [] (rg LTm g m E)
  refine b_M_isGood_0 (rdR (k_M_18)) (c_countOf28 (d := d - 1) (A := A) (w := w) (s := 0) hO (by omega) (by first | decide | omega) hb) (by omega) (fun q hq => hq) ?_ (rdN (k_M_0))
  refine aft_1 ?_
  have hco280 := co_le (f := 28) (w := w) (s := 0) hb
  refine b_M_isGood_10 (fun z1 => ?_) (fun z1 => ?_)
  · replace z1 := mt (cveq (nI_toInt (n := co E 28 w 0) (by have := hO 28 w; omega)) (show ((0 : Int32)).toInt = 0 from by decide)).mpr z1
    refine b_M_isGood_15 (rdR (k_M_7)) (ah_ix_nI (by omega)) (rdI (k_M7 _ (by omega)) rfl) (fun z2 => ?_) (fun z2 => ?_)
    · replace z2 := mt (cveq (nI_toInt (n := E 7 w) (by have := hO 7 w; omega)) (show ((0 : Int32)).toInt = 0 from by decide)).mpr z2
      refine rt_i ?_ ?_ (b_M_isGood_62 )
      · refine bz_np ?_; rintro (q | ⟨q1, q2, q3, q4⟩) <;> omega
      · rfl
    · replace z2 := (cveq (nI_toInt (n := E 7 w) (by have := hO 7 w; omega)) (show ((0 : Int32)).toInt = 0 from by decide)).mp (Decidable.not_not.mp z2)
      refine b_M_isGood_24 (rdR (k_M_18)) (c_countOf28 (d := d - 1) (A := A) (w := w) (s := 1) hO (by omega) (by first | decide | omega) hb) (by omega) (fun q hq => hq) ?_ (rdN (k_M_0))
      refine aft_1 ?_
      have hco281 := co_le (f := 28) (w := w) (s := 1) hb
      refine b_M_isGood_36 (rdR (k_M_18)) (c_countOf28 (d := d - 1) (A := A) (w := w) (s := 2) hO (by omega) (by first | decide | omega) hb) (by omega) (fun q hq => hq) ?_ (rdN (k_M_0))
      refine aft_1 ?_
      have hco282 := co_le (f := 28) (w := w) (s := 2) hb
      refine b_M_isGood_46 (rdR (k_M_18)) (c_countOf28 (d := d - 1) (A := A) (w := w) (s := 3) hO (by omega) (by first | decide | omega) hb) (by omega) (fun q hq => hq) ?_ (rdN (k_M_0))
      refine aft_1 ?_
      have hco283 := co_le (f := 28) (w := w) (s := 3) hb
      refine b_M_isGood_56 (c_patternFor (d := d - 1) (A := A) (w := w) (a := co E 28 w 1) (c := co E 28 w 2) (e := co E 28 w 3) hO (by omega) (h8 _) h9 (by omega) (by omega) (by omega) (by omega)) (by omega) (fun q hq => hq) ?_ (rdN (k_M_0))
      refine aft_1 ?_
      have hpf : pf E w (co E 28 w 1) (co E 28 w 2) (co E 28 w 3) ≤ 4 := by have := ff_le (p := fun p => pb (pfP E w p (co E 28 w 1) (co E 28 w 2) (co E 28 w 3))) (k := E 8 w) (i := 0); have := h8 w; unfold pf; omega
      refine b_M_isGood_59 (fun z3 => ?_) (fun z3 => ?_)
      · replace z3 := (cvle (show ((0 : Int32)).toInt = 0 from by decide) (sI_toInt (n := pf E w (co E 28 w 1) (co E 28 w 2) (co E 28 w 3)) (by have := hO 28 w; omega))).mp z3
        refine b_M_isGood_64 ?_
        exact lo_isGood hO hw hb h8 h9 h11 hd (by omega) (by omega) (by omega) _ 0 0 true (Nat.zero_add _) rfl (by decide) ⟨fun _ t ht => absurd ht (Nat.not_lt_zero _), fun _ => rfl⟩
      · replace z3 := mt (cvle (show ((0 : Int32)).toInt = 0 from by decide) (sI_toInt (n := pf E w (co E 28 w 1) (co E 28 w 2) (co E 28 w 3)) (by have := hO 28 w; omega))).mpr z3
        refine rt_i ?_ ?_ (b_M_isGood_62 )
        · refine bz_np ?_; rintro (q | ⟨q1, q2, q3, q4⟩) <;> omega
        · rfl
  · replace z1 := (cveq (nI_toInt (n := co E 28 w 0) (by have := hO 28 w; omega)) (show ((0 : Int32)).toInt = 0 from by decide)).mp (Decidable.not_not.mp z1)
    refine rt_i ?_ ?_ (b_M_isGood_13 )
    · refine bz_p (Or.inl (by omega))
    · rfl
