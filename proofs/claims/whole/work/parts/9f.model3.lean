/-! CONTRACTS of the model: the order of booking. Printed out of wip/ -/
def usf (E : rg_D) (j : Nat) : Nat := if 0 < E 28 j then lm (E 10 j) else 0
def us (E : rg_D) : Nat := sm (usf E) (E 1 0)
theorem usf_le {E : rg_D} {j : Nat} : usf E j ≤ 9 := by have := lm_le (E 10 j); unfold usf; split <;> omega
theorem lo_used {d : Nat} {A : Nat → Prop} {g : ah_H} {m : Nat} {E : rg_D} (hO : ∀ f j, E f j < 2 ^ 30) (hb : E 1 0 ≤ 8) (hd : 1 ≤ d) {h0 : ah_H} : ∀ (k j n : Nat), j + k = E 1 0 → n = sm (usf E) j → n ≤ 9 * j → ah_At mt_M_used d A h0 (.returned (some (.int (nI (us E))))) (rg LTm g m E) 4 [(0, .ref m), (1, .int (nI n)), (2, .int (nI j))] [] (rg LTm g m E)
  | 0, j, n, hk, hn, hnj => by
    refine b_M_used_4 (rdI (k_M_2) rfl) (fun z1 => ?_) (fun z1 => by exfalso; replace z1 := mt (cvle (nI_toInt (n := E 1 0) (by have := hO 1 0; omega)) (nI_toInt (n := j) (by omega))).mpr z1; omega)
    replace z1 := (cvle (nI_toInt (n := E 1 0) (by have := hO 1 0; omega)) (nI_toInt (n := j) (by omega))).mp z1
    refine rt_i ?_ ?_ (b_M_used_43 )
    · rw [hn, show j = E 1 0 by omega]; rfl
    · rfl
  | k + 1, j, n, hk, hn, hnj => by
    have hlm := lm_le (E 10 j)
    refine b_M_used_4 (rdI (k_M_2) rfl) (fun z1 => by exfalso; replace z1 := (cvle (nI_toInt (n := E 1 0) (by have := hO 1 0; omega)) (nI_toInt (n := j) (by omega))).mp z1; omega) (fun z1 => ?_)
    replace z1 := mt (cvle (nI_toInt (n := E 1 0) (by have := hO 1 0; omega)) (nI_toInt (n := j) (by omega))).mpr z1
    refine b_M_used_12 (rdR (k_M_18)) (ah_ix_nI (by omega)) (rdI (k_M28 _ (by omega)) rfl) (fun z2 => ?_) (fun z2 => ?_)
    · replace z2 := (cvle (nI_toInt (n := E 28 j) (by have := hO 28 j; omega)) (show ((0 : Int32)).toInt = 0 from by decide)).mp z2
      refine b_M_used_34 ?_
      refine b_M_used_35 ?_
      rw [show ((nI n) + 0 : Int32) = nI (n + 0) from (ad_n rfl rfl)]
      rw [show ((nI j) + 1 : Int32) = nI (j + 1) from (ad_n rfl rfl)]
      exact lo_used hO hb hd k (j + 1) _ (by omega) (by simp only [sm]; rw [← hn]; unfold usf; split <;> omega) (by have := lm_le (E 10 j); omega)
    · replace z2 := mt (cvle (nI_toInt (n := E 28 j) (by have := hO 28 j; omega)) (show ((0 : Int32)).toInt = 0 from by decide)).mpr z2
      refine b_M_used_22 (rdR (k_M_10)) (ah_ix_nI (by omega)) (rdI (k_M10 _ (by omega)) rfl) (c_lengthOf (d := d - 1) (A := A) (n := E 10 j) (by have := hO 10 j; omega)) (by omega) (fun q hq => hq) ?_
      refine aft_1 ?_
      refine b_M_used_31 ?_
      refine b_M_used_35 ?_
      rw [show ((nI n) + (nI (lm (E 10 j))) : Int32) = nI (n + (lm (E 10 j))) from (ad_n rfl rfl)]
      rw [show ((nI j) + 1 : Int32) = nI (j + 1) from (ad_n rfl rfl)]
      exact lo_used hO hb hd k (j + 1) _ (by omega) (by simp only [sm]; rw [← hn]; unfold usf; split <;> omega) (by have := lm_le (E 10 j); omega)
theorem c_used {d : Nat} {A : Nat → Prop} {g : ah_H} {m : Nat} {E : rg_D} (hO : ∀ f j, E f j < 2 ^ 30) (hb : E 1 0 ≤ 8) (hd : 1 ≤ d) : ah_Ev mt_M_used d A [.ref m] (rg LTm g m E) (.returned (some (.int (nI (us E))))) (rg LTm g m E) := by
  refine ah_Ev.of (by decide +kernel) (Nat.le_of_ble_eq_true rfl) ?_
  show ah_At mt_M_used d A (rg LTm g m E) (.returned (some (.int (nI (us E))))) (rg LTm g m E) 0 [(0, .ref m)] [] (rg LTm g m E)
  refine b_M_used_0 ?_
  exact lo_used hO hb hd _ 0 0 (Nat.zero_add _) rfl (by decide)
theorem lo_placeOfM {d : Nat} {A : Nat → Prop} {g : ah_H} {m : Nat} {E : rg_D} (hO : ∀ f j, E f j < 2 ^ 30) {i : Nat} (hi : i < 8) (hb : E 1 0 ≤ 8) {h0 : ah_H} : ∀ (k j n : Nat), j + k = E 1 0 → n = sm (rkf E i) j → n ≤ j → ah_At mt_M_placeOf d A h0 (.returned (some (.int (nI (rk E i))))) (rg LTm g m E) 4 [(0, .ref m), (1, .int (nI i)), (2, .int (nI n)), (3, .int (nI j))] [] (rg LTm g m E)
  | 0, j, n, hk, hn, hnj => by
    refine b_M_placeOf_4 (rdI (k_M_2) rfl) (fun z1 => ?_) (fun z1 => by exfalso; replace z1 := mt (cvle (nI_toInt (n := E 1 0) (by have := hO 1 0; omega)) (nI_toInt (n := j) (by omega))).mpr z1; omega)
    replace z1 := (cvle (nI_toInt (n := E 1 0) (by have := hO 1 0; omega)) (nI_toInt (n := j) (by omega))).mp z1
    refine rt_i ?_ ?_ (b_M_placeOf_63 )
    · rw [hn, show j = E 1 0 by omega]; rfl
    · rfl
  | k + 1, j, n, hk, hn, hnj => by
    refine b_M_placeOf_4 (rdI (k_M_2) rfl) (fun z1 => by exfalso; replace z1 := (cvle (nI_toInt (n := E 1 0) (by have := hO 1 0; omega)) (nI_toInt (n := j) (by omega))).mp z1; omega) (fun z1 => ?_)
    replace z1 := mt (cvle (nI_toInt (n := E 1 0) (by have := hO 1 0; omega)) (nI_toInt (n := j) (by omega))).mpr z1
    refine b_M_placeOf_12 (rdR (k_M_14)) (ah_ix_nI (by omega)) (rdL (k_M14 _ (by omega)) rfl) (rdR (k_M_14)) (ah_ix_nI (by omega)) (rdL (k_M14 _ (by omega)) rfl) (fun z2 => ?_) (fun z2 => ?_)
    · replace z2 := (cLlt (lN_toInt (n := E 14 j) (by have := hO 14 j; omega)) (lN_toInt (n := E 14 i) (by have := hO 14 i; omega))).mp z2
      refine b_M_placeOf_50 ?_
      refine b_M_placeOf_55 ?_
      rw [show ((nI n) + 1 : Int32) = nI (n + 1) from (ad_n rfl rfl)]
      rw [show ((nI j) + 1 : Int32) = nI (j + 1) from (ad_n rfl rfl)]
      exact lo_placeOfM hO hi hb k (j + 1) _ (by omega) (by simp only [sm]; rw [← hn]; unfold rkf; split <;> omega) (by omega)
    · replace z2 := mt (cLlt (lN_toInt (n := E 14 j) (by have := hO 14 j; omega)) (lN_toInt (n := E 14 i) (by have := hO 14 i; omega))).mpr z2
      refine b_M_placeOf_29 (rdR (k_M_14)) (ah_ix_nI (by omega)) (rdL (k_M14 _ (by omega)) rfl) (rdR (k_M_14)) (ah_ix_nI (by omega)) (rdL (k_M14 _ (by omega)) rfl) (fun z3 => ?_) (fun z3 => ?_)
      · replace z3 := mt (cLeq (lN_toInt (n := E 14 j) (by have := hO 14 j; omega)) (lN_toInt (n := E 14 i) (by have := hO 14 i; omega))).mpr z3
        refine b_M_placeOf_54 ?_
        refine b_M_placeOf_55 ?_
        rw [show ((nI n) + 0 : Int32) = nI (n + 0) from (ad_n rfl rfl)]
        rw [show ((nI j) + 1 : Int32) = nI (j + 1) from (ad_n rfl rfl)]
        exact lo_placeOfM hO hi hb k (j + 1) _ (by omega) (by simp only [sm]; rw [← hn]; unfold rkf; split <;> omega) (by omega)
      · replace z3 := (cLeq (lN_toInt (n := E 14 j) (by have := hO 14 j; omega)) (lN_toInt (n := E 14 i) (by have := hO 14 i; omega))).mp (Decidable.not_not.mp z3)
        refine b_M_placeOf_45 (fun z4 => ?_) (fun z4 => ?_)
        · replace z4 := (cvle (nI_toInt (n := i) (by omega)) (nI_toInt (n := j) (by omega))).mp z4
          refine b_M_placeOf_54 ?_
          refine b_M_placeOf_55 ?_
          rw [show ((nI n) + 0 : Int32) = nI (n + 0) from (ad_n rfl rfl)]
          rw [show ((nI j) + 1 : Int32) = nI (j + 1) from (ad_n rfl rfl)]
          exact lo_placeOfM hO hi hb k (j + 1) _ (by omega) (by simp only [sm]; rw [← hn]; unfold rkf; split <;> omega) (by omega)
        · replace z4 := mt (cvle (nI_toInt (n := i) (by omega)) (nI_toInt (n := j) (by omega))).mpr z4
          refine b_M_placeOf_50 ?_
          refine b_M_placeOf_55 ?_
          rw [show ((nI n) + 1 : Int32) = nI (n + 1) from (ad_n rfl rfl)]
          rw [show ((nI j) + 1 : Int32) = nI (j + 1) from (ad_n rfl rfl)]
          exact lo_placeOfM hO hi hb k (j + 1) _ (by omega) (by simp only [sm]; rw [← hn]; unfold rkf; split <;> omega) (by omega)
theorem c_placeOfM {d : Nat} {A : Nat → Prop} {g : ah_H} {m : Nat} {E : rg_D} (hO : ∀ f j, E f j < 2 ^ 30) {i : Nat} (hi : i < 8) (hb : E 1 0 ≤ 8) : ah_Ev mt_M_placeOf d A [.ref m, .int (nI i)] (rg LTm g m E) (.returned (some (.int (nI (rk E i))))) (rg LTm g m E) := by
  refine ah_Ev.of (by decide +kernel) (Nat.le_of_ble_eq_true rfl) ?_
  show ah_At mt_M_placeOf d A (rg LTm g m E) (.returned (some (.int (nI (rk E i))))) (rg LTm g m E) 0 [(0, .ref m), (1, .int (nI i))] [] (rg LTm g m E)
  refine b_M_placeOf_0 ?_
  exact lo_placeOfM hO hi hb _ 0 0 (Nat.zero_add _) rfl (by decide)
theorem lo_boxAt {d : Nat} {A : Nat → Prop} {g : ah_H} {m : Nat} {E : rg_D} (hO : ∀ f j, E f j < 2 ^ 30) {i r : Nat} (hb : E 1 0 ≤ 8) (hi : i < E 1 0) (hr : rk E i = r) (hu : ∀ q, q < i → rk E q ≠ r) (hd : 1 ≤ d) {h0 : ah_H} : ∀ (k q : Nat), q + k = i → ah_At mt_M_boxAt d A h0 (.returned (some (.int (nI i)))) (rg LTm g m E) 2 [(0, .ref m), (1, .int (nI r)), (2, .int (nI q))] [] (rg LTm g m E)
  | 0, q, hk => by
    have hq : rk E q = r := by rw [show q = i by omega]; exact hr
    have hrl := rk_lt (D := E) (i := i) hi
    refine b_M_boxAt_2 (c_placeOfM (d := d - 1) (A := A) hO (by omega) hb) (by omega) (fun q hq => hq) ?_ (rdN (k_M_0))
    refine aft_1 ?_
    have hrk := rk_lt (D := E) (i := q) (by omega)
    refine b_M_boxAt_7 (fun z1 => ?_) (fun z1 => by exfalso; replace z1 := mt (cveq (nI_toInt (n := rk E q) (by omega)) (nI_toInt (n := r) (by omega))).mpr z1; omega)
    replace z1 := (cveq (nI_toInt (n := rk E q) (by omega)) (nI_toInt (n := r) (by omega))).mp z1
    refine rt_i ?_ ?_ (b_M_boxAt_17 )
    · rw [show q = i by omega]
    · rfl
  | k + 1, q, hk => by
    have hq := hu q (by omega)
    have hrl := rk_lt (D := E) (i := i) hi
    refine b_M_boxAt_2 (c_placeOfM (d := d - 1) (A := A) hO (by omega) hb) (by omega) (fun q hq => hq) ?_ (rdN (k_M_0))
    refine aft_1 ?_
    have hrk := rk_lt (D := E) (i := q) (by omega)
    refine b_M_boxAt_7 (fun z1 => by exfalso; replace z1 := (cveq (nI_toInt (n := rk E q) (by omega)) (nI_toInt (n := r) (by omega))).mp z1; omega) (fun z1 => ?_)
    replace z1 := mt (cveq (nI_toInt (n := rk E q) (by omega)) (nI_toInt (n := r) (by omega))).mpr z1
    refine b_M_boxAt_11 ?_
    rw [show ((nI q) + 1 : Int32) = nI (q + 1) from (ad_n rfl rfl)]
    exact lo_boxAt hO hb hi hr hu hd k (q + 1) (by omega)
theorem c_boxAt {d : Nat} {A : Nat → Prop} {g : ah_H} {m : Nat} {E : rg_D} (hO : ∀ f j, E f j < 2 ^ 30) {i r : Nat} (hb : E 1 0 ≤ 8) (hi : i < E 1 0) (hr : rk E i = r) (hu : ∀ q, q < i → rk E q ≠ r) (hd : 1 ≤ d) : ah_Ev mt_M_boxAt d A [.ref m, .int (nI r)] (rg LTm g m E) (.returned (some (.int (nI i)))) (rg LTm g m E) := by
  refine ah_Ev.of (by decide +kernel) (Nat.le_of_ble_eq_true rfl) ?_
  show ah_At mt_M_boxAt d A (rg LTm g m E) (.returned (some (.int (nI i)))) (rg LTm g m E) 0 [(0, .ref m), (1, .int (nI r))] [] (rg LTm g m E)
  refine b_M_boxAt_0 ?_
  exact lo_boxAt hO hb hi hr hu hd i 0 (Nat.zero_add _)
def HB (E : rg_D) (B : Nat → Nat) : Prop := ∀ r, r < E 1 0 → B r < E 1 0 ∧ rk E (B r) = r ∧ ∀ q, q < E 1 0 → rk E q = r → q = B r
def ahP (E : rg_D) (B : Nat → Nat) : Prop := (∃ r, r < E 1 0 ∧ (∀ t, t < r → (0 < E 28 (B t) ↔ 0 < E 29 (B t))) ∧ 0 < E 28 (B r) ∧ ¬ 0 < E 29 (B r)) ∨ ((∀ t, t < E 1 0 → (0 < E 28 (B t) ↔ 0 < E 29 (B t))) ∧ ∃ j, j < E 1 0 ∧ (∀ t, t < j → E 28 t = E 29 t) ∧ E 28 j < E 29 j)
theorem ah_n1 {E : rg_D} {B : Nat → Nat} {r : Nat} (hr : r < E 1 0) (hI : ∀ t, t < r → (0 < E 28 (B t) ↔ 0 < E 29 (B t))) (h1 : ¬ 0 < E 28 (B r)) (h2 : 0 < E 29 (B r)) : ¬ ahP E B := by
  rintro (⟨x, q1, q2, q3, q4⟩ | ⟨q1, -⟩)
  · by_cases e1 : x < r
    · exact q4 ((hI x e1).mp q3)
    · by_cases e2 : x = r
      · subst e2; exact h1 q3
      · exact h1 ((q2 r (by omega)).mpr h2)
  · exact h1 ((q1 r hr).mpr h2)
theorem ah_n2 {E : rg_D} {B : Nat → Nat} (hI : ∀ t, t < E 1 0 → (0 < E 28 (B t) ↔ 0 < E 29 (B t))) {j : Nat} (hJ : ∀ t, t < j → E 28 t = E 29 t) (h1 : j = E 1 0 ∨ E 29 j < E 28 j) : ¬ ahP E B := by
  rintro (⟨x, q1, q2, q3, q4⟩ | ⟨q1, y, q2, q3, q4⟩)
  · exact q4 ((hI x q1).mp q3)
  · by_cases e1 : y < j
    · have := hJ y e1; omega
    · by_cases e2 : y = j
      · subst e2; omega
      · have := q3 j (by omega); omega
theorem lo_ahead2 {d : Nat} {A : Nat → Prop} {g : ah_H} {m : Nat} {E : rg_D} (hO : ∀ f j, E f j < 2 ^ 30) {B : Nat → Nat} (hb : E 1 0 ≤ 8) (hB : HB E B) (hd : 2 ≤ d) (hI : ∀ t, t < E 1 0 → (0 < E 28 (B t) ↔ 0 < E 29 (B t))) {h0 : ah_H} : ∀ (k j : Nat), j + k = E 1 0 → (∀ t, t < j → E 28 t = E 29 t) → ah_At mt_M_isAhead d A h0 (.returned (some (.int (bz (pb (ahP E B)))))) (rg LTm g m E) 70 [(0, .ref m), (1, .int (nI j))] [] (rg LTm g m E)
  | 0, j, hk, hJ => by
    refine b_M_isAhead_70 (rdI (k_M_2) rfl) (fun z1 => ?_) (fun z1 => by exfalso; replace z1 := mt (cvle (nI_toInt (n := E 1 0) (by have := hO 1 0; omega)) (nI_toInt (n := j) (by omega))).mpr z1; omega)
    replace z1 := (cvle (nI_toInt (n := E 1 0) (by have := hO 1 0; omega)) (nI_toInt (n := j) (by omega))).mp z1
    refine rt_i ?_ ?_ (b_M_isAhead_120 )
    · refine bz_np (ah_n2 hI hJ (by omega))
    · rfl
  | k + 1, j, hk, hJ => by
    refine b_M_isAhead_70 (rdI (k_M_2) rfl) (fun z1 => by exfalso; replace z1 := (cvle (nI_toInt (n := E 1 0) (by have := hO 1 0; omega)) (nI_toInt (n := j) (by omega))).mp z1; omega) (fun z1 => ?_)
    replace z1 := mt (cvle (nI_toInt (n := E 1 0) (by have := hO 1 0; omega)) (nI_toInt (n := j) (by omega))).mpr z1
    refine b_M_isAhead_78 (rdR (k_M_18)) (ah_ix_nI (by omega)) (rdI (k_M28 _ (by omega)) rfl) (rdR (k_M_19)) (ah_ix_nI (by omega)) (rdI (k_M29 _ (by omega)) rfl) (fun z2 => ?_) (fun z2 => ?_)
    · replace z2 := (cveq (nI_toInt (n := E 28 j) (by have := hO 28 j; omega)) (nI_toInt (n := E 29 j) (by have := hO 29 j; omega))).mp z2
      refine b_M_isAhead_114 ?_
      rw [show ((nI j) + 1 : Int32) = nI (j + 1) from (ad_n rfl rfl)]
      exact lo_ahead2 hO hb hB hd hI k (j + 1) (by omega) (lt_s hJ (by omega))
    · replace z2 := mt (cveq (nI_toInt (n := E 28 j) (by have := hO 28 j; omega)) (nI_toInt (n := E 29 j) (by have := hO 29 j; omega))).mpr z2
      refine b_M_isAhead_93 (rdR (k_M_18)) (ah_ix_nI (by omega)) (rdI (k_M28 _ (by omega)) rfl) (rdR (k_M_19)) (ah_ix_nI (by omega)) (rdI (k_M29 _ (by omega)) rfl) (fun z3 => ?_) (fun z3 => ?_)
      · replace z3 := (cvle (nI_toInt (n := E 29 j) (by have := hO 29 j; omega)) (nI_toInt (n := E 28 j) (by have := hO 28 j; omega))).mp z3
        refine b_M_isAhead_112 ?_
        refine rt_i ?_ ?_ (b_M_isAhead_113 (by decide +kernel))
        · refine bz_np (ah_n2 hI hJ (by omega))
        · rfl
      · replace z3 := mt (cvle (nI_toInt (n := E 29 j) (by have := hO 29 j; omega)) (nI_toInt (n := E 28 j) (by have := hO 28 j; omega))).mpr z3
        refine b_M_isAhead_108 ?_
        refine rt_i ?_ ?_ (b_M_isAhead_113 (by decide +kernel))
        · refine bz_p (Or.inr ⟨hI, j, by omega, hJ, by omega⟩)
        · rfl
theorem lo_ahead1 {d : Nat} {A : Nat → Prop} {g : ah_H} {m : Nat} {E : rg_D} (hO : ∀ f j, E f j < 2 ^ 30) {B : Nat → Nat} (hb : E 1 0 ≤ 8) (hB : HB E B) (hd : 2 ≤ d) {h0 : ah_H} : ∀ (k r : Nat), r + k = E 1 0 → (∀ t, t < r → (0 < E 28 (B t) ↔ 0 < E 29 (B t))) → ah_At mt_M_isAhead d A h0 (.returned (some (.int (bz (pb (ahP E B)))))) (rg LTm g m E) 2 [(0, .ref m), (1, .int (nI r))] [] (rg LTm g m E)
  | 0, r, hk, hI => by
    refine b_M_isAhead_2 (rdI (k_M_2) rfl) (fun z1 => ?_) (fun z1 => by exfalso; replace z1 := mt (cvle (nI_toInt (n := E 1 0) (by have := hO 1 0; omega)) (nI_toInt (n := r) (by omega))).mpr z1; omega)
    replace z1 := (cvle (nI_toInt (n := E 1 0) (by have := hO 1 0; omega)) (nI_toInt (n := r) (by omega))).mp z1
    refine b_M_isAhead_68 ?_
    exact lo_ahead2 hO hb hB hd (by rw [← show r = E 1 0 by omega]; exact hI) _ 0 (Nat.zero_add _) (fun t ht => absurd ht (Nat.not_lt_zero _))
  | k + 1, r, hk, hI => by
    have hBr := hB r (by omega)
    refine b_M_isAhead_2 (rdI (k_M_2) rfl) (fun z1 => by exfalso; replace z1 := (cvle (nI_toInt (n := E 1 0) (by have := hO 1 0; omega)) (nI_toInt (n := r) (by omega))).mp z1; omega) (fun z1 => ?_)
    replace z1 := mt (cvle (nI_toInt (n := E 1 0) (by have := hO 1 0; omega)) (nI_toInt (n := r) (by omega))).mpr z1
    refine b_M_isAhead_10 (c_boxAt (d := d - 1) (A := A) (i := B r) hO hb hBr.1 hBr.2.1 (fun q hq e => by have := hBr.2.2 q (by omega) e; omega) (by omega)) (by omega) (fun q hq => hq) ?_ (rdN (k_M_0))
    refine aft_1 ?_
    refine b_M_isAhead_15 (rdR (k_M_18)) (ah_ix_nI (by omega)) (rdI (k_M28 _ (by omega)) rfl) (fun z2 => ?_) (fun z2 => ?_)
    · replace z2 := (cvle (nI_toInt (n := E 28 (B r)) (by have := hO 28 (B r); omega)) (show ((0 : Int32)).toInt = 0 from by decide)).mp z2
      refine b_M_isAhead_29 ?_
      refine b_M_isAhead_30 (rdR (k_M_19)) (ah_ix_nI (by omega)) (rdI (k_M29 _ (by omega)) rfl) (fun z3 => ?_) (fun z3 => ?_)
      · replace z3 := (cvle (nI_toInt (n := E 29 (B r)) (by have := hO 29 (B r); omega)) (show ((0 : Int32)).toInt = 0 from by decide)).mp z3
        refine b_M_isAhead_43 ?_
        refine b_M_isAhead_44 (fun z4 => ?_) (fun z => absurd (by decide) z)
        refine b_M_isAhead_62 ?_
        rw [show ((nI r) + 1 : Int32) = nI (r + 1) from (ad_n rfl rfl)]
        exact lo_ahead1 hO hb hB hd k (r + 1) (by omega) (lt_s hI (by omega))
      · replace z3 := mt (cvle (nI_toInt (n := E 29 (B r)) (by have := hO 29 (B r); omega)) (show ((0 : Int32)).toInt = 0 from by decide)).mpr z3
        refine b_M_isAhead_39 ?_
        refine b_M_isAhead_44 (fun z => absurd z (by decide)) (fun z5 => ?_)
        refine b_M_isAhead_47 (rdR (k_M_18)) (ah_ix_nI (by omega)) (rdI (k_M28 _ (by omega)) rfl) (fun z6 => ?_) (fun z6 => ?_)
        · replace z6 := (cvle (nI_toInt (n := E 28 (B r)) (by have := hO 28 (B r); omega)) (show ((0 : Int32)).toInt = 0 from by decide)).mp z6
          refine b_M_isAhead_60 ?_
          refine rt_i ?_ ?_ (b_M_isAhead_61 (by decide +kernel))
          · refine bz_np (ah_n1 (by omega) hI (by omega) (by omega))
          · rfl
        · replace z6 := mt (cvle (nI_toInt (n := E 28 (B r)) (by have := hO 28 (B r); omega)) (show ((0 : Int32)).toInt = 0 from by decide)).mpr z6
          refine b_M_isAhead_56 ?_
          refine rt_i ?_ ?_ (b_M_isAhead_61 (by decide +kernel))
          · refine bz_p (Or.inl ⟨r, by omega, hI, by omega, by omega⟩)
          · rfl
    · replace z2 := mt (cvle (nI_toInt (n := E 28 (B r)) (by have := hO 28 (B r); omega)) (show ((0 : Int32)).toInt = 0 from by decide)).mpr z2
      refine b_M_isAhead_25 ?_
      refine b_M_isAhead_30 (rdR (k_M_19)) (ah_ix_nI (by omega)) (rdI (k_M29 _ (by omega)) rfl) (fun z7 => ?_) (fun z7 => ?_)
      · replace z7 := (cvle (nI_toInt (n := E 29 (B r)) (by have := hO 29 (B r); omega)) (show ((0 : Int32)).toInt = 0 from by decide)).mp z7
        refine b_M_isAhead_43 ?_
        refine b_M_isAhead_44 (fun z => absurd z (by decide)) (fun z8 => ?_)
        refine b_M_isAhead_47 (rdR (k_M_18)) (ah_ix_nI (by omega)) (rdI (k_M28 _ (by omega)) rfl) (fun z9 => ?_) (fun z9 => ?_)
        · replace z9 := (cvle (nI_toInt (n := E 28 (B r)) (by have := hO 28 (B r); omega)) (show ((0 : Int32)).toInt = 0 from by decide)).mp z9
          refine b_M_isAhead_60 ?_
          refine rt_i ?_ ?_ (b_M_isAhead_61 (by decide +kernel))
          · refine bz_np (ah_n1 (by omega) hI (by omega) (by omega))
          · rfl
        · replace z9 := mt (cvle (nI_toInt (n := E 28 (B r)) (by have := hO 28 (B r); omega)) (show ((0 : Int32)).toInt = 0 from by decide)).mpr z9
          refine b_M_isAhead_56 ?_
          refine rt_i ?_ ?_ (b_M_isAhead_61 (by decide +kernel))
          · refine bz_p (Or.inl ⟨r, by omega, hI, by omega, by omega⟩)
          · rfl
      · replace z7 := mt (cvle (nI_toInt (n := E 29 (B r)) (by have := hO 29 (B r); omega)) (show ((0 : Int32)).toInt = 0 from by decide)).mpr z7
        refine b_M_isAhead_39 ?_
        refine b_M_isAhead_44 (fun z10 => ?_) (fun z => absurd (by decide) z)
        refine b_M_isAhead_62 ?_
        rw [show ((nI r) + 1 : Int32) = nI (r + 1) from (ad_n rfl rfl)]
        exact lo_ahead1 hO hb hB hd k (r + 1) (by omega) (lt_s hI (by omega))
theorem c_isAhead {d : Nat} {A : Nat → Prop} {g : ah_H} {m : Nat} {E : rg_D} (hO : ∀ f j, E f j < 2 ^ 30) {B : Nat → Nat} (hb : E 1 0 ≤ 8) (hB : HB E B) (hd : 2 ≤ d) : ah_Ev mt_M_isAhead d A [.ref m] (rg LTm g m E) (.returned (some (.int (bz (pb (ahP E B)))))) (rg LTm g m E) := by
  refine ah_Ev.of (by decide +kernel) (Nat.le_of_ble_eq_true rfl) ?_
  show ah_At mt_M_isAhead d A (rg LTm g m E) (.returned (some (.int (bz (pb (ahP E B)))))) (rg LTm g m E) 0 [(0, .ref m)] [] (rg LTm g m E)
  refine b_M_isAhead_0 ?_
  exact lo_ahead1 hO hb hB hd _ 0 (Nat.zero_add _) (fun t ht => absurd ht (Nat.not_lt_zero _))
