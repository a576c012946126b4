/-! CONTRACTS of the model: answers by the plan. Printed out of wip/ -/
noncomputable def pm (E : rg_D) (w : Nat) : Nat := if co E 29 w 0 = 0 then 0 else pf E w (co E 29 w 1) (co E 29 w 2) (co E 29 w 3)
theorem c_patternOfM {d : Nat} {A : Nat → Prop} {g : ah_H} {m : Nat} {E : rg_D} (hO : ∀ f j, E f j < 2 ^ 30) (hM : MI E) (hd : 4 ≤ d) {w : Nat} (hw : w < 3) : ah_Ev mt_M_patternOf d A [.ref m, .int (nI w)] (rg LTm g m E) (.returned (some (.int (nI (pm E w) - 1)))) (rg LTm g m E) := by
  refine ah_Ev.of (by decide +kernel) (Nat.le_of_ble_eq_true rfl) ?_
  show ah_At mt_M_patternOf d A (rg LTm g m E) (.returned (some (.int (nI (pm E w) - 1)))) (rg LTm g m E) 0 [(0, .ref m), (1, .int (nI w))] [] (rg LTm g m E)
  have hb := hM.1.2; have h8 := hM.2.1; have h9 := hM.2.2.1; have hn3 := hM.1.1
  refine b_M_patternOf_0 (rdR (k_M_19)) (c_countOf29 (d := d - 1) (A := A) (w := w) (s := 0) hO (by omega) (by first | decide | omega) hb) (by omega) (fun q hq => hq) ?_ (rdN (k_M_0))
  refine aft_1 ?_
  have hco290 := co_le (f := 29) (w := w) (s := 0) hb
  refine b_M_patternOf_10 (fun z1 => ?_) (fun z1 => ?_)
  · replace z1 := mt (cveq (nI_toInt (n := co E 29 w 0) (by have := hO 29 w; omega)) (show ((0 : Int32)).toInt = 0 from by decide)).mpr z1
    refine b_M_patternOf_17 (rdR (k_M_19)) (c_countOf29 (d := d - 1) (A := A) (w := w) (s := 1) hO (by omega) (by first | decide | omega) hb) (by omega) (fun q hq => hq) ?_ (rdN (k_M_0))
    refine aft_1 ?_
    have hco291 := co_le (f := 29) (w := w) (s := 1) hb
    refine b_M_patternOf_29 (rdR (k_M_19)) (c_countOf29 (d := d - 1) (A := A) (w := w) (s := 2) hO (by omega) (by first | decide | omega) hb) (by omega) (fun q hq => hq) ?_ (rdN (k_M_0))
    refine aft_1 ?_
    have hco292 := co_le (f := 29) (w := w) (s := 2) hb
    refine b_M_patternOf_39 (rdR (k_M_19)) (c_countOf29 (d := d - 1) (A := A) (w := w) (s := 3) hO (by omega) (by first | decide | omega) hb) (by omega) (fun q hq => hq) ?_ (rdN (k_M_0))
    refine aft_1 ?_
    have hco293 := co_le (f := 29) (w := w) (s := 3) hb
    refine b_M_patternOf_49 (c_patternFor (d := d - 1) (A := A) (w := w) (a := co E 29 w 1) (c := co E 29 w 2) (e := co E 29 w 3) hO (by omega) (h8 _) h9 (by omega) (by omega) (by omega) (by omega)) (by omega) (fun q hq => hq) ?_ (rdN (k_M_0))
    refine aft_1 ?_
    have hpf : pf E w (co E 29 w 1) (co E 29 w 2) (co E 29 w 3) ≤ 4 := by have := ff_le (p := fun p => pb (pfP E w p (co E 29 w 1) (co E 29 w 2) (co E 29 w 3))) (k := E 8 w) (i := 0); have := h8 w; unfold pf; omega
    refine rt_i ?_ ?_ (b_M_patternOf_52 )
    · unfold pm; rw [if_neg (by omega)]
    · rfl
  · replace z1 := (cveq (nI_toInt (n := co E 29 w 0) (by have := hO 29 w; omega)) (show ((0 : Int32)).toInt = 0 from by decide)).mp (Decidable.not_not.mp z1)
    refine b_M_patternOf_13 ?_
    refine rt_i ?_ ?_ (b_M_patternOf_52 )
    · unfold pm; rw [if_pos (by omega)]; decide
    · rfl
theorem lo_weightOn {d : Nat} {A : Nat → Prop} {g : ah_H} {m : Nat} {E : rg_D} (hO : ∀ f j, E f j < 2 ^ 30) {w : Nat} (hw : w < 3) (hb : E 1 0 ≤ 8) (h11 : ∀ j, E 11 j ≤ 1000000) {h0 : ah_H} : ∀ (k j s : Nat), j + k = E 1 0 → s = sm (wsf E 29 w) j → ah_At mt_M_weightOn d A h0 (.returned (some (.long (lN (ws E 29 w))))) (rg LTm g m E) 5 [(0, .ref m), (1, .int (nI w)), (2, .long (lN s)), (4, .int (nI j))] [] (rg LTm g m E)
  | 0, j, s, hk, hs => by
    refine b_M_weightOn_5 (rdI (k_M_2) rfl) (fun z1 => ?_) (fun z1 => by exfalso; replace z1 := mt (cvle (nI_toInt (n := E 1 0) (by have := hO 1 0; omega)) (nI_toInt (n := j) (by omega))).mpr z1; omega)
    replace z1 := (cvle (nI_toInt (n := E 1 0) (by have := hO 1 0; omega)) (nI_toInt (n := j) (by omega))).mp z1
    refine rt_l ?_ ?_ (b_M_weightOn_47 )
    · rw [hs, show j = E 1 0 by omega]; rfl
    · rfl
  | k + 1, j, s, hk, hs => by
    refine b_M_weightOn_5 (rdI (k_M_2) rfl) (fun z1 => by exfalso; replace z1 := (cvle (nI_toInt (n := E 1 0) (by have := hO 1 0; omega)) (nI_toInt (n := j) (by omega))).mp z1; omega) (fun z1 => ?_)
    replace z1 := mt (cvle (nI_toInt (n := E 1 0) (by have := hO 1 0; omega)) (nI_toInt (n := j) (by omega))).mpr z1
    refine b_M_weightOn_14 (rdR (k_M_19)) (ah_ix_nI (by omega)) (rdI (k_M29 _ (by omega)) rfl) (fun z2 => ?_) (fun z2 => ?_)
    · replace z2 := mt (cveq (nI_toInt (n := E 29 j) (by have := hO 29 j; omega)) (tn_n (show ((nI w) + 1 : Int32) = nI (w + 1) from (ad_n rfl rfl)) (by omega))).mpr z2
      refine b_M_weightOn_38 ?_
      refine b_M_weightOn_39 ?_
      rw [show ((lN s) + 0 : Int64) = lN (s + 0) from (ad_l rfl rfl)]
      rw [show ((nI j) + 1 : Int32) = nI (j + 1) from (ad_n rfl rfl)]
      exact lo_weightOn hO hw hb h11 k (j + 1) _ (by omega) (by simp only [sm]; rw [← hs]; unfold wsf; split <;> omega)
    · replace z2 := (cveq (nI_toInt (n := E 29 j) (by have := hO 29 j; omega)) (tn_n (show ((nI w) + 1 : Int32) = nI (w + 1) from (ad_n rfl rfl)) (by omega))).mp (Decidable.not_not.mp z2)
      refine b_M_weightOn_28 (rdR (k_M_11)) (ah_ix_nI (by omega)) (rdL (k_M11 _ (by omega)) rfl) ?_
      refine b_M_weightOn_39 ?_
      rw [show ((lN s) + (lN (E 11 j)) : Int64) = lN (s + (E 11 j)) from (ad_l rfl rfl)]
      rw [show ((nI j) + 1 : Int32) = nI (j + 1) from (ad_n rfl rfl)]
      exact lo_weightOn hO hw hb h11 k (j + 1) _ (by omega) (by simp only [sm]; rw [← hs]; unfold wsf; split <;> omega)
theorem c_weightOn {d : Nat} {A : Nat → Prop} {g : ah_H} {m : Nat} {E : rg_D} (hO : ∀ f j, E f j < 2 ^ 30) {w : Nat} (hw : w < 3) (hb : E 1 0 ≤ 8) (h11 : ∀ j, E 11 j ≤ 1000000) : ah_Ev mt_M_weightOn d A [.ref m, .int (nI w)] (rg LTm g m E) (.returned (some (.long (lN (ws E 29 w))))) (rg LTm g m E) := by
  refine ah_Ev.of (by decide +kernel) (Nat.le_of_ble_eq_true rfl) ?_
  show ah_At mt_M_weightOn d A (rg LTm g m E) (.returned (some (.long (lN (ws E 29 w))))) (rg LTm g m E) 0 [(0, .ref m), (1, .int (nI w))] [] (rg LTm g m E)
  refine b_M_weightOn_0 ?_
  exact lo_weightOn hO hw hb h11 _ 0 0 (Nat.zero_add _) rfl
theorem m_together1 {d : Nat} {A : Nat → Prop} {g : ah_H} {m : Nat} {E : rg_D} (hO : ∀ f j, E f j < 2 ^ 30) (hA : ∀ q, m ≤ q → q < m + 16 → A q) (hd : 6 ≤ d) {x1 : Int32} {p1 : Int} (h1 : x1.toInt = p1) {x2 : Int32} {p2 : Int} (h2 : x2.toInt = p2) (hn : ¬ (0 ≤ p1 ∧ p1 < ((E 1 0 : Nat) : Int)) ∨ ¬ (0 ≤ p2 ∧ p2 < ((E 1 0 : Nat) : Int))) : ah_Ev mt_M_together d A [.ref m, .int x1, .int x2] (rg LTm g m E) (.returned (some (.int 0))) (rg LTm g m (up E 32 0 1)) := by
  refine ah_Ev.of (by decide +kernel) (Nat.le_of_ble_eq_true rfl) ?_
  show ah_At mt_M_together d A (rg LTm g m E) (.returned (some (.int 0))) (rg LTm g m (up E 32 0 1)) 0 [(0, .ref m), (1, .int x1), (2, .int x2)] [] (rg LTm g m E)
  refine b_M_together_0 (c_isBox (d := d - 1) (A := A) (E := E) hO h1 (n := E 1 0) rfl) (by omega) (fun q hq => hq) ?_ (rdN (k_M_0))
  refine aft_1 ?_
  refine b_M_together_6 (fun z1 => ?_) (fun z1 => ?_)
  · replace z1 := pz0.mp z1
    refine b_M_together_21 ?_
    refine b_M_together_22 (v2 := 1) (hA _ (by omega) (by omega)) (rdE (k_M_0)) (by rw [stmI0 (x := 1) (v := 1) (k_M_0) rfl]; exact (rdI (e := 1) (k_M_0) (by simp [up]))) (fun z2 => ?_) (fun z => absurd (by decide) z)
    rw [stmI0 (x := 1) (v := 1) (k_M_0) rfl]
    refine b_M_together_45 ?_
    refine rt_i ?_ ?_ (b_M_together_46 (by decide +kernel))
    · rfl
    · rfl
  · replace z1 := pz1.mp z1
    refine b_M_together_9 (c_isBox (d := d - 1) (A := A) (E := E) hO h2 (n := E 1 0) rfl) (by omega) (fun q hq => hq) ?_ (rdN (k_M_0))
    refine aft_1 ?_
    refine b_M_together_14 (fun z3 => ?_) (fun z3 => ?_)
    · replace z3 := pz0.mp z3
      refine b_M_together_21 ?_
      refine b_M_together_22 (v2 := 1) (hA _ (by omega) (by omega)) (rdE (k_M_0)) (by rw [stmI0 (x := 1) (v := 1) (k_M_0) rfl]; exact (rdI (e := 1) (k_M_0) (by simp [up]))) (fun z4 => ?_) (fun z => absurd (by decide) z)
      rw [stmI0 (x := 1) (v := 1) (k_M_0) rfl]
      refine b_M_together_45 ?_
      refine rt_i ?_ ?_ (b_M_together_46 (by decide +kernel))
      · rfl
      · rfl
    · replace z3 := pz1.mp z3
      exfalso; omega
theorem m_together0 {d : Nat} {A : Nat → Prop} {g : ah_H} {m : Nat} {E : rg_D} (hO : ∀ f j, E f j < 2 ^ 30) (hA : ∀ q, m ≤ q → q < m + 16 → A q) (hd : 6 ≤ d) (hb : E 1 0 ≤ 8) {i j : Nat} (hi : i < E 1 0) (hj : j < E 1 0) (h1 : E 13 i < 4) (h2 : E 13 j < 4) : ah_Ev mt_M_together d A [.ref m, .int (nI i), .int (nI j)] (rg LTm g m E) (.returned (some (.int (bz (pb (E 15 (4 * E 13 i + E 13 j) = 0)))))) (rg LTm g m (up E 32 0 0)) := by
  refine ah_Ev.of (by decide +kernel) (Nat.le_of_ble_eq_true rfl) ?_
  show ah_At mt_M_together d A (rg LTm g m E) (.returned (some (.int (bz (pb (E 15 (4 * E 13 i + E 13 j) = 0)))))) (rg LTm g m (up E 32 0 0)) 0 [(0, .ref m), (1, .int (nI i)), (2, .int (nI j))] [] (rg LTm g m E)
  refine b_M_together_0 (c_isBox (d := d - 1) (A := A) (E := E) hO (nI_toInt (n := i) (by omega)) (n := E 1 0) rfl) (by omega) (fun q hq => hq) ?_ (rdN (k_M_0))
  refine aft_1 ?_
  refine b_M_together_6 (fun z1 => ?_) (fun z1 => ?_)
  · replace z1 := pz0.mp z1
    exfalso; omega
  · replace z1 := pz1.mp z1
    refine b_M_together_9 (c_isBox (d := d - 1) (A := A) (E := E) hO (nI_toInt (n := j) (by omega)) (n := E 1 0) rfl) (by omega) (fun q hq => hq) ?_ (rdN (k_M_0))
    refine aft_1 ?_
    refine b_M_together_14 (fun z2 => ?_) (fun z2 => ?_)
    · replace z2 := pz0.mp z2
      exfalso; omega
    · replace z2 := pz1.mp z2
      refine b_M_together_17 ?_
      refine b_M_together_22 (v2 := 0) (hA _ (by omega) (by omega)) (rdE (k_M_0)) (by rw [stmI0 (x := 0) (v := 0) (k_M_0) rfl]; exact (rdI (e := 0) (k_M_0) (by simp [up]))) (fun z => absurd z (by decide)) (fun z3 => ?_)
      rw [stmI0 (x := 0) (v := 0) (k_M_0) rfl]
      refine b_M_together_32 (c_rulesOf (d := d - 1) (A := A) (E := (up E 32 0 0)) (up_O hO (by first | decide | omega)) (by omega) (by omega) (by rw [up_f (by decide)]; exact h1) (by rw [up_f (by decide)]; exact h2)) (by omega) (fun q hq => hq) ?_ (rdN (k_M_0))
      refine aft_1 ?_
      rw [up_f (show (15 : Nat) ≠ 32 by decide), up_f (show (13 : Nat) ≠ 32 by decide), up_f (show (13 : Nat) ≠ 32 by decide)]
      have hO15 := hO 15 (4 * E 13 i + E 13 j)
      refine b_M_together_38 (fun z4 => ?_) (fun z4 => ?_)
      · replace z4 := mt (cveq (nI_toInt (n := E 15 (4 * E 13 i + E 13 j)) (by have := hO 13 i; have := hO 13 j; have := hO 15 (4 * E 13 i + E 13 j); omega)) (show ((0 : Int32)).toInt = 0 from by decide)).mpr z4
        refine b_M_together_45 ?_
        refine rt_i ?_ ?_ (b_M_together_46 (by decide +kernel))
        · refine bz_np ?_; omega
        · rfl
      · replace z4 := (cveq (nI_toInt (n := E 15 (4 * E 13 i + E 13 j)) (by have := hO 13 i; have := hO 13 j; have := hO 15 (4 * E 13 i + E 13 j); omega)) (show ((0 : Int32)).toInt = 0 from by decide)).mp (Decidable.not_not.mp z4)
        refine b_M_together_41 ?_
        refine rt_i ?_ ?_ (b_M_together_46 (by decide +kernel))
        · refine bz_p ?_; omega
        · rfl
def ctf (E : rg_D) (j : Nat) : Nat := if 0 < E 29 j then 1 else 0
theorem lo_count {d : Nat} {A : Nat → Prop} {g : ah_H} {m : Nat} {E : rg_D} (hO : ∀ f j, E f j < 2 ^ 30) (hb : E 1 0 ≤ 8) {h0 h2 : ah_H} {o : Outcome} {x : Int32} (K : ah_At mt_M_count d A h0 o h2 71 [(0, .ref m), (1, .int x), (2, .int (nI (sm (ctf E) (E 1 0))))] [] (rg LTm g m E)) : ∀ (k j n : Nat), j + k = E 1 0 → n = sm (ctf E) j → ah_At mt_M_count d A h0 o h2 40 [(0, .ref m), (1, .int x), (2, .int (nI n)), (3, .int (nI j))] [] (rg LTm g m E)
  | 0, j, n, hk, hn => by
    refine b_M_count_40 (rdI (k_M_2) rfl) (fun z1 => ?_) (fun z1 => by exfalso; replace z1 := mt (cvle (nI_toInt (n := E 1 0) (by have := hO 1 0; omega)) (nI_toInt (n := j) (by omega))).mpr z1; omega)
    replace z1 := (cvle (nI_toInt (n := E 1 0) (by have := hO 1 0; omega)) (nI_toInt (n := j) (by omega))).mp z1
    rw [hn, show j = E 1 0 by omega]
    exact K
  | k + 1, j, n, hk, hn => by
    refine b_M_count_40 (rdI (k_M_2) rfl) (fun z1 => by exfalso; replace z1 := (cvle (nI_toInt (n := E 1 0) (by have := hO 1 0; omega)) (nI_toInt (n := j) (by omega))).mp z1; omega) (fun z1 => ?_)
    replace z1 := mt (cvle (nI_toInt (n := E 1 0) (by have := hO 1 0; omega)) (nI_toInt (n := j) (by omega))).mpr z1
    refine b_M_count_48 (rdR (k_M_19)) (ah_ix_nI (by omega)) (rdI (k_M29 _ (by omega)) rfl) (fun z2 => ?_) (fun z2 => ?_)
    · replace z2 := (cvle (nI_toInt (n := E 29 j) (by have := hO 29 j; omega)) (show ((0 : Int32)).toInt = 0 from by decide)).mp z2
      refine b_M_count_62 ?_
      refine b_M_count_63 ?_
      rw [show ((nI n) + 0 : Int32) = nI (n + 0) from (ad_n rfl rfl)]
      rw [show ((nI j) + 1 : Int32) = nI (j + 1) from (ad_n rfl rfl)]
      exact lo_count hO hb K k (j + 1) _ (by omega) (by simp only [sm]; rw [← hn]; unfold ctf; split <;> omega)
    · replace z2 := mt (cvle (nI_toInt (n := E 29 j) (by have := hO 29 j; omega)) (show ((0 : Int32)).toInt = 0 from by decide)).mpr z2
      refine b_M_count_58 ?_
      refine b_M_count_63 ?_
      rw [show ((nI n) + 1 : Int32) = nI (n + 1) from (ad_n rfl rfl)]
      rw [show ((nI j) + 1 : Int32) = nI (j + 1) from (ad_n rfl rfl)]
      exact lo_count hO hb K k (j + 1) _ (by omega) (by simp only [sm]; rw [← hn]; unfold ctf; split <;> omega)
theorem m_count0 {d : Nat} {A : Nat → Prop} {g : ah_H} {m : Nat} {E : rg_D} (hO : ∀ f j, E f j < 2 ^ 30) (hA : ∀ q, m ≤ q → q < m + 16 → A q) (hb : E 1 0 ≤ 8) (hd : 4 ≤ d)  : ah_Ev mt_M_count d A [.ref m, .int 0] (rg LTm g m E) (.returned (some (.int (nI (E 0 0))))) (rg LTm g m (up E 32 0 0)) := by
  refine ah_Ev.of (by decide +kernel) (Nat.le_of_ble_eq_true rfl) ?_
  show ah_At mt_M_count d A (rg LTm g m E) (.returned (some (.int (nI (E 0 0))))) (rg LTm g m (up E 32 0 0)) 0 [(0, .ref m), (1, .int 0)] [] (rg LTm g m E)
  refine b_M_count_0 (hA _ (by omega) (by omega)) (rdE (k_M_0)) (fun z1 => ?_) (fun z1 => by exfalso; replace z1 := mt (cvlt (show ((0 : Int32)).toInt = 0 from by decide) (show ((10 : Int32)).toInt = 10 from by decide)).mpr z1; omega)
  replace z1 := (cvlt (show ((0 : Int32)).toInt = 0 from by decide) (show ((10 : Int32)).toInt = 10 from by decide)).mp z1
  rw [stmI0 (x := 0) (v := 0) (k_M_0) rfl]
  refine b_M_count_36 ?_
  refine lo_count (E := up E 32 0 0) (up_O hO (by decide)) (by rw [up_f (by decide)]; exact hb) ?_ _ 0 0 (by rw [Nat.zero_add]) rfl
  refine b_M_count_71 (fun z => by exfalso; revert z; decide) (fun _ => ?_) (fun z => by exfalso; revert z; decide) (fun z => by exfalso; revert z; decide) (fun z => by exfalso; revert z; decide) (fun z => by exfalso; revert z; decide)
  refine rt_i ?_ ?_ (b_M_count_108 (rdI (e := E 0 0) (k_M_1) (by simp [up])))
  · rfl
  · rfl
theorem m_count1 {d : Nat} {A : Nat → Prop} {g : ah_H} {m : Nat} {E : rg_D} (hO : ∀ f j, E f j < 2 ^ 30) (hA : ∀ q, m ≤ q → q < m + 16 → A q) (hb : E 1 0 ≤ 8) (hd : 4 ≤ d)  : ah_Ev mt_M_count d A [.ref m, .int 1] (rg LTm g m E) (.returned (some (.int (nI (E 1 0))))) (rg LTm g m (up E 32 0 0)) := by
  refine ah_Ev.of (by decide +kernel) (Nat.le_of_ble_eq_true rfl) ?_
  show ah_At mt_M_count d A (rg LTm g m E) (.returned (some (.int (nI (E 1 0))))) (rg LTm g m (up E 32 0 0)) 0 [(0, .ref m), (1, .int 1)] [] (rg LTm g m E)
  refine b_M_count_0 (hA _ (by omega) (by omega)) (rdE (k_M_0)) (fun z1 => ?_) (fun z1 => by exfalso; replace z1 := mt (cvlt (show ((1 : Int32)).toInt = 1 from by decide) (show ((10 : Int32)).toInt = 10 from by decide)).mpr z1; omega)
  replace z1 := (cvlt (show ((1 : Int32)).toInt = 1 from by decide) (show ((10 : Int32)).toInt = 10 from by decide)).mp z1
  rw [stmI0 (x := 0) (v := 0) (k_M_0) rfl]
  refine b_M_count_36 ?_
  refine lo_count (E := up E 32 0 0) (up_O hO (by decide)) (by rw [up_f (by decide)]; exact hb) ?_ _ 0 0 (by rw [Nat.zero_add]) rfl
  refine b_M_count_71 (fun z => by exfalso; revert z; decide) (fun z => by exfalso; revert z; decide) (fun _ => ?_) (fun z => by exfalso; revert z; decide) (fun z => by exfalso; revert z; decide) (fun z => by exfalso; revert z; decide)
  refine rt_i ?_ ?_ (b_M_count_113 (rdI (e := E 1 0) (k_M_2) (by simp [up])))
  · rfl
  · rfl
theorem m_count2n {d : Nat} {A : Nat → Prop} {g : ah_H} {m : Nat} {E : rg_D} (hO : ∀ f j, E f j < 2 ^ 30) (hA : ∀ q, m ≤ q → q < m + 16 → A q) (hb : E 1 0 ≤ 8) (hd : 4 ≤ d) (hq : E 16 0 = 0) : ah_Ev mt_M_count d A [.ref m, .int 2] (rg LTm g m E) (.returned (some (.int (-1)))) (rg LTm g m (up E 32 0 0)) := by
  refine ah_Ev.of (by decide +kernel) (Nat.le_of_ble_eq_true rfl) ?_
  show ah_At mt_M_count d A (rg LTm g m E) (.returned (some (.int (-1)))) (rg LTm g m (up E 32 0 0)) 0 [(0, .ref m), (1, .int 2)] [] (rg LTm g m E)
  refine b_M_count_0 (hA _ (by omega) (by omega)) (rdE (k_M_0)) (fun z1 => ?_) (fun z1 => by exfalso; replace z1 := mt (cvlt (show ((2 : Int32)).toInt = 2 from by decide) (show ((10 : Int32)).toInt = 10 from by decide)).mpr z1; omega)
  replace z1 := (cvlt (show ((2 : Int32)).toInt = 2 from by decide) (show ((10 : Int32)).toInt = 10 from by decide)).mp z1
  rw [stmI0 (x := 0) (v := 0) (k_M_0) rfl]
  refine b_M_count_36 ?_
  refine lo_count (E := up E 32 0 0) (up_O hO (by decide)) (by rw [up_f (by decide)]; exact hb) ?_ _ 0 0 (by rw [Nat.zero_add]) rfl
  refine b_M_count_71 (fun z => by exfalso; revert z; decide) (fun z => by exfalso; revert z; decide) (fun z => by exfalso; revert z; decide) (fun _ => ?_) (fun z => by exfalso; revert z; decide) (fun z => by exfalso; revert z; decide)
  refine b_M_count_118 (rdI (e := E 16 0) (k_M_17) (by simp [up])) (fun z1 => ?_) (fun z1 => ?_)
  · replace z1 := (cveq (nI_toInt (n := E 16 0) (by have := hO 16 0; omega)) (show ((0 : Int32)).toInt = 0 from by decide)).mp z1
    refine b_M_count_129 ?_
    refine rt_i ?_ ?_ (b_M_count_130 )
    · rfl
    · rfl
  · replace z1 := mt (cveq (nI_toInt (n := E 16 0) (by have := hO 16 0; omega)) (show ((0 : Int32)).toInt = 0 from by decide)).mpr z1
    exfalso; omega
theorem m_count2 {d : Nat} {A : Nat → Prop} {g : ah_H} {m : Nat} {E : rg_D} (hO : ∀ f j, E f j < 2 ^ 30) (hA : ∀ q, m ≤ q → q < m + 16 → A q) (hb : E 1 0 ≤ 8) (hd : 4 ≤ d) (hq : E 16 0 = 1) : ah_Ev mt_M_count d A [.ref m, .int 2] (rg LTm g m E) (.returned (some (.int (nI (sm (ctf E) (E 1 0)))))) (rg LTm g m (up E 32 0 0)) := by
  refine ah_Ev.of (by decide +kernel) (Nat.le_of_ble_eq_true rfl) ?_
  show ah_At mt_M_count d A (rg LTm g m E) (.returned (some (.int (nI (sm (ctf E) (E 1 0)))))) (rg LTm g m (up E 32 0 0)) 0 [(0, .ref m), (1, .int 2)] [] (rg LTm g m E)
  refine b_M_count_0 (hA _ (by omega) (by omega)) (rdE (k_M_0)) (fun z1 => ?_) (fun z1 => by exfalso; replace z1 := mt (cvlt (show ((2 : Int32)).toInt = 2 from by decide) (show ((10 : Int32)).toInt = 10 from by decide)).mpr z1; omega)
  replace z1 := (cvlt (show ((2 : Int32)).toInt = 2 from by decide) (show ((10 : Int32)).toInt = 10 from by decide)).mp z1
  rw [stmI0 (x := 0) (v := 0) (k_M_0) rfl]
  refine b_M_count_36 ?_
  refine lo_count (E := up E 32 0 0) (up_O hO (by decide)) (by rw [up_f (by decide)]; exact hb) ?_ _ 0 0 (by rw [Nat.zero_add]) rfl
  refine b_M_count_71 (fun z => by exfalso; revert z; decide) (fun z => by exfalso; revert z; decide) (fun z => by exfalso; revert z; decide) (fun _ => ?_) (fun z => by exfalso; revert z; decide) (fun z => by exfalso; revert z; decide)
  refine b_M_count_118 (rdI (e := E 16 0) (k_M_17) (by simp [up])) (fun z1 => ?_) (fun z1 => ?_)
  · replace z1 := (cveq (nI_toInt (n := E 16 0) (by have := hO 16 0; omega)) (show ((0 : Int32)).toInt = 0 from by decide)).mp z1
    exfalso; omega
  · replace z1 := mt (cveq (nI_toInt (n := E 16 0) (by have := hO 16 0; omega)) (show ((0 : Int32)).toInt = 0 from by decide)).mpr z1
    refine b_M_count_125 ?_
    refine rt_i ?_ ?_ (b_M_count_130 )
    · rw [show ctf (up E 32 0 0) = ctf E from funext fun j => (by unfold ctf; rw [up_f (by decide)]), up_f (by decide)]
    · rfl
theorem m_count3n {d : Nat} {A : Nat → Prop} {g : ah_H} {m : Nat} {E : rg_D} (hO : ∀ f j, E f j < 2 ^ 30) (hA : ∀ q, m ≤ q → q < m + 16 → A q) (hb : E 1 0 ≤ 8) (hd : 4 ≤ d) (hq : E 16 0 = 0) : ah_Ev mt_M_count d A [.ref m, .int 3] (rg LTm g m E) (.returned (some (.int (-1)))) (rg LTm g m (up E 32 0 0)) := by
  refine ah_Ev.of (by decide +kernel) (Nat.le_of_ble_eq_true rfl) ?_
  show ah_At mt_M_count d A (rg LTm g m E) (.returned (some (.int (-1)))) (rg LTm g m (up E 32 0 0)) 0 [(0, .ref m), (1, .int 3)] [] (rg LTm g m E)
  refine b_M_count_0 (hA _ (by omega) (by omega)) (rdE (k_M_0)) (fun z1 => ?_) (fun z1 => by exfalso; replace z1 := mt (cvlt (show ((3 : Int32)).toInt = 3 from by decide) (show ((10 : Int32)).toInt = 10 from by decide)).mpr z1; omega)
  replace z1 := (cvlt (show ((3 : Int32)).toInt = 3 from by decide) (show ((10 : Int32)).toInt = 10 from by decide)).mp z1
  rw [stmI0 (x := 0) (v := 0) (k_M_0) rfl]
  refine b_M_count_36 ?_
  refine lo_count (E := up E 32 0 0) (up_O hO (by decide)) (by rw [up_f (by decide)]; exact hb) ?_ _ 0 0 (by rw [Nat.zero_add]) rfl
  refine b_M_count_71 (fun z => by exfalso; revert z; decide) (fun z => by exfalso; revert z; decide) (fun z => by exfalso; revert z; decide) (fun z => by exfalso; revert z; decide) (fun _ => ?_) (fun z => by exfalso; revert z; decide)
  refine b_M_count_131 (rdI (e := E 16 0) (k_M_17) (by simp [up])) (fun z1 => ?_) (fun z1 => ?_)
  · replace z1 := (cveq (nI_toInt (n := E 16 0) (by have := hO 16 0; omega)) (show ((0 : Int32)).toInt = 0 from by decide)).mp z1
    refine b_M_count_145 ?_
    refine rt_i ?_ ?_ (b_M_count_146 )
    · rfl
    · rfl
  · replace z1 := mt (cveq (nI_toInt (n := E 16 0) (by have := hO 16 0; omega)) (show ((0 : Int32)).toInt = 0 from by decide)).mpr z1
    exfalso; omega
theorem m_count3 {d : Nat} {A : Nat → Prop} {g : ah_H} {m : Nat} {E : rg_D} (hO : ∀ f j, E f j < 2 ^ 30) (hA : ∀ q, m ≤ q → q < m + 16 → A q) (hb : E 1 0 ≤ 8) (hd : 4 ≤ d) (hq : E 16 0 = 1) : ah_Ev mt_M_count d A [.ref m, .int 3] (rg LTm g m E) (.returned (some (.int (nI (E 33 0))))) (rg LTm g m (up E 32 0 0)) := by
  refine ah_Ev.of (by decide +kernel) (Nat.le_of_ble_eq_true rfl) ?_
  show ah_At mt_M_count d A (rg LTm g m E) (.returned (some (.int (nI (E 33 0))))) (rg LTm g m (up E 32 0 0)) 0 [(0, .ref m), (1, .int 3)] [] (rg LTm g m E)
  refine b_M_count_0 (hA _ (by omega) (by omega)) (rdE (k_M_0)) (fun z1 => ?_) (fun z1 => by exfalso; replace z1 := mt (cvlt (show ((3 : Int32)).toInt = 3 from by decide) (show ((10 : Int32)).toInt = 10 from by decide)).mpr z1; omega)
  replace z1 := (cvlt (show ((3 : Int32)).toInt = 3 from by decide) (show ((10 : Int32)).toInt = 10 from by decide)).mp z1
  rw [stmI0 (x := 0) (v := 0) (k_M_0) rfl]
  refine b_M_count_36 ?_
  refine lo_count (E := up E 32 0 0) (up_O hO (by decide)) (by rw [up_f (by decide)]; exact hb) ?_ _ 0 0 (by rw [Nat.zero_add]) rfl
  refine b_M_count_71 (fun z => by exfalso; revert z; decide) (fun z => by exfalso; revert z; decide) (fun z => by exfalso; revert z; decide) (fun z => by exfalso; revert z; decide) (fun _ => ?_) (fun z => by exfalso; revert z; decide)
  refine b_M_count_131 (rdI (e := E 16 0) (k_M_17) (by simp [up])) (fun z1 => ?_) (fun z1 => ?_)
  · replace z1 := (cveq (nI_toInt (n := E 16 0) (by have := hO 16 0; omega)) (show ((0 : Int32)).toInt = 0 from by decide)).mp z1
    exfalso; omega
  · replace z1 := mt (cveq (nI_toInt (n := E 16 0) (by have := hO 16 0; omega)) (show ((0 : Int32)).toInt = 0 from by decide)).mpr z1
    refine b_M_count_138 (rdI (e := E 33 0) (k_M_20) (by simp [up])) ?_
    refine rt_i ?_ ?_ (b_M_count_146 )
    · rfl
    · rfl
theorem m_count4n {d : Nat} {A : Nat → Prop} {g : ah_H} {m : Nat} {E : rg_D} (hO : ∀ f j, E f j < 2 ^ 30) (hA : ∀ q, m ≤ q → q < m + 16 → A q) (hb : E 1 0 ≤ 8) (hd : 4 ≤ d) (hq : E 16 0 = 0) : ah_Ev mt_M_count d A [.ref m, .int 4] (rg LTm g m E) (.returned (some (.int 0))) (rg LTm g m (up E 32 0 0)) := by
  refine ah_Ev.of (by decide +kernel) (Nat.le_of_ble_eq_true rfl) ?_
  show ah_At mt_M_count d A (rg LTm g m E) (.returned (some (.int 0))) (rg LTm g m (up E 32 0 0)) 0 [(0, .ref m), (1, .int 4)] [] (rg LTm g m E)
  refine b_M_count_0 (hA _ (by omega) (by omega)) (rdE (k_M_0)) (fun z1 => ?_) (fun z1 => by exfalso; replace z1 := mt (cvlt (show ((4 : Int32)).toInt = 4 from by decide) (show ((10 : Int32)).toInt = 10 from by decide)).mpr z1; omega)
  replace z1 := (cvlt (show ((4 : Int32)).toInt = 4 from by decide) (show ((10 : Int32)).toInt = 10 from by decide)).mp z1
  rw [stmI0 (x := 0) (v := 0) (k_M_0) rfl]
  refine b_M_count_36 ?_
  refine lo_count (E := up E 32 0 0) (up_O hO (by decide)) (by rw [up_f (by decide)]; exact hb) ?_ _ 0 0 (by rw [Nat.zero_add]) rfl
  refine b_M_count_71 (fun z => by exfalso; revert z; decide) (fun z => by exfalso; revert z; decide) (fun z => by exfalso; revert z; decide) (fun z => by exfalso; revert z; decide) (fun z => by exfalso; revert z; decide) (fun _ => ?_)
  refine b_M_count_147 (rdI (e := E 16 0) (k_M_17) (by simp [up])) (fun z1 => ?_) (fun z1 => ?_)
  · replace z1 := (cveq (nI_toInt (n := E 16 0) (by have := hO 16 0; omega)) (show ((0 : Int32)).toInt = 0 from by decide)).mp z1
    refine b_M_count_158 ?_
    refine rt_i ?_ ?_ (b_M_count_159 )
    · rfl
    · rfl
  · replace z1 := mt (cveq (nI_toInt (n := E 16 0) (by have := hO 16 0; omega)) (show ((0 : Int32)).toInt = 0 from by decide)).mpr z1
    exfalso; omega
theorem m_count4 {d : Nat} {A : Nat → Prop} {g : ah_H} {m : Nat} {E : rg_D} (hO : ∀ f j, E f j < 2 ^ 30) (hA : ∀ q, m ≤ q → q < m + 16 → A q) (hb : E 1 0 ≤ 8) (hd : 4 ≤ d) (hq : E 16 0 = 1) : ah_Ev mt_M_count d A [.ref m, .int 4] (rg LTm g m E) (.returned (some (.int 1))) (rg LTm g m (up E 32 0 0)) := by
  refine ah_Ev.of (by decide +kernel) (Nat.le_of_ble_eq_true rfl) ?_
  show ah_At mt_M_count d A (rg LTm g m E) (.returned (some (.int 1))) (rg LTm g m (up E 32 0 0)) 0 [(0, .ref m), (1, .int 4)] [] (rg LTm g m E)
  refine b_M_count_0 (hA _ (by omega) (by omega)) (rdE (k_M_0)) (fun z1 => ?_) (fun z1 => by exfalso; replace z1 := mt (cvlt (show ((4 : Int32)).toInt = 4 from by decide) (show ((10 : Int32)).toInt = 10 from by decide)).mpr z1; omega)
  replace z1 := (cvlt (show ((4 : Int32)).toInt = 4 from by decide) (show ((10 : Int32)).toInt = 10 from by decide)).mp z1
  rw [stmI0 (x := 0) (v := 0) (k_M_0) rfl]
  refine b_M_count_36 ?_
  refine lo_count (E := up E 32 0 0) (up_O hO (by decide)) (by rw [up_f (by decide)]; exact hb) ?_ _ 0 0 (by rw [Nat.zero_add]) rfl
  refine b_M_count_71 (fun z => by exfalso; revert z; decide) (fun z => by exfalso; revert z; decide) (fun z => by exfalso; revert z; decide) (fun z => by exfalso; revert z; decide) (fun z => by exfalso; revert z; decide) (fun _ => ?_)
  refine b_M_count_147 (rdI (e := E 16 0) (k_M_17) (by simp [up])) (fun z1 => ?_) (fun z1 => ?_)
  · replace z1 := (cveq (nI_toInt (n := E 16 0) (by have := hO 16 0; omega)) (show ((0 : Int32)).toInt = 0 from by decide)).mp z1
    exfalso; omega
  · replace z1 := mt (cveq (nI_toInt (n := E 16 0) (by have := hO 16 0; omega)) (show ((0 : Int32)).toInt = 0 from by decide)).mpr z1
    refine b_M_count_154 ?_
    refine rt_i ?_ ?_ (b_M_count_159 )
    · rfl
    · rfl
theorem m_countn {d : Nat} {A : Nat → Prop} {g : ah_H} {m : Nat} {E : rg_D} (hO : ∀ f j, E f j < 2 ^ 30) (hA : ∀ q, m ≤ q → q < m + 16 → A q) (hb : E 1 0 ≤ 8) (hd : 4 ≤ d) {x1 : Int32} {p1 : Int} (h1 : x1.toInt = p1) (hp : p1 < 0 ∨ (5 ≤ p1 ∧ p1 < 10)) : ah_Ev mt_M_count d A [.ref m, .int x1] (rg LTm g m E) (.returned (some (.int (-1)))) (rg LTm g m (up E 32 0 0)) := by
  refine ah_Ev.of (by decide +kernel) (Nat.le_of_ble_eq_true rfl) ?_
  show ah_At mt_M_count d A (rg LTm g m E) (.returned (some (.int (-1)))) (rg LTm g m (up E 32 0 0)) 0 [(0, .ref m), (1, .int x1)] [] (rg LTm g m E)
  refine b_M_count_0 (hA _ (by omega) (by omega)) (rdE (k_M_0)) (fun z1 => ?_) (fun z1 => by exfalso; replace z1 := mt (cvlt h1 (show ((10 : Int32)).toInt = 10 from by decide)).mpr z1; omega)
  replace z1 := (cvlt h1 (show ((10 : Int32)).toInt = 10 from by decide)).mp z1
  rw [stmI0 (x := 0) (v := 0) (k_M_0) rfl]
  refine b_M_count_36 ?_
  refine lo_count (E := up E 32 0 0) (up_O hO (by decide)) (by rw [up_f (by decide)]; exact hb) ?_ _ 0 0 (by rw [Nat.zero_add]) rfl
  refine b_M_count_71 (fun _ => ?_) (fun z => by exfalso; have q1 := congrArg Int32.toInt z; rw [h1] at q1; have q2 : Int32.toInt 0 = 0 := (by decide); omega) (fun z => by exfalso; have q1 := congrArg Int32.toInt z; rw [h1] at q1; have q2 : Int32.toInt 1 = 1 := (by decide); omega) (fun z => by exfalso; have q1 := congrArg Int32.toInt z; rw [h1] at q1; have q2 : Int32.toInt 2 = 2 := (by decide); omega) (fun z => by exfalso; have q1 := congrArg Int32.toInt z; rw [h1] at q1; have q2 : Int32.toInt 3 = 3 := (by decide); omega) (fun z => by exfalso; have q1 := congrArg Int32.toInt z; rw [h1] at q1; have q2 : Int32.toInt 4 = 4 := (by decide); omega)
  refine rt_i ?_ ?_ (b_M_count_160 )
  · rfl
  · rfl
theorem m_countp1 {d : Nat} {A : Nat → Prop} {g : ah_H} {m : Nat} {E : rg_D} (hO : ∀ f j, E f j < 2 ^ 30) (hA : ∀ q, m ≤ q → q < m + 16 → A q) (h3 : E 0 0 ≤ 3) (hd : 4 ≤ d) {w : Nat} (hw : w < E 0 0) : ah_Ev mt_M_count d A [.ref m, .int (nI (w + 10))] (rg LTm g m E) (.returned (some (.int (nI (E 8 w))))) (rg LTm g m (up E 32 0 0)) := by
  refine ah_Ev.of (by decide +kernel) (Nat.le_of_ble_eq_true rfl) ?_
  show ah_At mt_M_count d A (rg LTm g m E) (.returned (some (.int (nI (E 8 w))))) (rg LTm g m (up E 32 0 0)) 0 [(0, .ref m), (1, .int (nI (w + 10)))] [] (rg LTm g m E)
  refine b_M_count_0 (hA _ (by omega) (by omega)) (rdE (k_M_0)) (fun z1 => by exfalso; replace z1 := (cvlt (nI_toInt (n := w + 10) (by omega)) (show ((10 : Int32)).toInt = 10 from by decide)).mp z1; omega) (fun z1 => ?_)
  replace z1 := mt (cvlt (nI_toInt (n := w + 10) (by omega)) (show ((10 : Int32)).toInt = 10 from by decide)).mpr z1
  rw [stmI0 (x := 0) (v := 0) (k_M_0) rfl]
  refine b_M_count_11 (c_isWagon (d := d - 1) (A := A) (E := (up E 32 0 0)) (up_O hO (by first | decide | omega)) (tn_n (show ((nI (w + 10)) - 10 : Int32) = nI ((w + 10) - 10) from (su_n rfl rfl (by omega))) (by omega)) (n := E 0 0) (by simp [up])) (by omega) (fun q hq => hq) ?_ (rdN (k_M_0))
  refine aft_1 ?_
  refine b_M_count_19 (fun z2 => ?_) (fun z2 => ?_)
  · replace z2 := pz0.mp z2
    exfalso; omega
  · replace z2 := pz1.mp z2
    refine b_M_count_22 (rdR (k_M_8)) (ix_n (show ((nI (w + 10)) - 10 : Int32) = nI ((w + 10) - 10) from (su_n rfl rfl (by omega))) (by omega)) (rdI (e := E 8 ((w + 10) - 10)) (k_M8 _ (by omega)) (by simp [up])) ?_
    refine rt_i ?_ ?_ (b_M_count_35 )
    · rw [Nat.add_sub_cancel]
    · rfl
theorem m_countp0 {d : Nat} {A : Nat → Prop} {g : ah_H} {m : Nat} {E : rg_D} (hO : ∀ f j, E f j < 2 ^ 30) (hA : ∀ q, m ≤ q → q < m + 16 → A q) (h3 : E 0 0 ≤ 3) (hd : 4 ≤ d) {w : Nat} (hw : ¬ w < E 0 0) (hw2 : w + 10 < 2 ^ 31) : ah_Ev mt_M_count d A [.ref m, .int (nI (w + 10))] (rg LTm g m E) (.returned (some (.int (-1)))) (rg LTm g m (up E 32 0 0)) := by
  refine ah_Ev.of (by decide +kernel) (Nat.le_of_ble_eq_true rfl) ?_
  show ah_At mt_M_count d A (rg LTm g m E) (.returned (some (.int (-1)))) (rg LTm g m (up E 32 0 0)) 0 [(0, .ref m), (1, .int (nI (w + 10)))] [] (rg LTm g m E)
  refine b_M_count_0 (hA _ (by omega) (by omega)) (rdE (k_M_0)) (fun z1 => by exfalso; replace z1 := (cvlt (nI_toInt (n := w + 10) (by omega)) (show ((10 : Int32)).toInt = 10 from by decide)).mp z1; omega) (fun z1 => ?_)
  replace z1 := mt (cvlt (nI_toInt (n := w + 10) (by omega)) (show ((10 : Int32)).toInt = 10 from by decide)).mpr z1
  rw [stmI0 (x := 0) (v := 0) (k_M_0) rfl]
  refine b_M_count_11 (c_isWagon (d := d - 1) (A := A) (E := (up E 32 0 0)) (up_O hO (by first | decide | omega)) (tn_n (show ((nI (w + 10)) - 10 : Int32) = nI ((w + 10) - 10) from (su_n rfl rfl (by omega))) (by omega)) (n := E 0 0) (by simp [up])) (by omega) (fun q hq => hq) ?_ (rdN (k_M_0))
  refine aft_1 ?_
  refine b_M_count_19 (fun z2 => ?_) (fun z2 => ?_)
  · replace z2 := pz0.mp z2
    refine b_M_count_34 ?_
    refine rt_i ?_ ?_ (b_M_count_35 )
    · rfl
    · rfl
  · replace z2 := pz1.mp z2
    exfalso; omega
