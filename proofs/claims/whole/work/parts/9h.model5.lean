/-! CONTRACTS of the model: the plan. Printed out of wip/ -/
def MI (E : rg_D) : Prop := (E 0 0 ≤ 3 ∧ E 1 0 ≤ 8) ∧ (∀ w, E 8 w ≤ 4) ∧ (∀ j, E 9 j < 10000) ∧ ∀ j, E 11 j ≤ 1000000 ∧ E 13 j < 4 ∧ E 10 j < 4
theorem MI.of {D D' : rg_D} (h : MI D) (e : ∀ f j, f < 16 → D' f j = D f j) : MI D' := by
  obtain ⟨⟨h1, h2⟩, h3, h4, h5⟩ := h
  refine ⟨⟨by rw [e 0 0 (by decide)]; exact h1, by rw [e 1 0 (by decide)]; exact h2⟩, fun w => by rw [e 8 w (by decide)]; exact h3 w, fun w => by rw [e 9 w (by decide)]; exact h4 w, fun i => ?_⟩
  rw [e 10 i (by decide), e 13 i (by decide), e 11 i (by decide)]
  exact h5 i
theorem HB.of {D D' : rg_D} {B : Nat → Nat} (h : HB D B) (e : ∀ f j, f < 25 → D' f j = D f j) : HB D' B := by
  intro r hr
  rw [e 1 0 (by decide)] at hr ⊢
  obtain ⟨h1, h2, h3⟩ := h r hr
  exact ⟨h1, by rw [rk_ag e]; exact h2, fun q hq hk => h3 q hq (by rw [rk_ag e] at hk; exact hk)⟩
def zbs : Nat → Nat → rg_D → rg_D
  | 0, _, E => E
  | k + 1, b, E => zbs k (b + 1) (up E 29 b 0)
def dgs (n : Nat) : Nat → Nat → Nat → rg_D → rg_D
  | 0, _, _, E => E
  | k + 1, b, l, E => dgs n k (b + 1) (l / n) (up E 28 b (l % n))
def cps : Nat → Nat → rg_D → rg_D
  | 0, _, E => E
  | k + 1, b, E => cps k (b + 1) (up E 29 b (E 28 b))
theorem zbs_f {f j : Nat} (h : f ≠ 29) : ∀ {k b : Nat} {E : rg_D}, zbs k b E f j = E f j
  | 0, _, _ => rfl
  | k + 1, b, E => by rw [zbs, zbs_f h, up_f h]
theorem zbs_O : ∀ {k b : Nat} {E : rg_D}, (∀ f j, E f j < 2 ^ 30) → ∀ f j, zbs k b E f j < 2 ^ 30
  | 0, _, _, h => h
  | k + 1, b, E, h => by rw [zbs]; exact zbs_O (up_O h (by decide))
theorem dgs_f {n f j : Nat} (h : f ≠ 28) : ∀ {k b l : Nat} {E : rg_D}, dgs n k b l E f j = E f j
  | 0, _, _, _ => rfl
  | k + 1, b, l, E => by rw [dgs, dgs_f h, up_f h]
theorem dgs_O {n : Nat} (hn : 0 < n ∧ n ≤ 4) : ∀ {k b l : Nat} {E : rg_D}, (∀ f j, E f j < 2 ^ 30) → ∀ f j, dgs n k b l E f j < 2 ^ 30
  | 0, _, _, _, h => h
  | k + 1, b, l, E, h => by rw [dgs]; exact dgs_O hn (up_O h (by have := Nat.mod_lt l hn.1; omega))
theorem cps_f {f j : Nat} (h : f ≠ 29) : ∀ {k b : Nat} {E : rg_D}, cps k b E f j = E f j
  | 0, _, _ => rfl
  | k + 1, b, E => by rw [cps, cps_f h, up_f h]
theorem cps_O : ∀ {k b : Nat} {E : rg_D}, (∀ f j, E f j < 2 ^ 30) → ∀ f j, cps k b E f j < 2 ^ 30
  | 0, _, _, h => h
  | k + 1, b, E, h => by rw [cps]; exact cps_O (up_O h (h 28 b))
theorem us_le {E : rg_D} (h : E 1 0 ≤ 8) : us E ≤ 72 := by
  have := sm_le (f := usf E) (fun j => usf_le) (E 1 0)
  unfold us
  omega
noncomputable def pst (E : rg_D) (B : Nat → Nat) : rg_D := if pb (us E < E 33 0 ∨ (us E = E 33 0 ∧ ¬ ahP E B) ∨ ¬ mbP E) then E else cps (E 1 0) 0 (up E 33 0 (us E))
noncomputable def pls (B : Nat → Nat) : Nat → Nat → rg_D → rg_D
  | 0, _, E => E
  | k + 1, t, E => pls B k (t + 1) (pst (dgs (E 0 0 + 1) (E 1 0) 0 t E) B)
theorem pst_f {E : rg_D} {B : Nat → Nat} {f j : Nat} (h : f ≠ 29 ∧ f ≠ 33) : pst E B f j = E f j := by
  unfold pst
  split
  · rfl
  · rw [cps_f h.1, up_f h.2]
theorem pst_O {E : rg_D} {B : Nat → Nat} (h : ∀ f j, E f j < 2 ^ 30) (h8 : E 1 0 ≤ 8) : ∀ f j, pst E B f j < 2 ^ 30 := by
  unfold pst
  split
  · exact h
  · exact cps_O (up_O h (by have := us_le h8; omega))
theorem lo_pl9 {d : Nat} {A : Nat → Prop} {g : ah_H} {m : Nat} (hA : ∀ q, m ≤ q → q < m + 16 → A q) {h0 h2 : ah_H} {o : Outcome}  : ∀ (k b x : Nat) (E : rg_D), b + k = E 1 0 → (∀ f j, E f j < 2 ^ 30) → E 1 0 ≤ 8 ∧ E 0 0 ≤ 3 → x = (E 0 0 + 1) ^ b → ah_At mt_M_plan d A h0 o h2 39 [(0, .ref m), (1, .int (nI ((E 0 0 + 1) ^ (b + k))))] [] (rg LTm g m (zbs k b E)) → ah_At mt_M_plan d A h0 o h2 9 [(0, .ref m), (1, .int (nI x)), (2, .int (nI b))] [] (rg LTm g m E)
  | 0, b, x, E, hk, hO, h83, hx, K => by
    refine b_M_plan_9 (rdI (k_M_2) rfl) (fun z1 => ?_) (fun z1 => by exfalso; replace z1 := mt (cvle (nI_toInt (n := E 1 0) (by have := hO 1 0; omega)) (nI_toInt (n := b) (by omega))).mpr z1; omega)
    replace z1 := (cvle (nI_toInt (n := E 1 0) (by have := hO 1 0; omega)) (nI_toInt (n := b) (by omega))).mp z1
    rw [hx]
    exact K
  | k + 1, b, x, E, hk, hO, h83, hx, K => by
    refine b_M_plan_9 (rdI (k_M_2) rfl) (fun z1 => by exfalso; replace z1 := (cvle (nI_toInt (n := E 1 0) (by have := hO 1 0; omega)) (nI_toInt (n := b) (by omega))).mp z1; omega) (fun z1 => ?_)
    replace z1 := mt (cvle (nI_toInt (n := E 1 0) (by have := hO 1 0; omega)) (nI_toInt (n := b) (by omega))).mpr z1
    refine b_M_plan_17 (rdI (k_M_1) rfl) (rdR (k_M_19)) (hA _ (by omega) (by omega)) (ah_ix_nI (by omega)) (rdE (k_M29 _ (by omega))) ?_
    rw [stmI (x := 0) (v := 0) (k_M29 _ (by omega)) rfl]
    rw [show ((nI x) * ((nI (E 0 0)) + 1) : Int32) = nI (x * ((E 0 0) + 1)) from (mu_n rfl (ad_n rfl rfl))]
    rw [show ((nI b) + 1 : Int32) = nI (b + 1) from (ad_n rfl rfl)]
    exact lo_pl9 hA k (b + 1) _ _ (by rw [up_f (by decide)]; omega) (up_O hO (by decide)) (by rw [up_f (by decide), up_f (by decide)]; exact h83) (by rw [up_f (by decide), Nat.pow_succ, hx]) (by rw [up_f (by decide), show b + 1 + k = b + (k + 1) by omega]; exact K)
theorem lo_pl56 {d : Nat} {A : Nat → Prop} {g : ah_H} {m : Nat} (hA : ∀ q, m ≤ q → q < m + 16 → A q) {h0 h2 : ah_H} {o : Outcome} {x t n : Nat} : ∀ (k b l : Nat) (E : rg_D), b + k = E 1 0 → (∀ f j, E f j < 2 ^ 30) → E 1 0 ≤ 8 ∧ E 0 0 ≤ 3 → l < 2 ^ 30 → n = E 0 0 + 1 → ah_At mt_M_plan d A h0 o h2 95 [(0, .ref m), (1, .int (nI x)), (2, .int (nI t))] [] (rg LTm g m (dgs n k b l E)) → ah_At mt_M_plan d A h0 o h2 56 [(0, .ref m), (1, .int (nI x)), (2, .int (nI t)), (3, .int (nI l)), (4, .int (nI b))] [] (rg LTm g m E)
  | 0, b, l, E, hk, hO, h83, hl, hn, K => by
    refine b_M_plan_56 (rdI (k_M_2) rfl) (fun z1 => ?_) (fun z1 => by exfalso; replace z1 := mt (cvle (nI_toInt (n := E 1 0) (by have := hO 1 0; omega)) (nI_toInt (n := b) (by omega))).mpr z1; omega)
    replace z1 := (cvle (nI_toInt (n := E 1 0) (by have := hO 1 0; omega)) (nI_toInt (n := b) (by omega))).mp z1
    exact K
  | k + 1, b, l, E, hk, hO, h83, hl, hn, K => by
    have hlm := Nat.mod_lt l (Nat.succ_pos (E 0 0)); have hld := Nat.div_le_self l (E 0 0 + 1)
    refine b_M_plan_56 (rdI (k_M_2) rfl) (fun z1 => by exfalso; replace z1 := (cvle (nI_toInt (n := E 1 0) (by have := hO 1 0; omega)) (nI_toInt (n := b) (by omega))).mp z1; omega) (fun z1 => ?_)
    replace z1 := mt (cvle (nI_toInt (n := E 1 0) (by have := hO 1 0; omega)) (nI_toInt (n := b) (by omega))).mpr z1
    refine b_M_plan_65 (v5 := nI (E 0 0)) (rdR (k_M_18)) (rdI (k_M_1) rfl) (nz_n (show ((nI (E 0 0)) + 1 : Int32) = nI ((E 0 0) + 1) from (ad_n rfl rfl)) (by omega) (by have := hO 0 0; omega)) (hA _ (by omega) (by omega)) (ah_ix_nI (by omega)) (rdE (k_M28 _ (by omega))) (by rw [stmI (x := l % ((E 0 0) + 1)) (v := (nI l) - (nI l) / ((nI (E 0 0)) + 1) * ((nI (E 0 0)) + 1)) (k_M28 _ (by omega)) (rm_n rfl (ad_n rfl rfl) (by omega) (by omega) (by have := hO 0 0; omega))]; exact (rdI (e := E 0 0) (k_M_1) (by simp [up]))) (nz_n (show ((nI (E 0 0)) + 1 : Int32) = nI ((E 0 0) + 1) from (ad_n rfl rfl)) (by omega) (by have := hO 0 0; omega)) ?_
    rw [stmI (x := l % ((E 0 0) + 1)) (v := (nI l) - (nI l) / ((nI (E 0 0)) + 1) * ((nI (E 0 0)) + 1)) (k_M28 _ (by omega)) (rm_n rfl (ad_n rfl rfl) (by omega) (by omega) (by have := hO 0 0; omega))]
    rw [show ((nI l) / ((nI (E 0 0)) + 1) : Int32) = nI (l / ((E 0 0) + 1)) from (dv_n rfl (ad_n rfl rfl) (by omega) (by omega) (by have := hO 0 0; omega))]
    rw [show ((nI b) + 1 : Int32) = nI (b + 1) from (ad_n rfl rfl)]
    subst hn
    exact lo_pl56 hA k (b + 1) _ _ (by rw [up_f (by decide)]; omega) (up_O hO (by have q : l % (E 0 0 + 1) < E 0 0 + 1 := Nat.mod_lt l (Nat.succ_pos (E 0 0)); omega)) (by rw [up_f (by decide), up_f (by decide)]; exact h83) (Nat.lt_of_le_of_lt (Nat.div_le_self _ _) hl) (by rw [up_f (by decide)]) K
theorem lo_pl145 {d : Nat} {A : Nat → Prop} {g : ah_H} {m : Nat} (hA : ∀ q, m ≤ q → q < m + 16 → A q) {h0 h2 : ah_H} {o : Outcome} {x t : Nat} (ht : t < 2 ^ 30) : ∀ (k b : Nat) (E : rg_D), b + k = E 1 0 → (∀ f j, E f j < 2 ^ 30) → E 1 0 ≤ 8 → ah_At mt_M_plan d A h0 o h2 46 [(0, .ref m), (1, .int (nI x)), (2, .int (nI (t + 1)))] [] (rg LTm g m (cps k b E)) → ah_At mt_M_plan d A h0 o h2 145 [(0, .ref m), (1, .int (nI x)), (2, .int (nI t)), (5, .int (nI b))] [] (rg LTm g m E)
  | 0, b, E, hk, hO, h8, K => by
    refine b_M_plan_145 (rdI (k_M_2) rfl) (fun z1 => ?_) (fun z1 => by exfalso; replace z1 := mt (cvle (nI_toInt (n := E 1 0) (by have := hO 1 0; omega)) (nI_toInt (n := b) (by omega))).mpr z1; omega)
    replace z1 := (cvle (nI_toInt (n := E 1 0) (by have := hO 1 0; omega)) (nI_toInt (n := b) (by omega))).mp z1
    refine b_M_plan_174 ?_
    rw [show ((nI t) + 1 : Int32) = nI (t + 1) from (ad_n rfl rfl)]
    exact K
  | k + 1, b, E, hk, hO, h8, K => by
    refine b_M_plan_145 (rdI (k_M_2) rfl) (fun z1 => by exfalso; replace z1 := (cvle (nI_toInt (n := E 1 0) (by have := hO 1 0; omega)) (nI_toInt (n := b) (by omega))).mp z1; omega) (fun z1 => ?_)
    replace z1 := mt (cvle (nI_toInt (n := E 1 0) (by have := hO 1 0; omega)) (nI_toInt (n := b) (by omega))).mpr z1
    refine b_M_plan_154 (rdR (k_M_19)) (rdR (k_M_18)) (ah_ix_nI (by omega)) (rdI (k_M28 _ (by omega)) rfl) (hA _ (by omega) (by omega)) (ah_ix_nI (by omega)) (rdE (k_M29 _ (by omega))) ?_
    rw [stmI (x := E 28 b) (v := nI (E 28 b)) (k_M29 _ (by omega)) rfl]
    rw [show ((nI b) + 1 : Int32) = nI (b + 1) from (ad_n rfl rfl)]
    exact lo_pl145 hA ht k (b + 1) _ (by rw [up_f (by decide)]; omega) (up_O hO (hO 28 b)) (by rw [up_f (by decide)]; exact h8) K
theorem pl_95 {d : Nat} {A : Nat → Prop} {g : ah_H} {m : Nat} (hA : ∀ q, m ≤ q → q < m + 16 → A q) {h0 h2 : ah_H} {o : Outcome} {E : rg_D} {B : Nat → Nat} {x t : Nat} (hO : ∀ f j, E f j < 2 ^ 30) (hM : MI E) (hB : HB E B) (ht : t < 2 ^ 30) (hd : 7 ≤ d) (K : ah_At mt_M_plan d A h0 o h2 46 [(0, .ref m), (1, .int (nI x)), (2, .int (nI (t + 1)))] [] (rg LTm g m (pst E B))) : ah_At mt_M_plan d A h0 o h2 95 [(0, .ref m), (1, .int (nI x)), (2, .int (nI t))] [] (rg LTm g m E) := by
  refine b_M_plan_95 (c_used (d := d - 1) (A := A) hO hM.1.2 (by omega)) (by omega) (fun q hq => hq) ?_ (rdN (k_M_0))
  refine aft_1 ?_
  have hus := us_le hM.1.2
  refine b_M_plan_99 (rdI (k_M_20) rfl) (fun z1 => ?_) (fun z1 => ?_)
  · replace z1 := (cvlt (nI_toInt (n := us E) (by omega)) (nI_toInt (n := E 33 0) (by have := hO 33 0; omega))).mp z1
    refine b_M_plan_174 ?_
    rw [show ((nI t) + 1 : Int32) = nI (t + 1) from (ad_n rfl rfl)]
    rw [show pst E B = E from by unfold pst; rw [pb_t (by first | exact Or.inl (by omega) | exact Or.inr (Or.inl ⟨by omega, by assumption⟩) | exact Or.inr (Or.inr (by assumption)))]; rfl] at K
    exact K
  · replace z1 := mt (cvlt (nI_toInt (n := us E) (by omega)) (nI_toInt (n := E 33 0) (by have := hO 33 0; omega))).mpr z1
    refine b_M_plan_110 (rdI (k_M_20) rfl) (fun z2 => ?_) (fun z2 => ?_)
    · replace z2 := mt (cveq (nI_toInt (n := us E) (by omega)) (nI_toInt (n := E 33 0) (by have := hO 33 0; omega))).mpr z2
      refine b_M_plan_126 (c_mayBe (d := d - 1) (A := A) hO hM.1.2 hM.1.1 hM.2.1 hM.2.2.1 (fun j => (hM.2.2.2 j).1) (fun j => (hM.2.2.2 j).2.1) (by omega)) (by omega) (fun q hq => hq) ?_ (rdN (k_M_0))
      refine aft_1 ?_
      refine b_M_plan_130 (fun z3 => ?_) (fun z3 => ?_)
      · replace z3 := pz1.mp z3
        refine b_M_plan_136 (hA _ (by omega) (by omega)) (rdE (k_M_20)) ?_
        rw [stmI0 (x := us E) (v := nI (us E)) (k_M_20) rfl]
        rw [show pst E B = cps (E 1 0) 0 (up E 33 0 (us E)) from by unfold pst; rw [pb_f (by rintro (q | ⟨q, q2⟩ | q) <;> first | omega | contradiction)]; rfl] at K
        exact lo_pl145 hA (by omega) _ 0 _ (by rw [up_f (by decide)]; exact Nat.zero_add _) (up_O hO (by omega)) (by rw [up_f (by decide)]; exact hM.1.2) K
      · replace z3 := pz0.mp (Decidable.not_not.mp z3)
        refine b_M_plan_133 ?_
        refine b_M_plan_174 ?_
        rw [show ((nI t) + 1 : Int32) = nI (t + 1) from (ad_n rfl rfl)]
        rw [show pst E B = E from by unfold pst; rw [pb_t (by first | exact Or.inl (by omega) | exact Or.inr (Or.inl ⟨by omega, by assumption⟩) | exact Or.inr (Or.inr (by assumption)))]; rfl] at K
        exact K
    · replace z2 := (cveq (nI_toInt (n := us E) (by omega)) (nI_toInt (n := E 33 0) (by have := hO 33 0; omega))).mp (Decidable.not_not.mp z2)
      refine b_M_plan_119 (c_isAhead (d := d - 1) (A := A) (B := B) hO hM.1.2 hB (by omega)) (by omega) (fun q hq => hq) ?_ (rdN (k_M_0))
      refine aft_1 ?_
      refine b_M_plan_123 (fun z4 => ?_) (fun z4 => ?_)
      · replace z4 := pz0.mp z4
        refine b_M_plan_174 ?_
        rw [show ((nI t) + 1 : Int32) = nI (t + 1) from (ad_n rfl rfl)]
        rw [show pst E B = E from by unfold pst; rw [pb_t (by first | exact Or.inl (by omega) | exact Or.inr (Or.inl ⟨by omega, by assumption⟩) | exact Or.inr (Or.inr (by assumption)))]; rfl] at K
        exact K
      · replace z4 := pz1.mp z4
        refine b_M_plan_126 (c_mayBe (d := d - 1) (A := A) hO hM.1.2 hM.1.1 hM.2.1 hM.2.2.1 (fun j => (hM.2.2.2 j).1) (fun j => (hM.2.2.2 j).2.1) (by omega)) (by omega) (fun q hq => hq) ?_ (rdN (k_M_0))
        refine aft_1 ?_
        refine b_M_plan_130 (fun z5 => ?_) (fun z5 => ?_)
        · replace z5 := pz1.mp z5
          refine b_M_plan_136 (hA _ (by omega) (by omega)) (rdE (k_M_20)) ?_
          rw [stmI0 (x := us E) (v := nI (us E)) (k_M_20) rfl]
          rw [show pst E B = cps (E 1 0) 0 (up E 33 0 (us E)) from by unfold pst; rw [pb_f (by rintro (q | ⟨q, q2⟩ | q) <;> first | omega | contradiction)]; rfl] at K
          exact lo_pl145 hA (by omega) _ 0 _ (by rw [up_f (by decide)]; exact Nat.zero_add _) (up_O hO (by omega)) (by rw [up_f (by decide)]; exact hM.1.2) K
        · replace z5 := pz0.mp (Decidable.not_not.mp z5)
          refine b_M_plan_133 ?_
          refine b_M_plan_174 ?_
          rw [show ((nI t) + 1 : Int32) = nI (t + 1) from (ad_n rfl rfl)]
          rw [show pst E B = E from by unfold pst; rw [pb_t (by first | exact Or.inl (by omega) | exact Or.inr (Or.inl ⟨by omega, by assumption⟩) | exact Or.inr (Or.inr (by assumption)))]; rfl] at K
          exact K
theorem lo_pl46 {d : Nat} {A : Nat → Prop} {g : ah_H} {m : Nat} (hA : ∀ q, m ≤ q → q < m + 16 → A q) {h0 : ah_H} {B : Nat → Nat} {x : Nat} (hx : x < 2 ^ 30) (hd : 7 ≤ d) : ∀ (k t : Nat) (E : rg_D), t + k = x → (∀ f j, E f j < 2 ^ 30) → MI E → HB E B → ah_At mt_M_plan d A h0 (.returned (some (.int (nI (pls B k t E 33 0))))) (rg LTm g m (up (pls B k t E) 16 0 1)) 46 [(0, .ref m), (1, .int (nI x)), (2, .int (nI t))] [] (rg LTm g m E)
  | 0, t, E, hk, hO, hM, hB => by
    refine b_M_plan_46 (fun z1 => ?_) (fun z1 => by exfalso; replace z1 := mt (cvle (nI_toInt (n := x) (by omega)) (nI_toInt (n := t) (by omega))).mpr z1; omega)
    replace z1 := (cvle (nI_toInt (n := x) (by omega)) (nI_toInt (n := t) (by omega))).mp z1
    refine rt_i ?_ ?_ (b_M_plan_180 (v2 := nI (E 33 0)) (hA _ (by omega) (by omega)) (rdE (k_M_17)) (by rw [stmI0 (x := 1) (v := 1) (k_M_17) rfl]; exact (rdI (e := E 33 0) (k_M_20) (by simp [up]))))
    · rfl
    · rw [stmI0 (x := 1) (v := 1) (k_M_17) rfl] <;> (rfl)
  | k + 1, t, E, hk, hO, hM, hB => by
    have h83 := hM.1
    have hf : ∀ f j, f < 25 → dgs (E 0 0 + 1) (E 1 0) 0 t E f j = E f j := fun f j hf => dgs_f (by omega)
    have hO1 : ∀ f j, dgs (E 0 0 + 1) (E 1 0) 0 t E f j < 2 ^ 30 := dgs_O (by omega) hO
    have hM1 : MI (dgs (E 0 0 + 1) (E 1 0) 0 t E) := hM.of (fun f j q => hf f j (by omega))
    have hB1 : HB (dgs (E 0 0 + 1) (E 1 0) 0 t E) B := hB.of hf
    have hp : ∀ f j, f < 25 → pst (dgs (E 0 0 + 1) (E 1 0) 0 t E) B f j = dgs (E 0 0 + 1) (E 1 0) 0 t E f j := fun f j q => pst_f (by omega)
    have K := lo_pl46 hA (h0 := h0) (g := g) hx hd k (t + 1) (pst (dgs (E 0 0 + 1) (E 1 0) 0 t E) B) (by omega) (pst_O hO1 hM1.1.2) (hM1.of (fun f j q => hp f j (by omega))) (hB1.of hp)
    have K2 := pl_95 hA (x := x) hO1 hM1 hB1 (by omega) hd K
    refine b_M_plan_46 (fun z1 => by exfalso; replace z1 := (cvle (nI_toInt (n := x) (by omega)) (nI_toInt (n := t) (by omega))).mp z1; omega) (fun z1 => ?_)
    replace z1 := mt (cvle (nI_toInt (n := x) (by omega)) (nI_toInt (n := t) (by omega))).mpr z1
    refine b_M_plan_51 ?_
    exact lo_pl56 hA (n := E 0 0 + 1) (E 1 0) 0 t E (Nat.zero_add _) hO ⟨h83.2, h83.1⟩ (by omega) rfl K2
theorem pw_le {n k : Nat} (hn : n ≤ 4) (hk : k ≤ 8) : n ^ k ≤ 65536 := Nat.le_trans (Nat.pow_le_pow_left hn k) (Nat.pow_le_pow_right (by decide) hk)
noncomputable def mpl (E : rg_D) (B : Nat → Nat) : rg_D := pls B ((E 0 0 + 1) ^ E 1 0) 0 (up (zbs (E 1 0) 0 (up E 32 0 0)) 33 0 0)
theorem c_planM {d : Nat} {A : Nat → Prop} {g : ah_H} {m : Nat} {E : rg_D} (hO : ∀ f j, E f j < 2 ^ 30) (hA : ∀ q, m ≤ q → q < m + 16 → A q) {B : Nat → Nat} (hM : MI E) (hB : HB E B) (hd : 7 ≤ d) : ah_Ev mt_M_plan d A [.ref m] (rg LTm g m E) (.returned (some (.int (nI (mpl E B 33 0))))) (rg LTm g m (up (mpl E B) 16 0 1)) := by
  refine ah_Ev.of (by decide +kernel) (Nat.le_of_ble_eq_true rfl) ?_
  show ah_At mt_M_plan d A (rg LTm g m E) (.returned (some (.int (nI (mpl E B 33 0))))) (rg LTm g m (up (mpl E B) 16 0 1)) 0 [(0, .ref m)] [] (rg LTm g m E)
  refine b_M_plan_0 (hA _ (by omega) (by omega)) (rdE (k_M_0)) ?_
  rw [stmI0 (x := 0) (v := 0) (k_M_0) rfl]
  have e0 : up E 32 0 0 0 0 = E 0 0 := up_f (by decide)
  have e1 : up E 32 0 0 1 0 = E 1 0 := up_f (by decide)
  have hO1 := up_O (f0 := 32) (j0 := 0) (x := 0) hO (by decide)
  have hM1 : MI (up E 32 0 0) := hM.of (fun f j q => up_f (by omega))
  have hB1 : HB (up E 32 0 0) B := hB.of (fun f j q => up_f (by omega))
  have hM2 : MI (up (zbs (E 1 0) 0 (up E 32 0 0)) 33 0 0) := hM1.of (fun f j q => by rw [up_f (by omega), zbs_f (by omega)])
  have hB2 : HB (up (zbs (E 1 0) 0 (up E 32 0 0)) 33 0 0) B := hB1.of (fun f j q => by rw [up_f (by omega), zbs_f (by omega)])
  have K := lo_pl46 hA (h0 := rg LTm g m E) (g := g) (d := d) (B := B) (x := (E 0 0 + 1) ^ E 1 0) (by have := pw_le (n := E 0 0 + 1) (k := E 1 0) (by have := hM.1.1; omega) hM.1.2; omega) hd ((E 0 0 + 1) ^ E 1 0) 0 _ (Nat.zero_add _) (up_O (zbs_O hO1) (by decide)) hM2 hB2
  refine lo_pl9 hA (E 1 0) 0 1 (up E 32 0 0) (by rw [e1]; exact Nat.zero_add _) hO1 (by rw [e0, e1]; exact ⟨hM.1.2, hM.1.1⟩) (by rw [Nat.pow_zero]) ?_
  rw [e0, Nat.zero_add]
  refine b_M_plan_39 (hA _ (by omega) (by omega)) (rdE (k_M_20)) ?_
  rw [stmI0 (x := 0) (v := 0) (k_M_20) rfl]
  exact K
