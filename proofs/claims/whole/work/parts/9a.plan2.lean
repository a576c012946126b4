/-! makePlan -/
theorem clr_f {D : rg_D} {l f j : Nat} (h : f < 20 ∨ 24 < f) : clr D l f j = D f j := by
  unfold clr
  rw [up_f (by omega), up_f (by omega), up_f (by omega), fl_out (by omega), fl_out (by omega)]
theorem clrs_f {f j : Nat} (h : f < 20 ∨ 24 < f) : ∀ {k l : Nat} {D : rg_D}, clrs k l D f j = D f j
  | 0, _, _ => rfl
  | k + 1, l, D => by rw [clrs, clrs_f h, clr_f h]
theorem clr_O {D : rg_D} {l : Nat} (h : ∀ f j, D f j < 2 ^ 30) : ∀ f j, clr D l f j < 2 ^ 30 := by
  refine up_O (up_O (up_O (fun f j => ?_) (by decide)) (by decide)) (by decide)
  have := h f j
  unfold fl
  split
  · decide
  · split
    · decide
    · exact this
theorem clrs_O : ∀ {k l : Nat} {D : rg_D}, (∀ f j, D f j < 2 ^ 30) → ∀ f j, clrs k l D f j < 2 ^ 30
  | 0, _, _, h => h
  | k + 1, l, D, h => by rw [clrs]; exact clrs_O (clr_O h)
/-- the loads' places that aren't there hold nothing -/
def Gh (D : rg_D) : Prop := (∀ j, 3 ≤ j → D 20 j = 0 ∧ D 21 j = 0 ∧ D 22 j = 0) ∧ ∀ j, 12 ≤ j → D 23 j = 0 ∧ D 24 j = 0
theorem clr_20 {D : rg_D} {l f j : Nat} (hf : f = 20 ∨ f = 21 ∨ f = 22) : clr D l f j = if j = l then 0 else D f j := by
  rcases hf with rfl | rfl | rfl
  · unfold clr; rw [up_f (by decide), up_f (by decide)]; unfold up fl; simp
  · unfold clr; rw [up_f (by decide)]; unfold up fl; simp
  · unfold clr up fl; simp
theorem clr_23 {D : rg_D} {l f j : Nat} (hf : f = 23 ∨ f = 24) : clr D l f j = if 4 * l ≤ j ∧ j < 4 * l + 4 then 0 else D f j := by
  rcases hf with rfl | rfl
  · unfold clr; rw [up_f (by decide), up_f (by decide), up_f (by decide), fl_out (Or.inl (by decide))]; unfold fl; simp
  · unfold clr; rw [up_f (by decide), up_f (by decide), up_f (by decide)]; unfold fl; simp
theorem clrs_z {D : rg_D} (h : Gh D) {f j : Nat} (h1 : 20 ≤ f) (h2 : f ≤ 24) : clrs 3 0 D f j = 0 := by
  show clr (clr (clr D 0) 1) 2 f j = 0
  by_cases e : f ≤ 22
  · have hf : f = 20 ∨ f = 21 ∨ f = 22 := by omega
    rw [clr_20 hf, clr_20 hf, clr_20 hf]
    split
    · rfl
    · split
      · rfl
      · split
        · rfl
        · have := h.1 j (by omega)
          rcases hf with rfl | rfl | rfl
          · exact this.1
          · exact this.2.1
          · exact this.2.2
  · have hf : f = 23 ∨ f = 24 := by omega
    rw [clr_23 hf, clr_23 hf, clr_23 hf]
    split
    · rfl
    · split
      · rfl
      · split
        · rfl
        · have := h.2 j (by omega)
          rcases hf with rfl | rfl
          · exact this.1
          · exact this.2
theorem wbs_f {f k : Nat} (h : f ≠ 25 ∧ f ≠ 26 ∧ f ≠ 27) : ∀ {j : Nat} {D : rg_D}, wbs j D f k = D f k
  | 0, _ => rfl
  | j + 1, D => by rw [wbs, wbs_f h, wbS_f h]
theorem rk_ag {D D' : rg_D} (h : ∀ f j, f < 25 → D' f j = D f j) {i : Nat} : rk D' i = rk D i := by
  unfold rk rkf
  simp only [h 14 _ (by decide), h 1 _ (by decide)]
theorem wo_ag {D D' : rg_D} (h : ∀ f j, f < 25 → D' f j = D f j) {i : Nat} : wo D' i = wo D i := by
  unfold wo
  rw [rk_ag h, h 10 _ (by decide)]
theorem wbs_26 {k : Nat} : ∀ {j : Nat} {D : rg_D}, wbs j D 26 k = if k < j then wo D k else D 26 k
  | 0, _ => by rw [wbs, if_neg (by omega)]
  | j + 1, D => by
    rw [wbs, wbs_26, wo_ag (fun f k hf => wbS_f (by omega))]
    by_cases e : k = j
    · subst e
      rw [if_neg (by omega), if_pos (by omega)]
      unfold wbS
      rw [up_f (by decide), up_s]
    · by_cases e2 : k < j
      · rw [if_pos e2, if_pos (by omega)]
      · rw [if_neg e2, if_neg (by omega)]
        unfold wbS
        rw [up_f (by decide), up_j e, up_f (by decide)]
theorem wbs_27a {k : Nat} : ∀ {j : Nat} {D : rg_D}, j ≤ k → wbs j D 27 k = D 27 k
  | 0, _, _ => rfl
  | j + 1, D, h => by
    rw [wbs, wbs_27a (by omega)]
    unfold wbS
    rw [up_j (by omega), up_f (by decide), up_f (by decide)]
theorem wbs_27 {k : Nat} : ∀ {j : Nat} {D : rg_D}, k < j → wbs j D 27 k = wbs j D 27 (k + 1) + if pb (swP D k) then wo D k else 0
  | 0, _, h => by omega
  | j + 1, D, h => by
    rw [wbs]
    by_cases e : k = j
    · subst e
      rw [wbs_27a (Nat.le_refl _), wbs_27a (by omega)]
      unfold wbS
      rw [up_s, up_j (by omega), up_f (by decide), up_f (by decide)]
    · rw [wbs_27 (by omega), wo_ag (fun f k hf => wbS_f (by omega)), propext (swP_ag (fun f k hf => wbS_f (by omega)))]
theorem wbs_O : ∀ {j : Nat} {D : rg_D}, (∀ f k, D f k < 2 ^ 30) → j ≤ 8 → D 27 j + bw j ≤ 32768 → (∀ f k, wbs j D f k < 2 ^ 30) ∧ ∀ k, k ≤ j → wbs j D 27 k ≤ 32768
  | 0, D, h, _, h27 => ⟨h, fun k hk => by rw [show k = 0 by omega]; show D 27 0 ≤ 32768; omega⟩
  | j + 1, D, h, hj, h27 => by
    have h1 := wo_le (D := D) (j := j)
    rw [bw_s] at h27
    obtain ⟨k1, k2⟩ := wbs_O (D := wbS D j) (wbS_O h (by omega) (by omega)) (j := j) (by omega) (by unfold wbS; rw [up_s]; split <;> omega)
    refine ⟨k1, fun k hk => ?_⟩
    by_cases e : k = j + 1
    · subst e
      rw [wbs, wbs_27a (by omega)]
      unfold wbS
      rw [up_j (by omega), up_f (by decide), up_f (by decide)]
      omega
    · rw [wbs]
      exact k2 k (by omega)
noncomputable def mk2 (D : rg_D) : rg_D := wbs (D 1 0) (up (clrs 3 0 D) 27 (D 1 0) 0)
noncomputable def mk4 (D : rg_D) : rg_D := up (up (fl (mk2 D) 28 0 8 0) 30 0 0) 31 0 0
noncomputable def mk5 (D : rg_D) : rg_D := srch (D 1 0) 0 (mk4 D)
noncomputable def mkp (D : rg_D) : rg_D := pbs (D 1 0) 0 (mk5 D)
theorem mk2_f {D : rg_D} {f j : Nat} (h : f < 20) : mk2 D f j = D f j := by
  unfold mk2
  rw [wbs_f (by omega), up_f (by omega), clrs_f (by omega)]
theorem mk4_f {D : rg_D} {f j : Nat} (h : f < 20) : mk4 D f j = D f j := by
  unfold mk4
  rw [up_f (by omega), up_f (by omega), fl_out (by omega), mk2_f h]
theorem mk4_z {D : rg_D} (hG : Gh D) {f j : Nat} (h1 : 20 ≤ f) (h2 : f ≤ 24) : mk4 D f j = 0 := by
  unfold mk4 mk2
  rw [up_f (by omega), up_f (by omega), fl_out (by omega), wbs_f (by omega), up_f (by omega), clrs_z hG h1 h2]
theorem mk2_O {D : rg_D} (hT : TI D) (hO : ∀ f j, D f j < 2 ^ 30) : (∀ f k, mk2 D f k < 2 ^ 30) ∧ ∀ k, k ≤ D 1 0 → mk2 D 27 k ≤ 32768 := by
  refine wbs_O (up_O (clrs_O hO) (by decide)) hT.1.2 ?_
  rw [up_s]
  have := bw_le hT.1.2
  omega
theorem mk4_SP {D : rg_D} (hT : TI D) (hO : ∀ f j, D f j < 2 ^ 30) (hG : Gh D) : SP (mk4 D) 0 := by
  obtain ⟨o1, o2⟩ := mk2_O hT hO
  have e1 : mk4 D 1 0 = D 1 0 := mk4_f (by decide)
  refine ⟨hT.of (fun f j hf => mk4_f (by omega)), ⟨?_, fun f j a c => by rw [mk4_z hG a c]; exact Nat.zero_le _⟩, fun j _ h => ?_, fun j hj => ?_, fun j hj => ?_, ?_⟩
  · refine up_O (up_O (fun f j => ?_) (by decide)) (by decide)
    unfold fl
    split
    · decide
    · exact o1 f j
  · unfold mk4
    rw [up_f (by decide), up_f (by decide), fl_in (by omega)]
  · rw [e1] at hj
    unfold mk4
    rw [up_f (by decide), up_f (by decide), fl_out (by omega)]
    unfold mk2
    rw [wbs_26, if_pos hj]
    exact wo_le
  · rw [e1] at hj
    unfold mk4
    rw [up_f (by decide), up_f (by decide), fl_out (by omega)]
    have := o2 j hj
    omega
  · unfold mk4
    rw [up_f (by decide), up_s]
    exact Nat.zero_le _
theorem mk5_nr {D : rg_D} (hT : TI D) (hO : ∀ f j, D f j < 2 ^ 30) (hG : Gh D) : Nr (mk4 D) (mk5 D) := srch_nr _ _ _ (mk4_SP hT hO hG) (by rw [mk4_f (by decide)]; omega)
theorem c_makePlan {d : Nat} {A : Nat → Prop} {g : ah_H} {b : Nat} (hA : ∀ q, b ≤ q → q < b + 75 → A q) {D : rg_D} (hd : 24 ≤ d) (hT : TI D) (hO : ∀ f j, D f j < 2 ^ 30) (hG : Gh D) (hB : ∀ j, j < D 1 0 → mk5 D 29 j ≤ D 0 0) : ah_Ev mt_N_makePlan d A [.ref (b + 59)] (rg LTc g b D) (.returned none) (rg LTc g b (mkp D)) := by
  refine ah_Ev.of (by decide +kernel) (Nat.le_of_ble_eq_true rfl) ?_
  show ah_At mt_N_makePlan d A (rg LTc g b D) (.returned none) (rg LTc g b (mkp D)) 0 [(0, .ref (b + 59))] [] (rg LTc g b D)
  have hT1 : TI (clrs 3 0 D) := hT.of (fun f j hf => clrs_f (by omega))
  have hS := mk4_SP hT hO hG
  have hN := mk5_nr hT hO hG
  have e1 : clrs 3 0 D 1 0 = D 1 0 := clrs_f (by decide)
  have e4 : mk4 D 1 0 = D 1 0 := mk4_f (by decide)
  have e5 : mk5 D 1 0 = D 1 0 := (hN.1 1 0 (by decide) (by decide)).trans e4
  have e50 : mk5 D 0 0 = D 0 0 := (hN.1 0 0 (by decide) (by decide)).trans (mk4_f (by decide))
  refine b_N_makePlan_0 (c_clearLoads (d := d - 1) (A := A) hA (by omega)) (by omega) (fun q hq => hq) ?_ (rdN (k_N_0))
  refine aft_0 ?_
  have kw := c_weighBoxes (d := d - 1) (A := A) (g := g) hA (by omega) hT1 (clrs_O hO)
  rw [e1] at kw
  refine b_N_makePlan_4 kw (by omega) (fun q hq => hq) ?_ (rdN (k_N_0))
  refine aft_0 ?_
  refine b_N_makePlan_8 (rdR (k_N_5)) (c_fill (d := d - 1) (A := A) (q := 2) (f := 28) (j0 := 0) (n := 8) (x := 0) hA (by omega) (by decide) (fun i hi => by rw [Nat.zero_add]; exact k_ND _ hi) (k_NDl) (fun D' j => by simp only [rv, up_s]; decide)) (by omega) (fun q hq => hq) ?_
  refine aft_0 ?_
  have kt := c_tryFrom (A := A) (g := g) hA (D 1 0) 0 (mk4 D) (d - 1) (by rw [e4]; omega) hS (by have := hT.1.2; omega)
  refine b_N_makePlan_16 (o' := .returned none) (h' := rg LTc g b (mk5 D)) (hA _ (by omega) (by omega)) (rdE (k_N_7)) (hA _ (by omega) (by omega)) (by rw [stcI (x := 0) (v := 0) (k_N_7) rfl]; exact rdE (k_N_8)) (by rw [stcI (x := 0) (v := 0) (k_N_7) rfl, stcS (x := 0) (v := -1) (k_N_8) (by decide)]; exact kt) (by omega) (fun q hq => hq) ?_ (by rw [stcI (x := 0) (v := 0) (k_N_7) rfl, stcS (x := 0) (v := -1) (k_N_8) (by decide)]; exact rdN (k_N_0))
  refine aft_0 ?_
  have kp := c_putBestOn (d := d - 1) (A := A) (g := g) hA (by omega) ((hS.nr hN).1) ⟨hN.2, fun f j a c => by rw [hN.1 f j (by omega) (by omega), mk4_z hG a c]; exact Nat.zero_le _⟩ (by rw [e5, e50]; exact hB)
  rw [e5] at kp
  refine b_N_makePlan_31 kp (by omega) (fun q hq => hq) ?_ (rdN (k_N_0))
  refine aft_0 ?_
  exact b_N_makePlan_35
