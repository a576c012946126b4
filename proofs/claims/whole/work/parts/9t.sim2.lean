/-! a pattern, a plan -/
theorem Sm.pattern {D E : rg_D} (h : Sm D E) {w n : Nat} (hw : w < D 0 0) (h0 : 0 < n) (hr : rowF 4 n) (hf : D 8 w < 4) : Sm (aP (up D 16 0 0) w n) (up (up (up (up E 32 0 0) 9 (4 * w + E 8 w) n) 8 w (E 8 w + 1)) 16 0 0) := by
  have hn := row_le hr h0
  have h3 := h.ti.1.1
  have e8 : E 8 w = D 8 w := (h.told 8 w (by decide) (by decide)).symm
  have d8 : up D 16 0 0 8 w = D 8 w := up_f (by decide)
  rw [e8]
  unfold aP
  rw [d8]
  have ef : ∀ f j, f ≠ 16 → f ≠ 17 → f ≠ 18 → f ≠ 19 → f ≠ 8 → (up (apN (up D 16 0 0) w (D 8 w) n) 8 w (D 8 w + 1)) f j = D f j := fun f j a1 a2 a3 a4 a5 => by rw [up_f a5, apN_o (Or.inl a2) (Or.inl ⟨a3, a4⟩), up_f a1]
  have eg : ∀ f j, f ≠ 16 → f ≠ 32 → f ≠ 9 → f ≠ 8 → (up (up (up (up E 32 0 0) 9 (4 * w + D 8 w) n) 8 w (D 8 w + 1)) 16 0 0) f j = E f j := fun f j a1 a2 a3 a4 => by rw [up_f a1, up_f a4, up_f a3, up_f a2]
  have k8 : ∀ v, (up (apN (up D 16 0 0) w (D 8 w) n) 8 w (D 8 w + 1)) 8 v = if v = w then D 8 w + 1 else D 8 v := fun v => by
    by_cases e : v = w
    · rw [if_pos e, e, up_s]
    · rw [if_neg e, up_j e, apN_o (Or.inl (by decide)) (Or.inl ⟨by decide, by decide⟩), up_f (by decide)]
  have g8 : ∀ v, (up (up (up (up E 32 0 0) 9 (4 * w + D 8 w) n) 8 w (D 8 w + 1)) 16 0 0) 8 v = if v = w then D 8 w + 1 else D 8 v := fun v => by
    by_cases e : v = w
    · rw [if_pos e, e, up_f (by decide), up_s]
    · rw [if_neg e, up_f (by decide), up_j e, up_f (by decide), up_f (by decide), h.told 8 v (by decide) (by decide)]
  have g9 : ∀ j, (up (up (up (up E 32 0 0) 9 (4 * w + D 8 w) n) 8 w (D 8 w + 1)) 16 0 0) 9 j = if j = 4 * w + D 8 w then n else E 9 j := fun j => by
    by_cases e : j = 4 * w + D 8 w
    · rw [if_pos e, e, up_f (by decide), up_f (by decide), up_s]
    · rw [if_neg e, up_f (by decide), up_f (by decide), up_j e, up_f (by decide)]
  have hP := h.pats w (D 8 w) (by omega) hf
  have hV : PV (up (apN (up D 16 0 0) w (D 8 w) n) 8 w (D 8 w + 1)) w (D 8 w) (nd n) (di n) (cds n) := by
    refine (apN_V (D := up D 16 0 0) ((hP.2 (Nat.le_refl _)).congr (fun f j a c => up_f (by omega)) (fun _ _ => rfl) (fun _ _ => rfl)) hr h0).congr (fun f j a c => up_f (by omega)) (fun _ _ => rfl) (fun _ _ => rfl)
  have hVo : ∀ v p k a s, p < 4 → ¬ (v = w ∧ p = D 8 w) → PV D v p k a s → PV (up (apN (up D 16 0 0) w (D 8 w) n) 8 w (D 8 w + 1)) v p k a s := by
    intro v p k a s hp hne hv
    obtain ⟨v1, v2, v3⟩ := hv
    refine ⟨?_, fun i hi => ?_, fun i hi => ?_⟩
    · rw [up_f (by decide), apN_o (Or.inr (by omega)) (Or.inl ⟨by decide, by decide⟩), up_f (by decide)]; exact v1
    · rw [up_f (by decide), apN_o (Or.inl (by decide)) (Or.inr (by omega)), up_f (by decide)]; exact v2 i hi
    · rw [up_f (by decide), apN_o (Or.inl (by decide)) (Or.inr (by omega)), up_f (by decide)]; exact v3 i hi
  have k19 : ∀ j, (up (apN (up D 16 0 0) w (D 8 w) n) 8 w (D 8 w + 1)) 19 j ≤ 4 := fun j => by
    by_cases e : 16 * w + 4 * D 8 w ≤ j ∧ j < 16 * w + 4 * D 8 w + 4
    · have := hV.2.2 (j - (16 * w + 4 * D 8 w)) (by omega)
      rw [show 16 * w + 4 * D 8 w + (j - (16 * w + 4 * D 8 w)) = j by omega] at this
      rw [this]
      unfold cds
      split
      · exact Nat.zero_le _
      · exact cd_le _ _ _
    · rw [up_f (by decide), apN_o (Or.inl (by decide)) (Or.inr (by omega)), up_f (by decide)]
      exact h.p19 j
  refine ⟨fun f j hf h9 => ?_, fun v p hv hp => ?_, ?_, ?_, ⟨fun i hi => ?_, fun x hx => ?_, fun j => ?_⟩, ?_, ?_, ⟨fun j hj => ?_, fun j hj => ?_⟩, k19, fun v => ?_, ?_, ?_, fun q => ?_⟩
  · by_cases e : f = 8
    · subst e
      rw [k8, g8]
    · rw [ef f j (by omega) (by omega) (by omega) (by omega) e, eg f j (by omega) (by omega) h9 e]
      exact h.told f j hf h9
  · rw [k8, g9]
    by_cases e : v = w ∧ p = D 8 w
    · obtain ⟨rfl, rfl⟩ := e
      rw [if_pos rfl, if_pos rfl]
      exact ⟨fun _ => ⟨⟨h0, hr⟩, hV⟩, fun q => by omega⟩
    · rw [if_neg (show ¬ 4 * v + p = 4 * w + D 8 w by omega)]
      obtain ⟨k1, k2⟩ := h.pats v p hv hp
      by_cases ev : v = w
      · subst ev
        rw [if_pos rfl]
        exact ⟨fun q => ⟨(k1 (by omega)).1, hVo _ _ _ _ _ hp e (k1 (by omega)).2⟩, fun q => hVo _ _ _ _ _ hp e (k2 (by omega))⟩
      · rw [if_neg ev]
        exact ⟨fun q => ⟨(k1 q).1, hVo _ _ _ _ _ hp e (k1 q).2⟩, fun q => hVo _ _ _ _ _ hp e (k2 q)⟩
  · refine ⟨⟨by rw [ef 0 0 (by decide) (by decide) (by decide) (by decide) (by decide)]; exact h.ti.1.1, by rw [ef 1 0 (by decide) (by decide) (by decide) (by decide) (by decide)]; exact h.ti.1.2⟩, fun v => ?_, fun i => ?_⟩
    · rw [k8]
      have := h.ti.2.1 v
      split <;> omega
    · rw [ef 10 i (by decide) (by decide) (by decide) (by decide) (by decide), ef 13 i (by decide) (by decide) (by decide) (by decide) (by decide), ef 11 i (by decide) (by decide) (by decide) (by decide) (by decide)]
      exact h.ti.2.2 i
  · refine ⟨⟨by rw [eg 0 0 (by decide) (by decide) (by decide) (by decide)]; exact h.mi.1.1, by rw [eg 1 0 (by decide) (by decide) (by decide) (by decide)]; exact h.mi.1.2⟩, fun v => ?_, fun j => ?_, fun i => ?_⟩
    · rw [g8]
      have := h.ti.2.1 v
      split <;> omega
    · rw [g9]
      have := h.mi.2.2.1 j
      split <;> omega
    · rw [eg 10 i (by decide) (by decide) (by decide) (by decide), eg 13 i (by decide) (by decide) (by decide) (by decide), eg 11 i (by decide) (by decide) (by decide) (by decide)]
      exact h.mi.2.2.2 i
  · rw [ef 1 0 (by decide) (by decide) (by decide) (by decide) (by decide)] at hi
    rw [ef 10 i (by decide) (by decide) (by decide) (by decide) (by decide)]
    exact h.tb.1 i hi
  · rw [ef 15 _ (by decide) (by decide) (by decide) (by decide) (by decide)]; exact h.tb.2.1 x hx
  · rw [ef 15 _ (by decide) (by decide) (by decide) (by decide) (by decide)]; exact h.tb.2.2 j
  · refine up_O (fun f j => ?_) (by omega)
    have hb := h.hD f j
    by_cases e : f = 17 ∧ j = 4 * w + D 8 w
    · obtain ⟨rfl, rfl⟩ := e
      have := hV.1
      rw [up_f (by decide)] at this
      rw [this]
      have := nd_le n
      omega
    · by_cases e2 : (f = 18 ∨ f = 19) ∧ 16 * w + 4 * D 8 w ≤ j ∧ j < 16 * w + 4 * D 8 w + 4
      · obtain ⟨ef2, ej⟩ := e2
        rcases ef2 with rfl | rfl
        · have := hV.2.1 (j - (16 * w + 4 * D 8 w)) (by omega)
          rw [show 16 * w + 4 * D 8 w + (j - (16 * w + 4 * D 8 w)) = j by omega, up_f (by decide)] at this
          rw [this]
          unfold di
          split
          · have := Nat.mod_lt (n / 10 ^ (nd n - 1 - (j - (16 * w + 4 * D 8 w)))) (show 0 < 10 by decide)
            omega
          · decide
        · have := k19 j
          rw [up_f (by decide)] at this
          omega
      · rw [apN_o (by omega) (by omega)]
        exact up_O h.hD (by decide) f j
  · exact up_O (up_O (up_O (up_O h.hE (by decide)) (by omega)) (by omega)) (by decide)
  · rw [ef 20 j (by decide) (by decide) (by decide) (by decide) (by decide), ef 21 j (by decide) (by decide) (by decide) (by decide) (by decide), ef 22 j (by decide) (by decide) (by decide) (by decide) (by decide)]
    exact h.gh.1 j hj
  · rw [ef 23 j (by decide) (by decide) (by decide) (by decide) (by decide), ef 24 j (by decide) (by decide) (by decide) (by decide) (by decide)]
    exact h.gh.2 j hj
  · rw [ef 7 v (by decide) (by decide) (by decide) (by decide) (by decide)]; exact h.out v
  · rw [up_f (by decide), apN_o (Or.inl (by decide)) (Or.inl ⟨by decide, by decide⟩), up_s, up_s]
  · rw [up_f (by decide), apN_o (Or.inl (by decide)) (Or.inl ⟨by decide, by decide⟩), up_s]; decide
  · rw [up_f (by decide), apN_o (Or.inl (by decide)) (Or.inl ⟨by decide, by decide⟩), up_s] at q; cases q
theorem pls_O {B : Nat → Nat} : ∀ {k T : Nat} {E : rg_D}, (∀ f j, E f j < 2 ^ 30) → E 0 0 ≤ 3 → E 1 0 ≤ 8 → ∀ f j, pls B k T E f j < 2 ^ 30
  | 0, _, _, h, _, _ => h
  | k + 1, T, E, h, h3, h8 => by
    rw [pls]
    refine pls_O (pst_O (dgs_O ⟨by omega, by omega⟩ h) (by rw [dgs_f (by decide)]; exact h8)) (by rw [pst_f (by decide), dgs_f (by decide)]; exact h3) (by rw [pst_f (by decide), dgs_f (by decide)]; exact h8)
theorem mpl_O {E : rg_D} {B : Nat → Nat} (h : ∀ f j, E f j < 2 ^ 30) (h3 : E 0 0 ≤ 3) (h8 : E 1 0 ≤ 8) : ∀ f j, mpl E B f j < 2 ^ 30 := by
  unfold mpl
  exact pls_O (up_O (zbs_O (up_O h (by decide))) (by decide)) (by rw [up_f (by decide), zbs_f (by decide), up_f (by decide)]; exact h3) (by rw [up_f (by decide), zbs_f (by decide), up_f (by decide)]; exact h8)
theorem Ky_D {D D' : rg_D} (h : ∀ f j, f < 20 → f ≠ 16 → D' f j = D f j) (t : Nat → Nat) : Ky (mk4 D') t = Ky (mk4 D) t := by
  have r : ∀ i, rk D' i = rk D i := fun i => by
    unfold rk rkf
    simp only [h 14 _ (by decide) (by decide), h 1 _ (by decide) (by decide)]
  have o : ∀ i, wo D' i = wo D i := fun i => by
    unfold wo
    rw [r, h 10 _ (by decide) (by decide)]
  have e1 : D' 1 0 = D 1 0 := h 1 0 (by decide) (by decide)
  unfold Ky scr
  rw [mk4_f (by decide), mk4_f (D := D) (by decide), e1]
  rw [sm_congr (f' := sc (mk4 D) t) (fun j hj => by
    unfold sc
    rw [mk4_26 (by rw [e1]; exact hj), mk4_26 hj, o])]
theorem bo_D {D D' : rg_D} (h : ∀ f j, f < 20 → f ≠ 16 → D' f j = D f j) {r : Nat} (hr : r < D 1 0) : bo D' r = bo D r := by
  have e1 : D' 1 0 = D 1 0 := h 1 0 (by decide) (by decide)
  have q : ∀ i, rk D' i = rk D i := fun i => by
    unfold rk rkf
    simp only [h 14 _ (by decide) (by decide), h 1 _ (by decide) (by decide)]
  have a := bo_HB D' r (by rw [e1]; exact hr)
  have c := bo_HB D r hr
  rw [e1] at a
  exact c.2.2 _ a.1 (by rw [← q]; exact a.2.1)
theorem Fz_D' {D D' : rg_D} (h : ∀ f j, f < 20 → f ≠ 16 → D' f j = D f j) {t : Nat → Nat} {n : Nat} : Fz D' t n ↔ Fz D t n := by
  have a : Fz (fun f j => if f = 16 then D f j else D' f j) t n ↔ Fz D t n := Fz_D (fun f j hf => by
    by_cases e : f = 16
    · rw [if_pos e]
    · rw [if_neg e]; exact h f j hf e)
  rw [← a]
  have k : ∀ i w, stP (fun f j => if f = 16 then D f j else D' f j) t i w ↔ stP D' t i w := fun i w => Iff.rfl
  exact Iff.rfl
/-- the sums of all loads are the sums of all boxes -/
theorem sm_swap {f : Nat → Nat → Nat} {W : Nat} : ∀ n, sm (fun w => sm (f w) n) W = sm (fun j => sm (fun w => f w j) W) n
  | 0 => by rw [sm]; exact sm_zero (fun _ _ => rfl)
  | n + 1 => by
    rw [sm, ← sm_swap n, ← sm_add]
    rfl
theorem sm_hit {x c : Nat} : ∀ {W : Nat}, x ≤ W → sm (fun w => if x = w + 1 then c else 0) W = if x = 0 then 0 else c
  | 0, h => by rw [if_pos (by omega)]; rfl
  | W + 1, h => by
    rw [sm]
    by_cases e : x = W + 1
    · rw [if_pos e, sm_zero (fun j hj => by rw [if_neg (by omega)]), if_neg (by omega)]
      omega
    · rw [if_neg e, sm_hit (by omega)]
      rfl
theorem sum_len {D E : rg_D} (hL : LdT D (E 29) (D 1 0)) (h3 : D 0 0 ≤ 3) (ht : ∀ j, j < D 1 0 → E 29 j ≤ D 0 0) : sm (D 21) (D 0 0) = sm (Us D (E 29)) (D 1 0) := by
  rw [sm_congr (f' := fun w => sm (cL D (E 29) w) (D 1 0)) (fun w hw => (hL w (by omega)).2.1), sm_swap]
  refine sm_congr (fun j hj => ?_)
  unfold cL Us
  exact sm_hit (ht j hj)
theorem sum_cnt {D E : rg_D} (n1 : E 1 0 = D 1 0) (hL : LdT D (E 29) (D 1 0)) (h3 : D 0 0 ≤ 3) (ht : ∀ j, j < D 1 0 → E 29 j ≤ D 0 0) : sm (D 20) (D 0 0) = sm (ctf E) (E 1 0) := by
  rw [n1, sm_congr (f' := fun w => sm (cW (E 29) w) (D 1 0)) (fun w hw => (hL w (by omega)).1), sm_swap]
  refine sm_congr (fun j hj => ?_)
  unfold cW ctf
  rw [sm_hit (ht j hj)]
  by_cases e : E 29 j = 0
  · rw [if_pos e, if_neg (by omega)]
  · rw [if_neg e, if_pos (by omega)]
theorem Us_D {D D' : rg_D} (h : ∀ f j, f < 20 → f ≠ 16 → D' f j = D f j) (t : Nat → Nat) (n : Nat) : sm (Us D' t) n = sm (Us D t) n := sm_congr (fun j _ => by unfold Us; rw [h 10 j (by decide) (by decide)])
/-- the first plan -/
theorem Sm.plan0 {D E : rg_D} (h : Sm D E) : Sm (up (mkp D) 16 0 1) (up (mpl E (bo D)) 16 0 1) ∧ sm (mkp D 21) (mkp D 0 0) = mpl E (bo D) 33 0 := by
  obtain ⟨m1, m2, m3, m4, m5, m6⟩ := mkp_all h.ti h.hD h.gh
  obtain ⟨p1, p2, p3, p4, p5, p6⟩ := plan_same h.tl h.ti h.hD h.gh h.tb (bo_HB D)
  obtain ⟨b1, b2, b3⟩ := mk_best h.ti h.hD h.gh
  have ef : ∀ f j, f < 20 → f ≠ 16 → up (mkp D) 16 0 1 f j = D f j := fun f j a c => by rw [up_f c]; exact m1 f j a
  have eg : ∀ f j, f < 16 → up (mpl E (bo D)) 16 0 1 f j = E f j := fun f j a => by rw [up_f (by omega)]; exact p5 f j (by omega) (by omega) (by omega) (by omega)
  have e29 : up (mpl E (bo D)) 16 0 1 29 = mpl E (bo D) 29 := funext (fun j => up_f (by decide))
  have ld : LdT (mkp D) (mpl E (bo D) 29) (D 1 0) := m3.congr (fun _ _ _ => rfl) (fun j hj => (p1 j hj).symm)
  have e10 : up (mkp D) 16 0 1 1 0 = D 1 0 := ef 1 0 (by decide) (by decide)
  have e00 : up (mkp D) 16 0 1 0 0 = D 0 0 := ef 0 0 (by decide) (by decide)
  refine ⟨⟨fun f j a c => by rw [ef f j (by omega) (by omega), eg f j a]; exact h.told f j a c, fun w p hw hp => ?_, h.ti.of' (fun f j hf => ef f j (by omega) (by omega)), h.mi.of (fun f j hf => eg f j hf), ⟨fun i hi => ?_, fun x hx => ?_, fun j => ?_⟩, up_O m4 (by decide), up_O (mpl_O h.hE (by rw [h.n0]; exact h.ti.1.1) (by rw [h.n1]; exact h.ti.1.2)) (by decide), ⟨fun j hj => ?_, fun j hj => ?_⟩, fun j => by rw [ef 19 j (by decide) (by decide)]; exact h.p19 j, fun w => by rw [ef 7 w (by decide) (by decide)]; exact h.out w, by rw [up_s, up_s], by rw [up_s]; exact Nat.le_refl _, fun _ => ?_⟩, ?_⟩
  · rw [ef 8 w (by decide) (by decide), eg 9 _ (by decide)]
    obtain ⟨k1, k2⟩ := h.pats w p hw hp
    exact ⟨fun q => ⟨(k1 q).1, (k1 q).2.congr (fun f j a c => ef f j (by omega) (by omega)) (fun _ _ => rfl) (fun _ _ => rfl)⟩, fun q => (k2 q).congr (fun f j a c => ef f j (by omega) (by omega)) (fun _ _ => rfl) (fun _ _ => rfl)⟩
  · rw [e10] at hi
    rw [ef 10 i (by decide) (by decide)]
    exact h.tb.1 i hi
  · rw [ef 15 _ (by decide) (by decide)]; exact h.tb.2.1 x hx
  · rw [ef 15 _ (by decide) (by decide)]; exact h.tb.2.2 j
  · rw [up_f (by decide), up_f (by decide), up_f (by decide)]; exact m5.1 j hj
  · rw [up_f (by decide), up_f (by decide)]; exact m5.2 j hj
  · refine ⟨?_, ?_, ?_, ?_, ?_, ?_⟩
    · rw [e10, e00, e29]
      intro j hj
      rw [up_f (by decide), m2]
      exact ⟨p1 j hj, p2 j hj⟩
    · rw [e10, e29]
      exact ld.congr (fun f j hf => up_f (by omega)) (fun _ _ => rfl)
    · rw [e10, e29]
      exact (Fz_D' ef).mpr p3
    · rw [e10, e29, up_f (by decide), Us_D ef]
      exact p4
    · rw [e10]
      intro r hr
      rw [up_f (by decide), bo_D ef hr]
      have := bo_HB D r hr
      have k := m6 (bo D r) this.1
      rw [this.2.1] at k
      exact k
    · rw [e10, e00, e29]
      intro t ht hF
      rw [Ky_D ef, Ky_D ef]
      have := b3 t ht ((Fz_D' ef).mp hF)
      rw [(Ky_congr (D := mk4 D) (t := mk5 D 29) (t' := mpl E (bo D) 29) (by rw [mk4_f (by decide)]; exact p1)).2] at this
      exact this
  · have k0 : mkp D 0 0 = D 0 0 := m1 0 0 (by decide)
    have k1 : mkp D 1 0 = D 1 0 := m1 1 0 (by decide)
    have := sum_len (D := mkp D) (E := mpl E (bo D)) (by rw [k1]; exact ld) (by rw [k0]; exact h.ti.1.1) (by rw [k0, k1]; exact p2)
    rw [this, p4, k1]
    exact sm_congr (fun j _ => by unfold Us; rw [m1 10 j (by decide)])
/-- a plan that stands comes out the same again -/
theorem Sm.plan1 {D E : rg_D} (h : Sm D E) (hq : D 16 0 = 1) : Sm D (up (mpl E (bo D)) 16 0 1) ∧ sm (D 21) (D 0 0) = mpl E (bo D) 33 0 := by
  obtain ⟨p1, p2, p3, p4, p5, p6⟩ := plan_same h.tl h.ti h.hD h.gh h.tb (bo_HB D)
  obtain ⟨b1, b2, b3⟩ := mk_best h.ti h.hD h.gh
  have hp := h.plan hq
  have k1 := hp.best _ p2 p3
  have k2 := b3 (E 29) (fun j hj => (hp.same j hj).2) hp.fz
  rw [(Ky_congr (D := mk4 D) (t := mk5 D 29) (t' := mpl E (bo D) 29) (by rw [mk4_f (by decide)]; exact p1)).2] at k2
  have hs := Ky_inj (D := mk4 D) (t1 := mpl E (bo D) 29) (t2 := E 29) (by rw [mk4_f (by decide)]; exact h.ti.1.1) (by rw [mk4_f (by decide)]; exact h.ti.1.2) (by rw [mk4_f (by decide), mk4_f (by decide)]; exact p2) (by rw [mk4_f (by decide), mk4_f (by decide)]; exact fun j hj => (hp.same j hj).2) (by omega)
  rw [mk4_f (by decide)] at hs
  have eg : ∀ f j, f < 16 → up (mpl E (bo D)) 16 0 1 f j = E f j := fun f j a => by rw [up_f (by omega)]; exact p5 f j (by omega) (by omega) (by omega) (by omega)
  have e29 : up (mpl E (bo D)) 16 0 1 29 = mpl E (bo D) 29 := funext (fun j => up_f (by decide))
  have hl : mpl E (bo D) 33 0 = E 33 0 := by
    rw [p4, hp.len]
    exact sm_congr (fun j hj => by unfold Us; rw [hs j hj])
  refine ⟨⟨fun f j a c => by rw [eg f j a]; exact h.told f j a c, fun w p hw hp => by rw [eg 9 _ (by decide)]; exact h.pats w p hw hp, h.ti, h.mi.of (fun f j hf => eg f j hf), h.tb, h.hD, up_O (mpl_O h.hE (by rw [h.n0]; exact h.ti.1.1) (by rw [h.n1]; exact h.ti.1.2)) (by decide), h.gh, h.p19, h.out, by rw [up_s]; exact hq, h.bit, fun _ => ?_⟩, ?_⟩
  · refine ⟨fun j hj => ?_, ?_, ?_, ?_, hp.rank, ?_⟩
    · rw [e29, hs j hj]; exact hp.same j hj
    · rw [e29]; exact hp.ld.congr (fun _ _ _ => rfl) hs
    · rw [e29]; exact p3
    · rw [e29, up_f (by decide)]; exact p4
    · rw [e29]
      intro t ht hF
      rw [(Ky_congr (D := mk4 D) (t := mpl E (bo D) 29) (t' := E 29) (by rw [mk4_f (by decide)]; exact hs)).2]
      exact hp.best t ht hF
  · rw [hl, hp.len]
    exact sum_len hp.ld h.ti.1.1 (fun j hj => (hp.same j hj).2)
