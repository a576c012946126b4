/-! THE ANSWERS are the same -/
theorem ans_pa {D E : rg_D} (h : Sm D E) (hq : D 16 0 = 1) {w : Nat} (hw : w < D 0 0) : pa D w = pm E w := by
  have hp := h.plan hq
  have h3 := h.ti.1.1
  have hl := hp.ld w (by omega)
  have e10 : ∀ j, D 10 j = E 10 j := fun j => h.told 10 j (by decide) (by decide)
  unfold pa pm co
  rw [h.n1, co_W, hl.1]
  split
  · rfl
  · unfold lp pf
    rw [h.told 8 w (by decide) (by decide)]
    refine ff_congr (fun p _ hp8 => ?_)
    have h8 := h.ti.2.1 w
    rw [← h.told 8 w (by decide) (by decide), Nat.zero_add] at hp8
    rw [co_S e10 (s := 1) (by decide), co_S e10 (s := 2) (by decide), co_S e10 (s := 3) (by decide)]
    congr 1
    refine propext ?_
    unfold hoP pfP
    rw [← h.tl.2 w p 1 (by omega) hp8 (by decide) (by decide), ← h.tl.2 w p 2 (by omega) hp8 (by decide) (by decide), ← h.tl.2 w p 3 (by omega) hp8 (by decide) (by decide), ← hl.2.2.2.1 1 (by decide), ← hl.2.2.2.1 2 (by decide), ← hl.2.2.2.1 3 (by decide)]
    constructor
    · intro k
      have k1 := k 1 (by decide) (by decide)
      have k2 := k 2 (by decide) (by decide)
      have k3 := k 3 (by decide) (by decide)
      rw [if_neg (by decide)] at k1 k2 k3
      exact ⟨k1, k2, k3⟩
    · rintro ⟨k1, k2, k3⟩ s s1 s2
      rw [if_neg (by omega)]
      have hs : s = 1 ∨ s = 2 ∨ s = 3 := by omega
      rcases hs with rfl | rfl | rfl
      · exact k1
      · exact k2
      · exact k3
theorem ans_20 {D E : rg_D} (h : Sm D E) (hq : D 16 0 = 1) {w : Nat} (hw : w < D 0 0) : D 20 w = co E 29 w 0 := by
  have h3 := h.ti.1.1
  unfold co
  rw [h.n1, co_W]
  exact ((h.plan hq).ld w (by omega)).1
theorem ans_21 {D E : rg_D} (h : Sm D E) (hq : D 16 0 = 1) {w : Nat} (hw : w < D 0 0) : D 21 w = sm (llf E w) (E 1 0) := by
  have h3 := h.ti.1.1
  rw [h.n1, ((h.plan hq).ld w (by omega)).2.1]
  refine sm_congr (fun j hj => ?_)
  unfold cL llf
  split
  · have := h.tb.1 j hj
    rw [← h.told 10 j (by decide) (by decide)]
    unfold lm ln
    split
    · rfl
    · split
      · rfl
      · rw [if_pos (by omega)]
  · rfl
theorem ans_22 {D E : rg_D} (h : Sm D E) (hq : D 16 0 = 1) {w : Nat} (hw : w < D 0 0) : D 22 w = ws E 29 w := by
  have h3 := h.ti.1.1
  unfold ws
  rw [h.n1, ws_G (fun j => h.told 11 j (by decide) (by decide))]
  exact ((h.plan hq).ld w (by omega)).2.2.1
theorem ans_bef {D E : rg_D} (h : Sm D E) (hq : D 16 0 = 1) {i w : Nat} (hi : i < D 1 0) : bef D i w i = bef E i w i := by
  unfold bef
  refine sm_congr (fun o ho => ?_)
  rw [((h.plan hq).same o (by omega)).1, h.told 10 o (by decide) (by decide), h.told 10 i (by decide) (by decide)]
theorem ans_place {D E : rg_D} (h : Sm D E) (hq : D 16 0 = 1) {i w : Nat} (hi : i < D 1 0) (he : E 29 i = w + 1) : ∃ p, pa D w = p + 1 ∧ pm E w = p + 1 ∧ p < 4 ∧ D 17 (4 * w + p) ≤ 4 ∧ fnd (E 9 (4 * w + p)) (E 10 i) 4 (tn (E 9 (4 * w + p))) (bef E i w i) ∧ pbf D w p (D 10 i) (bef D i w i) (D 17 (4 * w + p)) 0 0 = plc (E 9 (4 * w + p)) (E 10 i) 4 (tn (E 9 (4 * w + p))) (bef E i w i) 0 + 1 := by
  have hp := h.plan hq
  have h3 := h.ti.1.1
  have hs := hp.same i hi
  have hw : w < D 0 0 := by omega
  have e10 : ∀ j, D 10 j = E 10 j := fun j => h.told 10 j (by decide) (by decide)
  have hpa := ans_pa h hq hw
  have hz : sm (cW (E 29) w) (D 1 0) ≠ 0 := by
    have := sm_ge (f := cW (E 29) w) hi
    have q : cW (E 29) w i = 1 := by unfold cW; rw [if_pos he]
    omega
  have hg := (Fz_gd (w := w) hp.fz).resolve_left hz
  have hne : pm E w ≠ 0 := by
    unfold pm co
    rw [h.n1, co_W, if_neg hz, pf_D h.tl (by omega), co_S e10 (s := 1) (by decide), co_S e10 (s := 2) (by decide), co_S e10 (s := 3) (by decide)]
    obtain ⟨p, p1, p2⟩ := hg.2.1
    exact ⟨p, p1, p2 1 (by decide) (by decide), p2 2 (by decide) (by decide), p2 3 (by decide) (by decide)⟩
  have hpf : pm E w = pf E w (co E 29 w 1) (co E 29 w 2) (co E 29 w 3) := by
    unfold pm co
    rw [h.n1, co_W, if_neg hz]
  have h8 := h.ti.2.1 w
  have hle : pm E w ≤ D 8 w := by
    rw [hpf]
    unfold pf
    have := ff_le (p := fun p => pb (pfP E w p (co E 29 w 1) (co E 29 w 2) (co E 29 w 3))) (k := E 8 w) (i := 0)
    rw [← h.told 8 w (by decide) (by decide)] at this ⊢
    omega
  have hsm : pfP E w (pm E w - 1) (co E 29 w 1) (co E 29 w 2) (co E 29 w 3) := by
    have : pf E w (co E 29 w 1) (co E 29 w 2) (co E 29 w 3) ≠ 0 := by rw [← hpf]; exact hne
    rw [hpf]
    exact pb_iff.mp (ff_some (p := fun p => pb (pfP E w p (co E 29 w 1) (co E 29 w 2) (co E 29 w 3))) this)
  refine ⟨pm E w - 1, by omega, by omega, by omega, ?_⟩
  obtain ⟨⟨q1, q2⟩, q3⟩ := (h.pats w (pm E w - 1) (by omega) (by omega)).1 (by omega)
  have hsz := h.tb.1 i hi
  have hbl : bef E i w i < cd 4 (E 9 (4 * w + (pm E w - 1))) (E 10 i) := by
    have a1 : bef E i w i + 1 ≤ co E 29 w (E 10 i) := by
      unfold co
      rw [h.n1]
      have g1 := sm_grow (f := cof E 29 w (E 10 i)) (show i + 1 ≤ D 1 0 by omega)
      rw [sm] at g1
      have g2 : cof E 29 w (E 10 i) i = 1 := by unfold cof; rw [if_pos ⟨he, Or.inr rfl⟩]
      have g3 : bef E i w i = sm (cof E 29 w (E 10 i)) i := by
        unfold bef
        refine sm_congr (fun o _ => ?_)
        unfold cof
        rw [e10 i] at hsz
        by_cases z : E 29 o = w + 1 ∧ E 10 o = E 10 i
        · rw [if_pos z, if_pos ⟨z.1, Or.inr z.2⟩]
        · rw [if_neg z, if_neg (by omega)]
      omega
    have a2 : co E 29 w (E 10 i) ≤ cd 4 (E 9 (4 * w + (pm E w - 1))) (E 10 i) := by
      rw [e10 i] at hsz
      have hs3 : E 10 i = 1 ∨ E 10 i = 2 ∨ E 10 i = 3 := by omega
      rcases hs3 with z | z | z
      · rw [z]; exact hsm.1
      · rw [z]; exact hsm.2.1
      · rw [z]; exact hsm.2.2
    omega
  have pk := place_ok q2 q1 q3 hbl
  rw [ans_bef h hq hi, e10 i]
  refine ⟨?_, pk.2, pk.1⟩
  rw [q3.1]
  exact (nd_le _).2
theorem ans_lb {D E : rg_D} (h : Sm D E) (hq : D 16 0 = 1) {x : Nat} : ∀ (k r sn : Nat), r + k = D 1 0 → lbf D (x : Int) k r sn = lbm E (bo D) x k r sn
  | 0, _, _, _ => rfl
  | k + 1, r, sn, hr => by
    have hp := h.plan hq
    have b := bo_HB D r (by omega)
    rw [lbf, lbm, hp.rank r (by omega), (hp.same _ b.1).1, ans_lb h hq k (r + 1) (sn + 1) (by omega), ans_lb h hq k (r + 1) sn (by omega)]
    by_cases e : sn = x
    · have e2 : (sn : Int) = (x : Int) := by omega
      simp only [e, if_true]
    · have e2 : ¬ (sn : Int) = (x : Int) := by omega
      simp only [e, e2, if_false]
theorem lbf_neg {D : rg_D} {x : Int} (hx : x < 0) : ∀ (k r sn : Nat), lbf D x k r sn = 0
  | 0, _, _ => rfl
  | k + 1, r, sn => by
    have e2 : ¬ (sn : Int) = x := by omega
    rw [lbf, lbf_neg hx k, lbf_neg hx k]
    simp only [e2, if_false]
    split <;> rfl
theorem ans_rs {D E : rg_D} (h : Sm D E) {w i : Nat} (hw : w < D 0 0) (hi : i < D 1 0) : rs D w i = rsM E w i := by
  have h3 := h.ti.1.1
  have hsz := h.tb.1 i hi
  have e10 : D 10 i = E 10 i := h.told 10 i (by decide) (by decide)
  have key : pf E w (on (E 10 i) 1) (on (E 10 i) 2) (on (E 10 i) 3) ≠ 0 ↔ hpP D w (D 10 i) := by
    rw [pf_D h.tl (by omega), ← e10]
    unfold hpP
    have hs3 : D 10 i = 1 ∨ D 10 i = 2 ∨ D 10 i = 3 := by omega
    constructor
    · rintro ⟨p, p1, p2⟩
      refine ⟨p, p1, ?_⟩
      rcases hs3 with z | z | z <;> rw [z] at p2 ⊢ <;> simp [on] at p2 <;> omega
    · rintro ⟨p, p1, p2⟩
      refine ⟨p, p1, ?_⟩
      rcases hs3 with z | z | z <;> rw [z] at p2 ⊢ <;> simp [on] <;> omega
  unfold rs rsM
  by_cases z : hpP D w (D 10 i)
  · rw [pb_t z, if_pos rfl, if_neg (key.mpr z), h.told 6 w (by decide) (by decide), h.told 12 i (by decide) (by decide), h.told 4 w (by decide) (by decide), h.told 11 i (by decide) (by decide)]
  · rw [pb_f z, if_neg (by decide), if_pos (Classical.byContradiction (fun y => z (key.mp y)))]
theorem mxf_congr {f g : Nat → Nat} : ∀ {n : Nat}, (∀ j, j < n → f j = g j) → mxf f n = mxf g n
  | 0, _ => rfl
  | n + 1, h => by rw [mxf, mxf, mxf_congr (fun j hj => h j (by omega)), h n (by omega)]
theorem ans_rsn {D E : rg_D} (h : Sm D E) {i : Nat} (hi : i < D 1 0) : rsn D i = rsnM E i := by
  unfold rsn rsnM
  rw [h.n0]
  have e : (∃ w, w < D 0 0 ∧ rs D w i = 0) ↔ ∃ w, w < D 0 0 ∧ rsM E w i = 0 := by
    constructor
    · rintro ⟨w, a, c⟩; exact ⟨w, a, by rw [← ans_rs h a hi]; exact c⟩
    · rintro ⟨w, a, c⟩; exact ⟨w, a, by rw [ans_rs h a hi]; exact c⟩
  rw [propext e, mxf_congr (fun w hw => ans_rs h hw hi)]
  by_cases z : D 0 0 = 0
  · rw [if_pos z, if_pos z, pb_f (by rintro ⟨w, a, c⟩; omega), if_neg (by decide)]
  · rw [if_neg z, if_neg z]
/-- the start -/
def D00 : rg_D := up (fun _ _ => 0) 2 0 1000000000
theorem D00_f {f j : Nat} (h : f ≠ 2) : D00 f j = 0 := by unfold D00; rw [up_f h]
theorem Sm.start : Sm D00 D00 := by
  have hO : ∀ f j, D00 f j < 2 ^ 30 := up_O (fun _ _ => by decide) (by decide)
  refine ⟨fun _ _ _ _ => rfl, fun w p _ _ => ?_, ⟨⟨by rw [D00_f (by decide)]; decide, by rw [D00_f (by decide)]; decide⟩, fun w => by rw [D00_f (by decide)]; decide, fun i => ?_⟩, ⟨⟨by rw [D00_f (by decide)]; decide, by rw [D00_f (by decide)]; decide⟩, fun w => by rw [D00_f (by decide)]; decide, fun w => by rw [D00_f (by decide)]; decide, fun i => ?_⟩, ⟨fun i hi => ?_, fun x _ => D00_f (by decide), fun j => by rw [D00_f (by decide)]; decide⟩, hO, hO, ⟨fun j _ => ⟨D00_f (by decide), D00_f (by decide), D00_f (by decide)⟩, fun j _ => ⟨D00_f (by decide), D00_f (by decide)⟩⟩, fun j => by rw [D00_f (by decide)]; decide, fun j => by rw [D00_f (by decide)]; decide, rfl, by rw [D00_f (by decide)]; decide, fun q => by rw [D00_f (by decide)] at q; cases q⟩
  · rw [D00_f (by decide)]
    exact ⟨fun q => by omega, fun _ => ⟨D00_f (by decide), fun i _ => D00_f (by decide), fun i _ => D00_f (by decide)⟩⟩
  · rw [D00_f (by decide), D00_f (by decide), D00_f (by decide)]; decide
  · rw [D00_f (by decide), D00_f (by decide), D00_f (by decide)]; decide
  · rw [D00_f (by decide)] at hi; omega
