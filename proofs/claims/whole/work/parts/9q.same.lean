/-! THE MODEL's plan is the class's -/
/-- what was told is the same on both sides -/
def Tl (D E : rg_D) : Prop := (∀ f j, f < 16 → f ≠ 9 → D f j = E f j) ∧ ∀ w p s, w < 3 → p < D 8 w → 1 ≤ s → s < 4 → D 19 (16 * w + 4 * p + s) = cd 4 (E 9 (4 * w + p)) s
/-- what was told keeps its bounds -/
def Tb (D : rg_D) : Prop := (∀ i, i < D 1 0 → 1 ≤ D 10 i ∧ D 10 i < 4) ∧ (∀ x, x < 4 → D 15 (4 * x) = 0) ∧ ∀ j, D 15 j ≤ 2
theorem pf_ex {E : rg_D} {w a c e : Nat} : pf E w a c e ≠ 0 ↔ ∃ p, p < E 8 w ∧ pfP E w p a c e := by
  unfold pf
  rw [ff_ex]
  constructor
  · rintro ⟨p, h1, h2⟩; exact ⟨p, h1, pb_iff.mp h2⟩
  · rintro ⟨p, h1, h2⟩; exact ⟨p, h1, pb_t h2⟩
theorem co_W {E : rg_D} {f w n : Nat} : sm (cof E f w 0) n = sm (cW (E f) w) n := sm_congr (fun j _ => by simp [cof, cW])
theorem co_S {D E : rg_D} (h : ∀ j, D 10 j = E 10 j) {f w s n : Nat} (hs : 1 ≤ s) : sm (cof E f w s) n = sm (cS D (E f) w s) n := sm_congr (fun j _ => by
  unfold cof cS
  rw [h j]
  by_cases q : E f j = w + 1 ∧ E 10 j = s
  · rw [if_pos q, if_pos ⟨q.1, Or.inr q.2⟩]
  · rw [if_neg q, if_neg (by omega)])
theorem ws_G {D E : rg_D} (h : ∀ j, D 11 j = E 11 j) {f w n : Nat} : sm (wsf E f w) n = sm (cG D (E f) w) n := sm_congr (fun j _ => by unfold wsf cG; rw [h j])
theorem pf_D {D E : rg_D} (hT : Tl D E) {w a c e : Nat} (hw : w < 3) : pf E w a c e ≠ 0 ↔ ∃ p, p < D 8 w ∧ a ≤ D 19 (16 * w + 4 * p + 1) ∧ c ≤ D 19 (16 * w + 4 * p + 2) ∧ e ≤ D 19 (16 * w + 4 * p + 3) := by
  rw [pf_ex, ← hT.1 8 w (by decide) (by decide)]
  unfold pfP
  constructor
  · rintro ⟨p, h1, h2⟩
    refine ⟨p, h1, ?_⟩
    rw [hT.2 w p 1 hw h1 (by decide) (by decide), hT.2 w p 2 hw h1 (by decide) (by decide), hT.2 w p 3 hw h1 (by decide) (by decide)]
    exact h2
  · rintro ⟨p, h1, h2⟩
    refine ⟨p, h1, ?_⟩
    rw [hT.2 w p 1 hw h1 (by decide) (by decide), hT.2 w p 2 hw h1 (by decide) (by decide), hT.2 w p 3 hw h1 (by decide) (by decide)] at h2
    exact h2
theorem Fz_gd {D : rg_D} {t : Nat → Nat} {w : Nat} : ∀ {n : Nat}, Fz D t n → sm (cW t w) n = 0 ∨ (D 7 w = 0 ∧ (∃ p, p < D 8 w ∧ ∀ s, 1 ≤ s → s < 4 → sm (cS D t w s) n ≤ D 19 (16 * w + 4 * p + s)) ∧ (∀ j, j < n → t j = w + 1 → D 12 j ≤ D 6 w) ∧ sm (cG D t w) n ≤ D 4 w)
  | 0, _ => Or.inl rfl
  | n + 1, h => by
    have ih := Fz_gd (D := D) (t := t) (w := w) (n := n) (fun i hi => h i (by omega))
    by_cases e : t n = w + 1
    · right
      have hs := h n (by omega) (by omega)
      rw [e] at hs
      obtain ⟨h1, h2, h3, h4, ⟨p, h5, h6⟩, h7⟩ := hs
      rw [Nat.add_sub_cancel] at h1 h3 h4 h5 h6
      refine ⟨h1, ⟨p, h5, fun s s1 s2 => ?_⟩, fun j hj z => ?_, ?_⟩
      · rw [sm]
        have := h6 s s1 s2
        have e2 : cS D t w s n = if s = D 10 n then 1 else 0 := by
          unfold cS
          by_cases q : s = D 10 n
          · rw [if_pos ⟨e, q.symm⟩, if_pos q]
          · rw [if_neg (by omega), if_neg q]
        omega
      · by_cases ej : j = n
        · rw [ej]; exact h3
        · rcases ih with k | k
          · have := sm_ge (f := cW t w) (show j < n by omega)
            rw [k] at this
            unfold cW at this
            rw [if_pos z] at this
            omega
          · exact k.2.2.1 j (by omega) z
      · rw [sm]
        unfold cG at h4 ⊢
        rw [if_pos e]
        exact h4
    · have c1 : cW t w n = 0 := by unfold cW; rw [if_neg e]
      have c2 : cG D t w n = 0 := by unfold cG; rw [if_neg e]
      have c3 : ∀ s, cS D t w s n = 0 := fun s => by unfold cS; rw [if_neg (by omega)]
      rw [sm, sm, c1, c2]
      rcases ih with k | ⟨k1, ⟨p, k2, k3⟩, k4, k5⟩
      · exact Or.inl (by omega)
      · refine Or.inr ⟨k1, ⟨p, k2, fun s s1 s2 => ?_⟩, fun j hj z => ?_, k5⟩
        · rw [sm, c3]; exact k3 s s1 s2
        · by_cases ej : j = n
          · rw [ej] at z; exact absurd z e
          · exact k4 j (by omega) z
theorem Fz_mb {D E : rg_D} (hT : Tl D E) (h3 : D 0 0 ≤ 3) (hd : ∀ i, D 13 i < 4) (hb : Tb D) (ht : ∀ j, j < D 1 0 → E 28 j ≤ D 0 0) : Fz D (E 28) (D 1 0) ↔ mbP E := by
  have e := hT.1
  have e10 : ∀ j, D 10 j = E 10 j := fun j => e 10 j (by decide) (by decide)
  have e11 : ∀ j, D 11 j = E 11 j := fun j => e 11 j (by decide) (by decide)
  have n1 : E 1 0 = D 1 0 := (e 1 0 (by decide) (by decide)).symm
  have n0 : E 0 0 = D 0 0 := (e 0 0 (by decide) (by decide)).symm
  constructor
  · intro hF
    refine ⟨fun a ha => ?_, fun w hw => ?_⟩
    · rw [n1] at ha
      refine ⟨?_, fun c hc => ?_⟩
      · by_cases z : E 28 a = 0
        · exact Or.inl z
        · right
          have := (hF a ha z).2.1
          rw [← e 14 a (by decide) (by decide), ← e 2 0 (by decide) (by decide)]
          exact this
      · unfold prP
        rw [← e 15 _ (by decide) (by decide), ← e 13 a (by decide) (by decide), ← e 13 c (by decide) (by decide)]
        by_cases z : E 28 a = 0
        · exact Or.inr (Or.inl z)
        by_cases z2 : E 28 c = 0
        · exact Or.inr (Or.inr (Or.inl z2))
        by_cases z3 : D 13 c = 0
        · left; rw [z3]; exact hb.2.1 _ (hd a)
        have h2 := hb.2.2 (4 * D 13 a + D 13 c)
        have hs := (hF a ha z).2.2.2.2.2
        have hk := hd c
        have hcl := ht c (by omega)
        have hp : 0 < sm (cK D (E 28) (E 28 c - 1) (D 13 c)) a := by
          have := sm_ge (f := cK D (E 28) (E 28 c - 1) (D 13 c)) hc
          have q : cK D (E 28) (E 28 c - 1) (D 13 c) c = 1 := by unfold cK; rw [if_pos (by omega)]
          omega
        by_cases z4 : E 28 c = E 28 a
        · have := hs (E 28 c - 1) (by omega) (by omega) (D 13 c) (by omega) (by omega) hp
          rw [if_pos (by omega)] at this
          left; omega
        · by_cases z5 : E 28 c + 1 = E 28 a ∨ E 28 c = E 28 a + 1
          · have := hs (E 28 c - 1) (by omega) (by omega) (D 13 c) (by omega) (by omega) hp
            rw [if_neg (by omega)] at this
            right; right; right
            unfold fa
            split <;> omega
          · right; right; right
            unfold fa
            split <;> omega
    · rw [n0] at hw
      unfold gdP co ws
      rw [n1, co_W, co_S e10 (s := 1) (by decide), co_S e10 (s := 2) (by decide), co_S e10 (s := 3) (by decide), ws_G e11, pf_D hT (by omega), ← e 7 w (by decide) (by decide), ← e 6 w (by decide) (by decide), ← e 4 w (by decide) (by decide)]
      rcases Fz_gd (w := w) hF with k | ⟨k1, ⟨p, k2, k3⟩, k4, k5⟩
      · exact Or.inl k
      · refine Or.inr ⟨k1, ⟨p, k2, k3 1 (by decide) (by decide), k3 2 (by decide) (by decide), k3 3 (by decide) (by decide)⟩, fun j hj z => ?_, k5⟩
        rw [← e 12 j (by decide) (by decide)]
        exact k4 j hj z
  · rintro ⟨m1, m2⟩ i hi z
    rw [n1] at m1
    rw [n0] at m2
    have hti := ht i hi
    have hw : E 28 i - 1 < D 0 0 := by omega
    have hpe : E 28 i = E 28 i - 1 + 1 := by omega
    have hg := m2 _ hw
    unfold gdP co ws at hg
    rw [n1, co_W, co_S e10 (s := 1) (by decide), co_S e10 (s := 2) (by decide), co_S e10 (s := 3) (by decide), ws_G e11, pf_D hT (by omega), ← e 7 _ (by decide) (by decide), ← e 6 _ (by decide) (by decide), ← e 4 _ (by decide) (by decide)] at hg
    have hc1 : cW (E 28) (E 28 i - 1) i = 1 := by unfold cW; rw [if_pos hpe]
    have hge := sm_ge (f := cW (E 28) (E 28 i - 1)) hi
    rcases hg with k | ⟨k1, ⟨p, k2, k3, k4, k5⟩, k6, k7⟩
    · omega
    · have hr := m1 i hi
      refine ⟨k1, ?_, ?_, ?_, ⟨p, k2, fun s s1 s2 => ?_⟩, fun n hn hnr k hk1 hk2 hp => ?_⟩
      · rcases hr.1 with q | q
        · exact absurd q z
        · rw [e 14 i (by decide) (by decide), e 2 0 (by decide) (by decide)]; exact q
      · rw [e 12 i (by decide) (by decide)]
        exact k6 i hi hpe
      · have q := sm_grow (f := cG D (E 28) (E 28 i - 1)) (show i + 1 ≤ D 1 0 by omega)
        rw [sm] at q
        have q2 : cG D (E 28) (E 28 i - 1) i = D 11 i := by unfold cG; rw [if_pos (by omega)]
        omega
      · have q := sm_grow (f := cS D (E 28) (E 28 i - 1) s) (show i + 1 ≤ D 1 0 by omega)
        rw [sm] at q
        have q2 : cS D (E 28) (E 28 i - 1) s i = if s = D 10 i then 1 else 0 := by
          unfold cS
          by_cases y : s = D 10 i
          · rw [if_pos ⟨by omega, y.symm⟩, if_pos y]
          · rw [if_neg (by omega), if_neg y]
        have hs : s = 1 ∨ s = 2 ∨ s = 3 := by omega
        rcases hs with rfl | rfl | rfl
        · omega
        · omega
        · omega
      · obtain ⟨c, c1, c2⟩ := sm_pos hp
        unfold cK at c2
        split at c2
        · next y =>
          have hpr := hr.2 c c1
          unfold prP at hpr
          rw [← e 15 _ (by decide) (by decide), ← e 13 i (by decide) (by decide), ← e 13 c (by decide) (by decide), y.2] at hpr
          rcases hpr with q | q | q | q
          · rw [q]; split <;> decide
          · exact absurd q z
          · omega
          · unfold fa at q
            split
            · split at q <;> omega
            · split at q <;> omega
        · omega
/-! the order of loadings -/
def Us (D : rg_D) (t : Nat → Nat) (j : Nat) : Nat := if t j = 0 then 0 else ln (D 10 j)
def xb (t B : Nat → Nat) (r : Nat) : Nat := if t (B r) = 0 then 0 else 1
theorem p256 {r : Nat} (h : r < 8) : 256 / 2 ^ (r + 1) = 2 ^ (7 - r) := by
  have : r = 0 ∨ r = 1 ∨ r = 2 ∨ r = 3 ∨ r = 4 ∨ r = 5 ∨ r = 6 ∨ r = 7 := by omega
  rcases this with rfl | rfl | rfl | rfl | rfl | rfl | rfl | rfl <;> rfl
theorem scr_eq {D : rg_D} {B t : Nat → Nat} (h8 : D 1 0 ≤ 8) (hB : HB D B) : scr (mk4 D) t = 256 * sm (Us D t) (D 1 0) + hn 2 (xb t B) (D 1 0) * 2 ^ (8 - D 1 0) := by
  unfold scr
  rw [mk4_f (by decide), ← sm_hn h8, ← sm_perm (r := rk D) (B := B) (fun j hj => rk_lt hj) hB (fun r => xb t B r * 2 ^ (7 - r)), Nat.mul_comm, ← sm_mulc, ← sm_add]
  refine sm_congr (fun j hj => ?_)
  unfold sc Us xb
  have hr := rk_lt hj
  rw [← (hB (rk D j) hr).2.2 j hj rfl, mk4_26 hj]
  unfold wo
  rw [p256 (by omega)]
  split
  · simp
  · omega
theorem xb_lt {t B : Nat → Nat} {r : Nat} : xb t B r < 2 := by unfold xb; split <;> decide
theorem xb_X {t B : Nat → Nat} {N : Nat} (h8 : N ≤ 8) : (hn 2 (xb t B) N + 1) * 2 ^ (8 - N) ≤ 256 := by
  have h1 := hn_lt (c := 2) (u := xb t B) (n := N) (fun j _ => xb_lt)
  have h2 := Nat.mul_le_mul_right (2 ^ (8 - N)) h1
  rw [← Nat.pow_add, show N + (8 - N) = 8 by omega] at h2
  exact h2
theorem scr_A {D : rg_D} {B t t' : Nat → Nat} (h8 : D 1 0 ≤ 8) (hB : HB D B) (h : sm (Us D t) (D 1 0) < sm (Us D t') (D 1 0)) : scr (mk4 D) t < scr (mk4 D) t' := by
  rw [scr_eq h8 hB, scr_eq h8 hB]
  have h1 := xb_X (t := t) (B := B) h8
  have h2 : 0 < 2 ^ (8 - D 1 0) := Nat.pow_pos (by decide)
  rw [Nat.add_mul, Nat.one_mul] at h1
  omega
theorem scr_B {D : rg_D} {B t t' : Nat → Nat} (h8 : D 1 0 ≤ 8) (hB : HB D B) (h : sm (Us D t) (D 1 0) = sm (Us D t') (D 1 0)) (hx : hn 2 (xb t B) (D 1 0) < hn 2 (xb t' B) (D 1 0)) : scr (mk4 D) t < scr (mk4 D) t' := by
  rw [scr_eq h8 hB, scr_eq h8 hB, h]
  have h2 : 0 < 2 ^ (8 - D 1 0) := Nat.pow_pos (by decide)
  have := (Nat.mul_lt_mul_right h2).mpr hx
  omega
theorem scr_C {D : rg_D} {B t t' : Nat → Nat} (h8 : D 1 0 ≤ 8) (hB : HB D B) (h : sm (Us D t) (D 1 0) = sm (Us D t') (D 1 0)) (hx : hn 2 (xb t B) (D 1 0) = hn 2 (xb t' B) (D 1 0)) : scr (mk4 D) t = scr (mk4 D) t' := by
  rw [scr_eq h8 hB, scr_eq h8 hB, h, hx]
theorem Ky_s {D : rg_D} {t t' : Nat → Nat} {j : Nat} (hj : j < D 1 0) (hs : scr (mk4 D) t = scr (mk4 D) t') (he : ∀ q, q < j → t q = t' q) (h1 : 0 < t j) (h2 : t j < t' j) (h3 : t' j ≤ 3) : Ky (mk4 D) t' < Ky (mk4 D) t := by
  unfold Ky
  rw [hs, mk4_f (by decide)]
  have := hn_lex (c := 4) (u := eo t) (v := eo t') hj (fun q hq => by unfold eo; rw [he q hq]) (by unfold eo; rw [if_neg (by omega), if_neg (by omega)]; omega) (fun j _ => eo_lt)
  omega
theorem xb_iff {t t' B : Nat → Nat} {r : Nat} : xb t B r = xb t' B r ↔ (0 < t (B r) ↔ 0 < t' (B r)) := by
  unfold xb
  by_cases a : t (B r) = 0 <;> by_cases c : t' (B r) = 0 <;> simp [a, c] <;> omega
/-- the model's order, in both directions -/
theorem ah_yes {D E : rg_D} {B : Nat → Nat} (h3 : D 0 0 ≤ 3) (h8 : D 1 0 ≤ 8) (n1 : E 1 0 = D 1 0) (hB : HB D B) (h29 : ∀ j, j < D 1 0 → E 29 j ≤ D 0 0) (hu : sm (Us D (E 28)) (D 1 0) = sm (Us D (E 29)) (D 1 0)) (ha : ahP E B) : Ky (mk4 D) (E 29) ≤ Ky (mk4 D) (E 28) := by
  have e1 : mk4 D 1 0 = D 1 0 := mk4_f (by decide)
  unfold ahP at ha
  rw [n1] at ha
  rcases ha with ⟨r, hr, k1, k2, k3⟩ | ⟨k1, j, hj, k2, k3⟩
  · refine Nat.le_of_lt (Ky_lt (by omega) (scr_B h8 hB hu.symm (hn_lex hr (fun q hq => xb_iff.mpr (k1 q hq)) ?_ (fun j _ => xb_lt))))
    unfold xb
    rw [if_pos (by omega), if_neg (by omega)]
    decide
  · have hs := scr_C h8 hB hu (hn_congr (fun q hq => xb_iff.mpr (k1 q hq)))
    have hl := h29 j hj
    have hk := k1 (rk D j) (rk_lt hj)
    rw [← (hB (rk D j) (rk_lt hj)).2.2 j hj rfl] at hk
    exact Nat.le_of_lt (Ky_s hj hs k2 (hk.mpr (by omega)) k3 (by omega))
theorem ah_no {D E : rg_D} {B : Nat → Nat} (h3 : D 0 0 ≤ 3) (h8 : D 1 0 ≤ 8) (n1 : E 1 0 = D 1 0) (hB : HB D B) (h28 : ∀ j, j < D 1 0 → E 28 j ≤ D 0 0) (hu : sm (Us D (E 28)) (D 1 0) = sm (Us D (E 29)) (D 1 0)) (ha : ¬ ahP E B) : Ky (mk4 D) (E 28) ≤ Ky (mk4 D) (E 29) := by
  have e1 : mk4 D 1 0 = D 1 0 := mk4_f (by decide)
  unfold ahP at ha
  rw [n1] at ha
  rcases fst_ne (xb (E 28) B) (xb (E 29) B) (D 1 0) with k | ⟨r, hr, k1, k2⟩
  · have hs := scr_C h8 hB hu (hn_congr k)
    rcases fst_ne (E 28) (E 29) (D 1 0) with q | ⟨j, hj, q1, q2⟩
    · rw [(Ky_congr (D := mk4 D) (t := E 28) (t' := E 29) (by rw [e1]; exact q)).2]
      exact Nat.le_refl _
    · have hk := xb_iff.mp (k (rk D j) (rk_lt hj))
      rw [← (hB (rk D j) (rk_lt hj)).2.2 j hj rfl] at hk
      have hl := h28 j hj
      by_cases z : E 28 j < E 29 j
      · exact absurd (Or.inr ⟨fun q hq => xb_iff.mp (k q hq), j, hj, q1, z⟩) ha
      · exact Nat.le_of_lt (Ky_s hj hs.symm (fun q hq => (q1 q hq).symm) (hk.mp (by omega)) (by omega) (by omega))
  · by_cases z : xb (E 29) B r < xb (E 28) B r
    · exfalso
      apply ha
      refine Or.inl ⟨r, hr, fun q hq => xb_iff.mp (k1 q hq), ?_⟩
      unfold xb at z
      split at z <;> split at z <;> omega
    · exact Nat.le_of_lt (Ky_lt (by omega) (scr_B h8 hB hu (hn_lex hr (fun q hq => (k1 q hq).symm) (by omega) (fun j _ => xb_lt))))
/-! the model's loop -/
theorem dgs_28 {n : Nat} : ∀ {k b l : Nat} {E : rg_D} {j : Nat}, dgs n k b l E 28 j = if b ≤ j ∧ j < b + k then l / n ^ (j - b) % n else E 28 j
  | 0, b, l, E, j => by rw [dgs, if_neg (by omega)]
  | k + 1, b, l, E, j => by
    rw [dgs, dgs_28]
    by_cases e : j = b
    · subst e
      rw [if_neg (by omega), up_s, if_pos (by omega), Nat.sub_self, Nat.pow_zero, Nat.div_one]
    · by_cases q : b + 1 ≤ j ∧ j < b + 1 + k
      · rw [if_pos q, if_pos (by omega), Nat.div_div_eq_div_mul, show j - b = (j - (b + 1)) + 1 by omega, Nat.pow_succ, Nat.mul_comm n]
      · rw [if_neg q, if_neg (by omega), up_j e]
theorem cps_29 : ∀ {k b : Nat} {E : rg_D} {j : Nat}, cps k b E 29 j = if b ≤ j ∧ j < b + k then E 28 j else E 29 j
  | 0, b, E, j => by rw [cps, if_neg (by omega)]
  | k + 1, b, E, j => by
    rw [cps, cps_29]
    by_cases e : j = b
    · subst e
      rw [if_neg (by omega), up_s, if_pos (by omega)]
    · by_cases q : b + 1 ≤ j ∧ j < b + 1 + k
      · rw [if_pos q, if_pos (by omega), up_f (by decide)]
      · rw [if_neg q, if_neg (by omega), up_j e]
theorem zbs_29 : ∀ {k b : Nat} {E : rg_D} {j : Nat}, zbs k b E 29 j = if b ≤ j ∧ j < b + k then 0 else E 29 j
  | 0, b, E, j => by rw [zbs, if_neg (by omega)]
  | k + 1, b, E, j => by
    rw [zbs, zbs_29]
    by_cases e : j = b
    · subst e
      rw [if_neg (by omega), up_s, if_pos (by omega)]
    · by_cases q : b + 1 ≤ j ∧ j < b + 1 + k
      · rw [if_pos q, if_pos (by omega)]
      · rw [if_neg q, if_neg (by omega), up_j e]
/-- the loading of a number -/
def dg (n T j : Nat) : Nat := T / n ^ j % n
def en (n : Nat) (t : Nat → Nat) : Nat → Nat → Nat
  | 0, _ => 0
  | k + 1, b => t b + n * en n t k (b + 1)
theorem en_lt {n : Nat} {t : Nat → Nat} : ∀ {k b : Nat}, (∀ j, b ≤ j → j < b + k → t j < n) → en n t k b < n ^ k
  | 0, b, _ => by simp [en]
  | k + 1, b, h => by
    have ih := en_lt (n := n) (t := t) (k := k) (b := b + 1) (fun j a c => h j (by omega) (by omega))
    have h1 := h b (by omega) (by omega)
    have h2 : n * (en n t k (b + 1) + 1) ≤ n * n ^ k := Nat.mul_le_mul_left n ih
    rw [Nat.mul_add, Nat.mul_one] at h2
    rw [en, Nat.pow_succ, Nat.mul_comm (n ^ k) n]
    omega
theorem en_dg {n : Nat} {t : Nat → Nat} : ∀ {i k b : Nat}, i < k → (∀ j, b ≤ j → j < b + k → t j < n) → dg n (en n t k b) i = t (b + i)
  | 0, 0, b, hi, h => by omega
  | 0, k + 1, b, hi, h => by
    have h1 := h b (by omega) (by omega)
    unfold dg
    rw [en, Nat.pow_zero, Nat.div_one, Nat.add_mul_mod_self_left, Nat.mod_eq_of_lt h1]
    rfl
  | i + 1, 0, b, hi, h => by omega
  | i + 1, k + 1, b, hi, h => by
    have ih := en_dg (n := n) (t := t) (i := i) (k := k) (b := b + 1) (by omega) (fun j a c => h j (by omega) (by omega))
    have h1 := h b (by omega) (by omega)
    have hn : 0 < n := by omega
    unfold dg at ih ⊢
    rw [en, Nat.pow_succ, Nat.mul_comm (n ^ i) n, ← Nat.div_div_eq_div_mul, Nat.add_mul_div_left _ _ hn, Nat.div_eq_of_lt h1, Nat.zero_add, ih]
    rw [show b + 1 + i = b + (i + 1) by omega]
/-- the model's loop before the loading T -/
def Lp (D E : rg_D) (T : Nat) : Prop := (∀ j, j < D 1 0 → E 29 j ≤ D 0 0) ∧ Fz D (E 29) (D 1 0) ∧ E 33 0 = sm (Us D (E 29)) (D 1 0) ∧ ∀ T', T' < T → Fz D (dg (D 0 0 + 1) T') (D 1 0) → Ky (mk4 D) (dg (D 0 0 + 1) T') ≤ Ky (mk4 D) (E 29)
theorem Fz_t {D : rg_D} {t t' : Nat → Nat} {n : Nat} (h : ∀ j, j < n → t' j = t j) : Fz D t' n ↔ Fz D t n := by
  unfold Fz
  constructor
  · intro q i hi z
    have := q i hi (by rw [h i hi]; exact z)
    rw [h i hi, stP_t (t := t) (fun j hj => h j (by omega))] at this
    exact this
  · intro q i hi z
    rw [h i hi] at z ⊢
    rw [stP_t (t := t) (fun j hj => h j (by omega))]
    exact q i hi z
theorem us_U {D E : rg_D} (hT : Tl D E) (hb : Tb D) : us E = sm (Us D (E 28)) (D 1 0) := by
  unfold us
  rw [← hT.1 1 0 (by decide) (by decide)]
  refine sm_congr (fun j hj => ?_)
  unfold usf Us
  have := hb.1 j hj
  rw [← hT.1 10 j (by decide) (by decide)]
  by_cases z : E 28 j = 0
  · rw [if_neg (by omega), if_pos z]
  · rw [if_pos (by omega), if_neg z]
    unfold lm ln
    split
    · rfl
    · split
      · rfl
      · rw [if_pos (by omega)]
theorem pst_lp {D E : rg_D} {B : Nat → Nat} {T : Nat} (hT : Tl D E) (h3 : D 0 0 ≤ 3) (h8 : D 1 0 ≤ 8) (hd : ∀ i, D 13 i < 4) (hb : Tb D) (hB : HB D B) (hL : Lp D E T) (h28 : ∀ j, j < D 1 0 → E 28 j = dg (D 0 0 + 1) T j) : Lp D (pst E B) (T + 1) := by
  obtain ⟨l1, l2, l3, l4⟩ := hL
  have n1 : E 1 0 = D 1 0 := (hT.1 1 0 (by decide) (by decide)).symm
  have e1 : mk4 D 1 0 = D 1 0 := mk4_f (by decide)
  have hu := us_U hT hb
  have ht : ∀ j, j < D 1 0 → E 28 j ≤ D 0 0 := fun j hj => by
    rw [h28 j hj]
    have : dg (D 0 0 + 1) T j < D 0 0 + 1 := Nat.mod_lt _ (by omega)
    omega
  have hF := Fz_mb hT h3 hd hb ht
  have hk := (Ky_congr (D := mk4 D) (t := E 28) (t' := dg (D 0 0 + 1) T) (by rw [e1]; exact h28)).2
  have hFt := Fz_t (D := D) (t := dg (D 0 0 + 1) T) (t' := E 28) (n := D 1 0) h28
  unfold pst
  by_cases q : us E < E 33 0 ∨ (us E = E 33 0 ∧ ¬ ahP E B) ∨ ¬ mbP E
  · rw [pb_t q, if_pos rfl]
    refine ⟨l1, l2, l3, fun T' hT' hz => ?_⟩
    by_cases e : T' = T
    · subst e
      rw [← hk]
      rcases q with q | ⟨q1, q2⟩ | q
      · exact Nat.le_of_lt (Ky_lt (by omega) (scr_A h8 hB (by omega)))
      · exact ah_no h3 h8 n1 hB ht (by omega) q2
      · exact absurd (hF.mp (hFt.mpr hz)) q
    · exact l4 T' (by omega) hz
  · rw [pb_f q, if_neg (by decide)]
    have hm : mbP E := Classical.byContradiction (fun z => q (Or.inr (Or.inr z)))
    have e29 : ∀ j, j < D 1 0 → cps (E 1 0) 0 (up E 33 0 (us E)) 29 j = E 28 j := fun j hj => by
      rw [cps_29, if_pos (by omega), up_f (by decide)]
    have hge : Ky (mk4 D) (E 29) ≤ Ky (mk4 D) (E 28) := by
      by_cases z : us E = E 33 0
      · have ha : ahP E B := Classical.byContradiction (fun y => q (Or.inr (Or.inl ⟨z, y⟩)))
        exact ah_yes h3 h8 n1 hB l1 (by omega) ha
      · have : ¬ us E < E 33 0 := fun y => q (Or.inl y)
        exact Nat.le_of_lt (Ky_lt (by omega) (scr_A h8 hB (by omega)))
    have hk2 := (Ky_congr (D := mk4 D) (t := cps (E 1 0) 0 (up E 33 0 (us E)) 29) (t' := E 28) (by rw [e1]; exact e29)).2
    refine ⟨fun j hj => by rw [e29 j hj]; exact ht j hj, (Fz_t e29).mpr (hF.mpr hm), ?_, fun T' hT' hz => ?_⟩
    · rw [cps_f (by decide), up_s]
      exact hu.trans (sm_congr (fun j hj => by unfold Us; rw [e29 j hj]))
    · rw [hk2]
      by_cases e : T' = T
      · subst e
        rw [← hk]
        exact Nat.le_refl _
      · exact Nat.le_trans (l4 T' (by omega) hz) hge
theorem Tl.of {D E E' : rg_D} (h : Tl D E) (e : ∀ f j, f < 16 → E' f j = E f j) : Tl D E' := by
  refine ⟨fun f j a c => by rw [e f j a]; exact h.1 f j a c, fun w p s a c d g => by rw [e 9 _ (by decide)]; exact h.2 w p s a c d g⟩
theorem pls_lp {D : rg_D} {B : Nat → Nat} (h3 : D 0 0 ≤ 3) (h8 : D 1 0 ≤ 8) (hd : ∀ i, D 13 i < 4) (hb : Tb D) (hB : HB D B) : ∀ {k T : Nat} {E : rg_D}, Tl D E → Lp D E T → Lp D (pls B k T E) (T + k) ∧ ∀ f j, f ≠ 28 → f ≠ 29 → f ≠ 33 → pls B k T E f j = E f j
  | 0, T, E, _, hL => ⟨hL, fun _ _ _ _ _ => rfl⟩
  | k + 1, T, E, hT, hL => by
    rw [pls]
    have n0 : E 0 0 = D 0 0 := (hT.1 0 0 (by decide) (by decide)).symm
    have n1 : E 1 0 = D 1 0 := (hT.1 1 0 (by decide) (by decide)).symm
    rw [n0, n1]
    have hT1 : Tl D (dgs (D 0 0 + 1) (D 1 0) 0 T E) := hT.of (fun f j hf => dgs_f (by omega))
    have hL1 : Lp D (dgs (D 0 0 + 1) (D 1 0) 0 T E) T := by
      have e : dgs (D 0 0 + 1) (D 1 0) 0 T E 29 = E 29 := funext (fun j => dgs_f (by decide))
      unfold Lp
      rw [e, dgs_f (by decide)]
      exact hL
    have s := pst_lp hT1 h3 h8 hd hb hB hL1 (fun j hj => by rw [dgs_28, if_pos (by omega), Nat.sub_zero]; rfl)
    have ih := pls_lp h3 h8 hd hb hB (k := k) (T := T + 1) (hT1.of (fun f j hf => pst_f (by omega))) s
    rw [show T + (k + 1) = T + 1 + k by omega]
    refine ⟨ih.1, fun f j a c d => ?_⟩
    rw [ih.2 f j a c d, pst_f ⟨c, d⟩, dgs_f a]
/-- the same plan -/
theorem plan_same {D E : rg_D} {B : Nat → Nat} (hT : Tl D E) (hI : TI D) (hO : ∀ f j, D f j < 2 ^ 30) (hG : Gh D) (hb : Tb D) (hB : HB D B) : (∀ j, j < D 1 0 → mk5 D 29 j = mpl E B 29 j) ∧ (∀ j, j < D 1 0 → mpl E B 29 j ≤ D 0 0) ∧ Fz D (mpl E B 29) (D 1 0) ∧ mpl E B 33 0 = sm (Us D (mpl E B 29)) (D 1 0) ∧ (∀ f j, f ≠ 28 → f ≠ 29 → f ≠ 32 → f ≠ 33 → mpl E B f j = E f j) ∧ mpl E B 32 0 = 0 := by
  have h3 := hI.1.1
  have h8 := hI.1.2
  have hd : ∀ i, D 13 i < 4 := fun i => (hI.2.2 i).2.1
  have n0 : E 0 0 = D 0 0 := (hT.1 0 0 (by decide) (by decide)).symm
  have n1 : E 1 0 = D 1 0 := (hT.1 1 0 (by decide) (by decide)).symm
  have e1 : mk4 D 1 0 = D 1 0 := mk4_f (by decide)
  have e0 : mk4 D 0 0 = D 0 0 := mk4_f (by decide)
  have key : ∀ E0, E0 = up (zbs (E 1 0) 0 (up E 32 0 0)) 33 0 0 → Tl D E0 ∧ Lp D E0 0 ∧ (∀ f j, f ≠ 29 → f ≠ 32 → f ≠ 33 → E0 f j = E f j) ∧ E0 32 0 = 0 := by
    rintro E0 rfl
    have ez : ∀ j, j < D 1 0 → up (zbs (E 1 0) 0 (up E 32 0 0)) 33 0 0 29 j = 0 := fun j hj => by
      rw [up_f (by decide), zbs_29, if_pos (by omega)]
    refine ⟨hT.of (fun f j hf => by rw [up_f (by omega), zbs_f (by omega), up_f (by omega)]), ⟨fun j hj => by rw [ez j hj]; exact Nat.zero_le _, fun i hi z => absurd (ez i hi) z, ?_, fun T' h => by omega⟩, fun f j a c d => by rw [up_f d, zbs_f a, up_f c], by rw [up_f (by decide), zbs_f (by decide), up_s]⟩
    rw [up_s, sm_zero (fun j hj => by unfold Us; rw [if_pos (ez j hj)])]
  obtain ⟨k1, k2, k3, k4⟩ := key _ rfl
  have hp := pls_lp h3 h8 hd hb hB (k := (E 0 0 + 1) ^ E 1 0) (T := 0) k1 k2
  have hm : mpl E B = pls B ((E 0 0 + 1) ^ E 1 0) 0 (up (zbs (E 1 0) 0 (up E 32 0 0)) 33 0 0) := rfl
  rw [← hm] at hp
  obtain ⟨⟨l1, l2, l3, l4⟩, lf⟩ := hp
  obtain ⟨b1, b2, b3⟩ := mk_best hI hO hG
  have le1 := b3 (mpl E B 29) l1 l2
  have hlt : ∀ j, 0 ≤ j → j < 0 + D 1 0 → mk5 D 29 j < D 0 0 + 1 := fun j _ hj => by have := b1 j (by omega); omega
  have hdg : ∀ j, j < D 1 0 → dg (D 0 0 + 1) (en (D 0 0 + 1) (mk5 D 29) (D 1 0) 0) j = mk5 D 29 j := fun j hj => by
    rw [en_dg hj hlt, Nat.zero_add]
  have le2 := l4 (en (D 0 0 + 1) (mk5 D 29) (D 1 0) 0) (by rw [n0, n1, Nat.zero_add]; exact en_lt hlt) ((Fz_t hdg).mpr b2)
  rw [(Ky_congr (D := mk4 D) (t' := mk5 D 29) (by rw [e1]; exact hdg)).2] at le2
  have heq : Ky (mk4 D) (mk5 D 29) = Ky (mk4 D) (mpl E B 29) := by omega
  have hs := Ky_inj (D := mk4 D) (by omega) (by omega) (by rw [e0, e1]; exact b1) (by rw [e0, e1]; exact l1) heq
  rw [e1] at hs
  exact ⟨hs, l1, l2, l3, fun f j a c d g => by rw [lf f j a c g]; exact k3 f j c d g, by rw [lf 32 0 (by decide) (by decide) (by decide)]; exact k4⟩
