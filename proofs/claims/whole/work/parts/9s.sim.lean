/-! BOTH SIDES stand alike -/
def PI (D E : rg_D) : Prop := ∀ w p, w < 3 → p < 4 → (p < D 8 w → (0 < E 9 (4 * w + p) ∧ rowF 4 (E 9 (4 * w + p))) ∧ PV D w p (nd (E 9 (4 * w + p))) (di (E 9 (4 * w + p))) (cds (E 9 (4 * w + p)))) ∧ (D 8 w ≤ p → PV D w p 0 (fun _ => 0) (fun _ => 0))
def Pl (D E : rg_D) : Prop := (∀ j, j < D 1 0 → D 29 j = E 29 j ∧ E 29 j ≤ D 0 0) ∧ (LdT D (E 29) (D 1 0)) ∧ (Fz D (E 29) (D 1 0)) ∧ (E 33 0 = sm (Us D (E 29)) (D 1 0)) ∧ (∀ r, r < D 1 0 → D 25 r = bo D r) ∧ (∀ t : Nat → Nat, (∀ j, j < D 1 0 → t j ≤ D 0 0) → Fz D t (D 1 0) → Ky (mk4 D) t ≤ Ky (mk4 D) (E 29))
theorem Pl.same {D E : rg_D} (h : Pl D E) : ∀ j, j < D 1 0 → D 29 j = E 29 j ∧ E 29 j ≤ D 0 0 := h.1
theorem Pl.ld {D E : rg_D} (h : Pl D E) : LdT D (E 29) (D 1 0) := h.2.1
theorem Pl.fz {D E : rg_D} (h : Pl D E) : Fz D (E 29) (D 1 0) := h.2.2.1
theorem Pl.len {D E : rg_D} (h : Pl D E) : E 33 0 = sm (Us D (E 29)) (D 1 0) := h.2.2.2.1
theorem Pl.rank {D E : rg_D} (h : Pl D E) : ∀ r, r < D 1 0 → D 25 r = bo D r := h.2.2.2.2.1
theorem Pl.best {D E : rg_D} (h : Pl D E) : ∀ t : Nat → Nat, (∀ j, j < D 1 0 → t j ≤ D 0 0) → Fz D t (D 1 0) → Ky (mk4 D) t ≤ Ky (mk4 D) (E 29) := h.2.2.2.2.2
def Sm (D E : rg_D) : Prop := (∀ f j, f < 16 → f ≠ 9 → D f j = E f j) ∧ (PI D E) ∧ (TI D) ∧ (MI E) ∧ (Tb D) ∧ (∀ f j, D f j < 2 ^ 30) ∧ (∀ f j, E f j < 2 ^ 30) ∧ (Gh D) ∧ (∀ j, D 19 j ≤ 4) ∧ (∀ w, D 7 w ≤ 1) ∧ (D 16 0 = E 16 0) ∧ (D 16 0 ≤ 1) ∧ (D 16 0 = 1 → Pl D E)
theorem Sm.told {D E : rg_D} (h : Sm D E) : ∀ f j, f < 16 → f ≠ 9 → D f j = E f j := h.1
theorem Sm.pats {D E : rg_D} (h : Sm D E) : PI D E := h.2.1
theorem Sm.ti {D E : rg_D} (h : Sm D E) : TI D := h.2.2.1
theorem Sm.mi {D E : rg_D} (h : Sm D E) : MI E := h.2.2.2.1
theorem Sm.tb {D E : rg_D} (h : Sm D E) : Tb D := h.2.2.2.2.1
theorem Sm.hD {D E : rg_D} (h : Sm D E) : ∀ f j, D f j < 2 ^ 30 := h.2.2.2.2.2.1
theorem Sm.hE {D E : rg_D} (h : Sm D E) : ∀ f j, E f j < 2 ^ 30 := h.2.2.2.2.2.2.1
theorem Sm.gh {D E : rg_D} (h : Sm D E) : Gh D := h.2.2.2.2.2.2.2.1
theorem Sm.p19 {D E : rg_D} (h : Sm D E) : ∀ j, D 19 j ≤ 4 := h.2.2.2.2.2.2.2.2.1
theorem Sm.out {D E : rg_D} (h : Sm D E) : ∀ w, D 7 w ≤ 1 := h.2.2.2.2.2.2.2.2.2.1
theorem Sm.flag {D E : rg_D} (h : Sm D E) : D 16 0 = E 16 0 := h.2.2.2.2.2.2.2.2.2.2.1
theorem Sm.bit {D E : rg_D} (h : Sm D E) : D 16 0 ≤ 1 := h.2.2.2.2.2.2.2.2.2.2.2.1
theorem Sm.plan {D E : rg_D} (h : Sm D E) : D 16 0 = 1 → Pl D E := h.2.2.2.2.2.2.2.2.2.2.2.2
theorem Sm.tl {D E : rg_D} (h : Sm D E) : Tl D E := by
  refine ⟨h.told, fun w p s hw hp s1 s2 => ?_⟩
  have h4 := h.ti.2.1 w
  have := ((h.pats w p hw (by omega)).1 hp).2.2.2 s s2
  rw [this]
  unfold cds
  rw [if_neg (by omega)]
theorem Sm.n0 {D E : rg_D} (h : Sm D E) : E 0 0 = D 0 0 := (h.told 0 0 (by decide) (by decide)).symm
theorem Sm.n1 {D E : rg_D} (h : Sm D E) : E 1 0 = D 1 0 := (h.told 1 0 (by decide) (by decide)).symm
theorem Sm.hb {D E : rg_D} (h : Sm D E) : HB E (bo D) := by
  have e : ∀ i, rk E i = rk D i := fun i => by
    unfold rk rkf
    simp only [h.told 14 _ (by decide) (by decide), h.n1]
  intro r hr
  rw [h.n1] at hr ⊢
  obtain ⟨h1, h2, h3⟩ := bo_HB D r hr
  exact ⟨h1, by rw [e]; exact h2, fun q hq hk => h3 q hq (by rw [← e]; exact hk)⟩
/-- a call that the model only marks -/
theorem Sm.mark {D E : rg_D} (h : Sm D E) {k : Nat} (hk : k < 2 ^ 30) : Sm D (up E 32 0 k) := by
  have e : ∀ f j, f ≠ 32 → up E 32 0 k f j = E f j := fun f j hf => up_f hf
  have e29 : up E 32 0 k 29 = E 29 := funext (fun j => e 29 j (by decide))
  refine ⟨fun f j a c => by rw [e f j (by omega)]; exact h.told f j a c, ?_, h.ti, h.mi.of (fun f j hf => e f j (by omega)), h.tb, h.hD, up_O h.hE hk, h.gh, h.p19, h.out, by rw [e 16 0 (by decide)]; exact h.flag, h.bit, fun q => ?_⟩
  · intro w p hw hp
    rw [e 9 _ (by decide)]
    exact h.pats w p hw hp
  · have := h.plan q
    refine ⟨fun j hj => by rw [e29]; exact this.same j hj, by rw [e29]; exact this.ld, by rw [e29]; exact this.fz, by rw [e29, e 33 0 (by decide)]; exact this.len, this.rank, by rw [e29]; exact this.best⟩
/-- a call that tells something -/
theorem Sm.tell {D E D' E' : rg_D} (h : Sm D E) (h16 : D' 16 0 = 0) (g16 : E' 16 0 = 0) (hd : ∀ f j, 17 ≤ f → D' f j = D f j) (he : ∀ j, E' 9 j = E 9 j) (h8 : ∀ w, D' 8 w = D 8 w) (ht : ∀ f j, f < 16 → f ≠ 9 → D' f j = E' f j) (ti : TI D') (mi : MI E') (tb : Tb D') (hD : ∀ f j, D' f j < 2 ^ 30) (hE : ∀ f j, E' f j < 2 ^ 30) (out : ∀ w, D' 7 w ≤ 1) : Sm D' E' := by
  refine ⟨ht, ?_, ti, mi, tb, hD, hE, ?_, fun j => by rw [hd 19 j (by decide)]; exact h.p19 j, out, by rw [h16, g16], by omega, fun q => by omega⟩
  · intro w p hw hp
    rw [h8, he]
    obtain ⟨k1, k2⟩ := h.pats w p hw hp
    exact ⟨fun q => ⟨(k1 q).1, (k1 q).2.congr (fun f j a c => hd f j (by omega)) (fun _ _ => rfl) (fun _ _ => rfl)⟩, fun q => (k2 q).congr (fun f j a c => hd f j (by omega)) (fun _ _ => rfl) (fun _ _ => rfl)⟩
  · refine ⟨fun j hj => ?_, fun j hj => ?_⟩
    · rw [hd 20 j (by decide), hd 21 j (by decide), hd 22 j (by decide)]; exact h.gh.1 j hj
    · rw [hd 23 j (by decide), hd 24 j (by decide)]; exact h.gh.2 j hj
theorem TI.of' {D D' : rg_D} (h : TI D) (e : ∀ f j, f = 0 ∨ f = 1 ∨ f = 8 ∨ f = 10 ∨ f = 11 ∨ f = 13 → D' f j = D f j) : TI D' := by
  obtain ⟨⟨h1, h2⟩, h3, h4⟩ := h
  refine ⟨⟨by rw [e 0 0 (by omega)]; exact h1, by rw [e 1 0 (by omega)]; exact h2⟩, fun w => by rw [e 8 w (by omega)]; exact h3 w, fun i => ?_⟩
  rw [e 10 i (by omega), e 13 i (by omega), e 11 i (by omega)]
  exact h4 i
theorem MI.of' {D D' : rg_D} (h : MI D) (e : ∀ f j, f = 0 ∨ f = 1 ∨ f = 8 ∨ f = 9 ∨ f = 10 ∨ f = 11 ∨ f = 13 → D' f j = D f j) : MI D' := by
  obtain ⟨⟨h1, h2⟩, h3, h4, h5⟩ := h
  refine ⟨⟨by rw [e 0 0 (by omega)]; exact h1, by rw [e 1 0 (by omega)]; exact h2⟩, fun w => by rw [e 8 w (by omega)]; exact h3 w, fun w => by rw [e 9 w (by omega)]; exact h4 w, fun i => ?_⟩
  rw [e 10 i (by omega), e 13 i (by omega), e 11 i (by omega)]
  exact h5 i
theorem Sm.wagon {D E : rg_D} (h : Sm D E) {l q a u : Nat} (g1 : 1 ≤ l ∧ l ≤ 30) (g2 : q ≤ 1000000) (g3 : a ≤ 8) (g4 : 1 ≤ u ∧ u ≤ 100) (hn : D 0 0 < 3) : Sm (aW (up D 16 0 0) l q a u) (up (up (up (up (up (up (up E 32 0 0) 3 (E 0 0) l) 4 (E 0 0) q) 5 (E 0 0) a) 6 (E 0 0) u) 0 0 (E 0 0 + 1)) 16 0 0) := by
  have e0 : up D 16 0 0 0 0 = D 0 0 := up_f (by decide)
  have ef : ∀ f j, f ≠ 16 → f ≠ 3 → f ≠ 4 → f ≠ 5 → f ≠ 6 → f ≠ 0 → aW (up D 16 0 0) l q a u f j = D f j := fun f j a1 a2 a3 a4 a5 a6 => by
    unfold aW; rw [up_f a6, up_f a5, up_f a4, up_f a3, up_f a2, up_f a1]
  have e00 : aW (up D 16 0 0) l q a u 0 0 = D 0 0 + 1 := by unfold aW; rw [up_s, e0]
  rw [h.n0]
  have eg : ∀ f j, f ≠ 16 → f ≠ 32 → f ≠ 3 → f ≠ 4 → f ≠ 5 → f ≠ 6 → f ≠ 0 → (up (up (up (up (up (up (up E 32 0 0) 3 (D 0 0) l) 4 (D 0 0) q) 5 (D 0 0) a) 6 (D 0 0) u) 0 0 (D 0 0 + 1)) 16 0 0) f j = E f j := fun f j a1 a0 a2 a3 a4 a5 a6 => by
    rw [up_f a1, up_f a6, up_f a5, up_f a4, up_f a3, up_f a2, up_f a0]
  have et : ∀ f j, f < 16 → f ≠ 9 → aW (up D 16 0 0) l q a u f j = (up (up (up (up (up (up (up E 32 0 0) 3 (D 0 0) l) 4 (D 0 0) q) 5 (D 0 0) a) 6 (D 0 0) u) 0 0 (D 0 0 + 1)) 16 0 0) f j := by
    intro f j hf h9
    have a : ¬ f = 16 := by omega
    have c : ¬ f = 32 := by omega
    unfold aW
    rw [e0]
    simp only [up, a, c, false_and, if_false, h.told f j hf h9]
  refine h.tell (by unfold aW; rw [up_f (by decide), up_f (by decide), up_f (by decide), up_f (by decide), up_f (by decide), up_s]) up_s (fun f j hf => ef f j (by omega) (by omega) (by omega) (by omega) (by omega) (by omega)) (fun j => eg 9 j (by decide) (by decide) (by decide) (by decide) (by decide) (by decide) (by decide)) (fun w => ef 8 w (by decide) (by decide) (by decide) (by decide) (by decide) (by decide)) et ?_ ?_ ?_ ?_ ?_ (fun w => by rw [ef 7 w (by decide) (by decide) (by decide) (by decide) (by decide) (by decide)]; exact h.out w)
  · refine ⟨⟨by rw [e00]; omega, by rw [ef 1 0 (by decide) (by decide) (by decide) (by decide) (by decide) (by decide)]; exact h.ti.1.2⟩, fun w => by rw [ef 8 w (by decide) (by decide) (by decide) (by decide) (by decide) (by decide)]; exact h.ti.2.1 w, fun i => ?_⟩
    rw [ef 10 i (by decide) (by decide) (by decide) (by decide) (by decide) (by decide), ef 13 i (by decide) (by decide) (by decide) (by decide) (by decide) (by decide), ef 11 i (by decide) (by decide) (by decide) (by decide) (by decide) (by decide)]
    exact h.ti.2.2 i
  · refine ⟨⟨by rw [← et 0 0 (by decide) (by decide), e00]; omega, by rw [eg 1 0 (by decide) (by decide) (by decide) (by decide) (by decide) (by decide) (by decide)]; exact h.mi.1.2⟩, fun w => by rw [eg 8 w (by decide) (by decide) (by decide) (by decide) (by decide) (by decide) (by decide)]; exact h.mi.2.1 w, fun w => by rw [eg 9 w (by decide) (by decide) (by decide) (by decide) (by decide) (by decide) (by decide)]; exact h.mi.2.2.1 w, fun i => ?_⟩
    rw [eg 10 i (by decide) (by decide) (by decide) (by decide) (by decide) (by decide) (by decide), eg 13 i (by decide) (by decide) (by decide) (by decide) (by decide) (by decide) (by decide), eg 11 i (by decide) (by decide) (by decide) (by decide) (by decide) (by decide) (by decide)]
    exact h.mi.2.2.2 i
  · refine ⟨fun i hi => ?_, fun x hx => ?_, fun j => ?_⟩
    · rw [ef 1 0 (by decide) (by decide) (by decide) (by decide) (by decide) (by decide)] at hi
      rw [ef 10 i (by decide) (by decide) (by decide) (by decide) (by decide) (by decide)]
      exact h.tb.1 i hi
    · rw [ef 15 _ (by decide) (by decide) (by decide) (by decide) (by decide) (by decide)]; exact h.tb.2.1 x hx
    · rw [ef 15 _ (by decide) (by decide) (by decide) (by decide) (by decide) (by decide)]; exact h.tb.2.2 j
  · exact up_O (up_O (up_O (up_O (up_O (up_O h.hD (by decide)) (by omega)) (by omega)) (by omega)) (by omega)) (by omega)
  · exact up_O (up_O (up_O (up_O (up_O (up_O (up_O h.hE (by decide)) (by omega)) (by omega)) (by omega)) (by omega)) (by omega)) (by decide)
theorem Sm.box {D E : rg_D} (h : Sm D E) {s q t u v : Nat} (g1 : 1 ≤ s ∧ s ≤ 3) (g2 : q ≤ 1000000) (g3 : 1 ≤ t ∧ t ≤ 100) (g4 : u ≤ 3) (g5 : v ≤ 1000000000) (hn : D 1 0 < 8) : Sm (aB (up D 16 0 0) s q t u v) (up (up (up (up (up (up (up (up E 32 0 0) 10 (E 1 0) s) 11 (E 1 0) q) 12 (E 1 0) t) 13 (E 1 0) u) 14 (E 1 0) v) 1 0 (E 1 0 + 1)) 16 0 0) := by
  have e0 : up D 16 0 0 1 0 = D 1 0 := up_f (by decide)
  have ef : ∀ f j, f ≠ 16 → f ≠ 1 → ¬ (10 ≤ f ∧ f ≤ 14) → aB (up D 16 0 0) s q t u v f j = D f j := fun f j a1 a2 a3 => by
    unfold aB; rw [up_f a2, up_f (by omega), up_f (by omega), up_f (by omega), up_f (by omega), up_f (by omega), up_f a1]
  have ej : ∀ f j, f ≠ 16 → f ≠ 1 → j ≠ D 1 0 → aB (up D 16 0 0) s q t u v f j = D f j := fun f j a1 a2 a3 => by
    unfold aB; rw [e0, up_f a2, up_j a3, up_j a3, up_j a3, up_j a3, up_j a3, up_f a1]
  have e00 : aB (up D 16 0 0) s q t u v 1 0 = D 1 0 + 1 := by unfold aB; rw [up_s, e0]
  rw [h.n1]
  have eg : ∀ f j, f ≠ 16 → f ≠ 32 → f ≠ 1 → ¬ (10 ≤ f ∧ f ≤ 14) → (up (up (up (up (up (up (up (up E 32 0 0) 10 (D 1 0) s) 11 (D 1 0) q) 12 (D 1 0) t) 13 (D 1 0) u) 14 (D 1 0) v) 1 0 (D 1 0 + 1)) 16 0 0) f j = E f j := fun f j a1 a0 a2 a3 => by
    rw [up_f a1, up_f a2, up_f (by omega), up_f (by omega), up_f (by omega), up_f (by omega), up_f (by omega), up_f a0]
  have et : ∀ f j, f < 16 → f ≠ 9 → aB (up D 16 0 0) s q t u v f j = (up (up (up (up (up (up (up (up E 32 0 0) 10 (D 1 0) s) 11 (D 1 0) q) 12 (D 1 0) t) 13 (D 1 0) u) 14 (D 1 0) v) 1 0 (D 1 0 + 1)) 16 0 0) f j := by
    intro f j hf h9
    have a : ¬ f = 16 := by omega
    have c : ¬ f = 32 := by omega
    unfold aB
    rw [e0]
    simp only [up, a, c, false_and, if_false, h.told f j hf h9]
  have k10 : ∀ i, aB (up D 16 0 0) s q t u v 10 i = if i = D 1 0 then s else D 10 i := fun i => by
    by_cases z : i = D 1 0
    · rw [if_pos z, z]; unfold aB; rw [e0, up_f (by decide), up_f (by decide), up_f (by decide), up_f (by decide), up_f (by decide), up_s]
    · rw [if_neg z, ej 10 i (by decide) (by decide) z]
  have k11 : ∀ i, aB (up D 16 0 0) s q t u v 11 i = if i = D 1 0 then q else D 11 i := fun i => by
    by_cases z : i = D 1 0
    · rw [if_pos z, z]; unfold aB; rw [e0, up_f (by decide), up_f (by decide), up_f (by decide), up_f (by decide), up_s]
    · rw [if_neg z, ej 11 i (by decide) (by decide) z]
  have k13 : ∀ i, aB (up D 16 0 0) s q t u v 13 i = if i = D 1 0 then u else D 13 i := fun i => by
    by_cases z : i = D 1 0
    · rw [if_pos z, z]; unfold aB; rw [e0, up_f (by decide), up_f (by decide), up_s]
    · rw [if_neg z, ej 13 i (by decide) (by decide) z]
  refine h.tell (by unfold aB; rw [up_f (by decide), up_f (by decide), up_f (by decide), up_f (by decide), up_f (by decide), up_f (by decide), up_s]) up_s (fun f j hf => ef f j (by omega) (by omega) (by omega)) (fun j => eg 9 j (by decide) (by decide) (by decide) (by decide)) (fun w => ef 8 w (by decide) (by decide) (by decide)) et ?_ ?_ ?_ ?_ ?_ (fun w => by rw [ef 7 w (by decide) (by decide) (by decide)]; exact h.out w)
  · refine ⟨⟨by rw [ef 0 0 (by decide) (by decide) (by decide)]; exact h.ti.1.1, by rw [e00]; omega⟩, fun w => by rw [ef 8 w (by decide) (by decide) (by decide)]; exact h.ti.2.1 w, fun i => ?_⟩
    rw [k10, k11, k13]
    have := h.ti.2.2 i
    split <;> omega
  · refine ⟨⟨by rw [eg 0 0 (by decide) (by decide) (by decide) (by decide)]; exact h.mi.1.1, by rw [← et 1 0 (by decide) (by decide), e00]; omega⟩, fun w => by rw [eg 8 w (by decide) (by decide) (by decide) (by decide)]; exact h.mi.2.1 w, fun w => by rw [eg 9 w (by decide) (by decide) (by decide) (by decide)]; exact h.mi.2.2.1 w, fun i => ?_⟩
    rw [← et 11 i (by decide) (by decide), ← et 13 i (by decide) (by decide), ← et 10 i (by decide) (by decide), k10, k11, k13]
    have := h.mi.2.2.2 i
    rw [← h.told 11 i (by decide) (by decide), ← h.told 13 i (by decide) (by decide), ← h.told 10 i (by decide) (by decide)] at this
    split <;> omega
  · refine ⟨fun i hi => ?_, fun x hx => ?_, fun j => ?_⟩
    · rw [e00] at hi
      rw [k10]
      split
      · omega
      · exact h.tb.1 i (by omega)
    · rw [ef 15 _ (by decide) (by decide) (by decide)]; exact h.tb.2.1 x hx
    · rw [ef 15 _ (by decide) (by decide) (by decide)]; exact h.tb.2.2 j
  · exact up_O (up_O (up_O (up_O (up_O (up_O (up_O h.hD (by decide)) (by omega)) (by omega)) (by omega)) (by omega)) (by omega)) (by omega)
  · exact up_O (up_O (up_O (up_O (up_O (up_O (up_O (up_O h.hE (by decide)) (by omega)) (by omega)) (by omega)) (by omega)) (by omega)) (by omega)) (by decide)
theorem Sm.rule {D E : rg_D} (h : Sm D E) {a c r : Nat} (g1 : 1 ≤ a ∧ a ≤ 3) (g2 : 1 ≤ c ∧ c ≤ 3) (g3 : r ≤ 2) : Sm (up (up (up D 16 0 0) 15 (4 * a + c) r) 15 (4 * c + a) r) (up (up (up (up E 32 0 0) 15 (4 * a + c) r) 15 (4 * c + a) r) 16 0 0) := by
  have ef : ∀ f j, f ≠ 16 → f ≠ 15 → (up (up (up D 16 0 0) 15 (4 * a + c) r) 15 (4 * c + a) r) f j = D f j := fun f j a1 a2 => by rw [up_f a2, up_f a2, up_f a1]
  have eg : ∀ f j, f ≠ 16 → f ≠ 32 → f ≠ 15 → (up (up (up (up E 32 0 0) 15 (4 * a + c) r) 15 (4 * c + a) r) 16 0 0) f j = E f j := fun f j a1 a0 a2 => by rw [up_f a1, up_f a2, up_f a2, up_f a0]
  have k15 : ∀ j, (up (up (up D 16 0 0) 15 (4 * a + c) r) 15 (4 * c + a) r) 15 j = if j = 4 * c + a then r else if j = 4 * a + c then r else D 15 j := fun j => by simp [up]
  refine h.tell (by rw [up_f (by decide), up_f (by decide), up_s]) up_s (fun f j hf => ef f j (by omega) (by omega)) (fun j => eg 9 j (by decide) (by decide) (by decide)) (fun w => ef 8 w (by decide) (by decide)) ?_ (h.ti.of' (fun f j hf => ef f j (by omega) (by omega))) (h.mi.of' (fun f j hf => eg f j (by omega) (by omega) (by omega))) ?_ ?_ ?_ (fun w => by rw [ef 7 w (by decide) (by decide)]; exact h.out w)
  · intro f j hf h9
    have a : ¬ f = 16 := by omega
    have c : ¬ f = 32 := by omega
    simp only [up, a, c, false_and, if_false, h.told f j hf h9]
  · refine ⟨fun i hi => ?_, fun x hx => ?_, fun j => ?_⟩
    · rw [ef 1 0 (by decide) (by decide)] at hi
      rw [ef 10 i (by decide) (by decide)]
      exact h.tb.1 i hi
    · rw [k15, if_neg (by omega), if_neg (by omega)]; exact h.tb.2.1 x hx
    · rw [k15]
      have := h.tb.2.2 j
      split
      · omega
      · split <;> omega
  · exact up_O (up_O (up_O h.hD (by decide)) (by omega)) (by omega)
  · exact up_O (up_O (up_O (up_O h.hE (by decide)) (by omega)) (by omega)) (by decide)
theorem Sm.cut {D E : rg_D} (h : Sm D E) {t : Nat} (g1 : t ≤ 1000000000) : Sm (up (up D 16 0 0) 2 0 t) (up (up (up E 32 0 0) 2 0 t) 16 0 0) := by
  have ef : ∀ f j, f ≠ 16 → f ≠ 2 → (up (up D 16 0 0) 2 0 t) f j = D f j := fun f j a1 a2 => by rw [up_f a2, up_f a1]
  have eg : ∀ f j, f ≠ 16 → f ≠ 32 → f ≠ 2 → (up (up (up E 32 0 0) 2 0 t) 16 0 0) f j = E f j := fun f j a1 a0 a2 => by rw [up_f a1, up_f a2, up_f a0]
  refine h.tell (by rw [up_f (by decide), up_s]) up_s (fun f j hf => ef f j (by omega) (by omega)) (fun j => eg 9 j (by decide) (by decide) (by decide)) (fun w => ef 8 w (by decide) (by decide)) ?_ (h.ti.of' (fun f j hf => ef f j (by omega) (by omega))) (h.mi.of' (fun f j hf => eg f j (by omega) (by omega) (by omega))) ?_ ?_ ?_ (fun w => by rw [ef 7 w (by decide) (by decide)]; exact h.out w)
  · intro f j hf h9
    have a : ¬ f = 16 := by omega
    have c : ¬ f = 32 := by omega
    simp only [up, a, c, false_and, if_false, h.told f j hf h9]
  · refine ⟨fun i hi => ?_, fun x hx => ?_, fun j => ?_⟩
    · rw [ef 1 0 (by decide) (by decide)] at hi
      rw [ef 10 i (by decide) (by decide)]
      exact h.tb.1 i hi
    · rw [ef 15 _ (by decide) (by decide)]; exact h.tb.2.1 x hx
    · rw [ef 15 _ (by decide) (by decide)]; exact h.tb.2.2 j
  · exact up_O (up_O h.hD (by decide)) (by omega)
  · exact up_O (up_O (up_O h.hE (by decide)) (by omega)) (by decide)
theorem Sm.outs {D E : rg_D} (h : Sm D E) {w x : Nat} (hx : x ≤ 1) : Sm (up (up D 16 0 0) 7 w x) (up (up (up E 32 0 0) 7 w x) 16 0 0) := by
  have ef : ∀ f j, f ≠ 16 → f ≠ 7 → (up (up D 16 0 0) 7 w x) f j = D f j := fun f j a1 a2 => by rw [up_f a2, up_f a1]
  have eg : ∀ f j, f ≠ 16 → f ≠ 32 → f ≠ 7 → (up (up (up E 32 0 0) 7 w x) 16 0 0) f j = E f j := fun f j a1 a0 a2 => by rw [up_f a1, up_f a2, up_f a0]
  refine h.tell (by rw [up_f (by decide), up_s]) up_s (fun f j hf => ef f j (by omega) (by omega)) (fun j => eg 9 j (by decide) (by decide) (by decide)) (fun w => ef 8 w (by decide) (by decide)) ?_ (h.ti.of' (fun f j hf => ef f j (by omega) (by omega))) (h.mi.of' (fun f j hf => eg f j (by omega) (by omega) (by omega))) ?_ ?_ ?_ (fun v => ?_)
  · intro f j hf h9
    have a : ¬ f = 16 := by omega
    have c : ¬ f = 32 := by omega
    simp only [up, a, c, false_and, if_false, h.told f j hf h9]
  · refine ⟨fun i hi => ?_, fun x hx => ?_, fun j => ?_⟩
    · rw [ef 1 0 (by decide) (by decide)] at hi
      rw [ef 10 i (by decide) (by decide)]
      exact h.tb.1 i hi
    · rw [ef 15 _ (by decide) (by decide)]; exact h.tb.2.1 x hx
    · rw [ef 15 _ (by decide) (by decide)]; exact h.tb.2.2 j
  · exact up_O (up_O h.hD (by decide)) (by omega)
  · exact up_O (up_O (up_O h.hE (by decide)) (by omega)) (by decide)
  · have := h.out v
    by_cases e : v = w
    · rw [e, up_s]; exact hx
    · rw [up_j e, up_f (by decide)]; exact this
