/-! THE SEARCH finds the best loading -/
def cW (t : Nat → Nat) (w : Nat) (j : Nat) : Nat := if t j = w + 1 then 1 else 0
def cL (D : rg_D) (t : Nat → Nat) (w : Nat) (j : Nat) : Nat := if t j = w + 1 then ln (D 10 j) else 0
def cG (D : rg_D) (t : Nat → Nat) (w : Nat) (j : Nat) : Nat := if t j = w + 1 then D 11 j else 0
def cS (D : rg_D) (t : Nat → Nat) (w s : Nat) (j : Nat) : Nat := if t j = w + 1 ∧ D 10 j = s then 1 else 0
def cK (D : rg_D) (t : Nat → Nat) (w k : Nat) (j : Nat) : Nat := if t j = w + 1 ∧ D 13 j = k then 1 else 0
/-- the loads hold the first i boxes of a loading -/
def LdT (D : rg_D) (t : Nat → Nat) (i : Nat) : Prop := ∀ w, w < 3 → D 20 w = sm (cW t w) i ∧ D 21 w = sm (cL D t w) i ∧ D 22 w = sm (cG D t w) i ∧ (∀ s, s < 4 → D 23 (4 * w + s) = sm (cS D t w s) i) ∧ ∀ k, k < 4 → D 24 (4 * w + k) = sm (cK D t w k) i
theorem LdT.congr {D D' : rg_D} {t t' : Nat → Nat} {i : Nat} (h : LdT D t i) (he : ∀ f j, f = 10 ∨ f = 11 ∨ f = 13 ∨ (20 ≤ f ∧ f ≤ 24) → D' f j = D f j) (ht : ∀ j, j < i → t' j = t j) : LdT D' t' i := by
  intro w hw
  obtain ⟨h0, h1, h2, h3, h4⟩ := h w hw
  refine ⟨?_, ?_, ?_, fun s hs => ?_, fun k hk => ?_⟩
  · rw [he 20 w (by omega), h0]; exact sm_congr (fun j hj => by unfold cW; rw [ht j hj])
  · rw [he 21 w (by omega), h1]; exact sm_congr (fun j hj => by unfold cL; rw [ht j hj, he 10 j (by omega)])
  · rw [he 22 w (by omega), h2]; exact sm_congr (fun j hj => by unfold cG; rw [ht j hj, he 11 j (by omega)])
  · rw [he 23 _ (by omega), h3 s hs]; exact sm_congr (fun j hj => by unfold cS; rw [ht j hj, he 10 j (by omega)])
  · rw [he 24 _ (by omega), h4 k hk]; exact sm_congr (fun j hj => by unfold cK; rw [ht j hj, he 13 j (by omega)])
theorem LdT.skip {D : rg_D} {t : Nat → Nat} {i : Nat} (h : LdT D t i) (ht : t i = 0) : LdT D t (i + 1) := by
  intro w hw
  obtain ⟨h0, h1, h2, h3, h4⟩ := h w hw
  refine ⟨?_, ?_, ?_, fun s hs => ?_, fun k hk => ?_⟩
  · rw [sm, ← h0]; unfold cW; rw [if_neg (by omega)]; rfl
  · rw [sm, ← h1]; unfold cL; rw [if_neg (by omega)]; rfl
  · rw [sm, ← h2]; unfold cG; rw [if_neg (by omega)]; rfl
  · rw [sm, ← h3 s hs]; unfold cS; rw [if_neg (by omega)]; rfl
  · rw [sm, ← h4 k hk]; unfold cK; rw [if_neg (by omega)]; rfl
theorem LdT.put {D : rg_D} {t : Nat → Nat} {i w : Nat} (h : LdT D t i) (hw : w < 3) (ht : t i = w + 1) (h10 : D 10 i < 4) (h13 : D 13 i < 4) : LdT (pon D w i) t (i + 1) := by
  intro v hv
  obtain ⟨h0, h1, h2, h3, h4⟩ := h v hv
  have e10 : ∀ j, pon D w i 10 j = D 10 j := fun j => pon_f (by omega)
  have e11 : ∀ j, pon D w i 11 j = D 11 j := fun j => pon_f (by omega)
  have e13 : ∀ j, pon D w i 13 j = D 13 j := fun j => pon_f (by omega)
  refine ⟨?_, ?_, ?_, fun s hs => ?_, fun k hk => ?_⟩
  · rw [pon_20, sm, ← h0]; unfold cW
    by_cases e : v = w
    · rw [if_pos e, if_pos (by omega), e]
    · rw [if_neg e, if_neg (by omega)]; rfl
  · rw [pon_21, sm, sm_congr (f' := cL D t v) (fun j _ => by unfold cL; rw [e10]), ← h1]; unfold cL
    by_cases e : v = w
    · rw [if_pos e, if_pos (by omega), e, e10]
    · rw [if_neg e, if_neg (by omega)]; rfl
  · rw [pon_22, sm, sm_congr (f' := cG D t v) (fun j _ => by unfold cG; rw [e11]), ← h2]; unfold cG
    by_cases e : v = w
    · rw [if_pos e, if_pos (by omega), e, e11]
    · rw [if_neg e, if_neg (by omega)]; rfl
  · rw [pon_23, sm, sm_congr (f' := cS D t v s) (fun j _ => by unfold cS; rw [e10]), ← h3 s hs]; unfold cS
    rw [e10]
    by_cases e : v = w ∧ D 10 i = s
    · rw [if_pos (by omega), if_pos (by omega), e.1, e.2]
    · rw [if_neg (by omega), if_neg (by omega)]; rfl
  · rw [pon_24, sm, sm_congr (f' := cK D t v k) (fun j _ => by unfold cK; rw [e13]), ← h4 k hk]; unfold cK
    rw [e13]
    by_cases e : v = w ∧ D 13 i = k
    · rw [if_pos (by omega), if_pos (by omega), e.1, e.2]
    · rw [if_neg (by omega), if_neg (by omega)]; rfl
theorem ff_ex {p : Nat → Bool} {k : Nat} : ff p k 0 ≠ 0 ↔ ∃ j, j < k ∧ p j = true := by
  constructor
  · intro h
    apply Classical.byContradiction
    intro q
    apply h
    rw [ff_none]
    intro j _ hj
    cases e : p j with
    | false => rfl
    | true => exact absurd ⟨j, by omega, e⟩ q
  · rintro ⟨j, hj, e⟩ h
    have := ff_none.mp h j (by omega) (by omega)
    rw [e] at this
    cases this
/-- box i may go on wagon w, where the boxes before it stand as t says -/
def stP (D : rg_D) (t : Nat → Nat) (i w : Nat) : Prop :=
  D 7 w = 0 ∧ D 14 i ≤ D 2 0 ∧ D 12 i ≤ D 6 w ∧ sm (cG D t w) i + D 11 i ≤ D 4 w ∧ (∃ p, p < D 8 w ∧ ∀ s, 1 ≤ s → s < 4 → sm (cS D t w s) i + (if s = D 10 i then 1 else 0) ≤ D 19 (16 * w + 4 * p + s)) ∧ ∀ n, n < D 0 0 → (n + 1 = w ∨ n = w ∨ n = w + 1) → ∀ k, 1 ≤ k → k < 4 → 0 < sm (cK D t n k) i → D 15 (4 * D 13 i + k) < (if n = w then 1 else 2)
theorem maP_st {D : rg_D} {t : Nat → Nat} {i w : Nat} (h3 : D 0 0 ≤ 3) (hw : w < D 0 0) (h : LdT D t i) : maP D i w ↔ stP D t i w := by
  unfold maP stP lp
  have hl := h w (by omega)
  rw [hl.2.2.1, ff_ex]
  have e1 : (∃ j, j < D 8 w ∧ (fun p => pb (hoP D w p w (D 10 i))) j = true) ↔ ∃ p, p < D 8 w ∧ ∀ s, 1 ≤ s → s < 4 → sm (cS D t w s) i + (if s = D 10 i then 1 else 0) ≤ D 19 (16 * w + 4 * p + s) := by
    constructor
    · rintro ⟨p, a, c⟩
      refine ⟨p, a, fun s s1 s2 => ?_⟩
      rw [← hl.2.2.2.1 s s2]
      exact (pb_iff.mp c) s s1 s2
    · rintro ⟨p, a, c⟩
      refine ⟨p, a, pb_t (fun s s1 s2 => ?_)⟩
      rw [hl.2.2.2.1 s s2]
      exact c s s1 s2
  have e2 : ruP D (D 13 i) w ↔ ∀ n, n < D 0 0 → (n + 1 = w ∨ n = w ∨ n = w + 1) → ∀ k, 1 ≤ k → k < 4 → 0 < sm (cK D t n k) i → D 15 (4 * D 13 i + k) < (if n = w then 1 else 2) := by
    unfold ruP baP
    constructor
    · intro q n a c k k1 k2 z
      apply Classical.byContradiction
      intro z2
      exact q n a c ⟨k, ⟨k1, k2⟩, by rw [(h n (by omega)).2.2.2.2 k k2]; exact z, by omega⟩
    · rintro q n a c ⟨k, ⟨k1, k2⟩, z1, z2⟩
      rw [(h n (by omega)).2.2.2.2 k k2] at z1
      have := q n a c k k1 k2 z1
      omega
  rw [e1, e2]
theorem stP_t {D : rg_D} {t t' : Nat → Nat} {i w : Nat} (h : ∀ j, j < i → t' j = t j) : stP D t' i w ↔ stP D t i w := by
  have a1 : ∀ w, sm (cG D t' w) i = sm (cG D t w) i := fun w => sm_congr (fun j hj => by unfold cG; rw [h j hj])
  have a2 : ∀ w s, sm (cS D t' w s) i = sm (cS D t w s) i := fun w s => sm_congr (fun j hj => by unfold cS; rw [h j hj])
  have a3 : ∀ w k, sm (cK D t' w k) i = sm (cK D t w k) i := fun w s => sm_congr (fun j hj => by unfold cK; rw [h j hj])
  unfold stP
  simp only [a1, a2, a3]
theorem stP_D {D D' : rg_D} {t : Nat → Nat} {i w : Nat} (h : ∀ f j, f < 20 → D' f j = D f j) : stP D' t i w ↔ stP D t i w := by
  have e : ∀ f j, f < 20 → D' f j = D f j := h
  have a1 : ∀ w, sm (cG D' t w) i = sm (cG D t w) i := fun w => sm_congr (fun j hj => by unfold cG; rw [e 11 j (by decide)])
  have a2 : ∀ w s, sm (cS D' t w s) i = sm (cS D t w s) i := fun w s => sm_congr (fun j hj => by unfold cS; rw [e 10 j (by decide)])
  have a3 : ∀ w k, sm (cK D' t w k) i = sm (cK D t w k) i := fun w s => sm_congr (fun j hj => by unfold cK; rw [e 13 j (by decide)])
  unfold stP
  simp only [a1, a2, a3, e 7 _ (by decide), e 14 _ (by decide), e 2 _ (by decide), e 12 _ (by decide), e 6 _ (by decide), e 11 _ (by decide), e 4 _ (by decide), e 8 _ (by decide), e 10 _ (by decide), e 19 _ (by decide), e 0 _ (by decide), e 15 _ (by decide), e 13 _ (by decide)]
def Fz (D : rg_D) (t : Nat → Nat) (n : Nat) : Prop := ∀ i, i < n → t i ≠ 0 → stP D t i (t i - 1)
def sc (D : rg_D) (t : Nat → Nat) (j : Nat) : Nat := if t j = 0 then 0 else D 26 j
def scr (D : rg_D) (t : Nat → Nat) : Nat := sm (sc D t) (D 1 0)
def eo (t : Nat → Nat) (j : Nat) : Nat := if t j = 0 then 0 else 4 - t j
def Ky (D : rg_D) (t : Nat → Nat) : Nat := scr D t * 65536 + hn 4 (eo t) (D 1 0)
/-- t goes on from the first i boxes as t0 has them -/
def Qc (D : rg_D) (i : Nat) (t0 t : Nat → Nat) : Prop := (∀ j, j < i → t j = t0 j) ∧ (∀ j, j < D 1 0 → t j ≤ D 0 0) ∧ Fz D t (D 1 0)
theorem eo_lt {t : Nat → Nat} {j : Nat} : eo t j < 4 := by unfold eo; split <;> omega
theorem Ky_lt {D : rg_D} {t t' : Nat → Nat} (h8 : D 1 0 ≤ 8) (h : scr D t < scr D t') : Ky D t < Ky D t' := by
  unfold Ky
  have h1 := hn_lt (c := 4) (u := eo t) (n := D 1 0) (fun j _ => eo_lt)
  have h2 : (4 : Nat) ^ D 1 0 ≤ 4 ^ 8 := Nat.pow_le_pow_right (by decide) h8
  have h3 : (4 : Nat) ^ 8 = 65536 := by decide
  omega
theorem Ky_congr {D : rg_D} {t t' : Nat → Nat} (h : ∀ j, j < D 1 0 → t j = t' j) : scr D t = scr D t' ∧ Ky D t = Ky D t' := by
  have e1 : scr D t = scr D t' := sm_congr (fun j hj => by unfold sc; rw [h j hj])
  refine ⟨e1, ?_⟩
  unfold Ky
  rw [e1, hn_congr (v := eo t') (fun j hj => by unfold eo; rw [h j hj])]
theorem Ky_ord {D : rg_D} {t1 t2 : Nat → Nat} {i : Nat} (h3 : D 0 0 ≤ 3) (hi : i < D 1 0) (ha : ∀ j, j < i → t1 j = t2 j) (h1 : t1 i ≤ D 0 0) (ho : t1 i ≠ 0) (hc : t2 i = 0 ∨ t1 i < t2 i) (hs : scr D t1 = scr D t2) : Ky D t2 ≤ Ky D t1 := by
  unfold Ky
  have := hn_lex (c := 4) (u := eo t1) (v := eo t2) hi (fun j hj => by unfold eo; rw [ha j hj]) (by unfold eo; rw [if_neg ho]; split <;> omega) (fun j _ => eo_lt)
  omega
theorem Ky_inj {D : rg_D} {t1 t2 : Nat → Nat} (h3 : D 0 0 ≤ 3) (h8 : D 1 0 ≤ 8) (h1 : ∀ j, j < D 1 0 → t1 j ≤ D 0 0) (h2 : ∀ j, j < D 1 0 → t2 j ≤ D 0 0) (h : Ky D t1 = Ky D t2) : ∀ j, j < D 1 0 → t1 j = t2 j := by
  have hs : scr D t1 = scr D t2 := by
    rcases Nat.lt_trichotomy (scr D t1) (scr D t2) with q | q | q
    · have := Ky_lt h8 q; omega
    · exact q
    · have := Ky_lt h8 q; omega
  have he : hn 4 (eo t1) (D 1 0) = hn 4 (eo t2) (D 1 0) := by
    unfold Ky at h
    omega
  intro j hj
  have := hn_inj (fun j _ => eo_lt) (fun j _ => eo_lt) he j hj
  have a := h1 j hj
  have c := h2 j hj
  unfold eo at this
  split at this <;> split at this <;> omega
/-- what a piece of the search leaves: nothing better, or the best of what it went through -/
def Po (D0 D D' : rg_D) (Q : (Nat → Nat) → Prop) : Prop :=
  ((∀ j, D' 29 j = D 29 j) ∧ D' 31 0 = D 31 0 ∧ ∀ t, Q t → scr D0 t < D 31 0) ∨ (D 31 0 ≤ scr D0 (D' 29) ∧ D' 31 0 = scr D0 (D' 29) + 1 ∧ Q (D' 29) ∧ ∀ t, Q t → Ky D0 t ≤ Ky D0 (D' 29))
theorem Po.comp {D0 D D1 D2 : rg_D} {Q1 Q2 Q : (Nat → Nat) → Prop} (h8 : D0 1 0 ≤ 8) (h1 : Po D0 D D1 Q1) (h2 : Po D0 D1 D2 Q2) (hQ : ∀ t, Q t ↔ Q1 t ∨ Q2 t) (ho : ∀ t1 t2, Q1 t1 → Q2 t2 → scr D0 t1 = scr D0 t2 → Ky D0 t2 ≤ Ky D0 t1) : Po D0 D D2 Q := by
  rcases h1 with ⟨a1, a2, a3⟩ | ⟨a1, a2, a3, a4⟩
  · rcases h2 with ⟨c1, c2, c3⟩ | ⟨c1, c2, c3, c4⟩
    · refine Or.inl ⟨fun j => (c1 j).trans (a1 j), c2.trans a2, fun t ht => ?_⟩
      rcases (hQ t).mp ht with q | q
      · exact a3 t q
      · rw [← a2]; exact c3 t q
    · refine Or.inr ⟨by rw [← a2]; exact c1, c2, (hQ _).mpr (Or.inr c3), fun t ht => ?_⟩
      rcases (hQ t).mp ht with q | q
      · have := a3 t q
        exact Nat.le_of_lt (Ky_lt h8 (by omega))
      · exact c4 t q
  · rcases h2 with ⟨c1, c2, c3⟩ | ⟨c1, c2, c3, c4⟩
    · have e : D2 29 = D1 29 := funext c1
      refine Or.inr ⟨by rw [e]; exact a1, by rw [e, c2]; exact a2, (hQ _).mpr (Or.inl (by rw [e]; exact a3)), fun t ht => ?_⟩
      rw [e]
      rcases (hQ t).mp ht with q | q
      · exact a4 t q
      · have := c3 t q
        by_cases z : scr D0 t = scr D0 (D1 29)
        · exact ho _ _ a3 q z.symm
        · exact Nat.le_of_lt (Ky_lt h8 (by omega))
    · refine Or.inr ⟨by omega, c2, (hQ _).mpr (Or.inr c3), fun t ht => ?_⟩
      rcases (hQ t).mp ht with q | q
      · have k1 := a4 t q
        have k2 := Ky_lt h8 (show scr D0 (D1 29) < scr D0 (D2 29) by omega)
        omega
      · exact c4 t q
/-- the search stands before box i -/
def Iv (D0 D : rg_D) (i : Nat) : Prop := (∀ f j, f < 20 ∨ f = 26 ∨ f = 27 → D f j = D0 f j) ∧ LdT D (D 28) i ∧ D 30 0 = sm (sc D0 (D 28)) i ∧ (∀ j, j < i → D 28 j ≤ D0 0 0) ∧ Fz D0 (D 28) i
theorem Iv.nr {D0 D D' : rg_D} {i : Nat} (h : Iv D0 D i) (n : Nr D D') : Iv D0 D' i := by
  obtain ⟨h1, h2, h3, h4, h5⟩ := h
  have e28 : D' 28 = D 28 := funext (fun j => n.1 28 j (by decide) (by decide))
  refine ⟨fun f j hf => by rw [n.1 f j (by omega) (by omega)]; exact h1 f j hf, ?_, by rw [n.1 30 0 (by decide) (by decide), e28]; exact h3, by rw [e28]; exact h4, by rw [e28]; exact h5⟩
  rw [e28]
  exact h2.congr (fun f j hf => n.1 f j (by omega) (by omega)) (fun j _ => rfl)
theorem Iv.next {D0 D : rg_D} {i : Nat} (h : Iv D0 D i) (h0 : D 28 i = 0) : Iv D0 D (i + 1) := by
  obtain ⟨h1, h2, h3, h4, h5⟩ := h
  refine ⟨h1, h2.skip h0, by rw [sm, ← h3]; unfold sc; rw [if_pos h0]; rfl, fun j hj => ?_, fun j hj z => ?_⟩
  · by_cases e : j = i
    · rw [e, h0]; exact Nat.zero_le _
    · exact h4 j (by omega)
  · by_cases e : j = i
    · rw [e, h0] at z; exact absurd rfl z
    · exact h5 j (by omega) z
theorem ton_28 {D : rg_D} {i w j : Nat} : ton D i w 28 j = if j = i then w + 1 else D 28 j := by
  unfold ton
  by_cases e : j = i
  · rw [e, up_s, if_pos rfl]
  · rw [up_j e, up_f (by decide), pon_f (by decide), if_neg e]
theorem Iv.on {D0 D : rg_D} {i w : Nat} (h : Iv D0 D i) (hT : TI D) (h3 : D0 0 0 ≤ 3) (hw : w < D0 0 0) (hm : maP D i w) : Iv D0 (ton D i w) (i + 1) := by
  obtain ⟨h1, h2, h3', h4, h5⟩ := h
  have e0 : D 0 0 = D0 0 0 := h1 0 0 (by decide)
  have hs := (maP_st (by omega) (by omega) h2).mp hm
  have ht : ∀ j, j < i → ton D i w 28 j = D 28 j := fun j hj => by rw [ton_28, if_neg (by omega)]
  refine ⟨fun f j hf => by rw [ton_f (by omega)]; exact h1 f j hf, ?_, ?_, fun j hj => ?_, fun j hj z => ?_⟩
  · have := (h2.congr (D' := D) (t' := ton D i w 28) (fun f j _ => rfl) ht).put (w := w) (by omega) (by rw [ton_28, if_pos rfl]) (hT.2.2 i).1 (hT.2.2 i).2.1
    refine this.congr (fun f j hf => ?_) (fun j _ => rfl)
    by_cases e : 20 ≤ f ∧ f ≤ 24
    · exact ton_l e
    · rw [ton_f (by omega), pon_f (by omega)]
  · rw [sm, sm_congr (f' := sc D0 (D 28)) (fun j hj => by unfold sc; rw [ht j hj]), ← h3']
    unfold sc
    rw [ton_28, if_pos rfl, if_neg (by omega), ← h1 26 i (by omega)]
    unfold ton
    rw [up_f (by decide), up_s]
  · rw [ton_28]
    split
    · omega
    · exact h4 j (by omega)
  · by_cases e : j = i
    · subst e
      rw [stP_t (t := D 28) ht, ton_28, if_pos rfl, ← stP_D (D := D0) (D' := D) (fun f k hf => h1 f k (by omega))]
      exact hs
    · rw [ht j (by omega)] at z ⊢
      rw [stP_t (t := D 28) (fun k hk => ht k (by omega))]
      exact h5 j (by omega) z
theorem swl_po {D0 : rg_D} {i : Nat} (h3 : D0 0 0 ≤ 3) (h8 : D0 1 0 ≤ 8) (hi : i < D0 1 0) {f : rg_D → rg_D} (hn : ∀ D, SP D (i + 1) → D 1 0 = D0 1 0 → Nr D (f D)) (hf : ∀ D, SP D (i + 1) → Iv D0 D (i + 1) → Po D0 D (f D) (Qc D0 (i + 1) (D 28))) : ∀ (k w : Nat) (D : rg_D), w + k = D0 0 0 → SP D i → Iv D0 D i → Po D0 D (swl f i k w D) (fun t => Qc D0 i (D 28) t ∧ w < t i)
  | 0, w, D, hk, hS, hI => by
    rw [swl]
    refine Or.inl ⟨fun j => rfl, rfl, fun t ht => ?_⟩
    have := ht.1.2.1 i hi
    omega
  | k + 1, w, D, hk, hS, hI => by
    rw [swl]
    have e0 : D 0 0 = D0 0 0 := hI.1 0 0 (by decide)
    have e1 : D 1 0 = D0 1 0 := hI.1 1 0 (by decide)
    have h28 : D 28 i = 0 := hS.2.2.1 i (Nat.le_refl _) (by omega)
    have key : Nr D (if pb (maP D i w) = true then tof (f (ton D i w)) i w else D) := by
      split
      · exact tof_nr hS.2.1.1 h28 (hn _ (hS.tn (by omega) (by omega)) (by rw [ton_f (by decide)]; exact e1))
      · exact Nr.refl hS.2.1.1
    have p1 : Po D0 D (if pb (maP D i w) = true then tof (f (ton D i w)) i w else D) (fun t => Qc D0 i (D 28) t ∧ t i = w + 1) := by
      by_cases hm : maP D i w
      · rw [if_pos (pb_t hm)]
        have hp := hf (ton D i w) (hS.tn (by omega) (by omega)) (hI.on hS.1 h3 (by omega) hm)
        have a29 : ∀ j, ton D i w 29 j = D 29 j := fun j => ton_f (by decide)
        have a31 : ton D i w 31 0 = D 31 0 := ton_f (by decide)
        have c29 : tof (f (ton D i w)) i w 29 = f (ton D i w) 29 := funext (fun j => tof_2 (Or.inl rfl))
        have c31 : tof (f (ton D i w)) i w 31 0 = f (ton D i w) 31 0 := tof_2 (Or.inr rfl)
        have hQ : ∀ t, Qc D0 (i + 1) (ton D i w 28) t ↔ (Qc D0 i (D 28) t ∧ t i = w + 1) := by
          intro t
          unfold Qc
          constructor
          · rintro ⟨q1, q2, q3⟩
            refine ⟨⟨fun j hj => by rw [q1 j (by omega), ton_28, if_neg (by omega)], q2, q3⟩, by rw [q1 i (by omega), ton_28, if_pos rfl]⟩
          · rintro ⟨⟨q1, q2, q3⟩, q4⟩
            refine ⟨fun j hj => ?_, q2, q3⟩
            rw [ton_28]
            split
            · next e => rw [e]; exact q4
            · exact q1 j (by omega)
        rcases hp with ⟨x1, x2, x3⟩ | ⟨x1, x2, x3, x4⟩
        · refine Or.inl ⟨fun j => by rw [c29, x1, a29], by rw [c31, x2, a31], fun t ht => ?_⟩
          rw [← a31]
          exact x3 t ((hQ t).mpr ht)
        · refine Or.inr ⟨by rw [c29, ← a31]; exact x1, by rw [c29, c31]; exact x2, by rw [c29]; exact (hQ _).mp x3, fun t ht => ?_⟩
          rw [c29]
          exact x4 t ((hQ t).mpr ht)
      · rw [pb_f hm, if_neg (by decide)]
        refine Or.inl ⟨fun j => rfl, rfl, fun t ht => ?_⟩
        exfalso
        apply hm
        rw [maP_st (by omega) (by omega) hI.2.1, ← stP_t (t := D 28) (t' := t) (fun j hj => ht.1.1 j hj), stP_D (D := D0) (D' := D) (fun f j hf => hI.1 f j (by omega))]
        have := ht.1.2.2 i hi (by rw [ht.2]; omega)
        rw [ht.2] at this
        exact this
    have p2 := swl_po h3 h8 hi hn hf k (w + 1) _ (by omega) (hS.nr key) (hI.nr key)
    have e28 : (if pb (maP D i w) = true then tof (f (ton D i w)) i w else D) 28 = D 28 := funext (fun j => key.1 28 j (by decide) (by decide))
    rw [e28] at p2
    refine p1.comp h8 p2 (fun t => ?_) (fun t1 t2 q1 q2 hs => ?_)
    · constructor
      · rintro ⟨a, c⟩
        by_cases e : t i = w + 1
        · exact Or.inl ⟨a, e⟩
        · exact Or.inr ⟨a, by omega⟩
      · rintro (⟨a, c⟩ | ⟨a, c⟩)
        · exact ⟨a, by omega⟩
        · exact ⟨a, by omega⟩
    · exact Ky_ord h3 hi (fun j hj => by rw [q1.1.1 j hj, q2.1.1 j hj]) (q1.1.2.1 i hi) (by rw [q1.2]; omega) (Or.inr (by rw [q1.2]; exact q2.2)) hs
theorem srch_po {D0 : rg_D} (h3 : D0 0 0 ≤ 3) (h8 : D0 1 0 ≤ 8) (hz : D0 27 (D0 1 0) = 0) (hU : ∀ i t, i ≤ D0 1 0 → (∀ j, j < D0 1 0 → t j ≤ D0 0 0) → Fz D0 t (D0 1 0) → scr D0 t ≤ sm (sc D0 t) i + D0 27 i) : ∀ (n i : Nat) (D : rg_D), i + n = D0 1 0 → SP D i → Iv D0 D i → Po D0 D (srch n i D) (Qc D0 i (D 28))
  | 0, i, D, hn, hS, hI => by
    rw [srch]
    have hi : i = D0 1 0 := by omega
    have e27 : D 27 i = 0 := by rw [hI.1 27 i (by omega), hi]; exact hz
    have hsc : ∀ t, Qc D0 i (D 28) t → scr D0 t = D 30 0 := fun t ht => by
      rw [hI.2.2.1, hi]
      exact sm_congr (fun j hj => by unfold sc; rw [ht.1 j (by omega)])
    split
    · next hq => exact Or.inl ⟨fun j => rfl, rfl, fun t ht => by rw [hsc t ht]; omega⟩
    · next hq =>
      have e29 : ∀ j, j < D0 1 0 → cpb D 29 j = D 28 j := fun j hj => by unfold cpb; rw [if_pos (by omega)]
      have e31 : cpb D 31 0 = D 30 0 + 1 := by unfold cpb; rw [if_neg (by omega), up_s]
      have hQ : Qc D0 i (D 28) (cpb D 29) := by
        refine ⟨fun j hj => e29 j (by omega), fun j hj => by rw [e29 j hj]; exact hI.2.2.2.1 j (by omega), fun j hj z => ?_⟩
        rw [e29 j hj] at z ⊢
        rw [stP_t (t := D 28) (fun k hk => e29 k (by omega))]
        exact hI.2.2.2.2 j (by omega) z
      refine Or.inr ⟨by rw [hsc _ hQ]; omega, by rw [hsc _ hQ, e31], hQ, fun t ht => ?_⟩
      rw [(Ky_congr (t := t) (t' := cpb D 29) (fun j hj => by rw [e29 j hj]; exact ht.1 j (by omega))).2]
      exact Nat.le_refl _
  | n + 1, i, D, hn, hS, hI => by
    rw [srch]
    have e0 : D 0 0 = D0 0 0 := hI.1 0 0 (by decide)
    have e1 : D 1 0 = D0 1 0 := hI.1 1 0 (by decide)
    split
    · next hq =>
      refine Or.inl ⟨fun j => rfl, rfl, fun t ht => ?_⟩
      have := hU i t (by omega) ht.2.1 ht.2.2
      rw [sm_congr (f' := sc D0 (D 28)) (fun j hj => by unfold sc; rw [ht.1 j hj]), ← hI.2.2.1, ← hI.1 27 i (by omega)] at this
      omega
    · next hq =>
      have hnr : ∀ D1, SP D1 (i + 1) → D1 1 0 = D0 1 0 → Nr D1 (srch n (i + 1) D1) := fun D1 hS1 hi1 => srch_nr n (i + 1) D1 hS1 (by omega)
      have k1 : Nr D (swl (srch n (i + 1)) i (D 0 0) 0 D) := swl_nr (N := D0 1 0) (by omega) hnr (D 0 0) 0 D (by omega) hS e1
      have p1 := swl_po h3 h8 (by omega) hnr (fun D1 a c => srch_po h3 h8 hz hU n (i + 1) D1 (by omega) a c) (D 0 0) 0 D (by omega) hS hI
      have h28 : D 28 i = 0 := hS.2.2.1 i (Nat.le_refl _) (by omega)
      have e28 : swl (srch n (i + 1)) i (D 0 0) 0 D 28 = D 28 := funext (fun j => k1.1 28 j (by decide) (by decide))
      have p2 := srch_po h3 h8 hz hU n (i + 1) _ (by omega) (hS.nr k1).next ((hI.nr k1).next (by rw [e28]; exact h28))
      rw [e28] at p2
      refine p1.comp h8 p2 (fun t => ?_) (fun t1 t2 q1 q2 hs => ?_)
      · unfold Qc
        constructor
        · rintro ⟨a, c, d⟩
          by_cases e : t i = 0
          · refine Or.inr ⟨fun j hj => ?_, c, d⟩
            by_cases ej : j = i
            · rw [ej, e, h28]
            · exact a j (by omega)
          · exact Or.inl ⟨⟨a, c, d⟩, by omega⟩
        · rintro (⟨a, c⟩ | ⟨a, c⟩)
          · exact a
          · exact ⟨fun j hj => a j (by omega), c⟩
      · have z2 : t2 i = 0 := by rw [q2.1 i (by omega)]; exact h28
        exact Ky_ord h3 (by omega) (fun j hj => by rw [q1.1.1 j hj, q2.1 j (by omega)]) (q1.1.2.1 i (by omega)) (by have := q1.2; omega) (Or.inl z2) hs
