/-! THE SEARCH as a function of the pure state -/
theorem sm_lt {f : Nat → Nat} (h : ∀ j, f j ≤ 1) : ∀ {n i : Nat}, i < n → f i = 0 → sm f n < n
  | 0, i, hi, _ => by omega
  | n + 1, i, hi, h0 => by
    have h1 := sm_le h n
    have h2 := h n
    by_cases e : i = n
    · subst e
      rw [sm, h0]
      omega
    · have := sm_lt h (n := n) (i := i) (by omega) h0
      rw [sm]
      omega
theorem rk_lt {D : rg_D} {i : Nat} (hi : i < D 1 0) : rk D i < D 1 0 := sm_lt (fun j => rkf_le) hi (by unfold rkf; rw [if_neg (by omega)])
/-- what was told: small numbers -/
def TI (D : rg_D) : Prop := (D 0 0 ≤ 3 ∧ D 1 0 ≤ 8) ∧ (∀ w, D 8 w ≤ 4) ∧ ∀ i, D 10 i < 4 ∧ D 13 i < 4 ∧ D 11 i ≤ 2 ^ 20
theorem TI.of {D D' : rg_D} (h : TI D) (e : ∀ f j, f < 16 → D' f j = D f j) : TI D' := by
  obtain ⟨⟨h1, h2⟩, h3, h4⟩ := h
  refine ⟨⟨by rw [e 0 0 (by decide)]; exact h1, by rw [e 1 0 (by decide)]; exact h2⟩, fun w => by rw [e 8 w (by decide)]; exact h3 w, fun i => ?_⟩
  rw [e 10 i (by decide), e 13 i (by decide), e 11 i (by decide)]
  exact h4 i
def bd (c : Nat) : Nat := c * 2097152
theorem bd_s {c : Nat} : bd (c + 1) = bd c + 2097152 := Nat.succ_mul c 2097152
theorem bd_le {c : Nat} (h : c ≤ 16) : bd c ≤ 33554432 := Nat.mul_le_mul_right 2097152 h
def Ok (D : rg_D) (c : Nat) : Prop := (∀ f j, D f j < 2 ^ 30) ∧ ∀ f j, 20 ≤ f → f ≤ 24 → D f j ≤ bd c
theorem pon_f {D : rg_D} {l i f j : Nat} (h : f < 20 ∨ 24 < f) : pon D l i f j = D f j := by
  unfold pon
  rw [up_f (by omega), up_f (by omega), up_f (by omega), up_f (by omega), up_f (by omega)]
theorem pon_20 {D : rg_D} {l i j : Nat} : pon D l i 20 j = if j = l then D 20 l + 1 else D 20 j := by
  unfold pon; rw [up_f (by decide), up_f (by decide)]; unfold up; simp
theorem pon_21 {D : rg_D} {l i j : Nat} : pon D l i 21 j = if j = l then D 21 l + ln (D 10 i) else D 21 j := by
  unfold pon; rw [up_f (by decide)]; unfold up; simp
theorem pon_22 {D : rg_D} {l i j : Nat} : pon D l i 22 j = if j = l then D 22 l + D 11 i else D 22 j := by
  unfold pon up; simp
theorem pon_23 {D : rg_D} {l i j : Nat} : pon D l i 23 j = if j = 4 * l + D 10 i then D 23 (4 * l + D 10 i) + 1 else D 23 j := by
  unfold pon; rw [up_f (by decide), up_f (by decide), up_f (by decide), up_f (by decide)]; unfold up; simp
theorem pon_24 {D : rg_D} {l i j : Nat} : pon D l i 24 j = if j = 4 * l + D 13 i then D 24 (4 * l + D 13 i) + 1 else D 24 j := by
  unfold pon; rw [up_f (by decide), up_f (by decide), up_f (by decide)]; unfold up; simp
theorem pof_f {D : rg_D} {l i f j : Nat} (h : f < 20 ∨ 24 < f) : pof D l i f j = D f j := by
  unfold pof
  rw [up_f (by omega), up_f (by omega), up_f (by omega), up_f (by omega), up_f (by omega)]
theorem pof_20 {D : rg_D} {l i j : Nat} : pof D l i 20 j = if j = l then D 20 l - 1 else D 20 j := by
  unfold pof; rw [up_f (by decide), up_f (by decide)]; unfold up; simp
theorem pof_21 {D : rg_D} {l i j : Nat} : pof D l i 21 j = if j = l then D 21 l - ln (D 10 i) else D 21 j := by
  unfold pof; rw [up_f (by decide)]; unfold up; simp
theorem pof_22 {D : rg_D} {l i j : Nat} : pof D l i 22 j = if j = l then D 22 l - D 11 i else D 22 j := by
  unfold pof up; simp
theorem pof_23 {D : rg_D} {l i j : Nat} : pof D l i 23 j = if j = 4 * l + D 10 i then D 23 (4 * l + D 10 i) - 1 else D 23 j := by
  unfold pof; rw [up_f (by decide), up_f (by decide), up_f (by decide), up_f (by decide)]; unfold up; simp
theorem pof_24 {D : rg_D} {l i j : Nat} : pof D l i 24 j = if j = 4 * l + D 13 i then D 24 (4 * l + D 13 i) - 1 else D 24 j := by
  unfold pof; rw [up_f (by decide), up_f (by decide), up_f (by decide)]; unfold up; simp
theorem pon_ok {D : rg_D} {l i c : Nat} (h : Ok D c) (hc : c ≤ 16) (ht : TI D) : Ok (pon D l i) (c + 1) := by
  have hi := ht.2.2 i
  have hl := ln_le (D 10 i)
  have hbd := bd_le hc
  have key : ∀ f j, 20 ≤ f → f ≤ 24 → pon D l i f j ≤ bd (c + 1) := by
    intro f j h1 h2
    have e : f = 20 ∨ f = 21 ∨ f = 22 ∨ f = 23 ∨ f = 24 := by omega
    have g := h.2
    rcases e with rfl | rfl | rfl | rfl | rfl
    · rw [pon_20]; have := g 20 l (by decide) (by decide); have := g 20 j (by decide) (by decide); rw [bd_s]; split <;> omega
    · rw [pon_21]; have := g 21 l (by decide) (by decide); have := g 21 j (by decide) (by decide); rw [bd_s]; split <;> omega
    · rw [pon_22]; have := g 22 l (by decide) (by decide); have := g 22 j (by decide) (by decide); rw [bd_s]; split <;> omega
    · rw [pon_23]; have := g 23 (4 * l + D 10 i) (by decide) (by decide); have := g 23 j (by decide) (by decide); rw [bd_s]; split <;> omega
    · rw [pon_24]; have := g 24 (4 * l + D 13 i) (by decide) (by decide); have := g 24 j (by decide) (by decide); rw [bd_s]; split <;> omega
  refine ⟨fun f j => ?_, key⟩
  by_cases e : 20 ≤ f ∧ f ≤ 24
  · have := key f j e.1 e.2
    rw [bd_s] at this
    omega
  · rw [pon_f (by omega)]
    exact h.1 f j
def ton (D : rg_D) (i w : Nat) : rg_D := up (up (pon D w i) 30 0 (D 30 0 + D 26 i)) 28 i (w + 1)
def tof (D : rg_D) (i w : Nat) : rg_D := pof (up (up D 28 i 0) 30 0 (D 30 0 - D 26 i)) w i
def cpb (D : rg_D) : rg_D := fun f j => if f = 29 ∧ j < 8 then D 28 j else up D 31 0 (D 30 0 + 1) f j
noncomputable def swl (f : rg_D → rg_D) (i : Nat) : Nat → Nat → rg_D → rg_D
  | 0, _, D => D
  | k + 1, w, D => swl f i k (w + 1) (if pb (maP D i w) then tof (f (ton D i w)) i w else D)
noncomputable def srch : Nat → Nat → rg_D → rg_D
  | 0, i, D => if D 30 0 + D 27 i < D 31 0 then D else cpb D
  | n + 1, i, D => if D 30 0 + D 27 i < D 31 0 then D else srch n (i + 1) (swl (srch n (i + 1)) i (D 0 0) 0 D)
def SP (D : rg_D) (i : Nat) : Prop := TI D ∧ Ok D i ∧ (∀ j, i ≤ j → j < 8 → D 28 j = 0) ∧ (∀ j, j < D 1 0 → D 26 j ≤ 4096) ∧ (∀ j, j ≤ D 1 0 → D 27 j ≤ 2 ^ 16) ∧ D 30 0 ≤ bd i
def Nr (D D' : rg_D) : Prop := (∀ f j, f ≠ 29 → f ≠ 31 → D' f j = D f j) ∧ ∀ f j, D' f j < 2 ^ 30
theorem Nr.refl {D : rg_D} (h : ∀ f j, D f j < 2 ^ 30) : Nr D D := ⟨fun _ _ _ _ => rfl, h⟩
theorem Nr.trans {D D1 D2 : rg_D} (h1 : Nr D D1) (h2 : Nr D1 D2) : Nr D D2 := ⟨fun f j a c => (h2.1 f j a c).trans (h1.1 f j a c), h2.2⟩
theorem SP.nr {D D' : rg_D} {i : Nat} (h : SP D i) (n : Nr D D') : SP D' i := by
  obtain ⟨h1, h2, h3, h4, h5, h6⟩ := h
  have e := n.1
  refine ⟨h1.of (fun f j hf => e f j (by omega) (by omega)), ⟨n.2, fun f j a c => by rw [e f j (by omega) (by omega)]; exact h2.2 f j a c⟩, fun j a c => by rw [e 28 j (by decide) (by decide)]; exact h3 j a c, fun j a => ?_, fun j a => ?_, by rw [e 30 0 (by decide) (by decide)]; exact h6⟩
  · rw [e 1 0 (by decide) (by decide)] at a
    rw [e 26 j (by decide) (by decide)]
    exact h4 j a
  · rw [e 1 0 (by decide) (by decide)] at a
    rw [e 27 j (by decide) (by decide)]
    exact h5 j a
theorem SP.next {D : rg_D} {i : Nat} (h : SP D i) : SP D (i + 1) := by
  obtain ⟨h1, h2, h3, h4, h5, h6⟩ := h
  exact ⟨h1, ⟨h2.1, fun f j a c => by have := h2.2 f j a c; rw [bd_s]; omega⟩, fun j a c => h3 j (by omega) c, h4, h5, by rw [bd_s]; omega⟩
theorem ton_f {D : rg_D} {i w f j : Nat} (h : (f < 20 ∨ 24 < f) ∧ f ≠ 28 ∧ f ≠ 30) : ton D i w f j = D f j := by
  unfold ton
  rw [up_f h.2.1, up_f h.2.2, pon_f h.1]
theorem ton_l {D : rg_D} {i w f j : Nat} (h : 20 ≤ f ∧ f ≤ 24) : ton D i w f j = pon D w i f j := by
  unfold ton
  rw [up_f (by omega), up_f (by omega)]
theorem SP.tn {D : rg_D} {i w : Nat} (h : SP D i) (hi : i < D 1 0) (hw : w < 3) : SP (ton D i w) (i + 1) := by
  obtain ⟨h1, h2, h3, h4, h5, h6⟩ := h
  have h8 := h1.1.2
  have hp := pon_ok (l := w) (i := i) h2 (by omega) h1
  have h26 := h4 i hi
  have hbd := bd_le (c := i) (by omega)
  refine ⟨h1.of (fun f j hf => ton_f (by omega)), ⟨?_, fun f j a c => by rw [ton_l ⟨a, c⟩]; exact hp.2 f j a c⟩, fun j a c => ?_, fun j a => ?_, fun j a => ?_, ?_⟩
  · exact up_O (up_O hp.1 (by omega)) (by omega)
  · unfold ton
    rw [up_j (by omega), up_f (by decide), pon_f (by decide)]
    exact h3 j (by omega) c
  · rw [ton_f (by decide)] at a
    rw [ton_f (by decide)]
    exact h4 j a
  · rw [ton_f (by decide)] at a
    rw [ton_f (by decide)]
    exact h5 j a
  · unfold ton
    rw [up_f (by decide), up_s, bd_s]
    omega
theorem tof_ton {D D' : rg_D} {i w : Nat} (h28 : D 28 i = 0) (h : ∀ f j, f ≠ 29 → f ≠ 31 → D' f j = ton D i w f j) : ∀ f j, f ≠ 29 → f ≠ 31 → tof D' i w f j = D f j := by
  have e10 : D' 10 i = D 10 i := (h 10 i (by decide) (by decide)).trans (ton_f (by decide))
  have e13 : D' 13 i = D 13 i := (h 13 i (by decide) (by decide)).trans (ton_f (by decide))
  have e11 : D' 11 i = D 11 i := (h 11 i (by decide) (by decide)).trans (ton_f (by decide))
  have e26 : D' 26 i = D 26 i := (h 26 i (by decide) (by decide)).trans (ton_f (by decide))
  have e30 : D' 30 0 = D 30 0 + D 26 i := (h 30 0 (by decide) (by decide)).trans (by unfold ton; rw [up_f (by decide), up_s])
  have l : ∀ f j, 20 ≤ f → f ≤ 24 → D' f j = pon D w i f j := fun f j a c => (h f j (by omega) (by omega)).trans (ton_l ⟨a, c⟩)
  intro f j n1 n2
  have ev : ∀ f j, f ≠ 28 → f ≠ 30 → up (up D' 28 i 0) 30 0 (D' 30 0 - D' 26 i) f j = D' f j := fun f j a c => by rw [up_f c, up_f a]
  unfold tof
  by_cases e20 : f = 20
  · subst e20
    rw [pof_20, ev 20 _ (by decide) (by decide), ev 20 _ (by decide) (by decide), l 20 _ (by decide) (by decide), l 20 _ (by decide) (by decide), pon_20, pon_20, if_pos rfl]
    split
    · next e => subst e; omega
    · rfl
  by_cases e21 : f = 21
  · subst e21
    rw [pof_21, ev 21 _ (by decide) (by decide), ev 21 _ (by decide) (by decide), ev 10 _ (by decide) (by decide), l 21 _ (by decide) (by decide), l 21 _ (by decide) (by decide), pon_21, pon_21, if_pos rfl, e10]
    split
    · next e => subst e; omega
    · rfl
  by_cases e22 : f = 22
  · subst e22
    rw [pof_22, ev 22 _ (by decide) (by decide), ev 22 _ (by decide) (by decide), ev 11 _ (by decide) (by decide), l 22 _ (by decide) (by decide), l 22 _ (by decide) (by decide), pon_22, pon_22, if_pos rfl, e11]
    split
    · next e => subst e; omega
    · rfl
  by_cases e23 : f = 23
  · subst e23
    rw [pof_23, ev 10 _ (by decide) (by decide), ev 23 _ (by decide) (by decide), ev 23 _ (by decide) (by decide), e10, l 23 _ (by decide) (by decide), l 23 _ (by decide) (by decide), pon_23, pon_23, if_pos rfl]
    split
    · next e => subst e; omega
    · rfl
  by_cases e24 : f = 24
  · subst e24
    rw [pof_24, ev 13 _ (by decide) (by decide), ev 24 _ (by decide) (by decide), ev 24 _ (by decide) (by decide), e13, l 24 _ (by decide) (by decide), l 24 _ (by decide) (by decide), pon_24, pon_24, if_pos rfl]
    split
    · next e => subst e; omega
    · rfl
  rw [pof_f (by omega)]
  by_cases e3 : f = 30
  · subst e3
    by_cases ej : j = 0
    · subst ej
      rw [up_s, e30, e26]
      omega
    · rw [up_j ej, up_f (by decide), h 30 j (by decide) (by decide)]
      unfold ton
      rw [up_f (by decide), up_j ej, pon_f (by decide)]
  by_cases e2 : f = 28
  · subst e2
    rw [up_f (by decide)]
    by_cases ej : j = i
    · subst ej
      rw [up_s, h28]
    · rw [up_j ej, h 28 j (by decide) (by decide)]
      unfold ton
      rw [up_j ej, up_f (by decide), pon_f (by decide)]
  · rw [ev f j e2 e3, h f j n1 n2, ton_f (by omega)]
theorem tof_2 {D : rg_D} {i w f j : Nat} (h : f = 29 ∨ f = 31) : tof D i w f j = D f j := by
  unfold tof
  rw [pof_f (by omega), up_f (by omega), up_f (by omega)]
theorem tof_nr {D D' : rg_D} {i w : Nat} (hO : ∀ f j, D f j < 2 ^ 30) (h28 : D 28 i = 0) (h : Nr (ton D i w) D') : Nr D (tof D' i w) := by
  have k := tof_ton h28 h.1
  refine ⟨k, fun f j => ?_⟩
  by_cases e : f = 29 ∨ f = 31
  · rw [tof_2 e]; exact h.2 f j
  · rw [k f j (by omega) (by omega)]; exact hO f j
theorem swl_nr {f : rg_D → rg_D} {i N : Nat} (hN : i < N) (hf : ∀ D, SP D (i + 1) → D 1 0 = N → Nr D (f D)) : ∀ (k w : Nat) (D : rg_D), w + k ≤ 3 → SP D i → D 1 0 = N → Nr D (swl f i k w D)
  | 0, w, D, _, hS, _ => Nr.refl hS.2.1.1
  | k + 1, w, D, hk, hS, hi => by
    rw [swl]
    have key : Nr D (if pb (maP D i w) = true then tof (f (ton D i w)) i w else D) := by
      split
      · exact tof_nr hS.2.1.1 (hS.2.2.1 i (Nat.le_refl _) (by have := hS.1.1.2; omega)) (hf _ (hS.tn (by omega) (by omega)) (by rw [ton_f (by decide)]; exact hi))
      · exact Nr.refl hS.2.1.1
    refine key.trans (swl_nr hN hf k (w + 1) _ (by omega) (hS.nr key) ?_)
    rw [key.1 1 0 (by decide) (by decide)]
    exact hi
theorem srch_nr : ∀ (n i : Nat) (D : rg_D), SP D i → i + n = D 1 0 → Nr D (srch n i D)
  | 0, i, D, hS, hn => by
    rw [srch]
    split
    · exact Nr.refl hS.2.1.1
    · refine ⟨fun f j a c => ?_, fun f j => ?_⟩
      · unfold cpb
        rw [if_neg (by omega), up_f c]
      · unfold cpb
        have h1 := hS.2.1.1 28 j
        have h2 := hS.2.2.2.2.2
        have h3 := hS.1.1.2
        have hbd := bd_le (c := i) (by omega)
        split
        · exact h1
        · exact up_O hS.2.1.1 (by omega) f j
  | n + 1, i, D, hS, hn => by
    rw [srch]
    split
    · exact Nr.refl hS.2.1.1
    · have hn3 := hS.1.1.1
      have k1 : Nr D (swl (srch n (i + 1)) i (D 0 0) 0 D) := swl_nr (N := D 1 0) (by omega) (fun D1 hS1 hi1 => srch_nr n (i + 1) D1 hS1 (by omega)) (D 0 0) 0 D (by omega) hS rfl
      refine k1.trans (srch_nr n (i + 1) _ (hS.nr k1).next ?_)
      rw [k1.1 1 0 (by decide) (by decide)]
      omega
