/-! SUMS turned round; DIGITS from the top; RANKS -/
theorem sm_zero {f : Nat → Nat} : ∀ {n : Nat}, (∀ j, j < n → f j = 0) → sm f n = 0
  | 0, _ => rfl
  | n + 1, h => by rw [sm, sm_zero (fun j hj => h j (by omega)), h n (by omega)]
theorem sm_add {f g : Nat → Nat} : ∀ n, sm (fun j => f j + g j) n = sm f n + sm g n
  | 0 => rfl
  | n + 1 => by rw [sm, sm, sm, sm_add n]; omega
theorem sm_mulc {f : Nat → Nat} {c : Nat} : ∀ n, sm (fun j => f j * c) n = sm f n * c
  | 0 => by simp [sm]
  | n + 1 => by rw [sm, sm, sm_mulc n, Nat.add_mul]
theorem sm_const {c : Nat} : ∀ n, sm (fun _ => c) n = n * c
  | 0 => by simp [sm]
  | n + 1 => by rw [sm, sm_const n, Nat.add_mul, Nat.one_mul]
theorem sm_take {f : Nat → Nat} {k : Nat} : ∀ {n : Nat}, k < n → sm f n = f k + sm (fun j => if j = k then 0 else f j) n
  | 0, h => by omega
  | n + 1, h => by
    rw [sm, sm]
    by_cases e : k = n
    · subst e
      rw [if_pos rfl, sm_congr (f' := fun j => if j = k then 0 else f j) (fun j hj => by rw [if_neg (by omega)])]
      omega
    · rw [if_neg (by omega), sm_take (k := k) (n := n) (by omega)]
      omega
theorem sm_pos {f : Nat → Nat} : ∀ {n : Nat}, 0 < sm f n → ∃ j, j < n ∧ 0 < f j
  | 0, h => by simp [sm] at h
  | n + 1, h => by
    rw [sm] at h
    by_cases e : 0 < f n
    · exact ⟨n, by omega, e⟩
    · obtain ⟨j, h1, h2⟩ := sm_pos (f := f) (n := n) (by omega)
      exact ⟨j, by omega, h2⟩
theorem sm_ge {f : Nat → Nat} {k n : Nat} (h : k < n) : f k ≤ sm f n := by rw [sm_take h]; omega
theorem sm_inj {g : Nat → Nat} : ∀ {N M : Nat} {f : Nat → Nat}, (∀ j, j < N → g j < M) → (∀ i j, i < N → j < N → g i = g j → i = j) → sm (fun j => f (g j)) N ≤ sm f M
  | 0, M, f, _, _ => by simp [sm]
  | N + 1, M, f, h1, h2 => by
    have e := sm_take (f := f) (h1 N (by omega))
    have ih := sm_inj (g := g) (N := N) (M := M) (f := fun q => if q = g N then 0 else f q) (fun j hj => h1 j (by omega)) (fun i j a c => h2 i j (by omega) (by omega))
    rw [sm_congr (f' := fun j => f (g j)) (fun j hj => by
      show (if g j = g N then 0 else f (g j)) = f (g j)
      rw [if_neg (fun q => by have := h2 j N (by omega) (by omega) q; omega)])] at ih
    rw [sm, e]
    omega
/-- rank and box turned round -/
theorem sm_perm {r B : Nat → Nat} {N : Nat} (hr : ∀ j, j < N → r j < N) (hB : ∀ q, q < N → B q < N ∧ r (B q) = q ∧ ∀ j, j < N → r j = q → j = B q) (F : Nat → Nat) : sm (fun j => F (r j)) N = sm F N := by
  have h1 : sm (fun j => F (r j)) N ≤ sm F N := sm_inj hr (fun i j a c e => by
    rw [(hB (r i) (hr i a)).2.2 i a rfl, (hB (r i) (hr i a)).2.2 j c e.symm])
  have h2 : sm (fun q => (fun j => F (r j)) (B q)) N ≤ sm (fun j => F (r j)) N := sm_inj (g := B) (f := fun j => F (r j)) (fun q h => (hB q h).1) (fun i j a c e => by
    have := (hB i a).2.1
    rw [e, (hB j c).2.1] at this
    exact this.symm)
  rw [sm_congr (f' := F) (fun q h => by show F (r (B q)) = F q; rw [(hB q h).2.1])] at h2
  omega
/-- a number of digits, the first the highest -/
def hn (c : Nat) (u : Nat → Nat) : Nat → Nat
  | 0 => 0
  | n + 1 => c * hn c u n + u n
theorem hn_congr {c : Nat} {u v : Nat → Nat} : ∀ {n : Nat}, (∀ j, j < n → u j = v j) → hn c u n = hn c v n
  | 0, _ => rfl
  | n + 1, h => by rw [hn, hn, hn_congr (fun j hj => h j (by omega)), h n (by omega)]
theorem hn_lt {c : Nat} {u : Nat → Nat} : ∀ {n : Nat}, (∀ j, j < n → u j < c) → hn c u n < c ^ n
  | 0, _ => by simp [hn]
  | n + 1, h => by
    have ih := hn_lt (c := c) (u := u) (n := n) (fun j hj => h j (by omega))
    have h1 := h n (by omega)
    have h2 : c * (hn c u n + 1) ≤ c * c ^ n := Nat.mul_le_mul_left c ih
    rw [Nat.mul_add, Nat.mul_one] at h2
    rw [hn, Nat.pow_succ, Nat.mul_comm (c ^ n) c]
    omega
theorem hn_lex {c : Nat} {u v : Nat → Nat} {r : Nat} : ∀ {n : Nat}, r < n → (∀ j, j < r → u j = v j) → v r < u r → (∀ j, j < n → v j < c) → hn c v n < hn c u n
  | 0, h, _, _, _ => by omega
  | n + 1, h, he, hg, hv => by
    rw [hn, hn]
    by_cases e : r = n
    · subst e
      rw [hn_congr (u := u) (v := v) he]
      omega
    · have ih := hn_lex (c := c) (u := u) (v := v) (r := r) (n := n) (by omega) he hg (fun j hj => hv j (by omega))
      have h1 := hv n (by omega)
      have h2 : c * (hn c v n + 1) ≤ c * hn c u n := Nat.mul_le_mul_left c ih
      rw [Nat.mul_add, Nat.mul_one] at h2
      omega
/-- two rows of digits are the same, or there is a first place where they aren't -/
theorem fst_ne (u v : Nat → Nat) : ∀ n : Nat, (∀ j, j < n → u j = v j) ∨ ∃ r, r < n ∧ (∀ j, j < r → u j = v j) ∧ u r ≠ v r
  | 0 => Or.inl (fun j h => by omega)
  | n + 1 => by
    rcases fst_ne u v n with h | ⟨r, h1, h2, h3⟩
    · by_cases e : u n = v n
      · refine Or.inl (fun j hj => ?_)
        by_cases ej : j = n
        · rw [ej]; exact e
        · exact h j (by omega)
      · exact Or.inr ⟨n, by omega, h, e⟩
    · exact Or.inr ⟨r, by omega, h2, h3⟩
theorem hn_inj {c : Nat} {u v : Nat → Nat} {n : Nat} (hu : ∀ j, j < n → u j < c) (hv : ∀ j, j < n → v j < c) (h : hn c u n = hn c v n) : ∀ j, j < n → u j = v j := by
  rcases fst_ne u v n with k | ⟨r, h1, h2, h3⟩
  · exact k
  · exfalso
    by_cases e : v r < u r
    · have := hn_lex h1 h2 e hv
      omega
    · have := hn_lex (u := v) (v := u) h1 (fun j hj => (h2 j hj).symm) (by omega) hu
      omega
theorem sm_hn {x : Nat → Nat} : ∀ {n : Nat}, n ≤ 8 → sm (fun r => x r * 2 ^ (7 - r)) n = hn 2 x n * 2 ^ (8 - n)
  | 0, _ => by simp [sm, hn]
  | n + 1, h => by
    rw [sm, hn, sm_hn (n := n) (by omega), show 8 - n = (7 - n) + 1 by omega, show 8 - (n + 1) = 7 - n by omega, Nat.pow_succ, Nat.add_mul]
    have : hn 2 x n * (2 ^ (7 - n) * 2) = 2 * hn 2 x n * 2 ^ (7 - n) := by
      rw [Nat.mul_comm (2 ^ (7 - n)) 2, ← Nat.mul_assoc, Nat.mul_comm (hn 2 x n) 2]
    omega
/-! RANKS -/
theorem rk_mono {D : rg_D} {o i : Nat} (ho : o < D 1 0) (h : D 14 o < D 14 i ∨ (D 14 o = D 14 i ∧ o < i)) : rk D o < rk D i := by
  unfold rk
  have e1 := sm_take (f := rkf D o) ho
  have e2 := sm_take (f := rkf D i) ho
  have h0 : rkf D o o = 0 := by unfold rkf; rw [if_neg (by omega)]
  have h1 : rkf D i o = 1 := by unfold rkf; rw [if_pos h]
  have h2 : sm (fun j => if j = o then 0 else rkf D o j) (D 1 0) ≤ sm (fun j => if j = o then 0 else rkf D i j) (D 1 0) := by
    refine sm_mono (fun j hj => ?_)
    by_cases e : j = o
    · rw [if_pos e, if_pos e]; exact Nat.le_refl _
    · rw [if_neg e, if_neg e]
      unfold rkf
      by_cases q : D 14 j < D 14 o ∨ (D 14 j = D 14 o ∧ j < o)
      · rw [if_pos q, if_pos (by omega)]; exact Nat.le_refl _
      · rw [if_neg q]; exact Nat.zero_le _
  omega
theorem rk_inj {D : rg_D} {i j : Nat} (hi : i < D 1 0) (hj : j < D 1 0) (h : rk D i = rk D j) : i = j := by
  by_cases e : i = j
  · exact e
  · exfalso
    by_cases q : D 14 i < D 14 j ∨ (D 14 i = D 14 j ∧ i < j)
    · have := rk_mono hi q; omega
    · have := rk_mono (o := j) (i := i) hj (by omega); omega
theorem rk_sur {D : rg_D} {r : Nat} (hr : r < D 1 0) : ∃ j, j < D 1 0 ∧ rk D j = r := by
  apply Classical.byContradiction
  intro hn
  have h1 := sm_inj (g := rk D) (N := D 1 0) (M := D 1 0) (f := fun q => if q = r then 0 else 1) (fun j hj => rk_lt hj) (fun i j a c e => rk_inj a c e)
  rw [sm_congr (f' := fun _ => 1) (fun j hj => by
    show (if rk D j = r then 0 else 1) = 1
    rw [if_neg (fun e => hn ⟨j, hj, e⟩)]), sm_const] at h1
  have h2 := sm_take (f := fun _ => 1) hr
  rw [sm_const] at h2
  have h3 : sm (fun q => if q = r then 0 else 1) (D 1 0) = sm (fun j => if j = r then 0 else (fun _ => 1) j) (D 1 0) := rfl
  omega
noncomputable def bo (D : rg_D) (r : Nat) : Nat := @dite Nat (∃ j, j < D 1 0 ∧ rk D j = r) (Classical.propDecidable _) (fun h => h.choose) (fun _ => 0)
theorem bo_HB (D : rg_D) : HB D (bo D) := by
  intro r hr
  have h := rk_sur hr
  have e : bo D r = h.choose := by unfold bo; rw [dif_pos h]
  rw [e]
  refine ⟨h.choose_spec.1, h.choose_spec.2, fun q hq k => rk_inj hq h.choose_spec.1 (k.trans h.choose_spec.2.symm)⟩
