/-! PATTERNS: what the class keeps of a number -/
def nd (n : Nat) : Nat := if n < 10 then 1 else if n < 100 then 2 else if n < 1000 then 3 else 4
/-- the pattern p of wagon w in the class: so many places, their sizes, how many of each size -/
def PV (D : rg_D) (w p k : Nat) (a s : Nat → Nat) : Prop := D 17 (4 * w + p) = k ∧ (∀ i, i < 4 → D 18 (16 * w + 4 * p + i) = a i) ∧ ∀ c, c < 4 → D 19 (16 * w + 4 * p + c) = s c
theorem PV.congr {D D' : rg_D} {w p k : Nat} {a s a' s' : Nat → Nat} (h : PV D w p k a s) (e : ∀ f j, 17 ≤ f → f ≤ 19 → D' f j = D f j) (ha : ∀ i, i < 4 → a' i = a i) (hs : ∀ i, i < 4 → s' i = s i) : PV D' w p k a' s' :=
  ⟨by rw [e 17 _ (by decide) (by decide)]; exact h.1, fun i hi => by rw [e 18 _ (by decide) (by decide), ha i hi]; exact h.2.1 i hi, fun i hi => by rw [e 19 _ (by decide) (by decide), hs i hi]; exact h.2.2 i hi⟩
theorem apS_V {D : rg_D} {w p c k : Nat} {a s : Nat → Nat} (hk : k < 4) (hc : 1 ≤ c ∧ c ≤ 3) (h : PV D w p k a s) : PV (apS D w p c) w p (k + 1) (fun i => if i = k then c else a i) (fun x => if x = c then s x + 1 else s x) := by
  obtain ⟨h1, h2, h3⟩ := h
  unfold apS
  rw [h1, if_pos ⟨hc, hk⟩]
  refine ⟨up_s, fun i hi => ?_, fun x hx => ?_⟩
  · rw [up_f (by decide), up_f (by decide)]
    show _ = if i = k then c else a i
    by_cases e : i = k
    · subst e; rw [up_s, if_pos rfl]
    · rw [up_j (by omega), if_neg e]; exact h2 i hi
  · rw [up_f (by decide)]
    show _ = if x = c then s x + 1 else s x
    by_cases e : x = c
    · subst e; rw [up_s, if_pos rfl, h3 x hx]
    · rw [up_j (by omega), up_f (by decide), if_neg e]; exact h3 x hx
theorem apS_0 {D : rg_D} {w p c : Nat} (hc : ¬ (1 ≤ c ∧ c ≤ 3)) : apS D w p c = D := by
  unfold apS
  rw [if_neg (by omega)]
theorem apS_o {D : rg_D} {w p c f j : Nat} (h1 : f ≠ 17 ∨ j ≠ 4 * w + p) (h2 : (f ≠ 18 ∧ f ≠ 19) ∨ j < 16 * w + 4 * p ∨ 16 * w + 4 * p + 4 ≤ j) : apS D w p c f j = D f j := by
  unfold apS
  split
  · next q =>
    have e1 : up (up (up D 18 (16 * w + 4 * p + D 17 (4 * w + p)) c) 19 (16 * w + 4 * p + c) (D 19 (16 * w + 4 * p + c) + 1)) 17 (4 * w + p) (D 17 (4 * w + p) + 1) f j = up (up D 18 (16 * w + 4 * p + D 17 (4 * w + p)) c) 19 (16 * w + 4 * p + c) (D 19 (16 * w + 4 * p + c) + 1) f j := by
      by_cases e : f = 17
      · exact up_j (by omega)
      · exact up_f e
    have e2 : up (up D 18 (16 * w + 4 * p + D 17 (4 * w + p)) c) 19 (16 * w + 4 * p + c) (D 19 (16 * w + 4 * p + c) + 1) f j = up D 18 (16 * w + 4 * p + D 17 (4 * w + p)) c f j := by
      by_cases e : f = 19
      · exact up_j (by omega)
      · exact up_f e
    rw [e1, e2]
    by_cases e : f = 18
    · exact up_j (by omega)
    · exact up_f e
  · rfl
theorem apN_o {D : rg_D} {w p n f j : Nat} (h1 : f ≠ 17 ∨ j ≠ 4 * w + p) (h2 : (f ≠ 18 ∧ f ≠ 19) ∨ j < 16 * w + 4 * p ∨ 16 * w + 4 * p + 4 ≤ j) : apN D w p n f j = D f j := by
  unfold apN
  rw [apS_o h1 h2, apS_o h1 h2, apS_o h1 h2, apS_o h1 h2]
theorem row_4 {n : Nat} (h : rowF 4 n) (h0 : 0 < n) : (1 ≤ n % 10 ∧ n % 10 ≤ 3) ∧ (n < 10 ∨ ((1 ≤ n / 10 % 10 ∧ n / 10 % 10 ≤ 3) ∧ (n < 100 ∨ ((1 ≤ n / 100 % 10 ∧ n / 100 % 10 ≤ 3) ∧ (n < 1000 ∨ ((1 ≤ n / 1000 % 10 ∧ n / 1000 % 10 ≤ 3) ∧ n < 10000)))))) := by
  unfold rowF rowF rowF rowF rowF at h
  omega
theorem row_le {n : Nat} (h : rowF 4 n) (h0 : 0 < n) : n ≤ 3333 := by
  have := row_4 h h0
  omega
/-- the digit number i from the left -/
def di (n i : Nat) : Nat := if i < nd n then n / 10 ^ (nd n - 1 - i) % 10 else 0
def cds (n c : Nat) : Nat := if c = 0 then 0 else cd 4 n c
/-! a place in a pattern -/
def cl (n s : Nat) : Nat → Nat
  | 0 => 0
  | k + 1 => (if n / 10 ^ k % 10 = s then 1 else 0) + cl n s k
theorem cd_z {s : Nat} : ∀ {k v : Nat}, v = 0 → cd k v s = 0
  | 0, _, _ => rfl
  | k + 1, _, h => by rw [cd, if_pos h]
theorem cd_s {k v s : Nat} (h : v ≠ 0) : cd (k + 1) v s = (if v % 10 = s then 1 else 0) + cd k (v / 10) s := by rw [cd, if_neg h]
theorem cd_cl {n s : Nat} (hr : rowF 4 n) (h0 : 0 < n) : cd 4 n s = cl n s (nd n) := by
  have hd := row_4 hr h0
  have p0 : (10 : Nat) ^ 0 = 1 := rfl
  have p1 : (10 : Nat) ^ 1 = 10 := rfl
  have p2 : (10 : Nat) ^ 2 = 100 := rfl
  have p3 : (10 : Nat) ^ 3 = 1000 := rfl
  have q1 : n / 10 / 10 = n / 100 := Nat.div_div_eq_div_mul _ _ _
  have q2 : n / 100 / 10 = n / 1000 := Nat.div_div_eq_div_mul _ _ _
  have s4 : cd 4 n s = (if n % 10 = s then 1 else 0) + cd 3 (n / 10) s := cd_s (by omega)
  rw [s4]
  by_cases c1 : n < 10
  · have e : nd n = 1 := by unfold nd; rw [if_pos c1]
    rw [e, cd_z (by omega)]
    simp only [cl, p0, Nat.div_one]
  · have s3 : cd 3 (n / 10) s = (if n / 10 % 10 = s then 1 else 0) + cd 2 (n / 100) s := by rw [← q1]; exact cd_s (by omega)
    rw [s3]
    by_cases c2 : n < 100
    · have e : nd n = 2 := by unfold nd; rw [if_neg c1, if_pos c2]
      rw [e, cd_z (by omega)]
      simp only [cl, p0, p1, Nat.div_one]
      omega
    · have s2 : cd 2 (n / 100) s = (if n / 100 % 10 = s then 1 else 0) + cd 1 (n / 1000) s := by rw [← q2]; exact cd_s (by omega)
      rw [s2]
      by_cases c3 : n < 1000
      · have e : nd n = 3 := by unfold nd; rw [if_neg c1, if_neg c2, if_pos c3]
        rw [e, cd_z (by omega)]
        simp only [cl, p0, p1, p2, Nat.div_one]
        omega
      · have e : nd n = 4 := by unfold nd; rw [if_neg c1, if_neg c2, if_neg c3]
        have s1 : cd 1 (n / 1000) s = (if n / 1000 % 10 = s then 1 else 0) + cd 0 (n / 1000 / 10) s := cd_s (by omega)
        rw [s1, e]
        simp only [cl, p0, p1, p2, p3, Nat.div_one, cd]
        omega
theorem apN_V {D : rg_D} {w p n : Nat} (h : PV D w p 0 (fun _ => 0) (fun _ => 0)) (hr : rowF 4 n) (h0 : 0 < n) : PV (apN D w p n) w p (nd n) (di n) (cds n) := by
  have hd := row_4 hr h0
  have p0 : (10 : Nat) ^ 0 = 1 := rfl
  have p1 : (10 : Nat) ^ 1 = 10 := rfl
  have p2 : (10 : Nat) ^ 2 = 100 := rfl
  have p3 : (10 : Nat) ^ 3 = 1000 := rfl
  have hn1 : n / 1 % 10 = n % 10 := by rw [Nat.div_one]
  unfold apN
  rw [hn1]
  by_cases c1 : n < 10
  · have e : nd n = 1 := by unfold nd; rw [if_pos c1]
    rw [apS_0 (c := n / 1000 % 10) (by omega), apS_0 (c := n / 100 % 10) (by omega), apS_0 (c := n / 10 % 10) (by omega), e]
    refine (apS_V (by decide) hd.1 h).congr (fun _ _ _ _ => rfl) (fun i hi => ?_) (fun c hc => ?_)
    · unfold di
      rw [e]
      by_cases z : i = 0
      · subst z; rw [if_pos (by decide), if_pos rfl, p0, Nat.div_one]
      · rw [if_neg (by omega), if_neg z]
    · unfold cds
      rw [cd_cl hr h0, e]
      simp only [cl, p0, p1, p2, p3, Nat.div_one]
      (repeat' split) <;> omega
  · have d1 : (1 ≤ n / 10 % 10 ∧ n / 10 % 10 ≤ 3) := by omega
    by_cases c2 : n < 100
    · have e : nd n = 2 := by unfold nd; rw [if_neg c1, if_pos c2]
      rw [apS_0 (c := n / 1000 % 10) (by omega), apS_0 (c := n / 100 % 10) (by omega), e]
      refine (apS_V (by decide) hd.1 (apS_V (by decide) d1 h)).congr (fun _ _ _ _ => rfl) (fun i hi => ?_) (fun c hc => ?_)
      · unfold di
        rw [e]
        have : i = 0 ∨ i = 1 ∨ (i ≠ 0 ∧ i ≠ 1 ∧ ¬ i < 2) := by omega
        rcases this with rfl | rfl | ⟨z1, z2, z3⟩
        · simp
        · simp
        · simp [z1, z2, z3]
      · unfold cds
        rw [cd_cl hr h0, e]
        simp only [cl, p0, p1, p2, p3, Nat.div_one]
        (repeat' split) <;> omega
    · have d2 : (1 ≤ n / 100 % 10 ∧ n / 100 % 10 ≤ 3) := by omega
      by_cases c3 : n < 1000
      · have e : nd n = 3 := by unfold nd; rw [if_neg c1, if_neg c2, if_pos c3]
        rw [apS_0 (c := n / 1000 % 10) (by omega), e]
        refine (apS_V (by decide) hd.1 (apS_V (by decide) d1 (apS_V (by decide) d2 h))).congr (fun _ _ _ _ => rfl) (fun i hi => ?_) (fun c hc => ?_)
        · unfold di
          rw [e]
          have : i = 0 ∨ i = 1 ∨ i = 2 ∨ i = 3 := by omega
          rcases this with rfl | rfl | rfl | rfl <;> simp
        · unfold cds
          rw [cd_cl hr h0, e]
          simp only [cl, p0, p1, p2, p3, Nat.div_one]
          (repeat' split) <;> omega
      · have d3 : (1 ≤ n / 1000 % 10 ∧ n / 1000 % 10 ≤ 3) := by omega
        have e : nd n = 4 := by unfold nd; rw [if_neg c1, if_neg c2, if_neg c3]
        rw [e]
        refine (apS_V (by decide) hd.1 (apS_V (by decide) d1 (apS_V (by decide) d2 (apS_V (by decide) d3 h)))).congr (fun _ _ _ _ => rfl) (fun i hi => ?_) (fun c hc => ?_)
        · unfold di
          rw [e]
          have : i = 0 ∨ i = 1 ∨ i = 2 ∨ i = 3 := by omega
          rcases this with rfl | rfl | rfl | rfl <;> simp
        · unfold cds
          rw [cd_cl hr h0, e]
          simp only [cl, p0, p1, p2, p3, Nat.div_one]
          (repeat' split) <;> omega
theorem tn_nd {n : Nat} : tn n = 10 ^ (nd n - 1) := by
  unfold tn nd
  split
  · rfl
  · split
    · rfl
    · split <;> rfl
theorem nd_le (n : Nat) : 1 ≤ nd n ∧ nd n ≤ 4 := by unfold nd; split; omega; split; omega; split <;> omega
theorem place_k {D : rg_D} {w p n s bf m : Nat} : ∀ (k k' pl sn a : Nat), pl + k = m → k ≤ k' → (∀ i, pl ≤ i → i < m → D 18 (16 * w + 4 * p + i) = n / 10 ^ (m - 1 - i) % 10) → sn + a = bf → a < cl n s k → pbf D w p s bf k pl sn = plc n s k' (10 ^ (k - 1)) a pl + 1 ∧ fnd n s k' (10 ^ (k - 1)) a
  | 0, k', pl, sn, a, hm, hk, hD, hb, hc => by simp [cl] at hc
  | k + 1, 0, pl, sn, a, hm, hk, hD, hb, hc => by omega
  | k + 1, k' + 1, pl, sn, a, hm, hk, hD, hb, hc => by
    rw [cl] at hc
    rw [pbf, plc, fnd, hD pl (by omega) (by omega), show m - 1 - pl = k by omega, Nat.add_sub_cancel]
    have hT : 0 < 10 ^ k := Nat.pow_pos (by decide)
    have hT2 : 1 ≤ k → 10 ^ k / 10 = 10 ^ (k - 1) := fun q => by
      rw [show k = (k - 1) + 1 by omega, Nat.pow_succ, Nat.add_sub_cancel, Nat.mul_div_cancel _ (by decide)]
    have hD2 : ∀ i, pl + 1 ≤ i → i < m → D 18 (16 * w + 4 * p + i) = n / 10 ^ (m - 1 - i) % 10 := fun i a c => hD i (by omega) c
    by_cases z : n / 10 ^ k % 10 = s
    · rw [if_pos z] at hc ⊢
      by_cases y : a = 0
      · subst y
        rw [if_pos (by omega), if_pos ⟨rfl, z⟩]
        exact ⟨rfl, hT, Or.inl ⟨rfl, z⟩⟩
      · rw [if_neg (by omega), if_neg (by omega), if_pos z]
        have hk1 : 1 ≤ k := by
          by_cases x : k = 0
          · subst x; simp [cl] at hc; omega
          · omega
        have ih := place_k (s := s) (bf := bf) k k' (pl + 1) (sn + 1) (a - 1) (by omega) (by omega) hD2 (by omega) (by omega)
        rw [hT2 hk1]
        exact ⟨ih.1, hT, Or.inr ih.2⟩
    · rw [if_neg z] at hc ⊢
      rw [if_neg (by omega), if_neg z]
      have hk1 : 1 ≤ k := by
        by_cases x : k = 0
        · subst x; simp [cl] at hc
        · omega
      have ih := place_k (s := s) (bf := bf) k k' (pl + 1) sn a (by omega) (by omega) hD2 hb (by omega)
      rw [hT2 hk1, Nat.sub_zero]
      exact ⟨ih.1, hT, Or.inr ih.2⟩
theorem place_ok {D : rg_D} {w p n s a : Nat} (hr : rowF 4 n) (h0 : 0 < n) (hV : PV D w p (nd n) (di n) (cds n)) (ha : a < cd 4 n s) : pbf D w p s a (D 17 (4 * w + p)) 0 0 = plc n s 4 (tn n) a 0 + 1 ∧ fnd n s 4 (tn n) a := by
  rw [hV.1, tn_nd]
  rw [cd_cl hr h0] at ha
  have hn := nd_le n
  refine place_k (m := nd n) (nd n) 4 0 0 a (by omega) (by omega) (fun i _ hi => ?_) (by omega) ha
  rw [hV.2.1 i (by omega)]
  unfold di
  rw [if_pos hi]
