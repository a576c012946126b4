/-! NUMBERS in the walks -/
theorem tn_n {x : Int32} {e : Nat} (h : x = nI e) (hb : e < 2 ^ 31) : x.toInt = (e : Int) := by rw [h, nI_toInt hb]
theorem tl_n {x : Int64} {e : Nat} (h : x = lN e) (hb : e < 2 ^ 31) : x.toInt = (e : Int) := by rw [h, lN_toInt hb]
theorem ts_n {x : Int32} {e : Nat} (h : x = nI e - 1) (hb : e < 2 ^ 31) : x.toInt = (e : Int) - 1 := by rw [h, sI_toInt hb]
theorem ad_n {x y : Int32} {a c : Nat} (h1 : x = nI a) (h2 : y = nI c) : x + y = nI (a + c) := by rw [h1, h2, nI_add]
theorem ad_l {x y : Int64} {a c : Nat} (h1 : x = lN a) (h2 : y = lN c) : x + y = lN (a + c) := by rw [h1, h2, lN_add]
theorem mu_n {x y : Int32} {a c : Nat} (h1 : x = nI a) (h2 : y = nI c) : x * y = nI (a * c) := by rw [h1, h2, pk_mul]
theorem mu_l {x y : Int64} {a c : Nat} (h1 : x = lN a) (h2 : y = lN c) : x * y = lN (a * c) := by rw [h1, h2, lN_mul]
theorem su_n {x y : Int32} {a c : Nat} (h1 : x = nI a) (h2 : y = nI c) (h : c ≤ a) : x - y = nI (a - c) := by rw [h1, h2, pk_sub h]
theorem su_l {x y : Int64} {a c : Nat} (h1 : x = lN a) (h2 : y = lN c) (h : c ≤ a) : x - y = lN (a - c) := by rw [h1, h2, lN_sub h]
theorem dm_n {x : Int32} {a : Nat} (h1 : x = nI a) (h : 1 ≤ a) : x + (-1) = nI (a - 1) := by rw [h1, sb_m1 (by omega)]
theorem dms_n {x : Int32} {a : Nat} (h1 : x = nI a) : x + (-1) = nI a - 1 := by rw [h1, Int32.sub_eq_add_neg]
theorem sp_n {x : Int32} {e : Nat} (h : x = nI e - 1) : x + 1 = nI e := by rw [h, Int32.sub_add_cancel]
theorem ss_n {x : Int32} {a : Nat} (h : x = nI a) : x - 1 = nI a - 1 := by rw [h]
theorem sh_n {x : Int32} {e : Nat} (h : x = nI e) : x = nI (e + 1) - 1 := by rw [h, nI_pred]
theorem sbl_n {x y : Int64} {a c : Nat} (h1 : x = lN a) (h2 : y = lN c) (ha : a < 2 ^ 31) (hc : c < 2 ^ 31) : (x - y).toInt = (a : Int) - (c : Int) := by
  rw [h1, h2, Int64.toInt_sub, lN_toInt ha, lN_toInt hc]
  apply Int.bmod_eq_of_le <;> omega
theorem m1_n {x y : Int32} {c : Nat} (h1 : x = 1) (h2 : y = nI c) : x * y = nI c := by rw [h1, h2, Int32.one_mul]
theorem m1_l {x y : Int64} {c : Nat} (h1 : x = 1) (h2 : y = lN c) : x * y = lN c := by rw [h1, h2, Int64.one_mul]
theorem ng_n {x y : Int32} {c : Nat} (h1 : x = -1) (h2 : y = nI c) : x * y = - nI c := by rw [h1, h2, Int32.neg_mul, Int32.one_mul]
theorem ng_l {x y : Int64} {c : Nat} (h1 : x = -1) (h2 : y = lN c) : x * y = - lN c := by rw [h1, h2, Int64.neg_mul, Int64.one_mul]
theorem am_n {x y : Int32} {a c : Nat} (h1 : x = nI a) (h2 : y = - nI c) (h : c ≤ a) : x + y = nI (a - c) := by rw [h1, h2, ← Int32.sub_eq_add_neg, pk_sub h]
theorem am_l {x y : Int64} {a c : Nat} (h1 : x = lN a) (h2 : y = - lN c) (h : c ≤ a) : x + y = lN (a - c) := by rw [h1, h2, ← Int64.sub_eq_add_neg, lN_sub h]
theorem dv_n {x y : Int32} {a c : Nat} (h1 : x = nI a) (h2 : y = nI c) (ha : a < 2 ^ 31) (h0 : 0 < c) (hc : c < 2 ^ 31) : x / y = nI (a / c) := by rw [h1, h2, pk_div ha h0 hc]
theorem rm_n {x y : Int32} {a c : Nat} (h1 : x = nI a) (h2 : y = nI c) (ha : a < 2 ^ 31) (h0 : 0 < c) (hc : c < 2 ^ 31) : x - x / y * y = nI (a % c) := by rw [h1, h2, pk_rem ha h0 hc]
theorem nz_n {y : Int32} {c : Nat} (h : y = nI c) (h0 : 0 < c) (hc : c < 2 ^ 31) : ¬ y = 0 := by rw [h]; exact nI_ne0 h0 hc
theorem nz_l {y : Int64} {c : Nat} (h : y = lN c) (h0 : 0 < c) (hc : c < 2 ^ 31) : ¬ y = 0 := by
  rw [h]
  intro z
  have := congrArg Int64.toInt z
  rw [lN_toInt hc] at this
  simp at this
  omega
theorem lN_div {a c : Nat} (ha : a < 2 ^ 31) (h0 : 0 < c) (hc : c < 2 ^ 31) : lN a / lN c = lN (a / c) := by
  have hq : a / c < 2 ^ 31 := Nat.lt_of_le_of_lt (Nat.div_le_self _ _) ha
  apply Int64.toInt_inj.mp
  rw [Int64.toInt_div_of_ne_left _ _ (by
    intro z
    have := congrArg Int64.toInt z
    rw [lN_toInt ha, Int64.toInt_minValue] at this
    omega), lN_toInt ha, lN_toInt hc, lN_toInt hq]
  rw [Int.tdiv_eq_ediv_of_nonneg (by omega)]
  omega
theorem dv_l {x y : Int64} {a c : Nat} (h1 : x = lN a) (h2 : y = lN c) (ha : a < 2 ^ 31) (h0 : 0 < c) (hc : c < 2 ^ 31) : x / y = lN (a / c) := by rw [h1, h2, lN_div ha h0 hc]
theorem rm_l {x y : Int64} {a c : Nat} (h1 : x = lN a) (h2 : y = lN c) (ha : a < 2 ^ 31) (h0 : 0 < c) (hc : c < 2 ^ 31) : x - x / y * y = lN (a % c) := by
  rw [h1, h2, lN_div ha h0 hc, lN_mul, lN_sub (Nat.div_mul_le_self _ _)]
  congr 1
  have := Nat.div_add_mod a c
  rw [Nat.mul_comm] at this
  omega
theorem il_n {x : Int32} {a : Nat} (h : x = nI a) (ha : a < 2 ^ 31) : x.toInt64 = lN a := by rw [h, nI_l ha]
theorem i2l_toInt (x : Int32) : (Int32.toInt64 x).toInt = x.toInt := Int32.toInt_toInt64 x
theorem mx_n {x y : Int32} {a c : Nat} (h1 : x = nI a) (h2 : y = nI c) (ha : a < 2 ^ 31) (hc : c < 2 ^ 31) : ah_max x y = nI (max a c) := by
  rw [h1, h2]
  unfold ah_max
  by_cases h : a < c
  · rw [if_pos (nI_lt h hc), Nat.max_eq_right (by omega)]
  · rw [if_neg (nI_nlt (by omega) ha), Nat.max_eq_left (by omega)]
theorem ix_n {x : Int32} {e : Nat} (h : x = nI e) (hb : e < 2 ^ 31) : ah_ix x e := by rw [h]; exact ah_ix_nI hb
theorem bz_n (c : Bool) : bz c = nI (if c then 1 else 0) := by cases c <;> rfl
noncomputable def pb (P : Prop) : Bool := @decide P (Classical.propDecidable P)
theorem pb_iff {P : Prop} : pb P = true ↔ P := @decide_eq_true_iff P (Classical.propDecidable P)
theorem pb_t {P : Prop} (h : P) : pb P = true := pb_iff.mpr h
theorem pb_f {P : Prop} (h : ¬ P) : pb P = false := by
  cases hc : pb P with
  | false => rfl
  | true => exact absurd (pb_iff.mp hc) h
theorem pz0 {P : Prop} : bz (pb P) = 0 ↔ ¬ P := by
  rw [bz0]
  constructor
  · intro h q; rw [pb_t q] at h; cases h
  · exact pb_f
theorem pz1 {P : Prop} : ¬ (bz (pb P) = 0) ↔ P := by
  rw [pz0]
  exact Classical.not_not
theorem bz_p {P : Prop} (h : P) : (1 : Int32) = bz (pb P) := by rw [pb_t h]; rfl
theorem bz_np {P : Prop} (h : ¬ P) : (0 : Int32) = bz (pb P) := by rw [pb_f h]; rfl
theorem bz_pp {P Q : Prop} (h : P ↔ Q) : bz (pb P) = bz (pb Q) := by rw [propext h]
theorem pz_if {P : Prop} [Decidable P] : (if pb P = true then 1 else 0 : Nat) = if P then 1 else 0 := by
  by_cases h : P
  · rw [pb_t h, if_pos rfl, if_pos h]
  · rw [pb_f h, if_neg (by decide), if_neg h]
/-! SUMS, COUNTS -/
def sm (f : Nat → Nat) : Nat → Nat
  | 0 => 0
  | n + 1 => sm f n + f n
theorem sm_le {f : Nat → Nat} {B : Nat} (h : ∀ j, f j ≤ B) : ∀ n, sm f n ≤ n * B
  | 0 => by simp [sm]
  | n + 1 => by
    have h1 := sm_le h n
    have h2 := h n
    rw [sm, Nat.add_mul, Nat.one_mul]
    omega
theorem sm_congr {f f' : Nat → Nat} : ∀ {n : Nat}, (∀ j, j < n → f j = f' j) → sm f n = sm f' n
  | 0, _ => rfl
  | n + 1, h => by rw [sm, sm, sm_congr (fun j hj => h j (by omega)), h n (by omega)]
theorem sm_mono {f f' : Nat → Nat} : ∀ {n : Nat}, (∀ j, j < n → f j ≤ f' j) → sm f n ≤ sm f' n
  | 0, _ => Nat.le_refl _
  | n + 1, h => by
    have h1 := sm_mono (fun j hj => h j (by omega)) (n := n)
    have h2 := h n (by omega)
    rw [sm, sm]
    omega
theorem sm_grow {f : Nat → Nat} {n : Nat} : ∀ {m : Nat}, n ≤ m → sm f n ≤ sm f m
  | 0, h => by rw [show n = 0 by omega]; exact Nat.le_refl _
  | m + 1, h => by
    by_cases e : n = m + 1
    · rw [e]; exact Nat.le_refl _
    · have := sm_grow (f := f) (n := n) (m := m) (by omega)
      rw [sm]
      omega
/-- the first place from i on, of k, one more; 0 where there is none -/
def ff (p : Nat → Bool) : Nat → Nat → Nat
  | 0, _ => 0
  | k + 1, i => if p i then i + 1 else ff p k (i + 1)
theorem ff_le {p : Nat → Bool} : ∀ {k i : Nat}, ff p k i ≤ i + k
  | 0, i => by simp [ff]
  | k + 1, i => by
    have := ff_le (p := p) (k := k) (i := i + 1)
    rw [ff]
    split <;> omega
theorem ff_lo {p : Nat → Bool} : ∀ {k i : Nat}, ff p k i = 0 ∨ i < ff p k i
  | 0, i => by simp [ff]
  | k + 1, i => by
    have := ff_lo (p := p) (k := k) (i := i + 1)
    rw [ff]
    split <;> omega
theorem ff_some {p : Nat → Bool} : ∀ {k i : Nat}, ff p k i ≠ 0 → p (ff p k i - 1) = true
  | 0, i, h => by simp [ff] at h
  | k + 1, i, h => by
    rw [ff] at h ⊢
    split
    · next hp => simpa using hp
    · next hp => rw [if_neg hp] at h; exact ff_some h
theorem ff_none {p : Nat → Bool} : ∀ {k i : Nat}, ff p k i = 0 ↔ ∀ j, i ≤ j → j < i + k → p j = false
  | 0, i => by simp [ff]; intro j h1 h2; omega
  | k + 1, i => by
    rw [ff]
    split
    · next hp =>
      constructor
      · intro h; omega
      · intro h
        have := h i (by omega) (by omega)
        rw [hp] at this
        cases this
    · next hp =>
      rw [ff_none (k := k) (i := i + 1)]
      constructor
      · intro h j h1 h2
        by_cases e : j = i
        · subst e; simpa using hp
        · exact h j (by omega) (by omega)
      · intro h j h1 h2
        exact h j (by omega) (by omega)
theorem ff_congr {p q : Nat → Bool} : ∀ {k i : Nat}, (∀ j, i ≤ j → j < i + k → p j = q j) → ff p k i = ff q k i
  | 0, i, _ => rfl
  | k + 1, i, h => by
    rw [ff, ff, h i (by omega) (by omega), ff_congr (k := k) (i := i + 1) (fun j h1 h2 => h j (by omega) (by omega))]
