/-! REGIONS: a block of cells whose contents are told by a table of places (L) and a pure state (D: field, index, number). Kinds of a place: 0 a reference b + a; 1 an int; 2 a long; 3 an int that is one less -/
abbrev rg_D : Type := Nat → Nat → Nat
abbrev rg_c : Type := Nat × Nat × Nat
abbrev rg_L : Type := List (Nat × List rg_c)
def rv (b : Nat) (D : rg_D) (c : rg_c) : Value := match c.1 with
  | 0 => .ref (b + c.2.1)
  | 1 => .int (nI (D c.2.1 c.2.2))
  | 2 => .long (lN (D c.2.1 c.2.2))
  | _ => .int (nI (D c.2.1 c.2.2) - 1)
def rgv (L : List ah_C) (g : ah_H) (b : Nat) : ah_H := (g.1, g.2.1, fun q => if b ≤ q ∧ q < b + L.length then L[q - b]? else g.2.2 q)
def rgm (L : rg_L) (b : Nat) (D : rg_D) : List ah_C := L.map fun c => (c.1, c.2.map (rv b D))
def rg (L : rg_L) (g : ah_H) (b : Nat) (D : rg_D) : ah_H := rgv (rgm L b D) g b
def lk (L : rg_L) (k i : Nat) : Option (Nat × rg_c) := (L[k]?).bind fun c => (c.2[i]?).map fun x => (c.1, x)
def up (D : rg_D) (f j x : Nat) : rg_D := fun f' j' => if f' = f ∧ j' = j then x else D f' j'
theorem up_s {D : rg_D} {f j x : Nat} : up D f j x f j = x := by simp [up]
theorem up_f {D : rg_D} {f j x f' j' : Nat} (h : f' ≠ f) : up D f j x f' j' = D f' j' := by simp [up, h]
theorem up_j {D : rg_D} {f j x f' j' : Nat} (h : j' ≠ j) : up D f j x f' j' = D f' j' := by simp [up, h]
theorem lk_some {L : rg_L} {k i t : Nat} {c : rg_c} (h : lk L k i = some (t, c)) : ∃ cs, L[k]? = some (t, cs) ∧ cs[i]? = some c := by
  unfold lk at h
  cases hL : L[k]? with
  | none => rw [hL] at h; cases h
  | some y =>
    rw [hL] at h
    simp only [Option.bind_some, Option.map_eq_some_iff, Prod.mk.injEq] at h
    obtain ⟨x, h1, h2, h3⟩ := h
    exact ⟨y.2, by rw [← h2], by rw [h1, h3]⟩
theorem rgv_in {L : List ah_C} {g : ah_H} {b k : Nat} {c : ah_C} (h : L[k]? = some c) : (rgv L g b).2.2 (b + k) = some c := by
  have hk : k < L.length := (List.getElem?_eq_some_iff.mp h).1
  simp only [rgv]
  rw [if_pos ⟨by omega, by omega⟩, Nat.add_sub_cancel_left, h]
theorem rgm_at {L : rg_L} {b k : Nat} {D : rg_D} {t : Nat} {cs : List rg_c} (h : L[k]? = some (t, cs)) : (rgm L b D)[k]? = some (t, cs.map (rv b D)) := by
  simp [rgm, h]
theorem rgm_len {L : rg_L} {b : Nat} {D : rg_D} : (rgm L b D).length = L.length := by simp [rgm]
theorem rg_in {L : rg_L} {g : ah_H} {b k : Nat} {D : rg_D} {t : Nat} {cs : List rg_c} (h : L[k]? = some (t, cs)) : (rg L g b D).2.2 (b + k) = some (t, cs.map (rv b D)) := rgv_in (rgm_at h)
theorem rg_sel {L : rg_L} {g : ah_H} {b k i t : Nat} {D : rg_D} {c : rg_c} (h : lk L k i = some (t, c)) : ah_sel (rg L g b D) (b + k) t i = some (rv b D c) := by
  obtain ⟨cs, h1, h2⟩ := lk_some h
  unfold ah_sel
  rw [rg_in h1]
  simp [h2]
theorem rdI {L : rg_L} {g : ah_H} {b k i t f j e : Nat} {D : rg_D} (h : lk L k i = some (t, (1, f, j))) (he : D f j = e) : ah_sel (rg L g b D) (b + k) t i = some (.int (nI e)) := by
  rw [rg_sel h, ← he]; rfl
theorem rdL {L : rg_L} {g : ah_H} {b k i t f j e : Nat} {D : rg_D} (h : lk L k i = some (t, (2, f, j))) (he : D f j = e) : ah_sel (rg L g b D) (b + k) t i = some (.long (lN e)) := by
  rw [rg_sel h, ← he]; rfl
theorem rdS {L : rg_L} {g : ah_H} {b k i t f j e : Nat} {D : rg_D} (h : lk L k i = some (t, (3, f, j))) (he : D f j = e) : ah_sel (rg L g b D) (b + k) t i = some (.int (nI e - 1)) := by
  rw [rg_sel h, ← he]; rfl
theorem rdR {L : rg_L} {g : ah_H} {b k i t a z : Nat} {D : rg_D} (h : lk L k i = some (t, (0, a, z))) : ah_sel (rg L g b D) (b + k) t i = some (.ref (b + a)) := by
  rw [rg_sel h]; rfl
theorem rdE {L : rg_L} {g : ah_H} {b k i t : Nat} {D : rg_D} {c : rg_c} (h : lk L k i = some (t, c)) : (ah_sel (rg L g b D) (b + k) t i).isSome = true := by
  rw [rg_sel h]; rfl
theorem rdN {L : rg_L} {g : ah_H} {b k i t : Nat} {D : rg_D} {c : rg_c} (h : lk L k i = some (t, c)) : (ah_len (rg L g b D) (b + k) t).isSome = true := by
  obtain ⟨cs, h1, h2⟩ := lk_some h
  unfold ah_len
  rw [rg_in h1]
  simp
/-- each field's place is one place -/
def rg_u (L : rg_L) (iv : Nat → Nat → Nat × Nat) : Prop := ∀ k, k < L.length → ∀ i, i < 24 → match lk L k i with
  | some (_, c) => c.1 = 0 ∨ iv c.2.1 c.2.2 = (k, i)
  | none => True
theorem rv_eq {b : Nat} {D D' : rg_D} {c : rg_c} (h : c.1 = 0 ∨ D' c.2.1 c.2.2 = D c.2.1 c.2.2) : rv b D' c = rv b D c := by
  obtain ⟨k, f, j⟩ := c
  match k, h with
  | 0, _ => rfl
  | 1, h => simp only [rv]; rw [h.resolve_left (by simp)]
  | 2, h => simp only [rv]; rw [h.resolve_left (by simp)]
  | k + 3, h => simp only [rv]; rw [h.resolve_left (by simp)]
theorem rg_sto {L : rg_L} {iv : Nat → Nat → Nat × Nat} (hu : rg_u L iv) (hw : ∀ c ∈ L, c.2.length ≤ 24) {g : ah_H} {b k i t f j x q : Nat} {D : rg_D} {v : Value} (h : lk L k i = some (t, (q + 1, f, j))) (hv : rv b (up D f j x) (q + 1, f, j) = v) : ah_sto (rg L g b D) (b + k) i v = rg L g b (up D f j x) := by
  obtain ⟨cs, h1, h2⟩ := lk_some h
  have hk : k < L.length := (List.getElem?_eq_some_iff.mp h1).1
  have hi : i < cs.length := (List.getElem?_eq_some_iff.mp h2).1
  have hmem : (t, cs) ∈ L := List.mem_of_getElem? h1
  have hii : i < 24 := by have := hw _ hmem; simp only at this; omega
  have hinv : iv f j = (k, i) := by
    have := hu k hk i hii
    rw [h] at this
    simpa using this
  have other : ∀ k' i' c', k' < L.length → (∃ t' cs', L[k']? = some (t', cs') ∧ cs'[i']? = some c') → (k', i') ≠ (k, i) → rv b (up D f j x) c' = rv b D c' := by
    intro k' i' c' hk' ⟨t', cs', e1, e2⟩ hne
    refine rv_eq ?_
    have hi' : i' < cs'.length := (List.getElem?_eq_some_iff.mp e2).1
    have hi2 : i' < 24 := by have := hw _ (List.mem_of_getElem? e1); simp only at this; omega
    have := hu k' hk' i' hi2
    have hlk : lk L k' i' = some (t', c') := by simp [lk, e1, e2]
    rw [hlk] at this
    simp only at this
    rcases this with z | z
    · exact Or.inl z
    · refine Or.inr ?_
      unfold up
      rw [if_neg]
      rintro ⟨z1, z2⟩
      rw [z1, z2, hinv] at z
      exact hne z.symm
  refine Prod.ext rfl (Prod.ext rfl ?_)
  funext a
  show (if a = b + k then ((rg L g b D).2.2 (b + k)).map (fun c => (c.1, c.2.set i v)) else (rg L g b D).2.2 a) = (rg L g b (up D f j x)).2.2 a
  by_cases ha : a = b + k
  · rw [if_pos ha, ha, rg_in h1, rg_in h1]
    simp only [Option.map_some, Option.some.injEq, Prod.mk.injEq, true_and]
    apply List.ext_getElem?
    intro n
    rw [List.getElem?_set]
    by_cases hn : i = n
    · subst hn
      rw [if_pos rfl, if_pos (by simpa using hi), List.getElem?_map, h2, Option.map_some, hv]
    · rw [if_neg hn, List.getElem?_map, List.getElem?_map]
      cases hc : cs[n]? with
      | none => rfl
      | some c' =>
        simp only [Option.map_some, Option.some.injEq]
        exact (other k n c' hk ⟨t, cs, h1, hc⟩ (fun z => hn (Prod.mk.inj z).2.symm)).symm
  · rw [if_neg ha]
    show (if b ≤ a ∧ a < b + (rgm L b D).length then (rgm L b D)[a - b]? else g.2.2 a) = if b ≤ a ∧ a < b + (rgm L b (up D f j x)).length then (rgm L b (up D f j x))[a - b]? else g.2.2 a
    rw [rgm_len, rgm_len]
    by_cases hr : b ≤ a ∧ a < b + L.length
    · rw [if_pos hr, if_pos hr]
      have hk' : a - b < L.length := by omega
      obtain ⟨t', cs'⟩ : ∃ t' cs', L[a - b]? = some (t', cs') := ⟨_, _, List.getElem?_eq_getElem hk'⟩
      obtain ⟨cs', he⟩ := cs'
      rw [rgm_at he, rgm_at he]
      congr 2
      apply List.map_congr_left
      intro c' hc'
      obtain ⟨n, hn⟩ := List.getElem?_of_mem hc'
      exact (other (a - b) n c' hk' ⟨t', cs', he, hn⟩ (fun z => by have := (Prod.mk.inj z).1; omega)).symm
    · rw [if_neg hr, if_neg hr]
/-- outside -/
theorem rg_out {L : rg_L} {g : ah_H} {b a : Nat} {D : rg_D} (h : a < b ∨ b + L.length ≤ a) : (rg L g b D).2.2 a = g.2.2 a := by
  show (if b ≤ a ∧ a < b + (rgm L b D).length then (rgm L b D)[a - b]? else g.2.2 a) = g.2.2 a
  rw [rgm_len, if_neg (by omega)]
theorem rg_swap {L L' : rg_L} {g : ah_H} {b b' : Nat} {D D' : rg_D} (h : b + L.length ≤ b' ∨ b' + L'.length ≤ b) : rg L (rg L' g b' D') b D = rg L' (rg L g b D) b' D' := by
  refine Prod.ext rfl (Prod.ext rfl ?_)
  funext a
  by_cases h1 : b ≤ a ∧ a < b + L.length
  · rw [rg_out (L := L') (by omega)]
    show (if b ≤ a ∧ a < b + (rgm L b D).length then (rgm L b D)[a - b]? else _) = if b ≤ a ∧ a < b + (rgm L b D).length then (rgm L b D)[a - b]? else _
    rw [rgm_len, if_pos h1, if_pos h1]
  · rw [rg_out (L := L) (by omega)]
    show (if b' ≤ a ∧ a < b' + (rgm L' b' D').length then (rgm L' b' D')[a - b']? else _) = if b' ≤ a ∧ a < b' + (rgm L' b' D').length then (rgm L' b' D')[a - b']? else _
    rw [rgm_len]
    by_cases h2 : b' ≤ a ∧ a < b' + L'.length
    · rw [if_pos h2, if_pos h2]
    · rw [if_neg h2, if_neg h2, rg_out (L := L) (by omega)]
theorem rg_newx {L : rg_L} {g : ah_H} {b t : Nat} {D : rg_D} (h : b + L.length ≤ g.1) : ah_newx (rg L g b D) t = rg L (ah_newx g t) b D := by
  refine Prod.ext rfl (Prod.ext rfl ?_)
  funext a
  show (if a = g.1 then some (t, []) else (rg L g b D).2.2 a) = (rg L (ah_newx g t) b D).2.2 a
  by_cases h1 : b ≤ a ∧ a < b + L.length
  · rw [if_neg (by omega)]
    show (if b ≤ a ∧ a < b + (rgm L b D).length then (rgm L b D)[a - b]? else _) = if b ≤ a ∧ a < b + (rgm L b D).length then (rgm L b D)[a - b]? else _
    rw [rgm_len, if_pos h1, if_pos h1]
  · rw [rg_out (L := L) (by omega), rg_out (L := L) (by omega)]
    rfl
/-! CONDITIONS, as of whole numbers -/
theorem sI_toInt {n : Nat} (h : n < 2 ^ 31) : (nI n - 1).toInt = (n : Int) - 1 := by
  cases n with
  | zero => decide
  | succ k =>
    rw [show nI (k + 1) - 1 = nI k from nI_pred k, nI_toInt (by omega)]
    omega
theorem cvlt {x y : Int32} {p q : Int} (hx : x.toInt = p) (hy : y.toInt = q) : x < y ↔ p < q := by rw [Int32.lt_iff_toInt_lt, hx, hy]
theorem cvle {x y : Int32} {p q : Int} (hx : x.toInt = p) (hy : y.toInt = q) : x ≤ y ↔ p ≤ q := by rw [Int32.le_iff_toInt_le, hx, hy]
theorem cveq {x y : Int32} {p q : Int} (hx : x.toInt = p) (hy : y.toInt = q) : x = y ↔ p = q := by rw [← Int32.toInt_inj, hx, hy]
theorem cLle {x y : Int64} {p q : Int} (hx : x.toInt = p) (hy : y.toInt = q) : lg_cmp x y ≤ 0 ↔ p ≤ q := by rw [lg_cmp_le, Int64.le_iff_toInt_le, hx, hy]
theorem cLlt {x y : Int64} {p q : Int} (hx : x.toInt = p) (hy : y.toInt = q) : lg_cmp x y < 0 ↔ p < q := by rw [lg_cmp_lt, Int64.lt_iff_toInt_lt, hx, hy]
theorem cLge {x y : Int64} {p q : Int} (hx : x.toInt = p) (hy : y.toInt = q) : 0 ≤ lg_cmp x y ↔ q ≤ p := by rw [lg_cmp_ge, Int64.le_iff_toInt_le, hx, hy]
theorem cLgt {x y : Int64} {p q : Int} (hx : x.toInt = p) (hy : y.toInt = q) : 0 < lg_cmp x y ↔ q < p := by rw [lg_cmp_gt, Int64.lt_iff_toInt_lt, hx, hy]
theorem cLeq {x y : Int64} {p q : Int} (hx : x.toInt = p) (hy : y.toInt = q) : lg_cmp x y = 0 ↔ p = q := by rw [lg_cmp_eq, ← Int64.toInt_inj, hx, hy]
def bz (c : Bool) : Int32 := if c then 1 else 0
theorem bz0 {c : Bool} : bz c = 0 ↔ c = false := by cases c <;> decide
theorem bz_fit {c : Bool} : ah_fit .boolean (.int (bz c)) = true := by cases c <;> decide
theorem bz_nar {c : Bool} : narrow .boolean (.int (bz c)) = .int (bz c) := by cases c <;> decide +kernel
theorem ix_s {e : Nat} (h1 : 1 ≤ e) (h : e < 2 ^ 31) : ah_ix (nI e - 1) (e - 1) := by
  obtain ⟨k, rfl⟩ : ∃ k, e = k + 1 := ⟨e - 1, by omega⟩
  rw [show nI (k + 1) - 1 = nI k from nI_pred k, Nat.add_sub_cancel]
  exact ah_ix_nI (by omega)
section RgAt
variable {M : ah_M} {d : Nat} {A : Nat → Prop} {h0 h2 h2' h h' : ah_H} {o : Outcome} {pc : Nat} {lv lv' : List (Nat × Value)} {st st' : List Value}
theorem rt_i {v v' : Int32} (e : v = v') (eh : h2 = h2') (k : ah_At M d A h0 (.returned (some (.int v))) h2 pc lv st h) : ah_At M d A h0 (.returned (some (.int v'))) h2' pc lv st h := by
  subst e eh; exact k
theorem rt_l {v v' : Int64} (e : v = v') (eh : h2 = h2') (k : ah_At M d A h0 (.returned (some (.long v))) h2 pc lv st h) : ah_At M d A h0 (.returned (some (.long v'))) h2' pc lv st h := by
  subst e eh; exact k
theorem rt_v (eh : h2 = h2') (k : ah_At M d A h0 (.returned none) h2 pc lv st h) : ah_At M d A h0 (.returned none) h2' pc lv st h := by
  subst eh; exact k
theorem at_eq (e1 : lv = lv') (e2 : st = st') (e3 : h = h') (k : ah_At M d A h0 o h2 pc lv' st' h') : ah_At M d A h0 o h2 pc lv st h := by
  subst e1 e2 e3; exact k
theorem aft_1 {v : Value} (k : ah_At M d A h0 o h2 (pc + 3) lv (v :: st) h) : ah_aft M d A h0 o h2 pc lv st h (.returned (some v)) := k
theorem aft_0 (k : ah_At M d A h0 o h2 (pc + 3) lv st h) : ah_aft M d A h0 o h2 pc lv st h (.returned none) := k
end RgAt
