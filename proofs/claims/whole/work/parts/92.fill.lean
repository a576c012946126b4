/-! Arrays.fill over a row of places -/
def fl (D : rg_D) (f j0 n x : Nat) : rg_D := fun f' j' => if f' = f ∧ j0 ≤ j' ∧ j' < j0 + n then x else D f' j'
theorem fl_0 {D : rg_D} {f j0 x : Nat} : fl D f j0 0 x = D := by
  funext a c
  unfold fl
  rw [if_neg (by omega)]
theorem fl_s {D : rg_D} {f j0 n x : Nat} : up (fl D f j0 n x) f (j0 + n) x = fl D f j0 (n + 1) x := by
  funext a c
  unfold up fl
  by_cases h1 : a = f ∧ c = j0 + n
  · rw [if_pos h1, if_pos (by omega)]
  · rw [if_neg h1]
    by_cases h2 : a = f ∧ j0 ≤ c ∧ c < j0 + n
    · rw [if_pos h2, if_pos (by omega)]
    · rw [if_neg h2, if_neg (by omega)]
theorem fl_in {D : rg_D} {f j0 n x j : Nat} (h : j0 ≤ j ∧ j < j0 + n) : fl D f j0 n x f j = x := by
  unfold fl
  rw [if_pos ⟨rfl, h⟩]
theorem fl_out {D : rg_D} {f j0 n x f' j : Nat} (h : f' ≠ f ∨ j < j0 ∨ j0 + n ≤ j) : fl D f j0 n x f' j = D f' j := by
  unfold fl
  rw [if_neg (by omega)]
section Fill
variable {d : Nat} {A : Nat → Prop} {g : ah_H} {b : Nat} {D : rg_D} {k n f j0 x q : Nat} {v : Int32}
theorem lo_fill (hA : ∀ q, b ≤ q → q < b + 75 → A q) (hk75 : k < 75) (hn : n < 2 ^ 31) (hk : ∀ i, i < n → lk LTc k i = some (100, (q + 1, f, j0 + i))) (hv : ∀ D' : rg_D, ∀ j, rv b (up D' f j x) (q + 1, f, j) = .int v) {h0 : ah_H} : ∀ (m i : Nat), i + m = n →
    ah_At mt_J_fill d A h0 (.returned none) (rg LTc g b (fl D f j0 n x)) 5 [(0, .ref (b + k)), (1, .int v), (2, .int (nI i)), (3, .int (nI n))] [] (rg LTc g b (fl D f j0 i x))
  | 0, i, hm => by
    refine b_J_fill_5 (fun z1 => ?_) (fun z1 => absurd (nI_le (by omega) (by omega)) z1)
    refine rt_v ?_ b_J_fill_20
    rw [show i = n by omega]
  | m + 1, i, hm => by
    refine b_J_fill_5 (fun z1 => absurd z1 (nI_ge (by omega) (by omega))) (fun z1 => ?_)
    refine b_J_fill_10 (hA _ (by omega) (by omega)) (ah_ix_nI (by omega)) (rdE (hk i (by omega))) ?_
    rw [rg_sto u_c v_c (hk i (by omega)) (hv _ _), fl_s, nI_1]
    exact lo_fill hA hk75 hn hk hv m (i + 1) (by omega)
theorem c_fill (hA : ∀ q, b ≤ q → q < b + 75 → A q) (hk75 : k < 75) (hn : n < 2 ^ 31) (hk : ∀ i, i < n → lk LTc k i = some (100, (q + 1, f, j0 + i))) (hl : (LTc[k]?).map (fun c => (c.1, c.2.length)) = some (100, n)) (hv : ∀ D' : rg_D, ∀ j, rv b (up D' f j x) (q + 1, f, j) = .int v) :
    ah_Ev mt_J_fill d A [.ref (b + k), .int v] (rg LTc g b D) (.returned none) (rg LTc g b (fl D f j0 n x)) := by
  refine ah_Ev.of (by decide +kernel) (Nat.le_of_ble_eq_true rfl) ?_
  show ah_At mt_J_fill d A (rg LTc g b D) (.returned none) (rg LTc g b (fl D f j0 n x)) 0 [(0, .ref (b + k)), (1, .int v)] [] (rg LTc g b D)
  obtain ⟨⟨t, cs⟩, h1, h2⟩ := Option.map_eq_some_iff.mp hl
  cases h2
  refine b_J_fill_0 (j1 := cs.length) ?_ ?_
  · unfold ah_len
    rw [rg_in h1]
    simp
  · have := lo_fill (d := d) (g := g) (D := D) (h0 := rg LTc g b D) hA hk75 hn hk hv cs.length 0 (Nat.zero_add _)
    rw [fl_0] at this
    exact this
end Fill
