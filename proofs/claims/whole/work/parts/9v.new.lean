/-! NEW CELLS at the end of the heap -/
def nxs (cs : List ah_C) : Nat := (cs.map fun c => c.2.length).sum
/-- the heap with these cells behind it -/
def nx (h : ah_H) (cs : List ah_C) : ah_H := (h.1 + cs.length, h.2.1 + nxs cs, fun q => if h.1 ≤ q ∧ q < h.1 + cs.length then cs[q - h.1]? else h.2.2 q)
theorem nxs_app {cs ds : List ah_C} : nxs (cs ++ ds) = nxs cs + nxs ds := by simp [nxs]
theorem nx_nx {h : ah_H} {cs ds : List ah_C} : nx (nx h cs) ds = nx h (cs ++ ds) := by
  refine Prod.ext (by show h.1 + cs.length + ds.length = h.1 + (cs ++ ds).length; rw [List.length_append]; omega) (Prod.ext (by show h.2.1 + nxs cs + nxs ds = h.2.1 + nxs (cs ++ ds); rw [nxs_app]; omega) ?_)
  funext q
  show (if h.1 + cs.length ≤ q ∧ q < h.1 + cs.length + ds.length then ds[q - (h.1 + cs.length)]? else if h.1 ≤ q ∧ q < h.1 + cs.length then cs[q - h.1]? else h.2.2 q) = if h.1 ≤ q ∧ q < h.1 + (cs ++ ds).length then (cs ++ ds)[q - h.1]? else h.2.2 q
  rw [List.length_append]
  by_cases c1 : h.1 + cs.length ≤ q ∧ q < h.1 + cs.length + ds.length
  · rw [if_pos c1, if_pos (by omega), List.getElem?_append_right (by omega)]
    congr 1
    omega
  · rw [if_neg c1]
    by_cases c2 : h.1 ≤ q ∧ q < h.1 + cs.length
    · rw [if_pos c2, if_pos (by omega), List.getElem?_append_left (by omega)]
    · rw [if_neg c2, if_neg (by omega)]
theorem nx_one {h : ah_H} {c : ah_C} : ah_new h c = nx h [c] := by
  refine Prod.ext rfl (Prod.ext (by simp [ah_new, nx, nxs]) ?_)
  funext q
  show (if q = h.1 then some c else h.2.2 q) = if h.1 ≤ q ∧ q < h.1 + 1 then [c][q - h.1]? else h.2.2 q
  by_cases e : q = h.1
  · subst e
    rw [if_pos rfl, if_pos (by omega), Nat.sub_self]
    rfl
  · rw [if_neg e, if_neg (by omega)]
theorem nx_new {h : ah_H} {cs ds : List ah_C} {c : ah_C} (e : cs ++ [c] = ds) : ah_new (nx h cs) c = nx h ds := by
  rw [nx_one, nx_nx, e]
theorem nxs_set {cs : List ah_C} {j t i : Nat} {fs : List Value} {v : Value} (hj : cs[j]? = some (t, fs)) : nxs (cs.set j (t, fs.set i v)) = nxs cs := by
  unfold nxs
  rw [List.map_set, List.length_set]
  congr 1
  apply List.ext_getElem?
  intro n
  rw [List.getElem?_set]
  by_cases e : j = n
  · subst e
    have hlt := (List.getElem?_eq_some_iff.mp hj).1
    rw [if_pos rfl, if_pos (by simpa using hlt), List.getElem?_map, hj]
    rfl
  · rw [if_neg e]
theorem nx_sto {h : ah_H} {cs ds : List ah_C} {j t i : Nat} {fs : List Value} {v : Value} (hj : cs[j]? = some (t, fs)) (e : cs.set j (t, fs.set i v) = ds) : ah_sto (nx h cs) (h.1 + j) i v = nx h ds := by
  subst e
  have hlt := (List.getElem?_eq_some_iff.mp hj).1
  refine Prod.ext (by show h.1 + cs.length = h.1 + (cs.set j _).length; rw [List.length_set]) (Prod.ext (by show h.2.1 + nxs cs = h.2.1 + nxs (cs.set j _); rw [nxs_set hj]) ?_)
  funext q
  show (if q = h.1 + j then ((if h.1 ≤ h.1 + j ∧ h.1 + j < h.1 + cs.length then cs[h.1 + j - h.1]? else h.2.2 (h.1 + j))).map (fun c => (c.1, c.2.set i v)) else if h.1 ≤ q ∧ q < h.1 + cs.length then cs[q - h.1]? else h.2.2 q) = if h.1 ≤ q ∧ q < h.1 + (cs.set j (t, fs.set i v)).length then (cs.set j (t, fs.set i v))[q - h.1]? else h.2.2 q
  rw [List.length_set]
  by_cases c1 : q = h.1 + j
  · subst c1
    rw [if_pos rfl, if_pos (by omega), if_pos (by omega), Nat.add_sub_cancel_left, hj, List.getElem?_set, if_pos rfl, if_pos hlt]
    rfl
  · rw [if_neg c1]
    by_cases c2 : h.1 ≤ q ∧ q < h.1 + cs.length
    · rw [if_pos c2, if_pos c2, List.getElem?_set, if_neg (by omega)]
    · rw [if_neg c2, if_neg c2]
theorem nx_at {h : ah_H} {cs : List ah_C} {j : Nat} {c : ah_C} (hj : cs[j]? = some c) : (nx h cs).2.2 (h.1 + j) = some c := by
  have hlt := (List.getElem?_eq_some_iff.mp hj).1
  show (if h.1 ≤ h.1 + j ∧ h.1 + j < h.1 + cs.length then cs[h.1 + j - h.1]? else h.2.2 (h.1 + j)) = some c
  rw [if_pos (by omega), Nat.add_sub_cancel_left, hj]
theorem nx_sel {h : ah_H} {cs : List ah_C} {j t i : Nat} {fs : List Value} {v : Value} (hj : cs[j]? = some (t, fs)) (hi : fs[i]? = some v) : ah_sel (nx h cs) (h.1 + j) t i = some v := by
  unfold ah_sel
  rw [nx_at hj]
  simp [hi]
theorem nx_is {h : ah_H} {cs : List ah_C} {j t i : Nat} {fs : List Value} (hj : cs[j]? = some (t, fs)) (hi : i < fs.length) : (ah_sel (nx h cs) (h.1 + j) t i).isSome = true := by
  rw [nx_sel hj (List.getElem?_eq_getElem hi)]
  rfl
theorem nx_len {h : ah_H} {cs : List ah_C} {j t : Nat} {fs : List Value} (hj : cs[j]? = some (t, fs)) : (ah_len (nx h cs) (h.1 + j) t).isSome = true := by
  unfold ah_len
  rw [nx_at hj]
  simp
/-- the cells of new int[4][4] -/
def mnc (a : Nat) : List ah_C := [(102, [.ref (a + 1), .ref (a + 2), .ref (a + 3), .ref (a + 4)]), (100, [.int 0, .int 0, .int 0, .int 0]), (100, [.int 0, .int 0, .int 0, .int 0]), (100, [.int 0, .int 0, .int 0, .int 0]), (100, [.int 0, .int 0, .int 0, .int 0])]
theorem nx_mna0 {h : ah_H} : ah_mna h 4 4 = nx h (mnc h.1) := by
  refine Prod.ext (by show h.1 + 1 + 4 = h.1 + 5; omega) (Prod.ext (by show h.2.1 + 4 + 4 * 4 = h.2.1 + 20; omega) ?_)
  funext q
  show (if q = h.1 then some (102, [.ref (h.1 + 1 + 0), .ref (h.1 + 1 + 1), .ref (h.1 + 1 + 2), .ref (h.1 + 1 + 3)]) else if h.1 < q ∧ q < h.1 + 1 + 4 then some (100, [.int 0, .int 0, .int 0, .int 0]) else h.2.2 q) = if h.1 ≤ q ∧ q < h.1 + 5 then (mnc h.1)[q - h.1]? else h.2.2 q
  by_cases c1 : q = h.1
  · subst c1
    rw [if_pos rfl, if_pos (by omega), Nat.sub_self]
    rfl
  · rw [if_neg c1]
    by_cases c2 : h.1 < q ∧ q < h.1 + 1 + 4
    · rw [if_pos c2, if_pos (by omega)]
      have : q - h.1 = 1 ∨ q - h.1 = 2 ∨ q - h.1 = 3 ∨ q - h.1 = 4 := by omega
      rcases this with z | z | z | z <;> rw [z] <;> rfl
    · rw [if_neg c2, if_neg (by omega)]
theorem nx_mna {h : ah_H} {cs ds : List ah_C} (e : cs ++ mnc (h.1 + cs.length) = ds) : ah_mna (nx h cs) 4 4 = nx h ds := by
  subst e
  rw [nx_mna0, nx_nx]
  rfl
