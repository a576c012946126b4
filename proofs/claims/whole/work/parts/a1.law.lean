/-! THE LAW from its entry -/
theorem rg_self {L : rg_L} {g : ah_H} {b : Nat} {D : rg_D} (h : ∀ k, k < L.length → g.2.2 (b + k) = (rgm L b D)[k]?) : rg L g b D = g := by
  refine Prod.ext rfl (Prod.ext rfl ?_)
  funext q
  show (if b ≤ q ∧ q < b + (rgm L b D).length then (rgm L b D)[q - b]? else g.2.2 q) = g.2.2 q
  rw [rgm_len]
  by_cases c : b ≤ q ∧ q < b + L.length
  · rw [if_pos c, ← h (q - b) (by omega), show b + (q - b) = q by omega]
  · rw [if_neg c]
/-- the class's numbers at its start -/
def D0c : rg_D := fun f j => if f = 28 ∨ f = 29 ∨ f = 31 then 1 else D00 f j
theorem Sm.start' : Sm D0c D00 := by
  have e : ∀ f j, f ≠ 28 → f ≠ 29 → f ≠ 31 → D0c f j = D00 f j := fun f j a c d => by unfold D0c; rw [if_neg (by omega)]
  have s := Sm.start
  refine ⟨fun f j a c => e f j (by omega) (by omega) (by omega), fun w p hw hp => ?_, s.ti.of' (fun f j hf => e f j (by omega) (by omega) (by omega)), s.mi, ⟨fun i hi => ?_, fun x hx => ?_, fun j => ?_⟩, fun f j => ?_, s.hE, ⟨fun j hj => ?_, fun j hj => ?_⟩, fun j => by rw [e 19 j (by decide) (by decide) (by decide)]; exact s.p19 j, fun w => by rw [e 7 w (by decide) (by decide) (by decide)]; exact s.out w, by rw [e 16 0 (by decide) (by decide) (by decide)], by rw [e 16 0 (by decide) (by decide) (by decide)]; exact s.bit, fun q => by rw [e 16 0 (by decide) (by decide) (by decide), D00_f (by decide)] at q; cases q⟩
  · rw [e 8 w (by decide) (by decide) (by decide)]
    obtain ⟨k1, k2⟩ := s.pats w p hw hp
    exact ⟨fun q => ⟨(k1 q).1, (k1 q).2.congr (fun f j a c => e f j (by omega) (by omega) (by omega)) (fun _ _ => rfl) (fun _ _ => rfl)⟩, fun q => (k2 q).congr (fun f j a c => e f j (by omega) (by omega) (by omega)) (fun _ _ => rfl) (fun _ _ => rfl)⟩
  · rw [e 1 0 (by decide) (by decide) (by decide)] at hi
    rw [e 10 i (by decide) (by decide) (by decide)]
    exact s.tb.1 i hi
  · rw [e 15 _ (by decide) (by decide) (by decide)]; exact s.tb.2.1 x hx
  · rw [e 15 _ (by decide) (by decide) (by decide)]; exact s.tb.2.2 j
  · unfold D0c
    split
    · decide
    · exact s.hD f j
  · rw [e 20 j (by decide) (by decide) (by decide), e 21 j (by decide) (by decide) (by decide), e 22 j (by decide) (by decide) (by decide)]; exact s.gh.1 j hj
  · rw [e 23 j (by decide) (by decide) (by decide), e 24 j (by decide) (by decide) (by decide)]; exact s.gh.2 j hj
theorem cells_c {a : Nat} : rgm LTc a D0c = cTl a := by
  have z0 : nI 0 = 0 := by decide
  have z1 : nI 1 - 1 = 0 := by decide
  have y0 : lN 0 = 0 := by decide
  have y1 : lN 1000000000 = 1000000000 := by decide
  rfl
theorem cells_m {a : Nat} : rgm LTm a D00 = cMo a := by
  rfl
theorem cTl_len {a : Nat} : (cTl a).length = 75 := by rw [← cells_c, rgm_len]; rfl
theorem cMo_len {a : Nat} : (cMo a).length = 16 := by rw [← cells_m, rgm_len]; rfl
theorem nxs_rgm {L : rg_L} {b : Nat} {D : rg_D} : nxs (rgm L b D) = (L.map fun c => c.2.length).sum := by
  unfold nxs rgm
  rw [List.map_map]
  congr 1
  apply List.map_congr_left
  intro c _
  simp
theorem cTl_nxs {a : Nat} : nxs (cTl a) ≤ 800 := by rw [← cells_c, nxs_rgm]; decide
theorem cMo_nxs {a : Nat} : nxs (cMo a) ≤ 150 := by rw [← cells_m, nxs_rgm]; decide
theorem nx_get {h : ah_H} {cs : List ah_C} {j : Nat} (hj : j < cs.length) : (nx h cs).2.2 (h.1 + j) = cs[j]? := by
  rw [List.getElem?_eq_getElem hj]
  exact nx_at (List.getElem?_eq_getElem hj)
theorem nx_old {h : ah_H} {cs : List ah_C} {q : Nat} (hq : q < h.1) : (nx h cs).2.2 q = h.2.2 q := by
  show (if h.1 ≤ q ∧ q < h.1 + cs.length then cs[q - h.1]? else h.2.2 q) = h.2.2 q
  rw [if_neg (by omega)]
theorem law_at {d : Nat} {h : ah_H} {x0 : Nat} {sc : List Value} (hx : h.2.2 x0 = some (99, sc)) (hx0 : x0 < h.1) (hst : ∃ a c, a < h.1 ∧ h.2.2 a = some (97, c)) (hi : ∀ j, j < sc.length → ∃ v, sc[j]? = some (.int v)) (hn : sc.length ≤ 4096) (hd : 70 ≤ d) : ∃ h2 : ah_H, h2.1 ≤ h.1 + 700 ∧ h2.2.1 ≤ h.2.1 + 5000 ∧ ah_At mt_A_law d (fun q => h.1 ≤ q) h (.returned (some (.int 1))) h2 0 [(0, .ref x0)] [] h := by
  have eF : ah_new (nx (nx h (cTl h.1)) (cMo (h.1 + 75))) (101, List.replicate 1 (.long 0)) = nx h ((cTl h.1 ++ cMo (h.1 + 75)) ++ [(101, [.long 0])]) := by
    rw [nx_one, nx_nx, nx_nx]
    rfl
  generalize hF : nx h ((cTl h.1 ++ cMo (h.1 + 75)) ++ [(101, [.long 0])]) = g at eF
  have hlen : ((cTl h.1 ++ cMo (h.1 + 75)) ++ [((101, [.long 0]) : ah_C)]).length = 92 := by rw [List.length_append, List.length_append, cTl_len, cMo_len]; rfl
  have hl91 : (cTl h.1 ++ cMo (h.1 + 75)).length = 91 := by rw [List.length_append, cTl_len, cMo_len]
  have hg1 : g.1 = h.1 + 92 := by
    rw [← hF, ← hlen]
    rfl
  have hg2 : g.2.1 = h.2.1 + nxs ((cTl h.1 ++ cMo (h.1 + 75)) ++ [(101, [.long 0])]) := by
    rw [← hF]
    rfl
  have hns : nxs ((cTl h.1 ++ cMo (h.1 + 75)) ++ [((101, [.long 0]) : ah_C)]) ≤ 1000 := by
    rw [nxs_app, nxs_app]
    have q1 := cTl_nxs (a := h.1)
    have q2 := cMo_nxs (a := h.1 + 75)
    have q3 : nxs [((101, [.long 0]) : ah_C)] = 1 := rfl
    omega
  have gc : ∀ k, k < 75 → g.2.2 (h.1 + k) = (cTl h.1)[k]? := fun k hk => by
    rw [← hF, nx_get (by rw [hlen]; omega), List.getElem?_append_left (by rw [hl91]; omega), List.getElem?_append_left (by rw [cTl_len]; omega)]
  have gm : ∀ k, k < 16 → g.2.2 (h.1 + 75 + k) = (cMo (h.1 + 75))[k]? := fun k hk => by
    rw [← hF, Nat.add_assoc, nx_get (by rw [hlen]; omega), List.getElem?_append_left (by rw [hl91]; omega), List.getElem?_append_right (by rw [cTl_len]; omega), cTl_len, Nat.add_sub_cancel_left]
  have go : g.2.2 (h.1 + 91) = some (101, [.long 0]) := by
    rw [← hF, nx_get (by rw [hlen]; omega), List.getElem?_append_right (by rw [hl91]; omega), hl91]
    rfl
  have gold : ∀ q, q < h.1 → g.2.2 q = h.2.2 q := fun q hq => by rw [← hF]; exact nx_old hq
  have eH : HH g h.1 (h.1 + 75) D0c D00 = g := by
    unfold HH
    rw [rg_self (L := LTc) (fun k hk => by rw [cells_c]; exact gc k hk), rg_self (L := LTm) (fun k hk => by rw [cells_m]; exact gm k hk)]
  have G : LG g h.1 (h.1 + 75) x0 (h.1 + 91) sc := by
    obtain ⟨a, c, a1, a2⟩ := hst
    exact ⟨Nat.le_refl _, Nat.le_refl _, by omega, hx0, by rw [gold x0 hx0]; exact hx, ⟨0, go⟩, a, c, a1, by rw [gold a a1]; exact a2⟩
  obtain ⟨h2, ⟨p1, p2, p3, p4⟩, at2⟩ := law_loop (d := d) (A := fun q => h.1 ≤ q) hi hn (by omega) (fun q hq => hq) (sc.length / 8) 0 g D0c D00 (by omega) Sm.start' G
  refine ⟨h2, by omega, by omega, ?_⟩
  have hX := i_X (h := h) (d := d - 1) (A := fun q => h.1 ≤ q) (by omega) (fun q hq => hq)
  rw [← nx_one] at hX
  refine b_A_law_0 hX (by omega) (fun q hq => hq) ?_
  refine aft_0 ?_
  have e1 : (nx h (cTl h.1)).1 = h.1 + 75 := by
    show h.1 + (cTl h.1).length = h.1 + 75
    rw [cTl_len]
  have hM := i_M (h := nx h (cTl h.1)) (d := d - 1) (A := fun q => h.1 ≤ q) (by omega) (fun q hq => Nat.le_trans (Nat.le_add_right _ _) hq)
  rw [← nx_one] at hM
  refine b_A_law_7 hM (by omega) (fun q hq => hq) ?_
  refine aft_0 ?_
  rw [e1]
  have e2 : (nx (nx h (cTl h.1)) (cMo (h.1 + 75))).1 = h.1 + 91 := by
    show h.1 + (cTl h.1).length + (cMo (h.1 + 75)).length = h.1 + 91
    rw [cTl_len, cMo_len]
  refine b_A_law_15 ?_
  rw [e2, eF]
  have k := at2 h
  rw [eH, show nI (8 * 0) = 0 from by decide] at k
  exact k
