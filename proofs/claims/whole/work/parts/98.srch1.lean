/-! CONTRACTS: the search. Printed out of wip/ -/
theorem on_47 {d : Nat} {A : Nat → Prop} {g : ah_H} {b : Nat} {D : rg_D} (hO : ∀ f j, D f j < 2 ^ 30) (hA : ∀ q, b ≤ q → q < b + 75 → A q) {i w : Nat} (hi : i < 8) (hw : w < 3) (hs : D 10 i < 4) (hg : D 13 i < 4) (hd : 4 ≤ d) (p0 : D 26 i ≤ D 30 0) (p1 : 1 ≤ D 23 (4 * w + D 10 i)) (p2 : 1 ≤ D 24 (4 * w + D 13 i)) (p3 : 1 ≤ D 20 w) (p4 : ln (D 10 i) ≤ D 21 w) (p5 : D 11 i ≤ D 22 w) {h0 : ah_H} : ah_At mt_N_tryOn d A h0 (.returned none) (rg LTc g b (tof D i w)) 47 [(0, .ref (b + 59)), (1, .int (nI i)), (2, .int (nI w))] [] (rg LTc g b D) := by
  refine b_N_tryOn_47 (o' := .returned none) (h' := (rg LTc g b (tof D i w))) (v3 := nI (D 30 0)) (v4 := b + 62) (v5 := nI (D 26 i)) (v7 := b + 60) (v8 := b + (66 + 3 * w)) (v9 := b + 1) (v10 := b + 3) (v11 := b + (51 + i)) (rdR (k_N_5)) (hA _ (by omega) (by omega)) (ah_ix_nI (by omega)) (rdE (k_ND _ (by omega))) (by rw [stcS (x := 0) (v := -1) (k_ND _ (by omega)) rfl]; exact (rdI (e := D 30 0) (k_N_7) (by simp [up]))) (by rw [stcS (x := 0) (v := -1) (k_ND _ (by omega)) rfl]; exact (rdR (k_N_3))) (ah_ix_nI (by omega)) (by rw [stcS (x := 0) (v := -1) (k_ND _ (by omega)) rfl]; exact (rdI (e := D 26 i) (k_NB _ (by omega)) (by simp [up]))) (hA _ (by omega) (by omega)) (by rw [stcS (x := 0) (v := -1) (k_ND _ (by omega)) rfl]; exact (rdE (k_N_7))) (by rw [stcS (x := 0) (v := -1) (k_ND _ (by omega)) rfl, stcI (x := (D 30 0) - (D 26 i)) (v := (nI (D 30 0)) - (nI (D 26 i))) (k_N_7) (su_n rfl rfl (by omega))]; exact (rdR (k_N_1))) (ah_ix_nI (by omega)) (by rw [stcS (x := 0) (v := -1) (k_ND _ (by omega)) rfl, stcI (x := (D 30 0) - (D 26 i)) (v := (nI (D 30 0)) - (nI (D 26 i))) (k_N_7) (su_n rfl rfl (by omega))]; exact (rdR (k_Ls _ (by omega)))) (by rw [stcS (x := 0) (v := -1) (k_ND _ (by omega)) rfl, stcI (x := (D 30 0) - (D 26 i)) (v := (nI (D 30 0)) - (nI (D 26 i))) (k_N_7) (su_n rfl rfl (by omega))]; exact (rdR (k_N_0))) (by rw [stcS (x := 0) (v := -1) (k_ND _ (by omega)) rfl, stcI (x := (D 30 0) - (D 26 i)) (v := (nI (D 30 0)) - (nI (D 26 i))) (k_N_7) (su_n rfl rfl (by omega))]; exact (rdR (k_T_2))) (ah_ix_nI (by omega)) (by rw [stcS (x := 0) (v := -1) (k_ND _ (by omega)) rfl, stcI (x := (D 30 0) - (D 26 i)) (v := (nI (D 30 0)) - (nI (D 26 i))) (k_N_7) (su_n rfl rfl (by omega))]; exact (rdR (k_Bs _ (by omega)))) (by rw [stcS (x := 0) (v := -1) (k_ND _ (by omega)) rfl, stcI (x := (D 30 0) - (D 26 i)) (v := (nI (D 30 0)) - (nI (D 26 i))) (k_N_7) (su_n rfl rfl (by omega))]; exact c_takeOff (d := d - 1) (A := A) (D := (up (up D 28 i 0) 30 0 ((D 30 0) - (D 26 i)))) (up_O (up_O hO (by decide)) (by have := hO 30 0; omega)) hA hw hi (by simpa [up] using hs) (by simpa [up] using hg) (by omega) (by simpa [up] using p1) (by simpa [up] using p2) (by simpa [up] using p3) (by simpa [up] using p4) (by simpa [up] using p5)) (by omega) (fun q hq => hq) ?_ (by rw [stcS (x := 0) (v := -1) (k_ND _ (by omega)) rfl, stcI (x := (D 30 0) - (D 26 i)) (v := (nI (D 30 0)) - (nI (D 26 i))) (k_N_7) (su_n rfl rfl (by omega))]; exact (rdN (k_L_0 _ (by omega))))
  refine aft_0 ?_
  refine rt_v ?_ (b_N_tryOn_87 )
  · rfl
theorem on_18 {d : Nat} {A : Nat → Prop} {g : ah_H} {b : Nat} {D : rg_D} (hO : ∀ f j, D f j < 2 ^ 30) (hA : ∀ q, b ≤ q → q < b + 75 → A q) {i w : Nat} (hi : i < 8) (hw : w < 3) (hs : D 10 i < 4) (hg : D 13 i < 4) (hd : 4 ≤ d) {x : Nat} (hx : D 30 0 + D 26 i = x) {h0 h2 : ah_H} {o : Outcome} {D3 : rg_D} (hE : ah_Ev mt_N_tryFrom (d - 1) A [.ref (b + 59), .int (nI (i + 1))] (rg LTc g b (up (up D 30 0 x) 28 i (w + 1))) (.returned none) (rg LTc g b D3)) (k : ah_At mt_N_tryOn d A h0 o h2 47 [(0, .ref (b + 59)), (1, .int (nI i)), (2, .int (nI w))] [] (rg LTc g b D3)) : ah_At mt_N_tryOn d A h0 o h2 18 [(0, .ref (b + 59)), (1, .int (nI i)), (2, .int (nI w))] [] (rg LTc g b D) := by
  refine b_N_tryOn_18 (o' := .returned none) (h' := (rg LTc g b D3)) (v5 := b + 64) (rdI (k_N_7) rfl) (rdR (k_N_3)) (ah_ix_nI (by omega)) (rdI (k_NB _ (by omega)) rfl) (hA _ (by omega) (by omega)) (rdE (k_N_7)) (by rw [stcI (x := (D 30 0) + (D 26 i)) (v := (nI (D 30 0)) + (nI (D 26 i))) (k_N_7) (ad_n rfl rfl)]; exact (rdR (k_N_5))) (hA _ (by omega) (by omega)) (ah_ix_nI (by omega)) (by rw [stcI (x := (D 30 0) + (D 26 i)) (v := (nI (D 30 0)) + (nI (D 26 i))) (k_N_7) (ad_n rfl rfl)]; exact (rdE (k_ND _ (by omega)))) (by rw [stcI (x := (D 30 0) + (D 26 i)) (v := (nI (D 30 0)) + (nI (D 26 i))) (k_N_7) (ad_n rfl rfl), stcS (x := w + 1) (v := nI w) (k_ND _ (by omega)) (sh_n rfl)]; exact by rw [hx, nI_1]; exact hE) (by omega) (fun q hq => hq) ?_ (by rw [stcI (x := (D 30 0) + (D 26 i)) (v := (nI (D 30 0)) + (nI (D 26 i))) (k_N_7) (ad_n rfl rfl), stcS (x := w + 1) (v := nI w) (k_ND _ (by omega)) (sh_n rfl)]; exact (rdN (k_N_0)))
  refine aft_0 ?_
  exact k
theorem c_tryOn {d : Nat} {A : Nat → Prop} {g : ah_H} {b : Nat} (hA : ∀ q, b ≤ q → q < b + 75 → A q) {n i m : Nat} (hm : i + (n + 1) = m) (IH : ∀ (d : Nat) (D : rg_D), 2 * n + 6 ≤ d → SP D (i + 1) → D 1 0 = m → ah_Ev mt_N_tryFrom d A [.ref (b + 59), .int (nI (i + 1))] (rg LTc g b D) (.returned none) (rg LTc g b (srch n (i + 1) D))) {D : rg_D} {w : Nat} (hd : 2 * n + 7 ≤ d) (hS : SP D i) (hN : D 1 0 = m) (hw : w < 3) : ah_Ev mt_N_tryOn d A [.ref (b + 59), .int (nI i), .int (nI w)] (rg LTc g b D) (.returned none) (rg LTc g b (tof (srch n (i + 1) (ton D i w)) i w)) := by
  refine ah_Ev.of (by decide +kernel) (Nat.le_of_ble_eq_true rfl) ?_
  show ah_At mt_N_tryOn d A (rg LTc g b D) (.returned none) (rg LTc g b (tof (srch n (i + 1) (ton D i w)) i w)) 0 [(0, .ref (b + 59)), (1, .int (nI i)), (2, .int (nI w))] [] (rg LTc g b D)
  have h8 := hS.1.1.2
  have hi8 : i < 8 := by omega
  have hs := (hS.1.2.2 i).1
  have hg := (hS.1.2.2 i).2.1
  have hT := hS.tn (w := w) (by omega) hw
  have hP := pon_ok (l := w) (i := i) hS.2.1 (by omega) hS.1
  have hE := IH (d - 1) (ton D i w) (by omega) hT (by rw [ton_f (by decide)]; exact hN)
  have hR := srch_nr n (i + 1) (ton D i w) hT (by rw [ton_f (by decide)]; omega)
  have q10 : srch n (i + 1) (ton D i w) 10 i = D 10 i := (hR.1 10 i (by decide) (by decide)).trans (ton_f (by decide))
  have q13 : srch n (i + 1) (ton D i w) 13 i = D 13 i := (hR.1 13 i (by decide) (by decide)).trans (ton_f (by decide))
  have q11 : srch n (i + 1) (ton D i w) 11 i = D 11 i := (hR.1 11 i (by decide) (by decide)).trans (ton_f (by decide))
  have q26 : srch n (i + 1) (ton D i w) 26 i = D 26 i := (hR.1 26 i (by decide) (by decide)).trans (ton_f (by decide))
  have q30 : srch n (i + 1) (ton D i w) 30 0 = D 30 0 + D 26 i := (hR.1 30 0 (by decide) (by decide)).trans (by unfold ton; rw [up_f (by decide), up_s])
  have l : ∀ f j, 20 ≤ f → f ≤ 24 → srch n (i + 1) (ton D i w) f j = pon D w i f j := fun f j a c => (hR.1 f j (by omega) (by omega)).trans (ton_l ⟨a, c⟩)
  refine b_N_tryOn_0 (rdR (k_N_1)) (ah_ix_nI (by omega)) (rdR (k_Ls _ (by omega))) (rdR (k_N_0)) (rdR (k_T_2)) (ah_ix_nI (by omega)) (rdR (k_Bs _ (by omega))) (c_putOn (d := d - 1) (A := A) hS.2.1.1 hA hw hi8 hs hg (by omega)) (by omega) (fun q hq => hq) ?_ (rdN (k_L_0 _ (by omega)))
  refine aft_0 ?_
  exact on_18 hP.1 hA hi8 hw (by rw [pon_f (by decide)]; exact hs) (by rw [pon_f (by decide)]; exact hg) (by omega) (x := D 30 0 + D 26 i) (by rw [pon_f (by decide), pon_f (by decide)]) hE (on_47 hR.2 hA hi8 hw (by rw [q10]; exact hs) (by rw [q13]; exact hg) (by omega) (by rw [q26, q30]; omega) (by rw [q10, l 23 _ (by decide) (by decide), pon_23, if_pos rfl]; omega) (by rw [q13, l 24 _ (by decide) (by decide), pon_24, if_pos rfl]; omega) (by rw [l 20 _ (by decide) (by decide), pon_20, if_pos rfl]; omega) (by rw [q10, l 21 _ (by decide) (by decide), pon_21, if_pos rfl]; omega) (by rw [q11, l 22 _ (by decide) (by decide), pon_22, if_pos rfl]; omega))
theorem lo_tryFrom {d : Nat} {A : Nat → Prop} {g : ah_H} {b : Nat} (hA : ∀ q, b ≤ q → q < b + 75 → A q) {n i m : Nat} (hm : i + (n + 1) = m) (IH : ∀ (d : Nat) (D : rg_D), 2 * n + 6 ≤ d → SP D (i + 1) → D 1 0 = m → ah_Ev mt_N_tryFrom d A [.ref (b + 59), .int (nI (i + 1))] (rg LTc g b D) (.returned none) (rg LTc g b (srch n (i + 1) D))) (hd : 2 * n + 8 ≤ d) {h0 : ah_H} : ∀ (k w : Nat) (D : rg_D), w + k = D 0 0 → SP D i → D 1 0 = m → ah_At mt_N_tryFrom d A h0 (.returned none) (rg LTc g b (srch n (i + 1) (swl (srch n (i + 1)) i k w D))) 67 [(0, .ref (b + 59)), (1, .int (nI i)), (2, .int (nI w))] [] (rg LTc g b D)
  | 0, w, D, hk, hS, hN => by
    have hO := hS.2.1.1; have h3 := hS.1.1.1; have h8 := hS.1.1.2
    refine b_N_tryFrom_67 (rdR (k_N_0)) (rdI (k_T_1) rfl) (fun z1 => ?_) (fun z1 => by exfalso; replace z1 := mt (cvle (nI_toInt (n := D 0 0) (by have := hO 0 0; omega)) (nI_toInt (n := w) (by omega))).mpr z1; omega)
    replace z1 := (cvle (nI_toInt (n := D 0 0) (by have := hO 0 0; omega)) (nI_toInt (n := w) (by omega))).mp z1
    refine b_N_tryFrom_99 (by rw [nI_1]; exact IH (d - 1) D (by omega) hS.next hN) (by omega) (fun q hq => hq) ?_ (rdN (k_N_0))
    refine aft_0 ?_
    refine rt_v ?_ (b_N_tryFrom_106 )
    · rfl
  | k + 1, w, D, hk, hS, hN => by
    have hO := hS.2.1.1; have h3 := hS.1.1.1; have h8 := hS.1.1.2
    refine b_N_tryFrom_67 (rdR (k_N_0)) (rdI (k_T_1) rfl) (fun z1 => by exfalso; replace z1 := (cvle (nI_toInt (n := D 0 0) (by have := hO 0 0; omega)) (nI_toInt (n := w) (by omega))).mp z1; omega) (fun z1 => ?_)
    replace z1 := mt (cvle (nI_toInt (n := D 0 0) (by have := hO 0 0; omega)) (nI_toInt (n := w) (by omega))).mpr z1
    refine b_N_tryFrom_78 (c_mayPutOn (d := d - 1) (A := A) hS.2.1.1 (by omega) (by omega) (hS.1.2.2 i).1 (hS.1.2.2 i).2.1 hS.1.2.1 hS.1.1.1 (by omega)) (by omega) (fun q hq => hq) ?_ (rdN (k_N_0))
    refine aft_1 ?_
    refine b_N_tryFrom_84 (fun z2 => ?_) (fun z2 => ?_)
    · replace z2 := pz0.mp z2
      refine b_N_tryFrom_93 ?_
      rw [show ((nI w) + 1 : Int32) = nI (w + 1) from (ad_n rfl rfl)]
      rw [show swl (srch n (i + 1)) i (k + 1) w D = swl (srch n (i + 1)) i k (w + 1) D from by rw [swl, if_neg (by rw [pb_f z2]; decide)]]
      exact lo_tryFrom hA hm IH hd k (w + 1) D (by omega) hS hN
    · replace z2 := pz1.mp z2
      refine b_N_tryFrom_87 (c_tryOn (d := d - 1) hA hm IH (by omega) hS hN (by omega)) (by omega) (fun q hq => hq) ?_ (rdN (k_N_0))
      refine aft_0 ?_
      refine b_N_tryFrom_93 ?_
      rw [show ((nI w) + 1 : Int32) = nI (w + 1) from (ad_n rfl rfl)]
      have key : Nr D (tof (srch n (i + 1) (ton D i w)) i w) := tof_nr hS.2.1.1 (hS.2.2.1 i (Nat.le_refl _) (by omega)) (srch_nr n (i + 1) _ (hS.tn (by omega) (by omega)) (by rw [ton_f (by decide)]; omega))
      rw [show swl (srch n (i + 1)) i (k + 1) w D = swl (srch n (i + 1)) i k (w + 1) (tof (srch n (i + 1) (ton D i w)) i w) from by rw [swl, if_pos (pb_t z2)]]
      exact lo_tryFrom hA hm IH hd k (w + 1) _ (by rw [key.1 0 0 (by decide) (by decide)]; omega) (hS.nr key) (by rw [key.1 1 0 (by decide) (by decide)]; exact hN)
theorem rg_copy {g : ah_H} {b : Nat} {D : rg_D} : ah_copy8 (rg LTc g b D) (b + 64) (b + 65) = rg LTc g b (fun f j => if f = 29 ∧ j < 8 then D 28 j else D f j) := by
  have c64 : LTc[64]? = some (100, (List.range 8).map fun j => (3, 28, j)) := by decide +kernel
  have c65 : LTc[65]? = some (100, (List.range 8).map fun j => (3, 29, j)) := by decide +kernel
  have co : ∀ k ∈ List.range 75, k ≠ 65 → ∀ c ∈ (LTc[k]?).toList.flatMap (fun c => c.2), c.1 = 0 ∨ c.2.1 ≠ 29 := by decide +kernel
  have hlen : LTc.length = 75 := by decide +kernel
  refine Prod.ext rfl (Prod.ext rfl ?_)
  funext q
  show (if q = b + 65 then (rg LTc g b D).2.2 (b + 64) else (rg LTc g b D).2.2 q) = _
  by_cases hq : q = b + 65
  · subst hq
    rw [if_pos rfl, rg_in c64, rg_in c65, List.map_map, List.map_map]
    congr 2
  · rw [if_neg hq]
    by_cases hr : b ≤ q ∧ q < b + 75
    · have hk : q - b < LTc.length := by omega
      obtain ⟨t, cs, he⟩ : ∃ t cs, LTc[q - b]? = some (t, cs) := ⟨_, _, List.getElem?_eq_getElem hk⟩
      rw [show q = b + (q - b) by omega, rg_in he, rg_in he]
      congr 2
      apply List.map_congr_left
      intro c hc
      refine (rv_eq ?_).symm
      rcases co (q - b) (List.mem_range.mpr (by omega)) (by omega) c (by rw [he]; simpa using hc) with z | z
      · exact Or.inl z
      · refine Or.inr ?_
        show (if c.2.1 = 29 ∧ c.2.2 < 8 then D 28 c.2.2 else D c.2.1 c.2.2) = _
        rw [if_neg (fun w => z w.1)]
    · rw [rg_out (by omega), rg_out (by omega)]
theorem rg_64 {g : ah_H} {b : Nat} {D : rg_D} : (rg LTc g b D).2.2 (b + 64) = some (100, ah_i8 (fun j => nI (D 28 j) - 1)) := by
  have c64 : LTc[64]? = some (100, (List.range 8).map fun j => (3, 28, j)) := by decide +kernel
  rw [rg_in c64, List.map_map]
  rfl
theorem rg_65 {g : ah_H} {b : Nat} {D : rg_D} : (rg LTc g b D).2.2 (b + 65) = some (100, ah_i8 (fun j => nI (D 29 j) - 1)) := by
  have c65 : LTc[65]? = some (100, (List.range 8).map fun j => (3, 29, j)) := by decide +kernel
  rw [rg_in c65, List.map_map]
  rfl
theorem c_tryFrom {A : Nat → Prop} {g : ah_H} {b : Nat} (hA : ∀ q, b ≤ q → q < b + 75 → A q) : ∀ (n i : Nat) (D : rg_D) (d : Nat), i + n = D 1 0 → SP D i → 2 * n + 6 ≤ d → ah_Ev mt_N_tryFrom d A [.ref (b + 59), .int (nI i)] (rg LTc g b D) (.returned none) (rg LTc g b (srch n i D))
  | 0, i, D, d, hn, hS, hd => by
    have hO := hS.2.1.1
    have h3 := hS.1.1.1
    have h8 := hS.1.1.2
    have h27 := hS.2.2.2.2.1 i (by omega)
    have h30 := hS.2.2.2.2.2
    have hbd := bd_le (c := i) (by omega)
    refine ah_Ev.of (by decide +kernel) (Nat.le_of_ble_eq_true rfl) ?_
    show ah_At mt_N_tryFrom d A (rg LTc g b D) (.returned none) (rg LTc g b (srch 0 i D)) 0 [(0, .ref (b + 59)), (1, .int (nI i))] [] (rg LTc g b D)
    refine b_N_tryFrom_0 (rdR (k_N_0)) (rdI (k_T_3) rfl) (fun z1 => by exfalso; replace z1 := (cvlt (nI_toInt (n := D 1 0) (by have := hO 1 0; omega)) (nI_toInt (n := i) (by omega))).mp z1; omega) (fun z1 => ?_)
    replace z1 := mt (cvlt (nI_toInt (n := D 1 0) (by have := hO 1 0; omega)) (nI_toInt (n := i) (by omega))).mpr z1
    refine b_N_tryFrom_11 (rdI (k_N_7) rfl) (rdR (k_N_4)) (ah_ix_nI (by omega)) (rdI (k_NC _ (by omega)) rfl) (rdS (k_N_8) rfl) (fun z2 => ?_) (fun z2 => ?_)
    · replace z2 := (cvlt (sI_toInt (n := D 31 0) (by have := hO 31 0; omega)) (tn_n (show ((nI (D 30 0)) + (nI (D 27 i)) : Int32) = nI ((D 30 0) + (D 27 i)) from (ad_n rfl rfl)) (by have := hO 27 i; have := hO 30 0; omega))).mp z2
      refine b_N_tryFrom_30 (rdR (k_N_0)) (rdI (k_T_3) rfl) (fun z3 => by exfalso; replace z3 := mt (cveq (nI_toInt (n := i) (by omega)) (nI_toInt (n := D 1 0) (by have := hO 1 0; omega))).mpr z3; omega) (fun z3 => ?_)
      replace z3 := (cveq (nI_toInt (n := i) (by omega)) (nI_toInt (n := D 1 0) (by have := hO 1 0; omega))).mp (Decidable.not_not.mp z3)
      refine rt_v ?_ (b_N_tryFrom_41 (v3 := b + 64) (v4 := b + 65) (rdI (k_N_7) rfl) (hA _ (by omega) (by omega)) (rdE (k_N_8)) (by rw [stcS (x := D 30 0 + 1) (v := nI (D 30 0)) (k_N_8) (sh_n rfl)]; exact rdR (k_N_5)) (by rw [stcS (x := D 30 0 + 1) (v := nI (D 30 0)) (k_N_8) (sh_n rfl)]; exact rdR (k_N_6)) (by omega) (hA _ (by omega) (by omega)) (by omega) (by rw [stcS (x := D 30 0 + 1) (v := nI (D 30 0)) (k_N_8) (sh_n rfl)]; exact rg_64) (by rw [stcS (x := D 30 0 + 1) (v := nI (D 30 0)) (k_N_8) (sh_n rfl)]; exact rg_65))
      rw [stcS (x := D 30 0 + 1) (v := nI (D 30 0)) (k_N_8) (sh_n rfl), rg_copy, srch, if_neg (by omega)]
      congr 1
    · replace z2 := mt (cvlt (sI_toInt (n := D 31 0) (by have := hO 31 0; omega)) (tn_n (show ((nI (D 30 0)) + (nI (D 27 i)) : Int32) = nI ((D 30 0) + (D 27 i)) from (ad_n rfl rfl)) (by have := hO 27 i; have := hO 30 0; omega))).mpr z2
      refine rt_v ?_ (b_N_tryFrom_29 )
      · rw [srch, if_pos (by omega)]
  | n + 1, i, D, d, hn, hS, hd => by
    have hO := hS.2.1.1
    have h3 := hS.1.1.1
    have h8 := hS.1.1.2
    have h27 := hS.2.2.2.2.1 i (by omega)
    have h30 := hS.2.2.2.2.2
    have hbd := bd_le (c := i) (by omega)
    refine ah_Ev.of (by decide +kernel) (Nat.le_of_ble_eq_true rfl) ?_
    show ah_At mt_N_tryFrom d A (rg LTc g b D) (.returned none) (rg LTc g b (srch (n + 1) i D)) 0 [(0, .ref (b + 59)), (1, .int (nI i))] [] (rg LTc g b D)
    refine b_N_tryFrom_0 (rdR (k_N_0)) (rdI (k_T_3) rfl) (fun z1 => by exfalso; replace z1 := (cvlt (nI_toInt (n := D 1 0) (by have := hO 1 0; omega)) (nI_toInt (n := i) (by omega))).mp z1; omega) (fun z1 => ?_)
    replace z1 := mt (cvlt (nI_toInt (n := D 1 0) (by have := hO 1 0; omega)) (nI_toInt (n := i) (by omega))).mpr z1
    refine b_N_tryFrom_11 (rdI (k_N_7) rfl) (rdR (k_N_4)) (ah_ix_nI (by omega)) (rdI (k_NC _ (by omega)) rfl) (rdS (k_N_8) rfl) (fun z2 => ?_) (fun z2 => ?_)
    · replace z2 := (cvlt (sI_toInt (n := D 31 0) (by have := hO 31 0; omega)) (tn_n (show ((nI (D 30 0)) + (nI (D 27 i)) : Int32) = nI ((D 30 0) + (D 27 i)) from (ad_n rfl rfl)) (by have := hO 27 i; have := hO 30 0; omega))).mp z2
      refine b_N_tryFrom_30 (rdR (k_N_0)) (rdI (k_T_3) rfl) (fun z3 => ?_) (fun z3 => by exfalso; replace z3 := (cveq (nI_toInt (n := i) (by omega)) (nI_toInt (n := D 1 0) (by have := hO 1 0; omega))).mp (Decidable.not_not.mp z3); omega)
      replace z3 := mt (cveq (nI_toInt (n := i) (by omega)) (nI_toInt (n := D 1 0) (by have := hO 1 0; omega))).mpr z3
      refine b_N_tryFrom_65 ?_
      rw [srch, if_neg (by omega)]
      exact lo_tryFrom hA hn (fun d D1 h1 h2 h3 => c_tryFrom hA n (i + 1) D1 d (by omega) h2 h1) (by omega) _ 0 D (Nat.zero_add _) hS rfl
    · replace z2 := mt (cvlt (sI_toInt (n := D 31 0) (by have := hO 31 0; omega)) (tn_n (show ((nI (D 30 0)) + (nI (D 27 i)) : Int32) = nI ((D 30 0) + (D 27 i)) from (ad_n rfl rfl)) (by have := hO 27 i; have := hO 30 0; omega))).mpr z2
      refine rt_v ?_ (b_N_tryFrom_29 )
      · rw [srch, if_pos (by omega)]
