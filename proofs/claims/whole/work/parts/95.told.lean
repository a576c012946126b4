/-! CONTRACTS: what is told. Printed out of wip/ -/
def aW (D : rg_D) (l q a u : Nat) : rg_D := up (up (up (up (up D 3 (D 0 0) l) 4 (D 0 0) q) 5 (D 0 0) a) 6 (D 0 0) u) 0 0 (D 0 0 + 1)
theorem c_addWagon {d : Nat} {A : Nat → Prop} {g : ah_H} {b : Nat} {D : rg_D} (hO : ∀ f j, D f j < 2 ^ 30) (hA : ∀ q, b ≤ q → q < b + 75 → A q) {l q a u : Nat} (hn : D 0 0 < 3) : ah_Ev mt_T_addWagon d A [.ref (b + 1), .int (nI l), .long (lN q), .int (nI a), .int (nI u)] (rg LTc g b D) (.returned (some (.int (nI (D 0 0))))) (rg LTc g b (aW D l q a u)) := by
  refine ah_Ev.of (by decide +kernel) (Nat.le_of_ble_eq_true rfl) ?_
  show ah_At mt_T_addWagon d A (rg LTc g b D) (.returned (some (.int (nI (D 0 0))))) (rg LTc g b (aW D l q a u)) 0 [(0, .ref (b + 1)), (1, .int (nI l)), (2, .long (lN q)), (4, .int (nI a)), (5, .int (nI u))] [] (rg LTc g b D)
  refine b_T_addWagon_0 (rdI (k_T_1) rfl) (fun z1 => ?_) (fun z1 => by exfalso; replace z1 := mt (cvlt (nI_toInt (n := D 0 0) (by have := hO 0 0; omega)) (show ((3 : Int32)).toInt = 3 from by decide)).mpr z1; omega)
  replace z1 := (cvlt (nI_toInt (n := D 0 0) (by have := hO 0 0; omega)) (show ((3 : Int32)).toInt = 3 from by decide)).mp z1
  refine rt_i ?_ ?_ (b_T_addWagon_10 (v8 := nI (D 0 0)) (v10 := nI ((D 0 0) + 1)) (rdR (k_T_0)) (rdI (k_T_1) rfl) (ah_ix_nI (by have := hO 0 0; omega)) (rdR (k_Gs _ (by omega))) (hA _ (by omega) (by omega)) (rdE (k_G_2 _ (by omega))) (hA _ (by omega) (by omega)) (by rw [stcI (x := l) (v := nI l) (k_G_2 _ (by omega)) rfl]; exact (rdE (k_G_3 _ (by omega)))) (hA _ (by omega) (by omega)) (by rw [stcI (x := l) (v := nI l) (k_G_2 _ (by omega)) rfl, stcL (x := q) (v := lN q) (k_G_3 _ (by omega)) rfl]; exact (rdE (k_G_4 _ (by omega)))) (hA _ (by omega) (by omega)) (by rw [stcI (x := l) (v := nI l) (k_G_2 _ (by omega)) rfl, stcL (x := q) (v := lN q) (k_G_3 _ (by omega)) rfl, stcI (x := a) (v := nI a) (k_G_4 _ (by omega)) rfl]; exact (rdE (k_G_5 _ (by omega)))) (by rw [stcI (x := l) (v := nI l) (k_G_2 _ (by omega)) rfl, stcL (x := q) (v := lN q) (k_G_3 _ (by omega)) rfl, stcI (x := a) (v := nI a) (k_G_4 _ (by omega)) rfl, stcI (x := u) (v := nI u) (k_G_5 _ (by omega)) rfl]; exact (rdI (e := D 0 0) (k_T_1) (by simp [up]))) (hA _ (by omega) (by omega)) (by rw [stcI (x := l) (v := nI l) (k_G_2 _ (by omega)) rfl, stcL (x := q) (v := lN q) (k_G_3 _ (by omega)) rfl, stcI (x := a) (v := nI a) (k_G_4 _ (by omega)) rfl, stcI (x := u) (v := nI u) (k_G_5 _ (by omega)) rfl]; exact (rdE (k_T_1))) (by rw [stcI (x := l) (v := nI l) (k_G_2 _ (by omega)) rfl, stcL (x := q) (v := lN q) (k_G_3 _ (by omega)) rfl, stcI (x := a) (v := nI a) (k_G_4 _ (by omega)) rfl, stcI (x := u) (v := nI u) (k_G_5 _ (by omega)) rfl, stcI (x := (D 0 0) + 1) (v := (nI (D 0 0)) + 1) (k_T_1) (ad_n rfl rfl)]; exact (rdI (e := (D 0 0) + 1) (k_T_1) (by simp [up]))))
  · exact nI_pred _
  · rw [stcI (x := l) (v := nI l) (k_G_2 _ (by omega)) rfl, stcL (x := q) (v := lN q) (k_G_3 _ (by omega)) rfl, stcI (x := a) (v := nI a) (k_G_4 _ (by omega)) rfl, stcI (x := u) (v := nI u) (k_G_5 _ (by omega)) rfl, stcI (x := (D 0 0) + 1) (v := (nI (D 0 0)) + 1) (k_T_1) (ad_n rfl rfl)] <;> (rfl)
def aB (D : rg_D) (s q h u t : Nat) : rg_D := up (up (up (up (up (up D 10 (D 1 0) s) 11 (D 1 0) q) 12 (D 1 0) h) 13 (D 1 0) u) 14 (D 1 0) t) 1 0 (D 1 0 + 1)
theorem c_addBox {d : Nat} {A : Nat → Prop} {g : ah_H} {b : Nat} {D : rg_D} (hO : ∀ f j, D f j < 2 ^ 30) (hA : ∀ q, b ≤ q → q < b + 75 → A q) {s q h u t : Nat} (hn : D 1 0 < 8) : ah_Ev mt_T_addBox d A [.ref (b + 1), .int (nI s), .long (lN q), .int (nI h), .int (nI u), .long (lN t)] (rg LTc g b D) (.returned (some (.int (nI (D 1 0))))) (rg LTc g b (aB D s q h u t)) := by
  refine ah_Ev.of (by decide +kernel) (Nat.le_of_ble_eq_true rfl) ?_
  show ah_At mt_T_addBox d A (rg LTc g b D) (.returned (some (.int (nI (D 1 0))))) (rg LTc g b (aB D s q h u t)) 0 [(0, .ref (b + 1)), (1, .int (nI s)), (2, .long (lN q)), (4, .int (nI h)), (5, .int (nI u)), (6, .long (lN t))] [] (rg LTc g b D)
  refine b_T_addBox_0 (rdI (k_T_3) rfl) (fun z1 => ?_) (fun z1 => by exfalso; replace z1 := mt (cvlt (nI_toInt (n := D 1 0) (by have := hO 1 0; omega)) (show ((8 : Int32)).toInt = 8 from by decide)).mpr z1; omega)
  replace z1 := (cvlt (nI_toInt (n := D 1 0) (by have := hO 1 0; omega)) (show ((8 : Int32)).toInt = 8 from by decide)).mp z1
  refine rt_i ?_ ?_ (b_T_addBox_11 (v9 := nI (D 1 0)) (v11 := nI ((D 1 0) + 1)) (rdR (k_T_2)) (rdI (k_T_3) rfl) (ah_ix_nI (by have := hO 1 0; omega)) (rdR (k_Bs _ (by omega))) (hA _ (by omega) (by omega)) (rdE (k_B_0 _ (by omega))) (hA _ (by omega) (by omega)) (by rw [stcI (x := s) (v := nI s) (k_B_0 _ (by omega)) rfl]; exact (rdE (k_B_1 _ (by omega)))) (hA _ (by omega) (by omega)) (by rw [stcI (x := s) (v := nI s) (k_B_0 _ (by omega)) rfl, stcL (x := q) (v := lN q) (k_B_1 _ (by omega)) rfl]; exact (rdE (k_B_2 _ (by omega)))) (hA _ (by omega) (by omega)) (by rw [stcI (x := s) (v := nI s) (k_B_0 _ (by omega)) rfl, stcL (x := q) (v := lN q) (k_B_1 _ (by omega)) rfl, stcI (x := h) (v := nI h) (k_B_2 _ (by omega)) rfl]; exact (rdE (k_B_3 _ (by omega)))) (hA _ (by omega) (by omega)) (by rw [stcI (x := s) (v := nI s) (k_B_0 _ (by omega)) rfl, stcL (x := q) (v := lN q) (k_B_1 _ (by omega)) rfl, stcI (x := h) (v := nI h) (k_B_2 _ (by omega)) rfl, stcI (x := u) (v := nI u) (k_B_3 _ (by omega)) rfl]; exact (rdE (k_B_4 _ (by omega)))) (by rw [stcI (x := s) (v := nI s) (k_B_0 _ (by omega)) rfl, stcL (x := q) (v := lN q) (k_B_1 _ (by omega)) rfl, stcI (x := h) (v := nI h) (k_B_2 _ (by omega)) rfl, stcI (x := u) (v := nI u) (k_B_3 _ (by omega)) rfl, stcL (x := t) (v := lN t) (k_B_4 _ (by omega)) rfl]; exact (rdI (e := D 1 0) (k_T_3) (by simp [up]))) (hA _ (by omega) (by omega)) (by rw [stcI (x := s) (v := nI s) (k_B_0 _ (by omega)) rfl, stcL (x := q) (v := lN q) (k_B_1 _ (by omega)) rfl, stcI (x := h) (v := nI h) (k_B_2 _ (by omega)) rfl, stcI (x := u) (v := nI u) (k_B_3 _ (by omega)) rfl, stcL (x := t) (v := lN t) (k_B_4 _ (by omega)) rfl]; exact (rdE (k_T_3))) (by rw [stcI (x := s) (v := nI s) (k_B_0 _ (by omega)) rfl, stcL (x := q) (v := lN q) (k_B_1 _ (by omega)) rfl, stcI (x := h) (v := nI h) (k_B_2 _ (by omega)) rfl, stcI (x := u) (v := nI u) (k_B_3 _ (by omega)) rfl, stcL (x := t) (v := lN t) (k_B_4 _ (by omega)) rfl, stcI (x := (D 1 0) + 1) (v := (nI (D 1 0)) + 1) (k_T_3) (ad_n rfl rfl)]; exact (rdI (e := (D 1 0) + 1) (k_T_3) (by simp [up]))))
  · exact nI_pred _
  · rw [stcI (x := s) (v := nI s) (k_B_0 _ (by omega)) rfl, stcL (x := q) (v := lN q) (k_B_1 _ (by omega)) rfl, stcI (x := h) (v := nI h) (k_B_2 _ (by omega)) rfl, stcI (x := u) (v := nI u) (k_B_3 _ (by omega)) rfl, stcL (x := t) (v := lN t) (k_B_4 _ (by omega)) rfl, stcI (x := (D 1 0) + 1) (v := (nI (D 1 0)) + 1) (k_T_3) (ad_n rfl rfl)] <;> (rfl)
def apS (D : rg_D) (w p c : Nat) : rg_D := if (1 ≤ c ∧ c ≤ 3) ∧ D 17 (4 * w + p) < 4 then up (up (up D 18 (16 * w + 4 * p + D 17 (4 * w + p)) c) 19 (16 * w + 4 * p + c) (D 19 (16 * w + 4 * p + c) + 1)) 17 (4 * w + p) (D 17 (4 * w + p) + 1) else D
theorem ap_step {d : Nat} {A : Nat → Prop} {g : ah_H} {b : Nat} {D : rg_D} (hO : ∀ f j, D f j < 2 ^ 30) (hA : ∀ q, b ≤ q → q < b + 75 → A q) {w p n u : Nat} (hw : w < 3) (hp : p < 4) (hn : n < 2 ^ 31) (hu : 0 < u) (hu2 : u < 2 ^ 31) (hd : 1 ≤ d) {h0 h2 : ah_H} {o : Outcome} (k : ah_At mt_P_addPlaces d A h0 o h2 4 [(0, .ref (b + (11 + 14 * w + 3 * p))), (1, .int (nI n)), (2, .int (nI (u / 10)))] [] (rg LTc g b (apS D w p (n / u % 10)))) : ah_At mt_P_addPlaces d A h0 o h2 4 [(0, .ref (b + (11 + 14 * w + 3 * p))), (1, .int (nI n)), (2, .int (nI u))] [] (rg LTc g b D) := by
  have hq := Nat.div_le_self n u
  refine b_P_addPlaces_4 (fun z1 => by exfalso; replace z1 := (cvle (nI_toInt (n := u) (by omega)) (show ((0 : Int32)).toInt = 0 from by decide)).mp z1; omega) (fun z1 => ?_)
  replace z1 := mt (cvle (nI_toInt (n := u) (by omega)) (show ((0 : Int32)).toInt = 0 from by decide)).mpr z1
  refine b_P_addPlaces_8 (nz_n rfl (by omega) (by omega)) (c_isBetween (d := d - 1) (A := A) (tl_n (show (Int32.toInt64 (((nI n) / (nI u)) - ((nI n) / (nI u)) / 10 * 10) : Int64) = lN ((n / u) % 10) from (il_n (rm_n (dv_n rfl rfl (by omega) (by omega) (by omega)) rfl (by omega) (by omega) (by decide)) (by omega))) (by omega)) (show ((1 : Int64)).toInt = 1 from by decide) (show ((3 : Int64)).toInt = 3 from by decide)) (by omega) (fun q hq => hq) ?_
  refine aft_1 ?_
  rw [show (((nI n) / (nI u)) - ((nI n) / (nI u)) / 10 * 10 : Int32) = nI ((n / u) % 10) from (rm_n (dv_n rfl rfl (by omega) (by omega) (by omega)) rfl (by omega) (by omega) (by decide))]
  refine b_P_addPlaces_24 (fun z2 => ?_) (fun z2 => ?_)
  · replace z2 := pz0.mp z2
    refine b_P_addPlaces_65 ?_
    rw [show ((nI u) / 10 : Int32) = nI (u / 10) from (dv_n rfl rfl (by omega) (by omega) (by decide))]
    rw [show D = apS D w p (n / u % 10) from by unfold apS; rw [if_neg (by omega)]]
    exact k
  · replace z2 := pz1.mp z2
    refine b_P_addPlaces_27 (rdI (k_P_2 _ (by omega) _ (by omega)) rfl) (fun z3 => ?_) (fun z3 => ?_)
    · replace z3 := (cvle (show ((4 : Int32)).toInt = 4 from by decide) (nI_toInt (n := D 17 (4 * w + p)) (by have := hO 17 (4 * w + p); omega))).mp z3
      refine b_P_addPlaces_65 ?_
      rw [show ((nI u) / 10 : Int32) = nI (u / 10) from (dv_n rfl rfl (by omega) (by omega) (by decide))]
      rw [show D = apS D w p (n / u % 10) from by unfold apS; rw [if_neg (by omega)]]
      exact k
    · replace z3 := mt (cvle (show ((4 : Int32)).toInt = 4 from by decide) (nI_toInt (n := D 17 (4 * w + p)) (by have := hO 17 (4 * w + p); omega))).mpr z3
      refine b_P_addPlaces_35 (v4 := b + (13 + 14 * w + 3 * p)) (v5 := nI (D 19 (16 * w + 4 * p + ((n / u) % 10)))) (v7 := nI (D 17 (4 * w + p))) (rdR (k_P_0 _ (by omega) _ (by omega))) (rdI (k_P_2 _ (by omega) _ (by omega)) rfl) (hA _ (by omega) (by omega)) (ah_ix_nI (by have := hO 17 (4 * w + p); omega)) (rdE (k_PA _ (by omega) _ (by omega) _ (by omega))) (by rw [stcI (x := (n / u) % 10) (v := nI ((n / u) % 10)) (k_PA _ (by omega) _ (by omega) _ (by omega)) rfl]; exact (rdR (k_P_1 _ (by omega) _ (by omega)))) (ah_ix_nI (by omega)) (by rw [stcI (x := (n / u) % 10) (v := nI ((n / u) % 10)) (k_PA _ (by omega) _ (by omega) _ (by omega)) rfl]; exact (rdI (e := D 19 (16 * w + 4 * p + ((n / u) % 10))) (k_PB _ (by omega) _ (by omega) _ (by omega)) (by simp [up]))) (hA _ (by omega) (by omega)) (ah_ix_nI (by omega)) (by rw [stcI (x := (n / u) % 10) (v := nI ((n / u) % 10)) (k_PA _ (by omega) _ (by omega) _ (by omega)) rfl]; exact (rdE (k_PB _ (by omega) _ (by omega) _ (by omega)))) (by rw [stcI (x := (n / u) % 10) (v := nI ((n / u) % 10)) (k_PA _ (by omega) _ (by omega) _ (by omega)) rfl, stcI (x := (D 19 (16 * w + 4 * p + ((n / u) % 10))) + 1) (v := (nI (D 19 (16 * w + 4 * p + ((n / u) % 10)))) + 1) (k_PB _ (by omega) _ (by omega) _ (by omega)) (ad_n rfl rfl)]; exact (rdI (e := D 17 (4 * w + p)) (k_P_2 _ (by omega) _ (by omega)) (by simp [up]))) (hA _ (by omega) (by omega)) (by rw [stcI (x := (n / u) % 10) (v := nI ((n / u) % 10)) (k_PA _ (by omega) _ (by omega) _ (by omega)) rfl, stcI (x := (D 19 (16 * w + 4 * p + ((n / u) % 10))) + 1) (v := (nI (D 19 (16 * w + 4 * p + ((n / u) % 10)))) + 1) (k_PB _ (by omega) _ (by omega) _ (by omega)) (ad_n rfl rfl)]; exact (rdE (k_P_2 _ (by omega) _ (by omega)))) ?_
      rw [stcI (x := (n / u) % 10) (v := nI ((n / u) % 10)) (k_PA _ (by omega) _ (by omega) _ (by omega)) rfl, stcI (x := (D 19 (16 * w + 4 * p + ((n / u) % 10))) + 1) (v := (nI (D 19 (16 * w + 4 * p + ((n / u) % 10)))) + 1) (k_PB _ (by omega) _ (by omega) _ (by omega)) (ad_n rfl rfl), stcI (x := (D 17 (4 * w + p)) + 1) (v := (nI (D 17 (4 * w + p))) + 1) (k_P_2 _ (by omega) _ (by omega)) (ad_n rfl rfl)]
      refine b_P_addPlaces_65 ?_
      rw [show ((nI u) / 10 : Int32) = nI (u / 10) from (dv_n rfl rfl (by omega) (by omega) (by decide))]
      rw [show (up (up (up D 18 ((16 * w + 4 * p + (D 17 (4 * w + p)))) ((n / u) % 10)) 19 ((16 * w + 4 * p + ((n / u) % 10))) ((D 19 (16 * w + 4 * p + ((n / u) % 10))) + 1)) 17 ((4 * w + p)) ((D 17 (4 * w + p)) + 1)) = apS D w p (n / u % 10) from by unfold apS; rw [if_pos ⟨⟨by omega, by omega⟩, by omega⟩]]
      exact k
def apN (D : rg_D) (w p n : Nat) : rg_D := apS (apS (apS (apS D w p (n / 1000 % 10)) w p (n / 100 % 10)) w p (n / 10 % 10)) w p (n / 1 % 10)
theorem apS_O {D : rg_D} {w p c q : Nat} (h : ∀ f j, D f j < 2 ^ 30) (hq : ∀ t, D 19 (16 * w + 4 * p + t) ≤ q) (hq2 : q < 2 ^ 29) : (∀ f j, apS D w p c f j < 2 ^ 30) ∧ ∀ t, apS D w p c 19 (16 * w + 4 * p + t) ≤ q + 1 := by
  constructor
  · intro f j
    have h1 := h f j
    have h2 := hq c
    unfold apS
    split
    · unfold up
      split
      · omega
      · split
        · omega
        · split <;> omega
    · exact h1
  · intro t
    have h1 := hq t
    have h2 := hq c
    unfold apS
    split
    · unfold up
      split
      · omega
      · split
        · omega
        · split <;> omega
    · omega
theorem c_addPlaces {d : Nat} {A : Nat → Prop} {g : ah_H} {b : Nat} {D : rg_D} (hO : ∀ f j, D f j < 2 ^ 30) (hA : ∀ q, b ≤ q → q < b + 75 → A q) {w p n : Nat} (hw : w < 3) (hp : p < 4) (hn : n < 2 ^ 31) (hz : ∀ t, D 19 (16 * w + 4 * p + t) ≤ 100) (hd : 1 ≤ d) : ah_Ev mt_P_addPlaces d A [.ref (b + (11 + 14 * w + 3 * p)), .int (nI n)] (rg LTc g b D) (.returned none) (rg LTc g b (apN D w p n)) := by
  refine ah_Ev.of (by decide +kernel) (Nat.le_of_ble_eq_true rfl) ?_
  show ah_At mt_P_addPlaces d A (rg LTc g b D) (.returned none) (rg LTc g b (apN D w p n)) 0 [(0, .ref (b + (11 + 14 * w + 3 * p))), (1, .int (nI n))] [] (rg LTc g b D)
  have o1 := apS_O (c := n / 1000 % 10) hO hz (by decide)
  have o2 := apS_O (c := n / 100 % 10) o1.1 o1.2 (by decide)
  have o3 := apS_O (c := n / 10 % 10) o2.1 o2.2 (by decide)
  refine b_P_addPlaces_0 ?_
  refine ap_step (u := 1000) hO hA hw hp hn (by decide) (by decide) hd ?_
  refine ap_step (u := 100) o1.1 hA hw hp hn (by decide) (by decide) hd ?_
  refine ap_step (u := 10) o2.1 hA hw hp hn (by decide) (by decide) hd ?_
  refine ap_step (u := 1) o3.1 hA hw hp hn (by decide) (by decide) hd ?_
  refine b_P_addPlaces_4 (fun _ => ?_) (fun z => absurd (show (nI (1 / 10) : Int32) ≤ 0 by decide) z)
  exact b_P_addPlaces_73
noncomputable def aP (D : rg_D) (w n : Nat) : rg_D := up (apN D w (D 8 w) n) 8 w (D 8 w + 1)
theorem apS_8 {D : rg_D} {w p c f j : Nat} (h : f < 17) : apS D w p c f j = D f j := by
  unfold apS
  split
  · rw [up_f (by omega), up_f (by omega), up_f (by omega)]
  · rfl
theorem apN_8 {D : rg_D} {w p c f j : Nat} (h : f < 17) : apN D w p c f j = D f j := by
  unfold apN
  rw [apS_8 h, apS_8 h, apS_8 h, apS_8 h]
theorem c_addPattern {d : Nat} {A : Nat → Prop} {g : ah_H} {b : Nat} {D : rg_D} (hO : ∀ f j, D f j < 2 ^ 30) (hA : ∀ q, b ≤ q → q < b + 75 → A q) {w n : Nat} (hw : w < 3) (hp : D 8 w < 4) (hn : n < 2 ^ 31) (hz : ∀ p t, D 19 (16 * w + 4 * p + t) ≤ 100) (hd : 2 ≤ d) : ah_Ev mt_G_addPattern d A [.ref (b + (9 + 14 * w)), .int (nI n)] (rg LTc g b D) (.returned (some (.int (nI (D 8 w))))) (rg LTc g b (aP D w n)) := by
  refine ah_Ev.of (by decide +kernel) (Nat.le_of_ble_eq_true rfl) ?_
  show ah_At mt_G_addPattern d A (rg LTc g b D) (.returned (some (.int (nI (D 8 w))))) (rg LTc g b (aP D w n)) 0 [(0, .ref (b + (9 + 14 * w))), (1, .int (nI n))] [] (rg LTc g b D)
  refine b_G_addPattern_0 (rdI (k_G_1 _ hw) rfl) (fun z1 => ?_) (fun z1 => absurd (nI_lt (a := D 8 w) (b := 4) (by omega) (by decide)) z1)
  refine b_G_addPattern_10 (rdR (k_G_0 _ hw)) (rdI (k_G_1 _ hw) rfl) (ah_ix_nI (by omega)) (rdR (k_Ps _ hw _ hp)) (c_addPlaces (d := d - 1) (A := A) hO hA hw hp hn (hz _) (by omega)) (by omega) (fun q hq => hq) ?_ (rdN (k_P_0 _ hw _ hp))
  refine aft_0 ?_
  have e8 : apN D w (D 8 w) n 8 w = D 8 w := apN_8 (by decide)
  refine rt_i ?_ ?_ (b_G_addPattern_23 (v3 := nI (D 8 w + 1)) (rdI (k_G_1 _ hw) e8) (hA _ (by omega) (by omega)) (rdE (k_G_1 _ hw)) (by rw [stcI (x := D 8 w + 1) (v := nI (D 8 w) + 1) (k_G_1 _ hw) (ad_n rfl rfl)]; exact rdI (k_G_1 _ hw) (by simp [up])))
  · exact nI_pred _
  · rw [stcI (x := D 8 w + 1) (v := nI (D 8 w) + 1) (k_G_1 _ hw) (ad_n rfl rfl)]
    rfl
