/-! CONTRACTS: putting the best on, weighing. Printed out of wip/ -/
noncomputable def pbs : Nat → Nat → rg_D → rg_D
  | 0, _, D => D
  | k + 1, i, D => pbs k (i + 1) (if D 29 i = 0 then D else pon D (D 29 i - 1) i)
theorem lo_putBestOn {d : Nat} {A : Nat → Prop} {g : ah_H} {b : Nat} (hA : ∀ q, b ≤ q → q < b + 75 → A q) (hd : 4 ≤ d) {h0 : ah_H} : ∀ (k i : Nat) (D : rg_D), i + k = D 1 0 → TI D → Ok D i → (∀ j, j < D 1 0 → D 29 j ≤ D 0 0) → ah_At mt_N_putBestOn d A h0 (.returned none) (rg LTc g b (pbs k i D)) 2 [(0, .ref (b + 59)), (1, .int (nI i))] [] (rg LTc g b D)
  | 0, i, D, hk, hT, hK, hB => by
    have hO := hK.1; have h3 := hT.1.1; have h8 := hT.1.2
    refine b_N_putBestOn_2 (rdR (k_N_0)) (rdI (k_T_3) rfl) (fun z1 => ?_) (fun z1 => by exfalso; replace z1 := mt (cvle (nI_toInt (n := D 1 0) (by have := hO 1 0; omega)) (nI_toInt (n := i) (by omega))).mpr z1; omega)
    replace z1 := (cvle (nI_toInt (n := D 1 0) (by have := hO 1 0; omega)) (nI_toInt (n := i) (by omega))).mp z1
    refine rt_v ?_ (b_N_putBestOn_58 )
    · rfl
  | k + 1, i, D, hk, hT, hK, hB => by
    have hO := hK.1; have h3 := hT.1.1; have h8 := hT.1.2; have hBi := hB i (by omega)
    refine b_N_putBestOn_2 (rdR (k_N_0)) (rdI (k_T_3) rfl) (fun z1 => by exfalso; replace z1 := (cvle (nI_toInt (n := D 1 0) (by have := hO 1 0; omega)) (nI_toInt (n := i) (by omega))).mp z1; omega) (fun z1 => ?_)
    replace z1 := mt (cvle (nI_toInt (n := D 1 0) (by have := hO 1 0; omega)) (nI_toInt (n := i) (by omega))).mpr z1
    refine b_N_putBestOn_13 (rdR (k_N_0)) (rdR (k_N_6)) (ah_ix_nI (by omega)) (rdS (k_NE _ (by omega)) rfl) (c_hasWagon (d := d - 1) (A := A) hO (sI_toInt (n := D 29 i) (by have := hO 29 i; omega))) (by omega) (fun q hq => hq) ?_ (rdN (k_T_0))
    refine aft_1 ?_
    refine b_N_putBestOn_26 (fun z2 => ?_) (fun z2 => ?_)
    · replace z2 := pz0.mp z2
      refine b_N_putBestOn_52 ?_
      rw [show ((nI i) + 1 : Int32) = nI (i + 1) from (ad_n rfl rfl)]
      rw [show pbs (k + 1) i D = pbs k (i + 1) D from by rw [pbs, if_pos (by omega)]]
      exact lo_putBestOn hA hd k (i + 1) D (by omega) hT ⟨hK.1, fun f j a c => by have := hK.2 f j a c; rw [bd_s]; omega⟩ hB
    · replace z2 := pz1.mp z2
      refine b_N_putBestOn_29 (rdR (k_N_1)) (rdR (k_N_6)) (ah_ix_nI (by omega)) (rdS (k_NE _ (by omega)) rfl) (ix_s (by omega) (by have := hO 29 i; omega)) (rdR (k_Ls _ (by omega))) (rdR (k_N_0)) (rdR (k_T_2)) (ah_ix_nI (by omega)) (rdR (k_Bs _ (by omega))) (c_putOn (d := d - 1) (A := A) hO hA (by omega) (by omega) (hT.2.2 i).1 (hT.2.2 i).2.1 (by omega)) (by omega) (fun q hq => hq) ?_ (rdN (k_L_0 _ (by omega)))
      refine aft_0 ?_
      refine b_N_putBestOn_52 ?_
      rw [show ((nI i) + 1 : Int32) = nI (i + 1) from (ad_n rfl rfl)]
      rw [show pbs (k + 1) i D = pbs k (i + 1) (pon D (D 29 i - 1) i) from by rw [pbs, if_neg (by omega)]]
      exact lo_putBestOn hA hd k (i + 1) _ (by rw [pon_f (by decide)]; omega) (hT.of (fun f j hf => pon_f (by omega))) (pon_ok hK (by omega) hT) (fun j hj => by rw [pon_f (by decide)] at hj; rw [pon_f (by decide), pon_f (by decide)]; exact hB j hj)
theorem c_putBestOn {d : Nat} {A : Nat → Prop} {g : ah_H} {b : Nat} (hA : ∀ q, b ≤ q → q < b + 75 → A q) {D : rg_D} (hd : 4 ≤ d) (hT : TI D) (hK : Ok D 0) (hB : ∀ j, j < D 1 0 → D 29 j ≤ D 0 0) : ah_Ev mt_N_putBestOn d A [.ref (b + 59)] (rg LTc g b D) (.returned none) (rg LTc g b (pbs (D 1 0) 0 D)) := by
  refine ah_Ev.of (by decide +kernel) (Nat.le_of_ble_eq_true rfl) ?_
  show ah_At mt_N_putBestOn d A (rg LTc g b D) (.returned none) (rg LTc g b (pbs (D 1 0) 0 D)) 0 [(0, .ref (b + 59))] [] (rg LTc g b D)
  refine b_N_putBestOn_0 ?_
  exact lo_putBestOn hA hd _ 0 D (Nat.zero_add _) hT hK hB
theorem maP_ag {D D' : rg_D} (h : ∀ f j, f < 25 → D' f j = D f j) {i w : Nat} : maP D' i w ↔ maP D i w := by
  unfold maP ruP baP lp hoP
  simp only [h 0 _ (by decide), h 2 _ (by decide), h 4 _ (by decide), h 6 _ (by decide), h 7 _ (by decide), h 8 _ (by decide), h 10 _ (by decide), h 11 _ (by decide), h 12 _ (by decide), h 13 _ (by decide), h 14 _ (by decide), h 15 _ (by decide), h 19 _ (by decide), h 22 _ (by decide), h 23 _ (by decide), h 24 _ (by decide)]
theorem swP_ag {D D' : rg_D} (h : ∀ f j, f < 25 → D' f j = D f j) {i : Nat} : swP D' i ↔ swP D i := by
  unfold swP
  simp only [h 0 _ (by decide), maP_ag h]
def wo (D : rg_D) (j : Nat) : Nat := ln (D 10 j) * 256 + 256 / 2 ^ (rk D j + 1)
theorem wo_le {D : rg_D} {j : Nat} : wo D j ≤ 4096 := by
  have h1 := ln_le (D 10 j)
  have h2 := Nat.div_le_self 256 (2 ^ (rk D j + 1))
  unfold wo
  omega
noncomputable def wbS (D : rg_D) (j : Nat) : rg_D := up (up (up D 25 (rk D j) j) 26 j (wo D j)) 27 j (D 27 (j + 1) + if pb (swP D j) then wo D j else 0)
noncomputable def wbs : Nat → rg_D → rg_D
  | 0, D => D
  | j + 1, D => wbs j (wbS D j)
def bw (c : Nat) : Nat := c * 4096
theorem bw_s {c : Nat} : bw (c + 1) = bw c + 4096 := Nat.succ_mul c 4096
theorem bw_le {c : Nat} (h : c ≤ 8) : bw c ≤ 32768 := Nat.mul_le_mul_right 4096 h
theorem wbS_f {D : rg_D} {j f k : Nat} (h : f ≠ 25 ∧ f ≠ 26 ∧ f ≠ 27) : wbS D j f k = D f k := by
  unfold wbS
  rw [up_f h.2.2, up_f h.2.1, up_f h.1]
theorem wbS_O {D : rg_D} {j : Nat} (h : ∀ f k, D f k < 2 ^ 30) (hj : j < 8) (h27 : D 27 (j + 1) ≤ 32768) : ∀ f k, wbS D j f k < 2 ^ 30 := by
  have h1 := wo_le (D := D) (j := j)
  refine up_O (up_O (up_O h (by omega)) (by omega)) ?_
  split <;> omega
theorem lo_weigh {d : Nat} {A : Nat → Prop} {g : ah_H} {b : Nat} (hA : ∀ q, b ≤ q → q < b + 75 → A q) (hd : 5 ≤ d) {h0 : ah_H} : ∀ (j : Nat) (D : rg_D), TI D → (∀ f k, D f k < 2 ^ 30) → j ≤ D 1 0 → D 27 j + bw j ≤ 32768 → ah_At mt_N_weighBoxes d A h0 (.returned none) (rg LTc g b (wbs j D)) 23 [(0, .ref (b + 59)), (1, .int (nI j - 1))] [] (rg LTc g b D)
  | 0, D, hT, hO, hj, h27 => by
    refine b_N_weighBoxes_23 (fun z1 => ?_) (fun z1 => by exfalso; replace z1 := mt (cvlt (sI_toInt (n := 0) (by decide)) (show ((0 : Int32)).toInt = 0 from by decide)).mpr z1; omega)
    replace z1 := (cvlt (sI_toInt (n := 0) (by decide)) (show ((0 : Int32)).toInt = 0 from by decide)).mp z1
    refine rt_v ?_ (b_N_weighBoxes_115 )
    · rfl
  | j + 1, D, hT, hO, hj, h27 => by
    have h8 := hT.1.2
    have hwo := wo_le (D := D) (j := j)
    rw [bw_s] at h27
    have hwo2 : ln (D 10 j) * 256 + 256 / 2 ^ (rk D j + 1) ≤ 4096 := hwo
    rw [nI_pred]
    refine b_N_weighBoxes_23 (fun z1 => by exfalso; replace z1 := (cvlt (nI_toInt (n := j) (by omega)) (show ((0 : Int32)).toInt = 0 from by decide)).mp z1; omega) (fun z1 => ?_)
    replace z1 := mt (cvlt (nI_toInt (n := j) (by omega)) (show ((0 : Int32)).toInt = 0 from by decide)).mpr z1
    refine b_N_weighBoxes_27 (rdR (k_N_0)) (c_rankOf (d := d - 1) (A := A) hO (by omega) h8) (by omega) (fun q hq => hq) ?_ (rdN (k_T_0))
    refine aft_1 ?_
    have hrk := rk_lt (D := D) (i := j) (by omega)
    refine b_N_weighBoxes_35 (o' := .returned (some (.int (nI (ln (D 10 j)))))) (h' := (rg LTc g b (up D 25 ((rk D j)) j))) (v3 := b + 62) (v4 := b + 1) (v5 := b + 3) (v6 := b + (51 + j)) (v7 := nI (D 10 j)) (rdR (k_N_2)) (hA _ (by omega) (by omega)) (ah_ix_nI (by omega)) (rdE (k_NA _ (by omega))) (by rw [stcI (x := j) (v := nI j) (k_NA _ (by omega)) rfl]; exact (rdR (k_N_3))) (by rw [stcI (x := j) (v := nI j) (k_NA _ (by omega)) rfl]; exact (rdR (k_N_0))) (by rw [stcI (x := j) (v := nI j) (k_NA _ (by omega)) rfl]; exact (rdR (k_T_2))) (ah_ix_nI (by omega)) (by rw [stcI (x := j) (v := nI j) (k_NA _ (by omega)) rfl]; exact (rdR (k_Bs _ (by omega)))) (by rw [stcI (x := j) (v := nI j) (k_NA _ (by omega)) rfl]; exact (rdI (e := D 10 j) (k_B_0 _ (by omega)) (by simp [up]))) (by rw [stcI (x := j) (v := nI j) (k_NA _ (by omega)) rfl]; exact c_lengthOfSize (d := d - 1) (A := A) (n := D 10 j) (by have := hO 10 j; omega)) (by omega) (fun q hq => hq) ?_
    refine aft_1 ?_
    refine b_N_weighBoxes_63 (o' := .returned (some (.int (bz (pb (swP (up (up D 25 ((rk D j)) j) 26 j (((ln (D 10 j)) * 256) + (256 / 2 ^ ((rk D j) + 1)))) j)))))) (h' := (rg LTc g b (up (up D 25 ((rk D j)) j) 26 j (((ln (D 10 j)) * 256) + (256 / 2 ^ ((rk D j) + 1)))))) (v2 := b + 63) (v3 := b + 63) (v4 := nI (D 27 (j + 1))) (hA _ (by omega) (by omega)) (ah_ix_nI (by omega)) (rdE (k_NB _ (by omega))) (by rw [stcI (x := ((ln (D 10 j)) * 256) + (256 / 2 ^ ((rk D j) + 1))) (v := ((nI (ln (D 10 j))) * 256) + ((256 : Int32) >>> (((nI (rk D j)) + 1) &&& 31))) (k_NB _ (by omega)) (ad_n (mu_n rfl rfl) (shr_n (ad_n rfl rfl) (by omega)))]; exact (rdR (k_N_4))) (by rw [stcI (x := ((ln (D 10 j)) * 256) + (256 / 2 ^ ((rk D j) + 1))) (v := ((nI (ln (D 10 j))) * 256) + ((256 : Int32) >>> (((nI (rk D j)) + 1) &&& 31))) (k_NB _ (by omega)) (ad_n (mu_n rfl rfl) (shr_n (ad_n rfl rfl) (by omega)))]; exact (rdR (k_N_4))) (ix_n (show ((nI j) + 1 : Int32) = nI (j + 1) from (ad_n rfl rfl)) (by omega)) (by rw [stcI (x := ((ln (D 10 j)) * 256) + (256 / 2 ^ ((rk D j) + 1))) (v := ((nI (ln (D 10 j))) * 256) + ((256 : Int32) >>> (((nI (rk D j)) + 1) &&& 31))) (k_NB _ (by omega)) (ad_n (mu_n rfl rfl) (shr_n (ad_n rfl rfl) (by omega)))]; exact (rdI (e := D 27 (j + 1)) (k_NC _ (by omega)) (by simp [up]))) (by rw [stcI (x := ((ln (D 10 j)) * 256) + (256 / 2 ^ ((rk D j) + 1))) (v := ((nI (ln (D 10 j))) * 256) + ((256 : Int32) >>> (((nI (rk D j)) + 1) &&& 31))) (k_NB _ (by omega)) (ad_n (mu_n rfl rfl) (shr_n (ad_n rfl rfl) (by omega)))]; exact c_someWagonTakes (d := d - 1) (A := A) (D := (up (up D 25 ((rk D j)) j) 26 j (((ln (D 10 j)) * 256) + (256 / 2 ^ ((rk D j) + 1))))) (up_O (up_O hO (by omega)) (by omega)) (by omega) ((hT.of (fun f j hf => by rw [up_f (by omega), up_f (by omega)])).2.2 j).1 ((hT.of (fun f j hf => by rw [up_f (by omega), up_f (by omega)])).2.2 j).2.1 (hT.of (fun f j hf => by rw [up_f (by omega), up_f (by omega)])).2.1 (hT.of (fun f j hf => by rw [up_f (by omega), up_f (by omega)])).1.1 (by omega)) (by omega) (fun q hq => hq) ?_ (by rw [stcI (x := ((ln (D 10 j)) * 256) + (256 / 2 ^ ((rk D j) + 1))) (v := ((nI (ln (D 10 j))) * 256) + ((256 : Int32) >>> (((nI (rk D j)) + 1) &&& 31))) (k_NB _ (by omega)) (ad_n (mu_n rfl rfl) (shr_n (ad_n rfl rfl) (by omega)))]; exact (rdN (k_N_0)))
    refine aft_1 ?_
    refine b_N_weighBoxes_94 (fun z2 => ?_) (fun z2 => ?_)
    · replace z2 := pz0.mp z2
      refine b_N_weighBoxes_106 ?_
      refine b_N_weighBoxes_107 (hA _ (by omega) (by omega)) (ah_ix_nI (by omega)) (rdE (k_NC _ (by omega))) ?_
      rw [stcI (x := (D 27 (j + 1)) + 0) (v := (nI (D 27 (j + 1))) + 0) (k_NC _ (by omega)) (ad_n rfl rfl)]
      rw [show ((nI j) + (-1) : Int32) = nI j - 1 from (dms_n rfl)]
      rw [show (up (up (up D 25 ((rk D j)) j) 26 j (((ln (D 10 j)) * 256) + (256 / 2 ^ ((rk D j) + 1)))) 27 j ((D 27 (j + 1)) + 0)) = wbS D j from by unfold wbS; rw [if_neg (by rw [pb_f (fun q => z2 ((swP_ag (D := D) (fun f j hf => by rw [up_f (by omega), up_f (by omega)])).mpr q))]; decide)]; rfl]
      exact lo_weigh hA hd j _ (hT.of (fun f j hf => wbS_f (by omega))) (wbS_O hO (by omega) (by omega)) (by rw [wbS_f (by decide)]; omega) (by unfold wbS; rw [up_s]; split <;> omega)
    · replace z2 := pz1.mp z2
      refine b_N_weighBoxes_97 (rdR (k_N_3)) (ah_ix_nI (by omega)) (rdI (e := ((ln (D 10 j)) * 256) + (256 / 2 ^ ((rk D j) + 1))) (k_NB _ (by omega)) (by simp [up])) ?_
      refine b_N_weighBoxes_107 (hA _ (by omega) (by omega)) (ah_ix_nI (by omega)) (rdE (k_NC _ (by omega))) ?_
      rw [stcI (x := (D 27 (j + 1)) + (((ln (D 10 j)) * 256) + (256 / 2 ^ ((rk D j) + 1)))) (v := (nI (D 27 (j + 1))) + (nI (((ln (D 10 j)) * 256) + (256 / 2 ^ ((rk D j) + 1))))) (k_NC _ (by omega)) (ad_n rfl rfl)]
      rw [show ((nI j) + (-1) : Int32) = nI j - 1 from (dms_n rfl)]
      rw [show (up (up (up D 25 ((rk D j)) j) 26 j (((ln (D 10 j)) * 256) + (256 / 2 ^ ((rk D j) + 1)))) 27 j ((D 27 (j + 1)) + (((ln (D 10 j)) * 256) + (256 / 2 ^ ((rk D j) + 1))))) = wbS D j from by unfold wbS; rw [if_pos (pb_t ((swP_ag (D := D) (fun f j hf => by rw [up_f (by omega), up_f (by omega)])).mp z2))]; rfl]
      exact lo_weigh hA hd j _ (hT.of (fun f j hf => wbS_f (by omega))) (wbS_O hO (by omega) (by omega)) (by rw [wbS_f (by decide)]; omega) (by unfold wbS; rw [up_s]; split <;> omega)
theorem c_weighBoxes {d : Nat} {A : Nat → Prop} {g : ah_H} {b : Nat} (hA : ∀ q, b ≤ q → q < b + 75 → A q) {D : rg_D} (hd : 5 ≤ d) (hT : TI D) (hO : ∀ f k, D f k < 2 ^ 30) : ah_Ev mt_N_weighBoxes d A [.ref (b + 59)] (rg LTc g b D) (.returned none) (rg LTc g b (wbs (D 1 0) (up D 27 (D 1 0) 0))) := by
  refine ah_Ev.of (by decide +kernel) (Nat.le_of_ble_eq_true rfl) ?_
  show ah_At mt_N_weighBoxes d A (rg LTc g b D) (.returned none) (rg LTc g b (wbs (D 1 0) (up D 27 (D 1 0) 0))) 0 [(0, .ref (b + 59))] [] (rg LTc g b D)
  have h8 := hT.1.2
  refine b_N_weighBoxes_0 (v5 := b + 1) (v6 := nI (D 1 0)) (rdR (k_N_4)) (rdR (k_N_0)) (rdI (k_T_3) rfl) (hA _ (by omega) (by omega)) (ah_ix_nI (by have := hO 1 0; omega)) (rdE (k_NC _ (by omega))) (by rw [stcI (x := 0) (v := 0) (k_NC _ (by omega)) rfl]; exact (rdR (k_N_0))) (by rw [stcI (x := 0) (v := 0) (k_NC _ (by omega)) rfl]; exact (rdI (e := D 1 0) (k_T_3) (by simp [up]))) ?_
  rw [stcI (x := 0) (v := 0) (k_NC _ (by omega)) rfl]
  rw [show ((nI (D 1 0)) - 1 : Int32) = nI (D 1 0) - 1 from (ss_n rfl)]
  exact lo_weigh hA hd _ _ (hT.of (fun f j hf => up_f (by omega))) (up_O hO (by decide)) (by rw [up_f (by decide)]; exact Nat.le_refl _) (by rw [up_s]; have := bw_le hT.1.2; omega)
