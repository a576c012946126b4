/-! CONTRACTS: Planner reads. Printed out of wip/ -/
def baP (D : rg_D) (dg l r : Nat) : Prop := ∃ k, (1 ≤ k ∧ k < 4) ∧ 0 < D 24 (4 * l + k) ∧ r ≤ D 15 (4 * dg + k)
theorem lo_isBarred {d : Nat} {A : Nat → Prop} {g : ah_H} {b : Nat} {D : rg_D} (hO : ∀ f j, D f j < 2 ^ 30) {dg l r : Nat} (hg : dg < 4) (hl : l < 3) (hr : r < 4) {h0 : ah_H} : ∀ (k s : Nat), s + k = 4 → 1 ≤ s → (∀ t, 1 ≤ t → t < s → ¬ (0 < D 24 (4 * l + t) ∧ r ≤ D 15 (4 * dg + t))) → ah_At mt_N_isBarred d A h0 (.returned (some (.int (bz (pb (baP D dg l r)))))) (rg LTc g b D) 3 [(0, .ref (b + 59)), (1, .int (nI dg)), (2, .ref (b + (66 + 3 * l))), (3, .int (nI r)), (4, .int (nI s))] [] (rg LTc g b D)
  | 0, s, hk, h1s, hI => by
    refine b_N_isBarred_3 (fun z1 => ?_) (fun z1 => by exfalso; replace z1 := mt (cvlt (show ((3 : Int32)).toInt = 3 from by decide) (nI_toInt (n := s) (by omega))).mpr z1; omega)
    replace z1 := (cvlt (show ((3 : Int32)).toInt = 3 from by decide) (nI_toInt (n := s) (by omega))).mp z1
    refine rt_i ?_ ?_ (b_N_isBarred_43 )
    · refine bz_np ?_; rintro ⟨t, h1, h2⟩; exact hI t h1.1 (by omega) h2
    · rfl
  | k + 1, s, hk, h1s, hI => by
    refine b_N_isBarred_3 (fun z1 => by exfalso; replace z1 := (cvlt (show ((3 : Int32)).toInt = 3 from by decide) (nI_toInt (n := s) (by omega))).mp z1; omega) (fun z1 => ?_)
    replace z1 := mt (cvlt (show ((3 : Int32)).toInt = 3 from by decide) (nI_toInt (n := s) (by omega))).mpr z1
    refine b_N_isBarred_9 (rdR (k_L_1 _ (by omega))) (ah_ix_nI (by omega)) (rdI (k_LB _ (by omega) _ (by omega)) rfl) (fun z2 => ?_) (fun z2 => ?_)
    · replace z2 := (cvle (nI_toInt (n := D 24 (4 * l + s)) (by have := hO 24 (4 * l + s); omega)) (show ((0 : Int32)).toInt = 0 from by decide)).mp z2
      refine b_N_isBarred_37 ?_
      rw [show ((nI s) + 1 : Int32) = nI (s + 1) from (ad_n rfl rfl)]
      exact lo_isBarred hO hg hl hr k (s + 1) (by omega) (by omega) (fun t h1 h2 => by
        by_cases e : t = s
        · subst e; omega
        · exact hI t h1 (by omega))
    · replace z2 := mt (cvle (nI_toInt (n := D 24 (4 * l + s)) (by have := hO 24 (4 * l + s); omega)) (show ((0 : Int32)).toInt = 0 from by decide)).mpr z2
      refine b_N_isBarred_19 (rdR (k_N_0)) (rdR (k_T_4)) (ah_ix_nI (by omega)) (rdR (k_RR _ (by omega))) (ah_ix_nI (by omega)) (rdI (k_R _ (by omega) _ (by omega)) rfl) (fun z3 => ?_) (fun z3 => ?_)
      · replace z3 := (cvlt (nI_toInt (n := D 15 (4 * dg + s)) (by have := hO 15 (4 * dg + s); omega)) (nI_toInt (n := r) (by omega))).mp z3
        refine b_N_isBarred_37 ?_
        rw [show ((nI s) + 1 : Int32) = nI (s + 1) from (ad_n rfl rfl)]
        exact lo_isBarred hO hg hl hr k (s + 1) (by omega) (by omega) (fun t h1 h2 => by
          by_cases e : t = s
          · subst e; omega
          · exact hI t h1 (by omega))
      · replace z3 := mt (cvlt (nI_toInt (n := D 15 (4 * dg + s)) (by have := hO 15 (4 * dg + s); omega)) (nI_toInt (n := r) (by omega))).mpr z3
        refine rt_i ?_ ?_ (b_N_isBarred_35 )
        · refine bz_p ⟨s, ⟨by omega, by omega⟩, by omega, by omega⟩
        · rfl
theorem c_isBarred {d : Nat} {A : Nat → Prop} {g : ah_H} {b : Nat} {D : rg_D} (hO : ∀ f j, D f j < 2 ^ 30) {dg l r : Nat} (hg : dg < 4) (hl : l < 3) (hr : r < 4) : ah_Ev mt_N_isBarred d A [.ref (b + 59), .int (nI dg), .ref (b + (66 + 3 * l)), .int (nI r)] (rg LTc g b D) (.returned (some (.int (bz (pb (baP D dg l r)))))) (rg LTc g b D) := by
  refine ah_Ev.of (by decide +kernel) (Nat.le_of_ble_eq_true rfl) ?_
  show ah_At mt_N_isBarred d A (rg LTc g b D) (.returned (some (.int (bz (pb (baP D dg l r)))))) (rg LTc g b D) 0 [(0, .ref (b + 59)), (1, .int (nI dg)), (2, .ref (b + (66 + 3 * l))), (3, .int (nI r))] [] (rg LTc g b D)
  refine b_N_isBarred_0 ?_
  exact lo_isBarred hO hg hl hr 3 1 (by decide) (by decide) (fun t h1 h2 => by omega)
def ruP (D : rg_D) (dg w : Nat) : Prop := ∀ n, n < D 0 0 → (n + 1 = w ∨ n = w ∨ n = w + 1) → ¬ baP D dg n (if n = w then 1 else 2)
theorem lo_rulesAllow {d : Nat} {A : Nat → Prop} {g : ah_H} {b : Nat} {D : rg_D} (hO : ∀ f j, D f j < 2 ^ 30) {dg w : Nat} (hg : dg < 4) (hw : w < 3) (hn : D 0 0 ≤ 3) (hd : 2 ≤ d) {h0 : ah_H} : ∀ (k e : Nat), e + k = w + 3 → w ≤ e → (∀ n, n < D 0 0 → (n + 1 = w ∨ n = w ∨ n = w + 1) → n + 1 < e → ¬ baP D dg n (if n = w then 1 else 2)) → ah_At mt_N_rulesAllow d A h0 (.returned (some (.int (bz (pb (ruP D dg w)))))) (rg LTc g b D) 4 [(0, .ref (b + 59)), (1, .int (nI dg)), (2, .int (nI w)), (3, .int (nI e - 1))] [] (rg LTc g b D)
  | 0, e, hk, hwe, hI => by
    refine b_N_rulesAllow_4 (fun z1 => ?_) (fun z1 => by exfalso; replace z1 := mt (cvlt (tn_n (show ((nI w) + 1 : Int32) = nI (w + 1) from (ad_n rfl rfl)) (by omega)) (sI_toInt (n := e) (by omega))).mpr z1; omega)
    replace z1 := (cvlt (tn_n (show ((nI w) + 1 : Int32) = nI (w + 1) from (ad_n rfl rfl)) (by omega)) (sI_toInt (n := e) (by omega))).mp z1
    refine rt_i ?_ ?_ (b_N_rulesAllow_58 )
    · refine bz_p (fun n h1 h2 => hI n h1 h2 (by omega))
    · rfl
  | k + 1, e, hk, hwe, hI => by
    refine b_N_rulesAllow_4 (fun z1 => by exfalso; replace z1 := (cvlt (tn_n (show ((nI w) + 1 : Int32) = nI (w + 1) from (ad_n rfl rfl)) (by omega)) (sI_toInt (n := e) (by omega))).mp z1; omega) (fun z1 => ?_)
    replace z1 := mt (cvlt (tn_n (show ((nI w) + 1 : Int32) = nI (w + 1) from (ad_n rfl rfl)) (by omega)) (sI_toInt (n := e) (by omega))).mpr z1
    refine b_N_rulesAllow_11 (fun z2 => ?_) (fun z2 => ?_)
    · replace z2 := mt (cveq (sI_toInt (n := e) (by omega)) (nI_toInt (n := w) (by omega))).mpr z2
      refine b_N_rulesAllow_20 ?_
      refine b_N_rulesAllow_21 (rdR (k_N_0)) (c_hasWagon (d := d - 1) (A := A) hO (sI_toInt (n := e) (by omega))) (by omega) (fun q hq => hq) ?_ (rdN (k_T_0))
      refine aft_1 ?_
      refine b_N_rulesAllow_31 (fun z3 => ?_) (fun z3 => ?_)
      · replace z3 := pz0.mp z3
        refine b_N_rulesAllow_52 ?_
        rw [show ((nI e - 1) + 1 : Int32) = nI e from (sp_n rfl)]
        exact (nI_pred e) ▸ lo_rulesAllow hO hg hw hn hd k (e + 1) (by omega) (by omega) (fun n h1 h2 h3 => by
          by_cases q : n + 1 = e
          · subst q; first | (exfalso; omega) | (rw [if_neg (by omega)]; assumption) | (rw [if_pos (by omega)]; assumption)
          · exact hI n h1 h2 (by omega))
      · replace z3 := pz1.mp z3
        refine b_N_rulesAllow_34 (rdR (k_N_1)) (ix_s (by omega) (by omega)) (rdR (k_Ls _ (by omega))) (c_isBarred (d := d - 1) (A := A) (dg := dg) (l := (((e - 1)))) (r := 2) hO hg (by omega) (by decide)) (by omega) (fun q hq => hq) ?_ (rdN (k_N_0))
        refine aft_1 ?_
        refine b_N_rulesAllow_47 (fun z4 => ?_) (fun z4 => ?_)
        · replace z4 := pz0.mp z4
          refine b_N_rulesAllow_52 ?_
          rw [show ((nI e - 1) + 1 : Int32) = nI e from (sp_n rfl)]
          exact (nI_pred e) ▸ lo_rulesAllow hO hg hw hn hd k (e + 1) (by omega) (by omega) (fun n h1 h2 h3 => by
            by_cases q : n + 1 = e
            · subst q; first | (exfalso; omega) | (rw [if_neg (by omega)]; assumption) | (rw [if_pos (by omega)]; assumption)
            · exact hI n h1 h2 (by omega))
        · replace z4 := pz1.mp z4
          refine rt_i ?_ ?_ (b_N_rulesAllow_50 )
          · refine bz_np ?_; intro q; refine q (e - 1) (by omega) (by omega) ?_; first | (rw [if_neg (by omega)]; assumption) | (rw [if_pos (by omega)]; assumption)
          · rfl
    · replace z2 := (cveq (sI_toInt (n := e) (by omega)) (nI_toInt (n := w) (by omega))).mp (Decidable.not_not.mp z2)
      refine b_N_rulesAllow_16 ?_
      refine b_N_rulesAllow_21 (rdR (k_N_0)) (c_hasWagon (d := d - 1) (A := A) hO (sI_toInt (n := e) (by omega))) (by omega) (fun q hq => hq) ?_ (rdN (k_T_0))
      refine aft_1 ?_
      refine b_N_rulesAllow_31 (fun z5 => ?_) (fun z5 => ?_)
      · replace z5 := pz0.mp z5
        refine b_N_rulesAllow_52 ?_
        rw [show ((nI e - 1) + 1 : Int32) = nI e from (sp_n rfl)]
        exact (nI_pred e) ▸ lo_rulesAllow hO hg hw hn hd k (e + 1) (by omega) (by omega) (fun n h1 h2 h3 => by
          by_cases q : n + 1 = e
          · subst q; first | (exfalso; omega) | (rw [if_neg (by omega)]; assumption) | (rw [if_pos (by omega)]; assumption)
          · exact hI n h1 h2 (by omega))
      · replace z5 := pz1.mp z5
        refine b_N_rulesAllow_34 (rdR (k_N_1)) (ix_s (by omega) (by omega)) (rdR (k_Ls _ (by omega))) (c_isBarred (d := d - 1) (A := A) (dg := dg) (l := (((e - 1)))) (r := 1) hO hg (by omega) (by decide)) (by omega) (fun q hq => hq) ?_ (rdN (k_N_0))
        refine aft_1 ?_
        refine b_N_rulesAllow_47 (fun z6 => ?_) (fun z6 => ?_)
        · replace z6 := pz0.mp z6
          refine b_N_rulesAllow_52 ?_
          rw [show ((nI e - 1) + 1 : Int32) = nI e from (sp_n rfl)]
          exact (nI_pred e) ▸ lo_rulesAllow hO hg hw hn hd k (e + 1) (by omega) (by omega) (fun n h1 h2 h3 => by
            by_cases q : n + 1 = e
            · subst q; first | (exfalso; omega) | (rw [if_neg (by omega)]; assumption) | (rw [if_pos (by omega)]; assumption)
            · exact hI n h1 h2 (by omega))
        · replace z6 := pz1.mp z6
          refine rt_i ?_ ?_ (b_N_rulesAllow_50 )
          · refine bz_np ?_; intro q; refine q (e - 1) (by omega) (by omega) ?_; first | (rw [if_neg (by omega)]; assumption) | (rw [if_pos (by omega)]; assumption)
          · rfl
theorem c_rulesAllow {d : Nat} {A : Nat → Prop} {g : ah_H} {b : Nat} {D : rg_D} (hO : ∀ f j, D f j < 2 ^ 30) {dg w : Nat} (hg : dg < 4) (hw : w < 3) (hn : D 0 0 ≤ 3) (hd : 2 ≤ d) : ah_Ev mt_N_rulesAllow d A [.ref (b + 59), .int (nI dg), .int (nI w)] (rg LTc g b D) (.returned (some (.int (bz (pb (ruP D dg w)))))) (rg LTc g b D) := by
  refine ah_Ev.of (by decide +kernel) (Nat.le_of_ble_eq_true rfl) ?_
  show ah_At mt_N_rulesAllow d A (rg LTc g b D) (.returned (some (.int (bz (pb (ruP D dg w)))))) (rg LTc g b D) 0 [(0, .ref (b + 59)), (1, .int (nI dg)), (2, .int (nI w))] [] (rg LTc g b D)
  refine b_N_rulesAllow_0 ?_
  rw [show ((nI w) - 1 : Int32) = nI w - 1 from (ss_n rfl)]
  exact lo_rulesAllow hO hg hw hn hd 3 w (by omega) (by omega) (fun n h1 h2 h3 => by omega)
def maP (D : rg_D) (i w : Nat) : Prop := D 7 w = 0 ∧ D 14 i ≤ D 2 0 ∧ D 12 i ≤ D 6 w ∧ D 22 w + D 11 i ≤ D 4 w ∧ lp D w w (D 10 i) ≠ 0 ∧ ruP D (D 13 i) w
theorem c_mayPutOn {d : Nat} {A : Nat → Prop} {g : ah_H} {b : Nat} {D : rg_D} (hO : ∀ f j, D f j < 2 ^ 30) {i w : Nat} (hi : i < 8) (hw : w < 3) (hs : D 10 i < 4) (hg : D 13 i < 4) (hp : ∀ w, D 8 w ≤ 4) (hn : D 0 0 ≤ 3) (hd : 3 ≤ d) : ah_Ev mt_N_mayPutOn d A [.ref (b + 59), .int (nI i), .int (nI w)] (rg LTc g b D) (.returned (some (.int (bz (pb (maP D i w)))))) (rg LTc g b D) := by
  refine ah_Ev.of (by decide +kernel) (Nat.le_of_ble_eq_true rfl) ?_
  show ah_At mt_N_mayPutOn d A (rg LTc g b D) (.returned (some (.int (bz (pb (maP D i w)))))) (rg LTc g b D) 0 [(0, .ref (b + 59)), (1, .int (nI i)), (2, .int (nI w))] [] (rg LTc g b D)
  refine b_N_mayPutOn_0 (rdR (k_N_0)) (rdR (k_T_2)) (ah_ix_nI (by omega)) (rdR (k_Bs _ (by omega))) (rdR (k_N_0)) (rdR (k_T_0)) (ah_ix_nI (by omega)) (rdR (k_Gs _ (by omega))) (rdR (k_N_1)) (ah_ix_nI (by omega)) (rdR (k_Ls _ (by omega))) (rdI (k_G_6 _ (by omega)) rfl) (fun z1 => ?_) (fun z1 => ?_)
  · replace z1 := mt (cveq (nI_toInt (n := D 7 w) (by have := hO 7 w; omega)) (show ((0 : Int32)).toInt = 0 from by decide)).mpr z1
    refine b_N_mayPutOn_114 ?_
    refine rt_i ?_ ?_ (b_N_mayPutOn_115 (by decide +kernel))
    · refine bz_np ?_; rintro ⟨q1, q2, q3, q4, q5, q6⟩; first | omega | contradiction
    · rfl
  · replace z1 := (cveq (nI_toInt (n := D 7 w) (by have := hO 7 w; omega)) (show ((0 : Int32)).toInt = 0 from by decide)).mp (Decidable.not_not.mp z1)
    refine b_N_mayPutOn_37 (rdL (k_B_4 _ (by omega)) rfl) (rdR (k_N_0)) (rdL (k_T_5) rfl) (fun z2 => ?_) (fun z2 => ?_)
    · replace z2 := (cLgt (lN_toInt (n := D 14 i) (by have := hO 14 i; omega)) (lN_toInt (n := D 2 0) (by have := hO 2 0; omega))).mp z2
      refine b_N_mayPutOn_114 ?_
      refine rt_i ?_ ?_ (b_N_mayPutOn_115 (by decide +kernel))
      · refine bz_np ?_; rintro ⟨q1, q2, q3, q4, q5, q6⟩; first | omega | contradiction
      · rfl
    · replace z2 := mt (cLgt (lN_toInt (n := D 14 i) (by have := hO 14 i; omega)) (lN_toInt (n := D 2 0) (by have := hO 2 0; omega))).mpr z2
      refine b_N_mayPutOn_52 (rdI (k_B_2 _ (by omega)) rfl) (rdI (k_G_5 _ (by omega)) rfl) (fun z3 => ?_) (fun z3 => ?_)
      · replace z3 := (cvlt (nI_toInt (n := D 6 w) (by have := hO 6 w; omega)) (nI_toInt (n := D 12 i) (by have := hO 12 i; omega))).mp z3
        refine b_N_mayPutOn_114 ?_
        refine rt_i ?_ ?_ (b_N_mayPutOn_115 (by decide +kernel))
        · refine bz_np ?_; rintro ⟨q1, q2, q3, q4, q5, q6⟩; first | omega | contradiction
        · rfl
      · replace z3 := mt (cvlt (nI_toInt (n := D 6 w) (by have := hO 6 w; omega)) (nI_toInt (n := D 12 i) (by have := hO 12 i; omega))).mpr z3
        refine b_N_mayPutOn_64 (rdL (k_L_4 _ (by omega)) rfl) (rdL (k_B_1 _ (by omega)) rfl) (rdL (k_G_3 _ (by omega)) rfl) (fun z4 => ?_) (fun z4 => ?_)
        · replace z4 := (cLgt (tl_n (show ((lN (D 22 w)) + (lN (D 11 i)) : Int64) = lN ((D 22 w) + (D 11 i)) from (ad_l rfl rfl)) (by have := hO 11 i; have := hO 22 w; omega)) (lN_toInt (n := D 4 w) (by have := hO 4 w; omega))).mp z4
          refine b_N_mayPutOn_114 ?_
          refine rt_i ?_ ?_ (b_N_mayPutOn_115 (by decide +kernel))
          · refine bz_np ?_; rintro ⟨q1, q2, q3, q4, q5, q6⟩; first | omega | contradiction
          · rfl
        · replace z4 := mt (cLgt (tl_n (show ((lN (D 22 w)) + (lN (D 11 i)) : Int64) = lN ((D 22 w) + (D 11 i)) from (ad_l rfl rfl)) (by have := hO 11 i; have := hO 22 w; omega)) (lN_toInt (n := D 4 w) (by have := hO 4 w; omega))).mpr z4
          refine b_N_mayPutOn_83 (rdI (k_B_0 _ (by omega)) rfl) (c_leastPattern (d := d - 1) (A := A) hO (by omega) (by omega) hs (hp _) (by omega)) (by omega) (fun q hq => hq) ?_ (rdN (k_G_0 _ (by omega)))
          refine aft_1 ?_
          have hlp : lp D w w (D 10 i) ≤ 4 := by have := ff_le (p := fun p => pb (hoP D w p w (D 10 i))) (k := D 8 w) (i := 0); have := hp w; unfold lp; omega
          refine b_N_mayPutOn_94 (fun z5 => ?_) (fun z5 => ?_)
          · replace z5 := (cveq (sI_toInt (n := lp D w w (D 10 i)) (by have := hO 10 i; omega)) (show ((-1 : Int32)).toInt = -1 from by decide)).mp z5
            refine b_N_mayPutOn_114 ?_
            refine rt_i ?_ ?_ (b_N_mayPutOn_115 (by decide +kernel))
            · refine bz_np ?_; rintro ⟨q1, q2, q3, q4, q5, q6⟩; first | omega | contradiction
            · rfl
          · replace z5 := mt (cveq (sI_toInt (n := lp D w w (D 10 i)) (by have := hO 10 i; omega)) (show ((-1 : Int32)).toInt = -1 from by decide)).mpr z5
            refine b_N_mayPutOn_98 (rdI (k_B_3 _ (by omega)) rfl) (c_rulesAllow (d := d - 1) (A := A) hO hg hw hn (by omega)) (by omega) (fun q hq => hq) ?_ (rdN (k_N_0))
            refine aft_1 ?_
            refine b_N_mayPutOn_107 (fun z6 => ?_) (fun z6 => ?_)
            · replace z6 := pz0.mp z6
              refine b_N_mayPutOn_114 ?_
              refine rt_i ?_ ?_ (b_N_mayPutOn_115 (by decide +kernel))
              · refine bz_np ?_; rintro ⟨q1, q2, q3, q4, q5, q6⟩; first | omega | contradiction
              · rfl
            · replace z6 := pz1.mp z6
              refine b_N_mayPutOn_110 ?_
              refine rt_i ?_ ?_ (b_N_mayPutOn_115 (by decide +kernel))
              · refine bz_p ⟨by omega, by omega, by omega, by omega, by omega, by assumption⟩
              · rfl
def swP (D : rg_D) (i : Nat) : Prop := ∃ w, w < D 0 0 ∧ maP D i w
theorem lo_someWagonTakes {d : Nat} {A : Nat → Prop} {g : ah_H} {b : Nat} {D : rg_D} (hO : ∀ f j, D f j < 2 ^ 30) {i : Nat} (hi : i < 8) (hs : D 10 i < 4) (hg : D 13 i < 4) (hp : ∀ w, D 8 w ≤ 4) (hn : D 0 0 ≤ 3) (hd : 4 ≤ d) {h0 : ah_H} : ∀ (k w : Nat), w + k = D 0 0 → (∀ q, q < w → ¬ maP D i q) → ah_At mt_N_someWagonTakes d A h0 (.returned (some (.int (bz (pb (swP D i)))))) (rg LTc g b D) 2 [(0, .ref (b + 59)), (1, .int (nI i)), (2, .int (nI w))] [] (rg LTc g b D)
  | 0, w, hk, hI => by
    refine b_N_someWagonTakes_2 (rdR (k_N_0)) (rdI (k_T_1) rfl) (fun z1 => ?_) (fun z1 => by exfalso; replace z1 := mt (cvle (nI_toInt (n := D 0 0) (by have := hO 0 0; omega)) (nI_toInt (n := w) (by omega))).mpr z1; omega)
    replace z1 := (cvle (nI_toInt (n := D 0 0) (by have := hO 0 0; omega)) (nI_toInt (n := w) (by omega))).mp z1
    refine rt_i ?_ ?_ (b_N_someWagonTakes_30 )
    · refine bz_np ?_; rintro ⟨q, h1, h2⟩; exact hI q (by omega) h2
    · rfl
  | k + 1, w, hk, hI => by
    refine b_N_someWagonTakes_2 (rdR (k_N_0)) (rdI (k_T_1) rfl) (fun z1 => by exfalso; replace z1 := (cvle (nI_toInt (n := D 0 0) (by have := hO 0 0; omega)) (nI_toInt (n := w) (by omega))).mp z1; omega) (fun z1 => ?_)
    replace z1 := mt (cvle (nI_toInt (n := D 0 0) (by have := hO 0 0; omega)) (nI_toInt (n := w) (by omega))).mpr z1
    refine b_N_someWagonTakes_13 (c_mayPutOn (d := d - 1) (A := A) hO hi (by omega) hs hg hp hn (by omega)) (by omega) (fun q hq => hq) ?_ (rdN (k_N_0))
    refine aft_1 ?_
    refine b_N_someWagonTakes_19 (fun z2 => ?_) (fun z2 => ?_)
    · replace z2 := pz0.mp z2
      refine b_N_someWagonTakes_24 ?_
      rw [show ((nI w) + 1 : Int32) = nI (w + 1) from (ad_n rfl rfl)]
      exact lo_someWagonTakes hO hi hs hg hp hn hd k (w + 1) (by omega) (lt_s hI (by assumption))
    · replace z2 := pz1.mp z2
      refine rt_i ?_ ?_ (b_N_someWagonTakes_22 )
      · refine bz_p ⟨w, by omega, by assumption⟩
      · rfl
theorem c_someWagonTakes {d : Nat} {A : Nat → Prop} {g : ah_H} {b : Nat} {D : rg_D} (hO : ∀ f j, D f j < 2 ^ 30) {i : Nat} (hi : i < 8) (hs : D 10 i < 4) (hg : D 13 i < 4) (hp : ∀ w, D 8 w ≤ 4) (hn : D 0 0 ≤ 3) (hd : 4 ≤ d) : ah_Ev mt_N_someWagonTakes d A [.ref (b + 59), .int (nI i)] (rg LTc g b D) (.returned (some (.int (bz (pb (swP D i)))))) (rg LTc g b D) := by
  refine ah_Ev.of (by decide +kernel) (Nat.le_of_ble_eq_true rfl) ?_
  show ah_At mt_N_someWagonTakes d A (rg LTc g b D) (.returned (some (.int (bz (pb (swP D i)))))) (rg LTc g b D) 0 [(0, .ref (b + 59)), (1, .int (nI i))] [] (rg LTc g b D)
  refine b_N_someWagonTakes_0 ?_
  exact lo_someWagonTakes hO hi hs hg hp hn hd _ 0 (Nat.zero_add _) (fun q hq => absurd hq (Nat.not_lt_zero _))
theorem lo_lengthUsed {d : Nat} {A : Nat → Prop} {g : ah_H} {b : Nat} {D : rg_D} (hO : ∀ f j, D f j < 2 ^ 30) (hn : D 0 0 ≤ 3) {h0 : ah_H} : ∀ (k w s : Nat), w + k = D 0 0 → s = sm (D 21) w → ah_At mt_N_lengthUsed d A h0 (.returned (some (.int (nI (sm (D 21) (D 0 0)))))) (rg LTc g b D) 4 [(0, .ref (b + 59)), (1, .int (nI s)), (2, .int (nI w))] [] (rg LTc g b D)
  | 0, w, s, hk, hs => by
    refine b_N_lengthUsed_4 (rdR (k_N_0)) (rdI (k_T_1) rfl) (fun z1 => ?_) (fun z1 => by exfalso; replace z1 := mt (cvle (nI_toInt (n := D 0 0) (by have := hO 0 0; omega)) (nI_toInt (n := w) (by omega))).mpr z1; omega)
    replace z1 := (cvle (nI_toInt (n := D 0 0) (by have := hO 0 0; omega)) (nI_toInt (n := w) (by omega))).mp z1
    refine rt_i ?_ ?_ (b_N_lengthUsed_33 )
    · rw [hs, show w = D 0 0 by omega]
    · rfl
  | k + 1, w, s, hk, hs => by
    refine b_N_lengthUsed_4 (rdR (k_N_0)) (rdI (k_T_1) rfl) (fun z1 => by exfalso; replace z1 := (cvle (nI_toInt (n := D 0 0) (by have := hO 0 0; omega)) (nI_toInt (n := w) (by omega))).mp z1; omega) (fun z1 => ?_)
    replace z1 := mt (cvle (nI_toInt (n := D 0 0) (by have := hO 0 0; omega)) (nI_toInt (n := w) (by omega))).mpr z1
    refine b_N_lengthUsed_15 (rdR (k_N_1)) (ah_ix_nI (by omega)) (rdR (k_Ls _ (by omega))) (rdI (k_L_3 _ (by omega)) rfl) ?_
    rw [show ((nI s) + (nI (D 21 w)) : Int32) = nI (s + (D 21 w)) from (ad_n rfl rfl)]
    rw [show ((nI w) + 1 : Int32) = nI (w + 1) from (ad_n rfl rfl)]
    exact lo_lengthUsed hO hn k (w + 1) _ (by omega) (by simp only [sm]; rw [← hs])
theorem c_lengthUsed {d : Nat} {A : Nat → Prop} {g : ah_H} {b : Nat} {D : rg_D} (hO : ∀ f j, D f j < 2 ^ 30) (hn : D 0 0 ≤ 3) : ah_Ev mt_N_lengthUsed d A [.ref (b + 59)] (rg LTc g b D) (.returned (some (.int (nI (sm (D 21) (D 0 0)))))) (rg LTc g b D) := by
  refine ah_Ev.of (by decide +kernel) (Nat.le_of_ble_eq_true rfl) ?_
  show ah_At mt_N_lengthUsed d A (rg LTc g b D) (.returned (some (.int (nI (sm (D 21) (D 0 0)))))) (rg LTc g b D) 0 [(0, .ref (b + 59))] [] (rg LTc g b D)
  refine b_N_lengthUsed_0 ?_
  exact lo_lengthUsed hO hn _ 0 0 (Nat.zero_add _) rfl
theorem lo_boxesLoaded {d : Nat} {A : Nat → Prop} {g : ah_H} {b : Nat} {D : rg_D} (hO : ∀ f j, D f j < 2 ^ 30) (hn : D 0 0 ≤ 3) {h0 : ah_H} : ∀ (k w s : Nat), w + k = D 0 0 → s = sm (D 20) w → ah_At mt_N_boxesLoaded d A h0 (.returned (some (.int (nI (sm (D 20) (D 0 0)))))) (rg LTc g b D) 4 [(0, .ref (b + 59)), (1, .int (nI s)), (2, .int (nI w))] [] (rg LTc g b D)
  | 0, w, s, hk, hs => by
    refine b_N_boxesLoaded_4 (rdR (k_N_0)) (rdI (k_T_1) rfl) (fun z1 => ?_) (fun z1 => by exfalso; replace z1 := mt (cvle (nI_toInt (n := D 0 0) (by have := hO 0 0; omega)) (nI_toInt (n := w) (by omega))).mpr z1; omega)
    replace z1 := (cvle (nI_toInt (n := D 0 0) (by have := hO 0 0; omega)) (nI_toInt (n := w) (by omega))).mp z1
    refine rt_i ?_ ?_ (b_N_boxesLoaded_33 )
    · rw [hs, show w = D 0 0 by omega]
    · rfl
  | k + 1, w, s, hk, hs => by
    refine b_N_boxesLoaded_4 (rdR (k_N_0)) (rdI (k_T_1) rfl) (fun z1 => by exfalso; replace z1 := (cvle (nI_toInt (n := D 0 0) (by have := hO 0 0; omega)) (nI_toInt (n := w) (by omega))).mp z1; omega) (fun z1 => ?_)
    replace z1 := mt (cvle (nI_toInt (n := D 0 0) (by have := hO 0 0; omega)) (nI_toInt (n := w) (by omega))).mpr z1
    refine b_N_boxesLoaded_15 (rdR (k_N_1)) (ah_ix_nI (by omega)) (rdR (k_Ls _ (by omega))) (rdI (k_L_2 _ (by omega)) rfl) ?_
    rw [show ((nI s) + (nI (D 20 w)) : Int32) = nI (s + (D 20 w)) from (ad_n rfl rfl)]
    rw [show ((nI w) + 1 : Int32) = nI (w + 1) from (ad_n rfl rfl)]
    exact lo_boxesLoaded hO hn k (w + 1) _ (by omega) (by simp only [sm]; rw [← hs])
theorem c_boxesLoaded {d : Nat} {A : Nat → Prop} {g : ah_H} {b : Nat} {D : rg_D} (hO : ∀ f j, D f j < 2 ^ 30) (hn : D 0 0 ≤ 3) : ah_Ev mt_N_boxesLoaded d A [.ref (b + 59)] (rg LTc g b D) (.returned (some (.int (nI (sm (D 20) (D 0 0)))))) (rg LTc g b D) := by
  refine ah_Ev.of (by decide +kernel) (Nat.le_of_ble_eq_true rfl) ?_
  show ah_At mt_N_boxesLoaded d A (rg LTc g b D) (.returned (some (.int (nI (sm (D 20) (D 0 0)))))) (rg LTc g b D) 0 [(0, .ref (b + 59))] [] (rg LTc g b D)
  refine b_N_boxesLoaded_0 ?_
  exact lo_boxesLoaded hO hn _ 0 0 (Nat.zero_add _) rfl
theorem c_wagonOf {d : Nat} {A : Nat → Prop} {g : ah_H} {b : Nat} {D : rg_D} (hO : ∀ f j, D f j < 2 ^ 30) {i : Nat} (hb : D 1 0 ≤ 8) (hi : i < D 1 0) (hd : 1 ≤ d) : ah_Ev mt_N_wagonOf d A [.ref (b + 59), .int (nI i)] (rg LTc g b D) (.returned (some (.int (nI (D 29 i) - 1)))) (rg LTc g b D) := by
  refine ah_Ev.of (by decide +kernel) (Nat.le_of_ble_eq_true rfl) ?_
  show ah_At mt_N_wagonOf d A (rg LTc g b D) (.returned (some (.int (nI (D 29 i) - 1)))) (rg LTc g b D) 0 [(0, .ref (b + 59)), (1, .int (nI i))] [] (rg LTc g b D)
  refine b_N_wagonOf_0 (rdR (k_N_0)) (c_hasBox (d := d - 1) (A := A) hO (nI_toInt (n := i) (by omega))) (by omega) (fun q hq => hq) ?_ (rdN (k_T_0))
  refine aft_1 ?_
  refine b_N_wagonOf_8 (fun z1 => ?_) (fun z1 => ?_)
  · replace z1 := pz0.mp z1
    refine b_N_wagonOf_20 ?_
    refine rt_i ?_ ?_ (b_N_wagonOf_21 )
    · exfalso; omega
    · rfl
  · replace z1 := pz1.mp z1
    refine b_N_wagonOf_11 (rdR (k_N_6)) (ah_ix_nI (by omega)) (rdS (k_NE _ (by omega)) rfl) ?_
    refine rt_i ?_ ?_ (b_N_wagonOf_21 )
    · rfl
    · rfl
noncomputable def pa (D : rg_D) (w : Nat) : Nat := if D 20 w = 0 then 0 else lp D w w 0
theorem c_patternOf {d : Nat} {A : Nat → Prop} {g : ah_H} {b : Nat} {D : rg_D} (hO : ∀ f j, D f j < 2 ^ 30) {w : Nat} (hn : D 0 0 ≤ 3) (hw : w < D 0 0) (hp : ∀ w, D 8 w ≤ 4) (hd : 2 ≤ d) : ah_Ev mt_N_patternOf d A [.ref (b + 59), .int (nI w)] (rg LTc g b D) (.returned (some (.int (nI (pa D w) - 1)))) (rg LTc g b D) := by
  refine ah_Ev.of (by decide +kernel) (Nat.le_of_ble_eq_true rfl) ?_
  show ah_At mt_N_patternOf d A (rg LTc g b D) (.returned (some (.int (nI (pa D w) - 1)))) (rg LTc g b D) 0 [(0, .ref (b + 59)), (1, .int (nI w))] [] (rg LTc g b D)
  refine b_N_patternOf_0 (rdR (k_N_0)) (c_hasWagon (d := d - 1) (A := A) hO (nI_toInt (n := w) (by omega))) (by omega) (fun q hq => hq) ?_ (rdN (k_T_0))
  refine aft_1 ?_
  refine b_N_patternOf_8 (fun z1 => ?_) (fun z1 => ?_)
  · replace z1 := pz0.mp z1
    refine rt_i ?_ ?_ (b_N_patternOf_23 )
    · first | (exfalso; omega) | (unfold pa; rw [if_pos (by omega)]; decide)
    · rfl
  · replace z1 := pz1.mp z1
    refine b_N_patternOf_11 (rdR (k_N_1)) (ah_ix_nI (by omega)) (rdR (k_Ls _ (by omega))) (rdI (k_L_2 _ (by omega)) rfl) (fun z2 => ?_) (fun z2 => ?_)
    · replace z2 := mt (cveq (nI_toInt (n := D 20 w) (by have := hO 20 w; omega)) (show ((0 : Int32)).toInt = 0 from by decide)).mpr z2
      refine b_N_patternOf_25 (rdR (k_N_0)) (rdR (k_T_0)) (ah_ix_nI (by omega)) (rdR (k_Gs _ (by omega))) (rdR (k_N_1)) (ah_ix_nI (by omega)) (rdR (k_Ls _ (by omega))) (c_leastPattern (d := d - 1) (A := A) hO (by omega) (by omega) (by decide) (hp _) (by omega)) (by omega) (fun q hq => hq) ?_ (rdN (k_G_0 _ (by omega)))
      refine aft_1 ?_
      have hlp : lp D w w 0 ≤ 4 := by have := ff_le (p := fun p => pb (hoP D w p w 0)) (k := D 8 w) (i := 0); have := hp w; unfold lp; omega
      refine rt_i ?_ ?_ (b_N_patternOf_44 )
      · unfold pa; rw [if_neg (by omega)]
      · rfl
    · replace z2 := (cveq (nI_toInt (n := D 20 w) (by have := hO 20 w; omega)) (show ((0 : Int32)).toInt = 0 from by decide)).mp (Decidable.not_not.mp z2)
      refine rt_i ?_ ?_ (b_N_patternOf_23 )
      · first | (exfalso; omega) | (unfold pa; rw [if_pos (by omega)]; decide)
      · rfl
theorem c_patternOf0 {d : Nat} {A : Nat → Prop} {g : ah_H} {b : Nat} {D : rg_D} (hO : ∀ f j, D f j < 2 ^ 30) (hd : 1 ≤ d) : ah_Ev mt_N_patternOf d A [.ref (b + 59), .int (nI 0 - 1)] (rg LTc g b D) (.returned (some (.int (nI 0 - 1)))) (rg LTc g b D) := by
  refine ah_Ev.of (by decide +kernel) (Nat.le_of_ble_eq_true rfl) ?_
  show ah_At mt_N_patternOf d A (rg LTc g b D) (.returned (some (.int (nI 0 - 1)))) (rg LTc g b D) 0 [(0, .ref (b + 59)), (1, .int (nI 0 - 1))] [] (rg LTc g b D)
  refine b_N_patternOf_0 (rdR (k_N_0)) (c_hasWagon (d := d - 1) (A := A) hO (sI_toInt (n := 0) (by decide))) (by omega) (fun q hq => hq) ?_ (rdN (k_T_0))
  refine aft_1 ?_
  refine b_N_patternOf_8 (fun z1 => ?_) (fun z1 => by exfalso; replace z1 := pz1.mp z1; omega)
  replace z1 := pz0.mp z1
  refine rt_i ?_ ?_ (b_N_patternOf_23 )
  · decide
  · rfl
def pbf (D : rg_D) (w p s bf : Nat) : Nat → Nat → Nat → Nat
  | 0, _, _ => 0
  | k + 1, pl, sn => if D 18 (16 * w + 4 * p + pl) = s then (if sn = bf then pl + 1 else pbf D w p s bf k (pl + 1) (sn + 1)) else pbf D w p s bf k (pl + 1) sn
theorem lo_placeBehind {d : Nat} {A : Nat → Prop} {g : ah_H} {b : Nat} {D : rg_D} (hO : ∀ f j, D f j < 2 ^ 30) {w : Nat} (hw : w < 3) {p s bf : Nat} (hp : p < 4) (hs : s < 4) (hbf : bf < 2 ^ 30) (hc : D 17 (4 * w + p) ≤ 4) {h0 : ah_H} : ∀ (k pl sn : Nat), pl + k = D 17 (4 * w + p) → sn ≤ pl → ah_At mt_P_placeBehind d A h0 (.returned (some (.int (nI (pbf D w p s bf k pl sn) - 1)))) (rg LTc g b D) 5 [(0, .ref (b + (11 + 14 * w + 3 * p))), (1, .int (nI s)), (2, .int (nI bf)), (3, .int (nI sn)), (4, .int (nI pl))] [] (rg LTc g b D)
  | 0, pl, sn, hk, hsn => by
    refine b_P_placeBehind_5 (rdI (k_P_2 _ (by omega) _ (by omega)) rfl) (fun z1 => ?_) (fun z1 => by exfalso; replace z1 := mt (cvle (nI_toInt (n := D 17 (4 * w + p)) (by have := hO 17 (4 * w + p); omega)) (nI_toInt (n := pl) (by omega))).mpr z1; omega)
    replace z1 := (cvle (nI_toInt (n := D 17 (4 * w + p)) (by have := hO 17 (4 * w + p); omega)) (nI_toInt (n := pl) (by omega))).mp z1
    refine rt_i ?_ ?_ (b_P_placeBehind_42 )
    · show (-1 : Int32) = nI 0 - 1; decide
    · rfl
  | k + 1, pl, sn, hk, hsn => by
    refine b_P_placeBehind_5 (rdI (k_P_2 _ (by omega) _ (by omega)) rfl) (fun z1 => by exfalso; replace z1 := (cvle (nI_toInt (n := D 17 (4 * w + p)) (by have := hO 17 (4 * w + p); omega)) (nI_toInt (n := pl) (by omega))).mp z1; omega) (fun z1 => ?_)
    replace z1 := mt (cvle (nI_toInt (n := D 17 (4 * w + p)) (by have := hO 17 (4 * w + p); omega)) (nI_toInt (n := pl) (by omega))).mpr z1
    refine b_P_placeBehind_14 (rdR (k_P_0 _ (by omega) _ (by omega))) (ah_ix_nI (by omega)) (rdI (k_PA _ (by omega) _ (by omega) _ (by omega)) rfl) (fun z2 => ?_) (fun z2 => ?_)
    · replace z2 := mt (cveq (nI_toInt (n := D 18 (16 * w + 4 * p + pl)) (by have := hO 18 (16 * w + 4 * p + pl); omega)) (nI_toInt (n := s) (by omega))).mpr z2
      refine b_P_placeBehind_36 ?_
      rw [show ((nI pl) + 1 : Int32) = nI (pl + 1) from (ad_n rfl rfl)]
      rw [show pbf D w p s bf (k + 1) pl sn = pbf D w p s bf k (pl + 1) sn from by rw [pbf]; rw [if_neg (by omega)]]
      exact lo_placeBehind hO hw hp hs hbf hc k (pl + 1) _ (by omega) (by omega)
    · replace z2 := (cveq (nI_toInt (n := D 18 (16 * w + 4 * p + pl)) (by have := hO 18 (16 * w + 4 * p + pl); omega)) (nI_toInt (n := s) (by omega))).mp (Decidable.not_not.mp z2)
      refine b_P_placeBehind_25 (fun z3 => ?_) (fun z3 => ?_)
      · replace z3 := mt (cveq (nI_toInt (n := sn) (by omega)) (nI_toInt (n := bf) (by omega))).mpr z3
        refine b_P_placeBehind_33 ?_
        rw [show ((nI sn) + 1 : Int32) = nI (sn + 1) from (ad_n rfl rfl)]
        refine b_P_placeBehind_36 ?_
        rw [show ((nI pl) + 1 : Int32) = nI (pl + 1) from (ad_n rfl rfl)]
        rw [show pbf D w p s bf (k + 1) pl sn = pbf D w p s bf k (pl + 1) (sn + 1) from by rw [pbf]; rw [if_pos (by omega), if_neg (by omega)]]
        exact lo_placeBehind hO hw hp hs hbf hc k (pl + 1) _ (by omega) (by omega)
      · replace z3 := (cveq (nI_toInt (n := sn) (by omega)) (nI_toInt (n := bf) (by omega))).mp (Decidable.not_not.mp z3)
        refine rt_i ?_ ?_ (b_P_placeBehind_30 )
        · rw [pbf, if_pos (by omega), if_pos (by omega), nI_pred]
        · rfl
theorem c_placeBehind {d : Nat} {A : Nat → Prop} {g : ah_H} {b : Nat} {D : rg_D} (hO : ∀ f j, D f j < 2 ^ 30) {w : Nat} (hw : w < 3) {p s bf : Nat} (hp : p < 4) (hs : s < 4) (hbf : bf < 2 ^ 30) (hc : D 17 (4 * w + p) ≤ 4) : ah_Ev mt_P_placeBehind d A [.ref (b + (11 + 14 * w + 3 * p)), .int (nI s), .int (nI bf)] (rg LTc g b D) (.returned (some (.int (nI (pbf D w p s bf (D 17 (4 * w + p)) 0 0) - 1)))) (rg LTc g b D) := by
  refine ah_Ev.of (by decide +kernel) (Nat.le_of_ble_eq_true rfl) ?_
  show ah_At mt_P_placeBehind d A (rg LTc g b D) (.returned (some (.int (nI (pbf D w p s bf (D 17 (4 * w + p)) 0 0) - 1)))) (rg LTc g b D) 0 [(0, .ref (b + (11 + 14 * w + 3 * p))), (1, .int (nI s)), (2, .int (nI bf))] [] (rg LTc g b D)
  refine b_P_placeBehind_0 ?_
  exact lo_placeBehind hO hw hp hs hbf hc _ 0 0 (Nat.zero_add _) (by decide)
def lbf (D : rg_D) (x : Int) : Nat → Nat → Nat → Nat
  | 0, _, _ => 0
  | k + 1, r, sn => if D 29 (D 25 r) = 0 then (if (sn : Int) = x then D 25 r + 1 else lbf D x k (r + 1) (sn + 1)) else lbf D x k (r + 1) sn
theorem lo_leftBehind {d : Nat} {A : Nat → Prop} {g : ah_H} {b : Nat} {D : rg_D} (hO : ∀ f j, D f j < 2 ^ 30) {x : Int32} {p : Int} (hx : x.toInt = p) (hb : D 1 0 ≤ 8) (hr : ∀ r, r < D 1 0 → D 25 r < 8) {h0 : ah_H} : ∀ (k r sn : Nat), r + k = D 1 0 → sn ≤ r → ah_At mt_N_leftBehind d A h0 (.returned (some (.int (nI (lbf D p k r sn) - 1)))) (rg LTc g b D) 4 [(0, .ref (b + 59)), (1, .int x), (2, .int (nI sn)), (3, .int (nI r))] [] (rg LTc g b D)
  | 0, r, sn, hk, hsn => by
    refine b_N_leftBehind_4 (rdR (k_N_0)) (rdI (k_T_3) rfl) (fun z1 => ?_) (fun z1 => by exfalso; replace z1 := mt (cvle (nI_toInt (n := D 1 0) (by have := hO 1 0; omega)) (nI_toInt (n := r) (by omega))).mpr z1; omega)
    replace z1 := (cvle (nI_toInt (n := D 1 0) (by have := hO 1 0; omega)) (nI_toInt (n := r) (by omega))).mp z1
    refine rt_i ?_ ?_ (b_N_leftBehind_51 )
    · show (-1 : Int32) = nI 0 - 1; decide
    · rfl
  | k + 1, r, sn, hk, hsn => by
    have hr1 := hr r (by omega)
    refine b_N_leftBehind_4 (rdR (k_N_0)) (rdI (k_T_3) rfl) (fun z1 => by exfalso; replace z1 := (cvle (nI_toInt (n := D 1 0) (by have := hO 1 0; omega)) (nI_toInt (n := r) (by omega))).mp z1; omega) (fun z1 => ?_)
    replace z1 := mt (cvle (nI_toInt (n := D 1 0) (by have := hO 1 0; omega)) (nI_toInt (n := r) (by omega))).mpr z1
    refine b_N_leftBehind_15 (rdR (k_N_2)) (ah_ix_nI (by omega)) (rdI (k_NA _ (by omega)) rfl) (rdR (k_N_6)) (ah_ix_nI (by have := hO 25 r; omega)) (rdS (k_NE _ (by omega)) rfl) (fun z2 => ?_) (fun z2 => ?_)
    · replace z2 := mt (cveq (sI_toInt (n := D 29 (D 25 r)) (by have := hO 25 r; have := hO 29 (D 25 r); omega)) (show ((-1 : Int32)).toInt = -1 from by decide)).mpr z2
      refine b_N_leftBehind_45 ?_
      rw [show ((nI r) + 1 : Int32) = nI (r + 1) from (ad_n rfl rfl)]
      rw [show lbf D p (k + 1) r sn = lbf D p k (r + 1) sn from by rw [lbf]; rw [if_neg (by omega)]]
      exact lo_leftBehind hO hx hb hr k (r + 1) _ (by omega) (by omega)
    · replace z2 := (cveq (sI_toInt (n := D 29 (D 25 r)) (by have := hO 25 r; have := hO 29 (D 25 r); omega)) (show ((-1 : Int32)).toInt = -1 from by decide)).mp (Decidable.not_not.mp z2)
      refine b_N_leftBehind_34 (fun z3 => ?_) (fun z3 => ?_)
      · replace z3 := mt (cveq (nI_toInt (n := sn) (by omega)) hx).mpr z3
        refine b_N_leftBehind_42 ?_
        rw [show ((nI sn) + 1 : Int32) = nI (sn + 1) from (ad_n rfl rfl)]
        refine b_N_leftBehind_45 ?_
        rw [show ((nI r) + 1 : Int32) = nI (r + 1) from (ad_n rfl rfl)]
        rw [show lbf D p (k + 1) r sn = lbf D p k (r + 1) (sn + 1) from by rw [lbf]; rw [if_pos (by omega), if_neg (by omega)]]
        exact lo_leftBehind hO hx hb hr k (r + 1) _ (by omega) (by omega)
      · replace z3 := (cveq (nI_toInt (n := sn) (by omega)) hx).mp (Decidable.not_not.mp z3)
        refine rt_i ?_ ?_ (b_N_leftBehind_39 )
        · rw [lbf, if_pos (by omega), if_pos (by omega), nI_pred]
        · rfl
theorem c_leftBehind {d : Nat} {A : Nat → Prop} {g : ah_H} {b : Nat} {D : rg_D} (hO : ∀ f j, D f j < 2 ^ 30) {x : Int32} {p : Int} (hx : x.toInt = p) (hb : D 1 0 ≤ 8) (hr : ∀ r, r < D 1 0 → D 25 r < 8) : ah_Ev mt_N_leftBehind d A [.ref (b + 59), .int x] (rg LTc g b D) (.returned (some (.int (nI (lbf D p (D 1 0) 0 0) - 1)))) (rg LTc g b D) := by
  refine ah_Ev.of (by decide +kernel) (Nat.le_of_ble_eq_true rfl) ?_
  show ah_At mt_N_leftBehind d A (rg LTc g b D) (.returned (some (.int (nI (lbf D p (D 1 0) 0 0) - 1)))) (rg LTc g b D) 0 [(0, .ref (b + 59)), (1, .int x)] [] (rg LTc g b D)
  refine b_N_leftBehind_0 ?_
  exact lo_leftBehind hO hx hb hr _ 0 0 (Nat.zero_add _) (by decide)
