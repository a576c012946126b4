/-! CONTRACTS of the model: pattern. Printed out of wip/ -/
theorem sbk_n {x y : Int32} {p q : Int} (hx : x.toInt = p) (hy : y.toInt = q) (h : -2147483648 ≤ p - q ∧ p - q < 2147483648) : (x - y).toInt = p - q := by
  rw [Int32.toInt_sub, hx, hy]
  apply Int.bmod_eq_of_le <;> omega
theorem m_pattern1 {d : Nat} {A : Nat → Prop} {g : ah_H} {m : Nat} {E : rg_D} (hO : ∀ f j, E f j < 2 ^ 30) (hA : ∀ q, m ≤ q → q < m + 16 → A q) (hd : 8 ≤ d) {x1 : Int32} {p1 : Int} (h1 : x1.toInt = p1) {x2 : Int32} {p2 : Int} (h2 : x2.toInt = p2) (hn : ¬ (0 ≤ p1 ∧ p1 < ((E 0 0 : Nat) : Int)) ∨ ¬ (1 ≤ p2 ∧ p2 ≤ 3333)) : ah_Ev mt_M_pattern d A [.ref m, .int x1, .int x2] (rg LTm g m E) (.returned (some (.int 0))) (rg LTm g m (up E 32 0 1)) := by
  refine ah_Ev.of (by decide +kernel) (Nat.le_of_ble_eq_true rfl) ?_
  show ah_At mt_M_pattern d A (rg LTm g m E) (.returned (some (.int 0))) (rg LTm g m (up E 32 0 1)) 0 [(0, .ref m), (1, .int x1), (2, .int x2)] [] (rg LTm g m E)
  refine b_M_pattern_0 (c_isWagon (d := d - 1) (A := A) (E := E) hO h1 (n := E 0 0) rfl) (by omega) (fun q hq => hq) ?_ (rdN (k_M_0))
  refine aft_1 ?_
  refine b_M_pattern_5 (fun z1 => ?_) (fun z1 => ?_)
  · replace z1 := pz0.mp z1
    refine b_M_pattern_24 ?_
    refine b_M_pattern_25 ?_
    refine b_M_pattern_32 (fun z2 => ?_) (fun z2 => ?_)
    · replace z2 := (cvle h2 (show ((0 : Int32)).toInt = 0 from by decide)).mp z2
      refine b_M_pattern_78 (fun z3 => ?_) (fun z => absurd (by decide) z)
      refine b_M_pattern_97 ?_
      refine b_M_pattern_98 (fun z => absurd z (by decide)) (fun z4 => ?_)
      refine b_M_pattern_104 ?_
      refine b_M_pattern_123 (v2 := 1) (hA _ (by omega) (by omega)) (rdE (k_M_0)) (by rw [stmI0 (x := 1) (v := 1) (k_M_0) rfl]; exact (rdI (e := 1) (k_M_0) (by simp [up]))) (fun z => absurd z (by decide)) (fun z5 => ?_)
      rw [stmI0 (x := 1) (v := 1) (k_M_0) rfl]
      refine rt_i ?_ ?_ (b_M_pattern_133 )
      · rfl
      · rfl
    · replace z2 := mt (cvle h2 (show ((0 : Int32)).toInt = 0 from by decide)).mpr z2
      refine b_M_pattern_37 (fun z6 => ?_) (fun z => absurd (by decide) z)
      refine b_M_pattern_78 (fun z7 => ?_) (fun z => absurd (by decide) z)
      refine b_M_pattern_97 ?_
      refine b_M_pattern_98 (fun z => absurd z (by decide)) (fun z8 => ?_)
      refine b_M_pattern_104 ?_
      refine b_M_pattern_123 (v2 := 1) (hA _ (by omega) (by omega)) (rdE (k_M_0)) (by rw [stmI0 (x := 1) (v := 1) (k_M_0) rfl]; exact (rdI (e := 1) (k_M_0) (by simp [up]))) (fun z => absurd z (by decide)) (fun z9 => ?_)
      rw [stmI0 (x := 1) (v := 1) (k_M_0) rfl]
      refine rt_i ?_ ?_ (b_M_pattern_133 )
      · rfl
      · rfl
  · replace z1 := pz1.mp z1
    refine b_M_pattern_8 (c_in (d := d - 1) (A := A) ((i2l_toInt x2).trans h2) (show ((1 : Int64)).toInt = 1 from by decide) (show ((3333 : Int64)).toInt = 3333 from by decide)) (by omega) (fun q hq => hq) ?_
    refine aft_1 ?_
    refine b_M_pattern_17 (fun z10 => ?_) (fun z10 => ?_)
    · replace z10 := pz0.mp z10
      refine b_M_pattern_24 ?_
      refine b_M_pattern_25 ?_
      refine b_M_pattern_32 (fun z11 => ?_) (fun z11 => ?_)
      · replace z11 := (cvle h2 (show ((0 : Int32)).toInt = 0 from by decide)).mp z11
        refine b_M_pattern_78 (fun z12 => ?_) (fun z => absurd (by decide) z)
        refine b_M_pattern_97 ?_
        refine b_M_pattern_98 (fun z => absurd z (by decide)) (fun z13 => ?_)
        refine b_M_pattern_104 ?_
        refine b_M_pattern_123 (v2 := 1) (hA _ (by omega) (by omega)) (rdE (k_M_0)) (by rw [stmI0 (x := 1) (v := 1) (k_M_0) rfl]; exact (rdI (e := 1) (k_M_0) (by simp [up]))) (fun z => absurd z (by decide)) (fun z14 => ?_)
        rw [stmI0 (x := 1) (v := 1) (k_M_0) rfl]
        refine rt_i ?_ ?_ (b_M_pattern_133 )
        · rfl
        · rfl
      · replace z11 := mt (cvle h2 (show ((0 : Int32)).toInt = 0 from by decide)).mpr z11
        refine b_M_pattern_37 (fun z15 => ?_) (fun z => absurd (by decide) z)
        refine b_M_pattern_78 (fun z16 => ?_) (fun z => absurd (by decide) z)
        refine b_M_pattern_97 ?_
        refine b_M_pattern_98 (fun z => absurd z (by decide)) (fun z17 => ?_)
        refine b_M_pattern_104 ?_
        refine b_M_pattern_123 (v2 := 1) (hA _ (by omega) (by omega)) (rdE (k_M_0)) (by rw [stmI0 (x := 1) (v := 1) (k_M_0) rfl]; exact (rdI (e := 1) (k_M_0) (by simp [up]))) (fun z => absurd z (by decide)) (fun z18 => ?_)
        rw [stmI0 (x := 1) (v := 1) (k_M_0) rfl]
        refine rt_i ?_ ?_ (b_M_pattern_133 )
        · rfl
        · rfl
    · replace z10 := pz1.mp z10
      exfalso; omega
theorem pt_f {d : Nat} {A : Nat → Prop} {g : ah_H} {m : Nat} {E : rg_D} {h0 h2 : ah_H} {o : Outcome} {w n : Nat} (hd : 1 ≤ d) {y : Int32} {v : Nat} (hv : v < 2 ^ 30) (K : ah_At mt_M_pattern d A h0 o h2 78 [(0, .ref m), (1, .int (nI w)), (2, .int (nI n)), (3, .int 0), (4, .int y)] [] (rg LTm g m E)) : ah_At mt_M_pattern d A h0 o h2 32 [(0, .ref m), (1, .int (nI w)), (2, .int (nI n)), (3, .int 0), (4, .int y), (5, .int (nI v))] [] (rg LTm g m E) := by
  refine b_M_pattern_32 (fun z1 => ?_) (fun z1 => ?_)
  · replace z1 := (cvle (nI_toInt (n := v) (by omega)) (show ((0 : Int32)).toInt = 0 from by decide)).mp z1
    exact K
  · replace z1 := mt (cvle (nI_toInt (n := v) (by omega)) (show ((0 : Int32)).toInt = 0 from by decide)).mpr z1
    refine b_M_pattern_37 (fun z2 => ?_) (fun z => absurd (by decide) z)
    exact K
theorem pt_l {d : Nat} {A : Nat → Prop} {g : ah_H} {m : Nat} {E : rg_D} {h0 h2 : ah_H} {o : Outcome} {w n : Nat} (hd : 1 ≤ d) : ∀ (k v s : Nat), v < 10 ^ k ∧ v < 10 ^ 9 → (rowF k v → ah_At mt_M_pattern d A h0 o h2 78 [(0, .ref m), (1, .int (nI w)), (2, .int (nI n)), (3, .int 1), (4, .int (nI (s + lnF k v)))] [] (rg LTm g m E)) → (¬ rowF k v → ∀ y : Int32, ah_At mt_M_pattern d A h0 o h2 78 [(0, .ref m), (1, .int (nI w)), (2, .int (nI n)), (3, .int 0), (4, .int y)] [] (rg LTm g m E)) → ah_At mt_M_pattern d A h0 o h2 32 [(0, .ref m), (1, .int (nI w)), (2, .int (nI n)), (3, .int 1), (4, .int (nI s)), (5, .int (nI v))] [] (rg LTm g m E)
  | 0, v, s, hv, K1, K0 => by
    have hv0 : v = 0 := by omega
    refine b_M_pattern_32 (fun z1 => ?_) (fun z1 => by exfalso; replace z1 := mt (cvle (nI_toInt (n := v) (by omega)) (show ((0 : Int32)).toInt = 0 from by decide)).mpr z1; omega)
    replace z1 := (cvle (nI_toInt (n := v) (by omega)) (show ((0 : Int32)).toInt = 0 from by decide)).mp z1
    have k1 := K1 (by first | exact (show v = 0 by omega) | (rw [rowF]; left; omega))
    rw [show lnF _ v = 0 from by first | rfl | (rw [lnF, if_pos (by omega)]), Nat.add_zero] at k1
    exact k1
  | k + 1, v, s, hv, K1, K0 => by
    have hpk : 10 ^ (k + 1) = 10 * 10 ^ k := by rw [Nat.pow_succ, Nat.mul_comm]
    rw [hpk] at hv
    refine b_M_pattern_32 (fun z1 => ?_) (fun z1 => ?_)
    · replace z1 := (cvle (nI_toInt (n := v) (by omega)) (show ((0 : Int32)).toInt = 0 from by decide)).mp z1
      have k1 := K1 (by first | exact (show v = 0 by omega) | (rw [rowF]; left; omega))
      rw [show lnF _ v = 0 from by first | rfl | (rw [lnF, if_pos (by omega)]), Nat.add_zero] at k1
      exact k1
    · replace z1 := mt (cvle (nI_toInt (n := v) (by omega)) (show ((0 : Int32)).toInt = 0 from by decide)).mpr z1
      refine b_M_pattern_37 (fun z => absurd z (by decide)) (fun z2 => ?_)
      refine b_M_pattern_41 (c_in (d := d - 1) (A := A) (tl_n (show (Int32.toInt64 ((nI v) - (nI v) / 10 * 10) : Int64) = lN (v % 10) from (il_n (rm_n rfl rfl (by omega) (by omega) (by decide)) (by omega))) (by omega)) (show ((1 : Int64)).toInt = 1 from by decide) (show ((3 : Int64)).toInt = 3 from by decide)) (by omega) (fun q hq => hq) ?_
      refine aft_1 ?_
      refine b_M_pattern_54 ((show ((nI v) - (nI v) / 10 * 10 : Int32) = nI (v % 10) from (rm_n rfl rfl (by omega) (by omega) (by decide))) ▸ c_lengthOf (d := d - 1) (A := A) (n := v % 10) (by omega)) (by omega) (fun q hq => hq) ?_
      refine aft_1 ?_
      refine b_M_pattern_65 ?_
      rw [show ((nI s) + (nI (lm (v % 10))) : Int32) = nI (s + (lm (v % 10))) from (ad_n rfl rfl)]
      rw [show ((nI v) / 10 : Int32) = nI (v / 10) from (dv_n rfl rfl (by omega) (by omega) (by decide))]
      by_cases hg : (1 : Int) ≤ ((v % 10 : Nat) : Int) ∧ ((v % 10 : Nat) : Int) ≤ 3
      · rw [show bz (pb ((1 : Int) ≤ ((v % 10 : Nat) : Int) ∧ ((v % 10 : Nat) : Int) ≤ 3)) = 1 from by rw [pb_t hg]; rfl, lm_ln (by omega) (by omega)]
        refine pt_l hd k (v / 10) _ (by omega) ?_ ?_
        · intro q
          have k1 := K1 (by rw [rowF]; exact Or.inr ⟨by omega, q⟩)
          rw [lnF, if_neg (by omega), ← Nat.add_assoc] at k1
          exact k1
        · intro q
          exact K0 (by rw [rowF]; rintro (q2 | q2); omega; exact q q2.2)
      · rw [show bz (pb ((1 : Int) ≤ ((v % 10 : Nat) : Int) ∧ ((v % 10 : Nat) : Int) ≤ 3)) = 0 from by rw [pb_f hg]; rfl]
        exact pt_f hd (by omega) (K0 (by rw [rowF]; rintro (q2 | q2) <;> omega) _)
theorem m_pattern1c {d : Nat} {A : Nat → Prop} {g : ah_H} {m : Nat} {E : rg_D} (hO : ∀ f j, E f j < 2 ^ 30) (hA : ∀ q, m ≤ q → q < m + 16 → A q) (hd : 8 ≤ d) (h3 : E 0 0 ≤ 3) {w n : Nat} (hw : w < E 0 0) (hn : 1 ≤ n ∧ n ≤ 3333) (hq : ¬ (rowF 4 n ∧ lnF 4 n ≤ E 3 w)) : ah_Ev mt_M_pattern d A [.ref m, .int (nI w), .int (nI n)] (rg LTm g m E) (.returned (some (.int 0))) (rg LTm g m (up E 32 0 1)) := by
  refine ah_Ev.of (by decide +kernel) (Nat.le_of_ble_eq_true rfl) ?_
  show ah_At mt_M_pattern d A (rg LTm g m E) (.returned (some (.int 0))) (rg LTm g m (up E 32 0 1)) 0 [(0, .ref m), (1, .int (nI w)), (2, .int (nI n))] [] (rg LTm g m E)
  refine b_M_pattern_0 (c_isWagon (d := d - 1) (A := A) (E := E) hO (nI_toInt (n := w) (by omega)) (n := E 0 0) rfl) (by omega) (fun q hq => hq) ?_ (rdN (k_M_0))
  refine aft_1 ?_
  refine b_M_pattern_5 (fun z1 => ?_) (fun z1 => ?_)
  · replace z1 := pz0.mp z1
    exfalso; omega
  · replace z1 := pz1.mp z1
    refine b_M_pattern_8 (c_in (d := d - 1) (A := A) (tl_n (show (Int32.toInt64 (nI n) : Int64) = lN (n) from (il_n rfl (by omega))) (by omega)) (show ((1 : Int64)).toInt = 1 from by decide) (show ((3333 : Int64)).toInt = 3333 from by decide)) (by omega) (fun q hq => hq) ?_
    refine aft_1 ?_
    refine b_M_pattern_17 (fun z2 => ?_) (fun z2 => ?_)
    · replace z2 := pz0.mp z2
      exfalso; omega
    · replace z2 := pz1.mp z2
      refine b_M_pattern_20 ?_
      refine b_M_pattern_25 ?_
      refine pt_l (by omega) 4 n 0 (by omega) ?_ ?_
      · intro hR
        have hln := lnF_le 4 n
        rw [Nat.zero_add]
        refine b_M_pattern_78 (fun z => absurd z (by decide)) (fun z1 => ?_)
        refine b_M_pattern_82 (rdR (k_M_3)) (ah_ix_nI (by omega)) (rdI (k_M3 _ (by omega)) rfl) (fun z2 => ?_) (fun z2 => ?_)
        · replace z2 := (cvlt (nI_toInt (n := E 3 w) (by have := hO 3 w; omega)) (nI_toInt (n := lnF 4 n) (by omega))).mp z2
          refine b_M_pattern_97 ?_
          refine b_M_pattern_98 (fun z => absurd z (by decide)) (fun z3 => ?_)
          refine b_M_pattern_104 ?_
          refine b_M_pattern_123 (v2 := 1) (hA _ (by omega) (by omega)) (rdE (k_M_0)) (by rw [stmI0 (x := 1) (v := 1) (k_M_0) rfl]; exact (rdI (e := 1) (k_M_0) (by simp [up]))) (fun z => absurd z (by decide)) (fun z4 => ?_)
          rw [stmI0 (x := 1) (v := 1) (k_M_0) rfl]
          refine rt_i ?_ ?_ (b_M_pattern_133 )
          · rfl
          · rfl
        · replace z2 := mt (cvlt (nI_toInt (n := E 3 w) (by have := hO 3 w; omega)) (nI_toInt (n := lnF 4 n) (by omega))).mpr z2
          exact absurd ⟨hR, by omega⟩ hq
      · intro hR y
        refine b_M_pattern_78 (fun z1 => ?_) (fun z => absurd (by decide) z)
        refine b_M_pattern_97 ?_
        refine b_M_pattern_98 (fun z => absurd z (by decide)) (fun z2 => ?_)
        refine b_M_pattern_104 ?_
        refine b_M_pattern_123 (v2 := 1) (hA _ (by omega) (by omega)) (rdE (k_M_0)) (by rw [stmI0 (x := 1) (v := 1) (k_M_0) rfl]; exact (rdI (e := 1) (k_M_0) (by simp [up]))) (fun z => absurd z (by decide)) (fun z3 => ?_)
        rw [stmI0 (x := 1) (v := 1) (k_M_0) rfl]
        refine rt_i ?_ ?_ (b_M_pattern_133 )
        · rfl
        · rfl
theorem m_pattern2 {d : Nat} {A : Nat → Prop} {g : ah_H} {m : Nat} {E : rg_D} (hO : ∀ f j, E f j < 2 ^ 30) (hA : ∀ q, m ≤ q → q < m + 16 → A q) (hd : 8 ≤ d) (h3 : E 0 0 ≤ 3) {w n : Nat} (hw : w < E 0 0) (hn : 1 ≤ n ∧ n ≤ 3333) (hr : rowF 4 n) (hl : lnF 4 n ≤ E 3 w) (hf : E 8 w = 4) : ah_Ev mt_M_pattern d A [.ref m, .int (nI w), .int (nI n)] (rg LTm g m E) (.returned (some (.int 0))) (rg LTm g m (up E 32 0 2)) := by
  refine ah_Ev.of (by decide +kernel) (Nat.le_of_ble_eq_true rfl) ?_
  show ah_At mt_M_pattern d A (rg LTm g m E) (.returned (some (.int 0))) (rg LTm g m (up E 32 0 2)) 0 [(0, .ref m), (1, .int (nI w)), (2, .int (nI n))] [] (rg LTm g m E)
  refine b_M_pattern_0 (c_isWagon (d := d - 1) (A := A) (E := E) hO (nI_toInt (n := w) (by omega)) (n := E 0 0) rfl) (by omega) (fun q hq => hq) ?_ (rdN (k_M_0))
  refine aft_1 ?_
  refine b_M_pattern_5 (fun z1 => ?_) (fun z1 => ?_)
  · replace z1 := pz0.mp z1
    exfalso; omega
  · replace z1 := pz1.mp z1
    refine b_M_pattern_8 (c_in (d := d - 1) (A := A) (tl_n (show (Int32.toInt64 (nI n) : Int64) = lN (n) from (il_n rfl (by omega))) (by omega)) (show ((1 : Int64)).toInt = 1 from by decide) (show ((3333 : Int64)).toInt = 3333 from by decide)) (by omega) (fun q hq => hq) ?_
    refine aft_1 ?_
    refine b_M_pattern_17 (fun z2 => ?_) (fun z2 => ?_)
    · replace z2 := pz0.mp z2
      exfalso; omega
    · replace z2 := pz1.mp z2
      refine b_M_pattern_20 ?_
      refine b_M_pattern_25 ?_
      refine pt_l (by omega) 4 n 0 (by omega) ?_ ?_
      · intro hR
        have hln := lnF_le 4 n
        rw [Nat.zero_add]
        refine b_M_pattern_78 (fun z => absurd z (by decide)) (fun z1 => ?_)
        refine b_M_pattern_82 (rdR (k_M_3)) (ah_ix_nI (by omega)) (rdI (k_M3 _ (by omega)) rfl) (fun z2 => ?_) (fun z2 => ?_)
        · replace z2 := (cvlt (nI_toInt (n := E 3 w) (by have := hO 3 w; omega)) (nI_toInt (n := lnF 4 n) (by omega))).mp z2
          exfalso; omega
        · replace z2 := mt (cvlt (nI_toInt (n := E 3 w) (by have := hO 3 w; omega)) (nI_toInt (n := lnF 4 n) (by omega))).mpr z2
          refine b_M_pattern_93 ?_
          refine b_M_pattern_98 (fun z3 => ?_) (fun z => absurd (by decide) z)
          refine b_M_pattern_108 (rdR (k_M_8)) (ah_ix_nI (by omega)) (rdI (k_M8 _ (by omega)) rfl) (fun z4 => ?_) (fun z4 => ?_)
          · replace z4 := mt (cveq (nI_toInt (n := E 8 w) (by have := hO 8 w; omega)) (show ((4 : Int32)).toInt = 4 from by decide)).mpr z4
            exfalso; omega
          · replace z4 := (cveq (nI_toInt (n := E 8 w) (by have := hO 8 w; omega)) (show ((4 : Int32)).toInt = 4 from by decide)).mp (Decidable.not_not.mp z4)
            refine b_M_pattern_118 ?_
            refine b_M_pattern_123 (v2 := 2) (hA _ (by omega) (by omega)) (rdE (k_M_0)) (by rw [stmI0 (x := 2) (v := 2) (k_M_0) rfl]; exact (rdI (e := 2) (k_M_0) (by simp [up]))) (fun z => absurd z (by decide)) (fun z5 => ?_)
            rw [stmI0 (x := 2) (v := 2) (k_M_0) rfl]
            refine rt_i ?_ ?_ (b_M_pattern_133 )
            · rfl
            · rfl
      · intro hR y
        exact absurd hr hR
theorem m_pattern0 {d : Nat} {A : Nat → Prop} {g : ah_H} {m : Nat} {E : rg_D} (hO : ∀ f j, E f j < 2 ^ 30) (hA : ∀ q, m ≤ q → q < m + 16 → A q) (hd : 8 ≤ d) (h3 : E 0 0 ≤ 3) {w n : Nat} (hw : w < E 0 0) (hn : 1 ≤ n ∧ n ≤ 3333) (hr : rowF 4 n) (hl : lnF 4 n ≤ E 3 w) (hf : E 8 w < 4) : ah_Ev mt_M_pattern d A [.ref m, .int (nI w), .int (nI n)] (rg LTm g m E) (.returned (some (.int (nI (E 8 w))))) (rg LTm g m (up (up (up (up E 32 0 0) 9 (4 * w + E 8 w) n) 8 w (E 8 w + 1)) 16 0 0)) := by
  refine ah_Ev.of (by decide +kernel) (Nat.le_of_ble_eq_true rfl) ?_
  show ah_At mt_M_pattern d A (rg LTm g m E) (.returned (some (.int (nI (E 8 w))))) (rg LTm g m (up (up (up (up E 32 0 0) 9 (4 * w + E 8 w) n) 8 w (E 8 w + 1)) 16 0 0)) 0 [(0, .ref m), (1, .int (nI w)), (2, .int (nI n))] [] (rg LTm g m E)
  refine b_M_pattern_0 (c_isWagon (d := d - 1) (A := A) (E := E) hO (nI_toInt (n := w) (by omega)) (n := E 0 0) rfl) (by omega) (fun q hq => hq) ?_ (rdN (k_M_0))
  refine aft_1 ?_
  refine b_M_pattern_5 (fun z1 => ?_) (fun z1 => ?_)
  · replace z1 := pz0.mp z1
    exfalso; omega
  · replace z1 := pz1.mp z1
    refine b_M_pattern_8 (c_in (d := d - 1) (A := A) (tl_n (show (Int32.toInt64 (nI n) : Int64) = lN (n) from (il_n rfl (by omega))) (by omega)) (show ((1 : Int64)).toInt = 1 from by decide) (show ((3333 : Int64)).toInt = 3333 from by decide)) (by omega) (fun q hq => hq) ?_
    refine aft_1 ?_
    refine b_M_pattern_17 (fun z2 => ?_) (fun z2 => ?_)
    · replace z2 := pz0.mp z2
      exfalso; omega
    · replace z2 := pz1.mp z2
      refine b_M_pattern_20 ?_
      refine b_M_pattern_25 ?_
      refine pt_l (by omega) 4 n 0 (by omega) ?_ ?_
      · intro hR
        have hln := lnF_le 4 n
        rw [Nat.zero_add]
        refine b_M_pattern_78 (fun z => absurd z (by decide)) (fun z1 => ?_)
        refine b_M_pattern_82 (rdR (k_M_3)) (ah_ix_nI (by omega)) (rdI (k_M3 _ (by omega)) rfl) (fun z2 => ?_) (fun z2 => ?_)
        · replace z2 := (cvlt (nI_toInt (n := E 3 w) (by have := hO 3 w; omega)) (nI_toInt (n := lnF 4 n) (by omega))).mp z2
          exfalso; omega
        · replace z2 := mt (cvlt (nI_toInt (n := E 3 w) (by have := hO 3 w; omega)) (nI_toInt (n := lnF 4 n) (by omega))).mpr z2
          refine b_M_pattern_93 ?_
          refine b_M_pattern_98 (fun z3 => ?_) (fun z => absurd (by decide) z)
          refine b_M_pattern_108 (rdR (k_M_8)) (ah_ix_nI (by omega)) (rdI (k_M8 _ (by omega)) rfl) (fun z4 => ?_) (fun z4 => ?_)
          · replace z4 := mt (cveq (nI_toInt (n := E 8 w) (by have := hO 8 w; omega)) (show ((4 : Int32)).toInt = 4 from by decide)).mpr z4
            refine b_M_pattern_122 ?_
            refine b_M_pattern_123 (v2 := 0) (hA _ (by omega) (by omega)) (rdE (k_M_0)) (by rw [stmI0 (x := 0) (v := 0) (k_M_0) rfl]; exact (rdI (e := 0) (k_M_0) (by simp [up]))) (fun z5 => ?_) (fun z => absurd (by decide) z)
            rw [stmI0 (x := 0) (v := 0) (k_M_0) rfl]
            refine rt_i ?_ ?_ (b_M_pattern_135 (v5 := m + 6) (v6 := nI (E 8 w)) (v9 := m + 6) (v10 := nI ((E 8 w) + 1)) (rdR (k_M_9)) (rdR (k_M_8)) (ah_ix_nI (by omega)) (rdI (e := E 8 w) (k_M8 _ (by omega)) (by simp [up])) (hA _ (by omega) (by omega)) (ix_n (show ((4 * (nI w)) + (nI (E 8 w)) : Int32) = nI ((4 * w) + (E 8 w)) from (ad_n (mu_n rfl rfl) rfl)) (by have := hO 8 w; omega)) (rdE (k_M9 _ (by omega))) (by rw [stmI (x := n) (v := nI n) (k_M9 _ (by omega)) rfl]; exact (rdR (k_M_8))) (ah_ix_nI (by omega)) (by rw [stmI (x := n) (v := nI n) (k_M9 _ (by omega)) rfl]; exact (rdI (e := E 8 w) (k_M8 _ (by omega)) (by simp [up]))) (hA _ (by omega) (by omega)) (ah_ix_nI (by omega)) (by rw [stmI (x := n) (v := nI n) (k_M9 _ (by omega)) rfl]; exact (rdE (k_M8 _ (by omega)))) (hA _ (by omega) (by omega)) (by rw [stmI (x := n) (v := nI n) (k_M9 _ (by omega)) rfl, stmI (x := (E 8 w) + 1) (v := (nI (E 8 w)) + 1) (k_M8 _ (by omega)) (ad_n rfl rfl)]; exact (rdE (k_M_17))) (by rw [stmI (x := n) (v := nI n) (k_M9 _ (by omega)) rfl, stmI (x := (E 8 w) + 1) (v := (nI (E 8 w)) + 1) (k_M8 _ (by omega)) (ad_n rfl rfl), stmI0 (x := 0) (v := 0) (k_M_17) rfl]; exact (rdR (k_M_8))) (ah_ix_nI (by omega)) (by rw [stmI (x := n) (v := nI n) (k_M9 _ (by omega)) rfl, stmI (x := (E 8 w) + 1) (v := (nI (E 8 w)) + 1) (k_M8 _ (by omega)) (ad_n rfl rfl), stmI0 (x := 0) (v := 0) (k_M_17) rfl]; exact (rdI (e := (E 8 w) + 1) (k_M8 _ (by omega)) (by simp [up]))))
            · exact nI_pred _
            · rw [stmI (x := n) (v := nI n) (k_M9 _ (by omega)) rfl, stmI (x := (E 8 w) + 1) (v := (nI (E 8 w)) + 1) (k_M8 _ (by omega)) (ad_n rfl rfl), stmI0 (x := 0) (v := 0) (k_M_17) rfl] <;> (rfl)
          · replace z4 := (cveq (nI_toInt (n := E 8 w) (by have := hO 8 w; omega)) (show ((4 : Int32)).toInt = 4 from by decide)).mp (Decidable.not_not.mp z4)
            exfalso; omega
      · intro hR y
        exact absurd hr hR
