/-! CONTRACTS of the model: what may be. Printed out of wip/ -/
def fa (x y : Nat) : Nat := if y < x then x - y else y - x
def prP (E : rg_D) (a c : Nat) : Prop := E 15 (4 * E 13 a + E 13 c) = 0 ∨ E 28 a = 0 ∨ E 28 c = 0 ∨ E 15 (4 * E 13 a + E 13 c) ≤ fa (E 28 a) (E 28 c)
def rwP (E : rg_D) (a : Nat) : Prop := (E 28 a = 0 ∨ E 14 a ≤ E 2 0) ∧ ∀ c, c < a → prP E a c
def mbP (E : rg_D) : Prop := (∀ a, a < E 1 0 → rwP E a) ∧ ∀ w, w < E 0 0 → gdP E w
theorem mb_f160 {d : Nat} {A : Nat → Prop} {g : ah_H} {m : Nat} {E : rg_D} (hO : ∀ f j, E f j < 2 ^ 30) (hb : E 1 0 ≤ 8) (hn : E 0 0 ≤ 3) (h8 : ∀ w, E 8 w ≤ 4) (h9 : ∀ j, E 9 j < 10000) (h11 : ∀ j, E 11 j ≤ 1000000) (h13 : ∀ j, E 13 j < 4) (hd : 5 ≤ d) (hx : ¬ mbP E) {w : Nat} (hw : w ≤ 3) {h0 : ah_H} : ah_At mt_M_mayBe d A h0 (.returned (some (.int (bz (pb (mbP E)))))) (rg LTm g m E) 160 [(0, .ref m), (1, .int 0), (2, .int (nI w))] [] (rg LTm g m E) := by
  refine b_M_mayBe_160 (rdI (k_M_1) rfl) (fun z1 => ?_) (fun z1 => ?_)
  · replace z1 := (cvle (nI_toInt (n := E 0 0) (by have := hO 0 0; omega)) (nI_toInt (n := w) (by omega))).mp z1
    refine rt_i ?_ ?_ (b_M_mayBe_184 (by decide +kernel))
    · exact bz_np hx
    · rfl
  · replace z1 := mt (cvle (nI_toInt (n := E 0 0) (by have := hO 0 0; omega)) (nI_toInt (n := w) (by omega))).mpr z1
    refine b_M_mayBe_168 (fun z2 => ?_) (fun z => absurd (by decide) z)
    refine rt_i ?_ ?_ (b_M_mayBe_184 (by decide +kernel))
    · exact bz_np hx
    · rfl
theorem mb_f158 {d : Nat} {A : Nat → Prop} {g : ah_H} {m : Nat} {E : rg_D} (hO : ∀ f j, E f j < 2 ^ 30) (hb : E 1 0 ≤ 8) (hn : E 0 0 ≤ 3) (h8 : ∀ w, E 8 w ≤ 4) (h9 : ∀ j, E 9 j < 10000) (h11 : ∀ j, E 11 j ≤ 1000000) (h13 : ∀ j, E 13 j < 4) (hd : 5 ≤ d) (hx : ¬ mbP E) {h0 : ah_H} : ah_At mt_M_mayBe d A h0 (.returned (some (.int (bz (pb (mbP E)))))) (rg LTm g m E) 158 [(0, .ref m), (1, .int 0)] [] (rg LTm g m E) := by
  refine b_M_mayBe_158 ?_
  exact mb_f160 hO hb hn h8 h9 h11 h13 hd hx (w := 0) (by decide)
theorem mb_f4 {d : Nat} {A : Nat → Prop} {g : ah_H} {m : Nat} {E : rg_D} (hO : ∀ f j, E f j < 2 ^ 30) (hb : E 1 0 ≤ 8) (hn : E 0 0 ≤ 3) (h8 : ∀ w, E 8 w ≤ 4) (h9 : ∀ j, E 9 j < 10000) (h11 : ∀ j, E 11 j ≤ 1000000) (h13 : ∀ j, E 13 j < 4) (hd : 5 ≤ d) (hx : ¬ mbP E) {a : Nat} (ha : a ≤ 9) {h0 : ah_H} : ah_At mt_M_mayBe d A h0 (.returned (some (.int (bz (pb (mbP E)))))) (rg LTm g m E) 4 [(0, .ref m), (1, .int 0), (2, .int (nI a))] [] (rg LTm g m E) := by
  refine b_M_mayBe_4 (rdI (k_M_2) rfl) (fun z1 => ?_) (fun z1 => ?_)
  · replace z1 := (cvle (nI_toInt (n := E 1 0) (by have := hO 1 0; omega)) (nI_toInt (n := a) (by omega))).mp z1
    exact mb_f158 hO hb hn h8 h9 h11 h13 hd hx
  · replace z1 := mt (cvle (nI_toInt (n := E 1 0) (by have := hO 1 0; omega)) (nI_toInt (n := a) (by omega))).mpr z1
    refine b_M_mayBe_12 (fun z2 => ?_) (fun z => absurd (by decide) z)
    exact mb_f158 hO hb hn h8 h9 h11 h13 hd hx
theorem mb_f47 {d : Nat} {A : Nat → Prop} {g : ah_H} {m : Nat} {E : rg_D} (hO : ∀ f j, E f j < 2 ^ 30) (hb : E 1 0 ≤ 8) (hn : E 0 0 ≤ 3) (h8 : ∀ w, E 8 w ≤ 4) (h9 : ∀ j, E 9 j < 10000) (h11 : ∀ j, E 11 j ≤ 1000000) (h13 : ∀ j, E 13 j < 4) (hd : 5 ≤ d) (hx : ¬ mbP E) {a c : Nat} (ha : a ≤ 8) (hc : c ≤ 8) {h0 : ah_H} : ah_At mt_M_mayBe d A h0 (.returned (some (.int (bz (pb (mbP E)))))) (rg LTm g m E) 47 [(0, .ref m), (1, .int 0), (2, .int (nI a)), (3, .int (nI c))] [] (rg LTm g m E) := by
  refine b_M_mayBe_47 (fun z1 => ?_) (fun z1 => ?_)
  · replace z1 := (cvle (nI_toInt (n := a) (by omega)) (nI_toInt (n := c) (by omega))).mp z1
    refine b_M_mayBe_152 ?_
    rw [show ((nI a) + 1 : Int32) = nI (a + 1) from (ad_n rfl rfl)]
    exact mb_f4 hO hb hn h8 h9 h11 h13 hd hx (by omega)
  · replace z1 := mt (cvle (nI_toInt (n := a) (by omega)) (nI_toInt (n := c) (by omega))).mpr z1
    refine b_M_mayBe_52 (fun z2 => ?_) (fun z => absurd (by decide) z)
    refine b_M_mayBe_152 ?_
    rw [show ((nI a) + 1 : Int32) = nI (a + 1) from (ad_n rfl rfl)]
    exact mb_f4 hO hb hn h8 h9 h11 h13 hd hx (by omega)
theorem lo_mb160 {d : Nat} {A : Nat → Prop} {g : ah_H} {m : Nat} {E : rg_D} (hO : ∀ f j, E f j < 2 ^ 30) (hb : E 1 0 ≤ 8) (hn : E 0 0 ≤ 3) (h8 : ∀ w, E 8 w ≤ 4) (h9 : ∀ j, E 9 j < 10000) (h11 : ∀ j, E 11 j ≤ 1000000) (h13 : ∀ j, E 13 j < 4) (hd : 5 ≤ d) (hR : ∀ a, a < E 1 0 → rwP E a) {h0 : ah_H} : ∀ (k w : Nat), w + k = E 0 0 → (∀ t, t < w → gdP E t) → ah_At mt_M_mayBe d A h0 (.returned (some (.int (bz (pb (mbP E)))))) (rg LTm g m E) 160 [(0, .ref m), (1, .int 1), (2, .int (nI w))] [] (rg LTm g m E)
  | 0, w, hk, hI => by
    refine b_M_mayBe_160 (rdI (k_M_1) rfl) (fun z1 => ?_) (fun z1 => by exfalso; replace z1 := mt (cvle (nI_toInt (n := E 0 0) (by have := hO 0 0; omega)) (nI_toInt (n := w) (by omega))).mpr z1; omega)
    replace z1 := (cvle (nI_toInt (n := E 0 0) (by have := hO 0 0; omega)) (nI_toInt (n := w) (by omega))).mp z1
    refine rt_i ?_ ?_ (b_M_mayBe_184 (by decide +kernel))
    · exact bz_p ⟨hR, fun t ht => hI t (by omega)⟩
    · rfl
  | k + 1, w, hk, hI => by
    refine b_M_mayBe_160 (rdI (k_M_1) rfl) (fun z1 => by exfalso; replace z1 := (cvle (nI_toInt (n := E 0 0) (by have := hO 0 0; omega)) (nI_toInt (n := w) (by omega))).mp z1; omega) (fun z1 => ?_)
    replace z1 := mt (cvle (nI_toInt (n := E 0 0) (by have := hO 0 0; omega)) (nI_toInt (n := w) (by omega))).mpr z1
    refine b_M_mayBe_168 (fun z => absurd z (by decide)) (fun z2 => ?_)
    refine b_M_mayBe_172 (c_isGood (d := d - 1) (A := A) hO (by omega) hb h8 h9 h11 (by omega)) (by omega) (fun q hq => hq) ?_ (rdN (k_M_0))
    refine aft_1 ?_
    refine b_M_mayBe_177 ?_
    rw [show ((nI w) + 1 : Int32) = nI (w + 1) from (ad_n rfl rfl)]
    by_cases hg : gdP E w
    · rw [show bz (pb (gdP E w)) = 1 from by rw [pb_t hg]; rfl]
      exact lo_mb160 hO hb hn h8 h9 h11 h13 hd hR k (w + 1) (by omega) (lt_s hI hg)
    · rw [show bz (pb (gdP E w)) = 0 from by rw [pb_f hg]; rfl]
      exact mb_f160 hO hb hn h8 h9 h11 h13 hd (fun q => hg (q.2 w (by omega))) (by omega)
theorem lo_mb47 {d : Nat} {A : Nat → Prop} {g : ah_H} {m : Nat} {E : rg_D} (hO : ∀ f j, E f j < 2 ^ 30) (hb : E 1 0 ≤ 8) (hn : E 0 0 ≤ 3) (h8 : ∀ w, E 8 w ≤ 4) (h9 : ∀ j, E 9 j < 10000) (h11 : ∀ j, E 11 j ≤ 1000000) (h13 : ∀ j, E 13 j < 4) (hd : 5 ≤ d) {a : Nat} (ha : a < E 1 0) {h0 : ah_H} (hK : (∀ t, t < a → prP E a t) → ah_At mt_M_mayBe d A h0 (.returned (some (.int (bz (pb (mbP E)))))) (rg LTm g m E) 4 [(0, .ref m), (1, .int 1), (2, .int (nI (a + 1)))] [] (rg LTm g m E)) : ∀ (k c : Nat), c + k = a → (∀ t, t < c → prP E a t) → ah_At mt_M_mayBe d A h0 (.returned (some (.int (bz (pb (mbP E)))))) (rg LTm g m E) 47 [(0, .ref m), (1, .int 1), (2, .int (nI a)), (3, .int (nI c))] [] (rg LTm g m E)
  | 0, c, hk, hI => by
    refine b_M_mayBe_47 (fun z1 => ?_) (fun z1 => by exfalso; replace z1 := mt (cvle (nI_toInt (n := a) (by omega)) (nI_toInt (n := c) (by omega))).mpr z1; omega)
    replace z1 := (cvle (nI_toInt (n := a) (by omega)) (nI_toInt (n := c) (by omega))).mp z1
    refine b_M_mayBe_152 ?_
    rw [show ((nI a) + 1 : Int32) = nI (a + 1) from (ad_n rfl rfl)]
    exact hK (fun t ht => hI t (by omega))
  | k + 1, c, hk, hI => by
    refine b_M_mayBe_47 (fun z1 => by exfalso; replace z1 := (cvle (nI_toInt (n := a) (by omega)) (nI_toInt (n := c) (by omega))).mp z1; omega) (fun z1 => ?_)
    replace z1 := mt (cvle (nI_toInt (n := a) (by omega)) (nI_toInt (n := c) (by omega))).mpr z1
    refine b_M_mayBe_52 (fun z => absurd z (by decide)) (fun z2 => ?_)
    refine b_M_mayBe_56 (c_rulesOf (d := d - 1) (A := A) hO (by omega) (by omega) (h13 _) (h13 _)) (by omega) (fun q hq => hq) ?_ (rdN (k_M_0))
    refine aft_1 ?_
    refine b_M_mayBe_62 (rdR (k_M_18)) (ah_ix_nI (by omega)) (rdI (k_M28 _ (by omega)) rfl) (rdR (k_M_18)) (ah_ix_nI (by omega)) (rdI (k_M28 _ (by omega)) rfl) (fun z3 => ?_) (fun z3 => ?_)
    · replace z3 := (cvle (nI_toInt (n := E 28 a) (by have := hO 28 a; omega)) (nI_toInt (n := E 28 c) (by have := hO 28 c; omega))).mp z3
      refine b_M_mayBe_95 (rdR (k_M_18)) (ah_ix_nI (by omega)) (rdI (k_M28 _ (by omega)) rfl) (rdR (k_M_18)) (ah_ix_nI (by omega)) (rdI (k_M28 _ (by omega)) rfl) ?_
      rw [show ((nI (E 28 c)) - (nI (E 28 a)) : Int32) = nI ((E 28 c) - (E 28 a)) from (su_n rfl rfl (by omega))]
      refine b_M_mayBe_108 (fun z4 => ?_) (fun z4 => ?_)
      · replace z4 := (cveq (nI_toInt (n := E 15 (4 * E 13 a + E 13 c)) (by have := hO 13 a; have := hO 13 c; have := hO 15 (4 * E 13 a + E 13 c); omega)) (show ((0 : Int32)).toInt = 0 from by decide)).mp z4
        refine b_M_mayBe_140 ?_
        refine b_M_mayBe_145 ?_
        rw [show ((nI c) + 1 : Int32) = nI (c + 1) from (ad_n rfl rfl)]
        exact lo_mb47 hO hb hn h8 h9 h11 h13 hd ha hK k (c + 1) (by omega) (lt_s hI (by unfold prP fa; split <;> omega))
      · replace z4 := mt (cveq (nI_toInt (n := E 15 (4 * E 13 a + E 13 c)) (by have := hO 13 a; have := hO 13 c; have := hO 15 (4 * E 13 a + E 13 c); omega)) (show ((0 : Int32)).toInt = 0 from by decide)).mpr z4
        refine b_M_mayBe_115 (rdR (k_M_18)) (ah_ix_nI (by omega)) (rdI (k_M28 _ (by omega)) rfl) (fun z5 => ?_) (fun z5 => ?_)
        · replace z5 := (cveq (nI_toInt (n := E 28 a) (by have := hO 28 a; omega)) (show ((0 : Int32)).toInt = 0 from by decide)).mp z5
          refine b_M_mayBe_140 ?_
          refine b_M_mayBe_145 ?_
          rw [show ((nI c) + 1 : Int32) = nI (c + 1) from (ad_n rfl rfl)]
          exact lo_mb47 hO hb hn h8 h9 h11 h13 hd ha hK k (c + 1) (by omega) (lt_s hI (by unfold prP fa; split <;> omega))
        · replace z5 := mt (cveq (nI_toInt (n := E 28 a) (by have := hO 28 a; omega)) (show ((0 : Int32)).toInt = 0 from by decide)).mpr z5
          refine b_M_mayBe_124 (rdR (k_M_18)) (ah_ix_nI (by omega)) (rdI (k_M28 _ (by omega)) rfl) (fun z6 => ?_) (fun z6 => ?_)
          · replace z6 := (cveq (nI_toInt (n := E 28 c) (by have := hO 28 c; omega)) (show ((0 : Int32)).toInt = 0 from by decide)).mp z6
            refine b_M_mayBe_140 ?_
            refine b_M_mayBe_145 ?_
            rw [show ((nI c) + 1 : Int32) = nI (c + 1) from (ad_n rfl rfl)]
            exact lo_mb47 hO hb hn h8 h9 h11 h13 hd ha hK k (c + 1) (by omega) (lt_s hI (by unfold prP fa; split <;> omega))
          · replace z6 := mt (cveq (nI_toInt (n := E 28 c) (by have := hO 28 c; omega)) (show ((0 : Int32)).toInt = 0 from by decide)).mpr z6
            refine b_M_mayBe_133 (fun z7 => ?_) (fun z7 => ?_)
            · replace z7 := (cvlt (nI_toInt (n := (E 28 c) - (E 28 a)) (by have := hO 28 a; have := hO 28 c; omega)) (nI_toInt (n := E 15 (4 * E 13 a + E 13 c)) (by have := hO 13 a; have := hO 13 c; have := hO 15 (4 * E 13 a + E 13 c); omega))).mp z7
              refine b_M_mayBe_144 ?_
              refine b_M_mayBe_145 ?_
              rw [show ((nI c) + 1 : Int32) = nI (c + 1) from (ad_n rfl rfl)]
              exact mb_f47 hO hb hn h8 h9 h11 h13 hd (fun q => by have q2 := (q.1 a ha).2 c (by omega); revert q2; unfold prP fa; split <;> omega) (by omega) (by omega)
            · replace z7 := mt (cvlt (nI_toInt (n := (E 28 c) - (E 28 a)) (by have := hO 28 a; have := hO 28 c; omega)) (nI_toInt (n := E 15 (4 * E 13 a + E 13 c)) (by have := hO 13 a; have := hO 13 c; have := hO 15 (4 * E 13 a + E 13 c); omega))).mpr z7
              refine b_M_mayBe_140 ?_
              refine b_M_mayBe_145 ?_
              rw [show ((nI c) + 1 : Int32) = nI (c + 1) from (ad_n rfl rfl)]
              exact lo_mb47 hO hb hn h8 h9 h11 h13 hd ha hK k (c + 1) (by omega) (lt_s hI (by unfold prP fa; split <;> omega))
    · replace z3 := mt (cvle (nI_toInt (n := E 28 a) (by have := hO 28 a; omega)) (nI_toInt (n := E 28 c) (by have := hO 28 c; omega))).mpr z3
      refine b_M_mayBe_79 (rdR (k_M_18)) (ah_ix_nI (by omega)) (rdI (k_M28 _ (by omega)) rfl) (rdR (k_M_18)) (ah_ix_nI (by omega)) (rdI (k_M28 _ (by omega)) rfl) ?_
      rw [show ((nI (E 28 a)) - (nI (E 28 c)) : Int32) = nI ((E 28 a) - (E 28 c)) from (su_n rfl rfl (by omega))]
      refine b_M_mayBe_108 (fun z8 => ?_) (fun z8 => ?_)
      · replace z8 := (cveq (nI_toInt (n := E 15 (4 * E 13 a + E 13 c)) (by have := hO 13 a; have := hO 13 c; have := hO 15 (4 * E 13 a + E 13 c); omega)) (show ((0 : Int32)).toInt = 0 from by decide)).mp z8
        refine b_M_mayBe_140 ?_
        refine b_M_mayBe_145 ?_
        rw [show ((nI c) + 1 : Int32) = nI (c + 1) from (ad_n rfl rfl)]
        exact lo_mb47 hO hb hn h8 h9 h11 h13 hd ha hK k (c + 1) (by omega) (lt_s hI (by unfold prP fa; split <;> omega))
      · replace z8 := mt (cveq (nI_toInt (n := E 15 (4 * E 13 a + E 13 c)) (by have := hO 13 a; have := hO 13 c; have := hO 15 (4 * E 13 a + E 13 c); omega)) (show ((0 : Int32)).toInt = 0 from by decide)).mpr z8
        refine b_M_mayBe_115 (rdR (k_M_18)) (ah_ix_nI (by omega)) (rdI (k_M28 _ (by omega)) rfl) (fun z9 => ?_) (fun z9 => ?_)
        · replace z9 := (cveq (nI_toInt (n := E 28 a) (by have := hO 28 a; omega)) (show ((0 : Int32)).toInt = 0 from by decide)).mp z9
          refine b_M_mayBe_140 ?_
          refine b_M_mayBe_145 ?_
          rw [show ((nI c) + 1 : Int32) = nI (c + 1) from (ad_n rfl rfl)]
          exact lo_mb47 hO hb hn h8 h9 h11 h13 hd ha hK k (c + 1) (by omega) (lt_s hI (by unfold prP fa; split <;> omega))
        · replace z9 := mt (cveq (nI_toInt (n := E 28 a) (by have := hO 28 a; omega)) (show ((0 : Int32)).toInt = 0 from by decide)).mpr z9
          refine b_M_mayBe_124 (rdR (k_M_18)) (ah_ix_nI (by omega)) (rdI (k_M28 _ (by omega)) rfl) (fun z10 => ?_) (fun z10 => ?_)
          · replace z10 := (cveq (nI_toInt (n := E 28 c) (by have := hO 28 c; omega)) (show ((0 : Int32)).toInt = 0 from by decide)).mp z10
            refine b_M_mayBe_140 ?_
            refine b_M_mayBe_145 ?_
            rw [show ((nI c) + 1 : Int32) = nI (c + 1) from (ad_n rfl rfl)]
            exact lo_mb47 hO hb hn h8 h9 h11 h13 hd ha hK k (c + 1) (by omega) (lt_s hI (by unfold prP fa; split <;> omega))
          · replace z10 := mt (cveq (nI_toInt (n := E 28 c) (by have := hO 28 c; omega)) (show ((0 : Int32)).toInt = 0 from by decide)).mpr z10
            refine b_M_mayBe_133 (fun z11 => ?_) (fun z11 => ?_)
            · replace z11 := (cvlt (nI_toInt (n := (E 28 a) - (E 28 c)) (by have := hO 28 a; have := hO 28 c; omega)) (nI_toInt (n := E 15 (4 * E 13 a + E 13 c)) (by have := hO 13 a; have := hO 13 c; have := hO 15 (4 * E 13 a + E 13 c); omega))).mp z11
              refine b_M_mayBe_144 ?_
              refine b_M_mayBe_145 ?_
              rw [show ((nI c) + 1 : Int32) = nI (c + 1) from (ad_n rfl rfl)]
              exact mb_f47 hO hb hn h8 h9 h11 h13 hd (fun q => by have q2 := (q.1 a ha).2 c (by omega); revert q2; unfold prP fa; split <;> omega) (by omega) (by omega)
            · replace z11 := mt (cvlt (nI_toInt (n := (E 28 a) - (E 28 c)) (by have := hO 28 a; have := hO 28 c; omega)) (nI_toInt (n := E 15 (4 * E 13 a + E 13 c)) (by have := hO 13 a; have := hO 13 c; have := hO 15 (4 * E 13 a + E 13 c); omega))).mpr z11
              refine b_M_mayBe_140 ?_
              refine b_M_mayBe_145 ?_
              rw [show ((nI c) + 1 : Int32) = nI (c + 1) from (ad_n rfl rfl)]
              exact lo_mb47 hO hb hn h8 h9 h11 h13 hd ha hK k (c + 1) (by omega) (lt_s hI (by unfold prP fa; split <;> omega))
theorem lo_mb4 {d : Nat} {A : Nat → Prop} {g : ah_H} {m : Nat} {E : rg_D} (hO : ∀ f j, E f j < 2 ^ 30) (hb : E 1 0 ≤ 8) (hn : E 0 0 ≤ 3) (h8 : ∀ w, E 8 w ≤ 4) (h9 : ∀ j, E 9 j < 10000) (h11 : ∀ j, E 11 j ≤ 1000000) (h13 : ∀ j, E 13 j < 4) (hd : 5 ≤ d) {h0 : ah_H} : ∀ (k a : Nat), a + k = E 1 0 → (∀ t, t < a → rwP E t) → ah_At mt_M_mayBe d A h0 (.returned (some (.int (bz (pb (mbP E)))))) (rg LTm g m E) 4 [(0, .ref m), (1, .int 1), (2, .int (nI a))] [] (rg LTm g m E)
  | 0, a, hk, hI => by
    refine b_M_mayBe_4 (rdI (k_M_2) rfl) (fun z1 => ?_) (fun z1 => by exfalso; replace z1 := mt (cvle (nI_toInt (n := E 1 0) (by have := hO 1 0; omega)) (nI_toInt (n := a) (by omega))).mpr z1; omega)
    replace z1 := (cvle (nI_toInt (n := E 1 0) (by have := hO 1 0; omega)) (nI_toInt (n := a) (by omega))).mp z1
    refine b_M_mayBe_158 ?_
    exact lo_mb160 hO hb hn h8 h9 h11 h13 hd (by rw [← show a = E 1 0 by omega]; exact hI) _ 0 (Nat.zero_add _) (fun t ht => absurd ht (Nat.not_lt_zero _))
  | k + 1, a, hk, hI => by
    refine b_M_mayBe_4 (rdI (k_M_2) rfl) (fun z1 => by exfalso; replace z1 := (cvle (nI_toInt (n := E 1 0) (by have := hO 1 0; omega)) (nI_toInt (n := a) (by omega))).mp z1; omega) (fun z1 => ?_)
    replace z1 := mt (cvle (nI_toInt (n := E 1 0) (by have := hO 1 0; omega)) (nI_toInt (n := a) (by omega))).mpr z1
    refine b_M_mayBe_12 (fun z => absurd z (by decide)) (fun z2 => ?_)
    refine b_M_mayBe_16 (rdR (k_M_18)) (ah_ix_nI (by omega)) (rdI (k_M28 _ (by omega)) rfl) (fun z3 => ?_) (fun z3 => ?_)
    · replace z3 := (cveq (nI_toInt (n := E 28 a) (by have := hO 28 a; omega)) (show ((0 : Int32)).toInt = 0 from by decide)).mp z3
      refine b_M_mayBe_39 ?_
      refine b_M_mayBe_44 ?_
      exact lo_mb47 hO hb hn h8 h9 h11 h13 hd (by omega) (fun hp => lo_mb4 hO hb hn h8 h9 h11 h13 hd k (a + 1) (by omega) (lt_s hI ⟨by omega, hp⟩)) a 0 (Nat.zero_add _) (fun t ht => absurd ht (Nat.not_lt_zero _))
    · replace z3 := mt (cveq (nI_toInt (n := E 28 a) (by have := hO 28 a; omega)) (show ((0 : Int32)).toInt = 0 from by decide)).mpr z3
      refine b_M_mayBe_25 (rdR (k_M_14)) (ah_ix_nI (by omega)) (rdL (k_M14 _ (by omega)) rfl) (rdL (k_M_16) rfl) (fun z4 => ?_) (fun z4 => ?_)
      · replace z4 := (cLgt (lN_toInt (n := E 14 a) (by have := hO 14 a; omega)) (lN_toInt (n := E 2 0) (by have := hO 2 0; omega))).mp z4
        refine b_M_mayBe_43 ?_
        refine b_M_mayBe_44 ?_
        exact mb_f47 hO hb hn h8 h9 h11 h13 hd (fun q => by have q2 := (q.1 a (by omega)).1; omega) (c := 0) (by omega) (by decide)
      · replace z4 := mt (cLgt (lN_toInt (n := E 14 a) (by have := hO 14 a; omega)) (lN_toInt (n := E 2 0) (by have := hO 2 0; omega))).mpr z4
        refine b_M_mayBe_39 ?_
        refine b_M_mayBe_44 ?_
        exact lo_mb47 hO hb hn h8 h9 h11 h13 hd (by omega) (fun hp => lo_mb4 hO hb hn h8 h9 h11 h13 hd k (a + 1) (by omega) (lt_s hI ⟨by omega, hp⟩)) a 0 (Nat.zero_add _) (fun t ht => absurd ht (Nat.not_lt_zero _))
theorem c_mayBe {d : Nat} {A : Nat → Prop} {g : ah_H} {m : Nat} {E : rg_D} (hO : ∀ f j, E f j < 2 ^ 30) (hb : E 1 0 ≤ 8) (hn : E 0 0 ≤ 3) (h8 : ∀ w, E 8 w ≤ 4) (h9 : ∀ j, E 9 j < 10000) (h11 : ∀ j, E 11 j ≤ 1000000) (h13 : ∀ j, E 13 j < 4) (hd : 5 ≤ d) : ah_Ev mt_M_mayBe d A [.ref m] (rg LTm g m E) (.returned (some (.int (bz (pb (mbP E)))))) (rg LTm g m E) := by
  refine ah_Ev.of (by decide +kernel) (Nat.le_of_ble_eq_true rfl) ?_
  show ah_At mt_M_mayBe d A (rg LTm g m E) (.returned (some (.int (bz (pb (mbP E)))))) (rg LTm g m E) 0 [(0, .ref m)] [] (rg LTm g m E)
  refine b_M_mayBe_0 ?_
  exact lo_mb4 hO hb hn h8 h9 h11 h13 hd _ 0 (Nat.zero_add _) (fun t ht => absurd ht (Nat.not_lt_zero _))
