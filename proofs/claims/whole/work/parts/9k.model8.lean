/-! CONTRACTS of the model: places. Printed out of wip/ -/
theorem pr_n {x : Int32} {a : Nat} (h : x = nI (a + 1)) : x - 1 = nI a := by rw [h, nI_pred]
def tn (n : Nat) : Nat := if n < 10 then 1 else if n < 100 then 10 else if n < 1000 then 100 else 1000
def plc (n s : Nat) : Nat → Nat → Nat → Nat → Nat
  | 0, _, _, pl => pl
  | k + 1, T, a, pl => if a = 0 ∧ n / T % 10 = s then pl else plc n s k (T / 10) (a - if n / T % 10 = s then 1 else 0) (pl + 1)
def fnd (n s : Nat) : Nat → Nat → Nat → Prop
  | 0, _, _ => False
  | k + 1, T, a => 0 < T ∧ ((a = 0 ∧ n / T % 10 = s) ∨ fnd n s k (T / 10) (a - if n / T % 10 = s then 1 else 0))
theorem lo_pi108 {d : Nat} {A : Nat → Prop} {g : ah_H} {m : Nat} {E : rg_D} (hO : ∀ f j, E f j < 2 ^ 30) {i n : Nat} (hi : i < 8) (hn : n < 10000) (hs : E 10 i < 4) {h0 : ah_H} : ∀ (k T a pl : Nat), fnd n (E 10 i) k T a → T ≤ 1000 → a ≤ 8 → pl + k ≤ 100 → ah_At mt_M_placeIn d A h0 (.returned (some (.int (nI (plc n (E 10 i) k T a pl))))) (rg LTm g m E) 108 [(0, .ref m), (1, .int (nI i)), (3, .int (nI a)), (4, .int (nI n)), (5, .int (nI T)), (6, .int (nI pl))] [] (rg LTm g m E)
  | 0, T, a, pl, hf, hT1, ha, hpl => hf.elim
  | k + 1, T, a, pl, hf, hT1, ha, hpl => by
    have hT := hf.1; have hdv := Nat.div_le_self n T
    refine b_M_placeIn_108 (fun z1 => ?_) (fun z1 => ?_)
    · replace z1 := (cvlt (show ((0 : Int32)).toInt = 0 from by decide) (nI_toInt (n := a) (by omega))).mp z1
      refine b_M_placeIn_129 (nz_n (show (nI T : Int32) = nI (T) from rfl) (by omega) (by omega)) (rdR (k_M_10)) (ah_ix_nI (by omega)) (rdI (k_M10 _ (by omega)) rfl) (fun z2 => ?_) (fun z2 => ?_)
      · replace z2 := mt (cveq (tn_n (show (((nI n) / (nI T)) - ((nI n) / (nI T)) / 10 * 10 : Int32) = nI ((n / T) % 10) from (rm_n (dv_n rfl rfl (by omega) (by omega) (by omega)) rfl (by omega) (by omega) (by decide))) (by omega)) (nI_toInt (n := E 10 i) (by have := hO 10 i; omega))).mpr z2
        refine b_M_placeIn_151 ?_
        refine b_M_placeIn_152 ?_
        rw [show ((nI a) - 0 : Int32) = nI (a - 0) from (su_n rfl rfl (by omega))]
        rw [show ((nI T) / 10 : Int32) = nI (T / 10) from (dv_n rfl rfl (by omega) (by omega) (by decide))]
        rw [show ((nI pl) + 1 : Int32) = nI (pl + 1) from (ad_n rfl rfl)]
        rw [show plc n (E 10 i) (k + 1) T a pl = plc n (E 10 i) k (T / 10) (a - 0) (pl + 1) from by rw [plc, if_neg (by omega), show (if n / T % 10 = E 10 i then 1 else 0) = 0 from by split <;> omega]]
        exact lo_pi108 hO hi hn hs k (T / 10) _ (pl + 1) (by rcases hf.2 with q | q; omega; rw [show (if n / T % 10 = E 10 i then 1 else 0) = 0 from by split <;> omega] at q; exact q) (by omega) (by omega) (by omega)
      · replace z2 := (cveq (tn_n (show (((nI n) / (nI T)) - ((nI n) / (nI T)) / 10 * 10 : Int32) = nI ((n / T) % 10) from (rm_n (dv_n rfl rfl (by omega) (by omega) (by omega)) rfl (by omega) (by omega) (by decide))) (by omega)) (nI_toInt (n := E 10 i) (by have := hO 10 i; omega))).mp (Decidable.not_not.mp z2)
        refine b_M_placeIn_147 ?_
        refine b_M_placeIn_152 ?_
        rw [show ((nI a) - 1 : Int32) = nI (a - 1) from (su_n rfl rfl (by omega))]
        rw [show ((nI T) / 10 : Int32) = nI (T / 10) from (dv_n rfl rfl (by omega) (by omega) (by decide))]
        rw [show ((nI pl) + 1 : Int32) = nI (pl + 1) from (ad_n rfl rfl)]
        rw [show plc n (E 10 i) (k + 1) T a pl = plc n (E 10 i) k (T / 10) (a - 1) (pl + 1) from by rw [plc, if_neg (by omega), show (if n / T % 10 = E 10 i then 1 else 0) = 1 from by split <;> omega]]
        exact lo_pi108 hO hi hn hs k (T / 10) _ (pl + 1) (by rcases hf.2 with q | q; omega; rw [show (if n / T % 10 = E 10 i then 1 else 0) = 1 from by split <;> omega] at q; exact q) (by omega) (by omega) (by omega)
    · replace z1 := mt (cvlt (show ((0 : Int32)).toInt = 0 from by decide) (nI_toInt (n := a) (by omega))).mpr z1
      refine b_M_placeIn_112 (nz_n (show (nI T : Int32) = nI (T) from rfl) (by omega) (by omega)) (rdR (k_M_10)) (ah_ix_nI (by omega)) (rdI (k_M10 _ (by omega)) rfl) (fun z3 => ?_) (fun z3 => ?_)
      · replace z3 := (cveq (tn_n (show (((nI n) / (nI T)) - ((nI n) / (nI T)) / 10 * 10 : Int32) = nI ((n / T) % 10) from (rm_n (dv_n rfl rfl (by omega) (by omega) (by omega)) rfl (by omega) (by omega) (by decide))) (by omega)) (nI_toInt (n := E 10 i) (by have := hO 10 i; omega))).mp z3
        refine rt_i ?_ ?_ (b_M_placeIn_167 )
        · rw [plc, if_pos (by omega)]
        · rfl
      · replace z3 := mt (cveq (tn_n (show (((nI n) / (nI T)) - ((nI n) / (nI T)) / 10 * 10 : Int32) = nI ((n / T) % 10) from (rm_n (dv_n rfl rfl (by omega) (by omega) (by omega)) rfl (by omega) (by omega) (by decide))) (by omega)) (nI_toInt (n := E 10 i) (by have := hO 10 i; omega))).mpr z3
        refine b_M_placeIn_129 (nz_n (show (nI T : Int32) = nI (T) from rfl) (by omega) (by omega)) (rdR (k_M_10)) (ah_ix_nI (by omega)) (rdI (k_M10 _ (by omega)) rfl) (fun z4 => ?_) (fun z4 => ?_)
        · replace z4 := mt (cveq (tn_n (show (((nI n) / (nI T)) - ((nI n) / (nI T)) / 10 * 10 : Int32) = nI ((n / T) % 10) from (rm_n (dv_n rfl rfl (by omega) (by omega) (by omega)) rfl (by omega) (by omega) (by decide))) (by omega)) (nI_toInt (n := E 10 i) (by have := hO 10 i; omega))).mpr z4
          refine b_M_placeIn_151 ?_
          refine b_M_placeIn_152 ?_
          rw [show ((nI a) - 0 : Int32) = nI (a - 0) from (su_n rfl rfl (by omega))]
          rw [show ((nI T) / 10 : Int32) = nI (T / 10) from (dv_n rfl rfl (by omega) (by omega) (by decide))]
          rw [show ((nI pl) + 1 : Int32) = nI (pl + 1) from (ad_n rfl rfl)]
          rw [show plc n (E 10 i) (k + 1) T a pl = plc n (E 10 i) k (T / 10) (a - 0) (pl + 1) from by rw [plc, if_neg (by omega), show (if n / T % 10 = E 10 i then 1 else 0) = 0 from by split <;> omega]]
          exact lo_pi108 hO hi hn hs k (T / 10) _ (pl + 1) (by rcases hf.2 with q | q; omega; rw [show (if n / T % 10 = E 10 i then 1 else 0) = 0 from by split <;> omega] at q; exact q) (by omega) (by omega) (by omega)
        · replace z4 := (cveq (tn_n (show (((nI n) / (nI T)) - ((nI n) / (nI T)) / 10 * 10 : Int32) = nI ((n / T) % 10) from (rm_n (dv_n rfl rfl (by omega) (by omega) (by omega)) rfl (by omega) (by omega) (by decide))) (by omega)) (nI_toInt (n := E 10 i) (by have := hO 10 i; omega))).mp (Decidable.not_not.mp z4)
          refine b_M_placeIn_147 ?_
          refine b_M_placeIn_152 ?_
          rw [show ((nI a) - 1 : Int32) = nI (a - 1) from (su_n rfl rfl (by omega))]
          rw [show ((nI T) / 10 : Int32) = nI (T / 10) from (dv_n rfl rfl (by omega) (by omega) (by decide))]
          rw [show ((nI pl) + 1 : Int32) = nI (pl + 1) from (ad_n rfl rfl)]
          rw [show plc n (E 10 i) (k + 1) T a pl = plc n (E 10 i) k (T / 10) (a - 1) (pl + 1) from by rw [plc, if_neg (by omega), show (if n / T % 10 = E 10 i then 1 else 0) = 1 from by split <;> omega]]
          exact lo_pi108 hO hi hn hs k (T / 10) _ (pl + 1) (by rcases hf.2 with q | q; omega; rw [show (if n / T % 10 = E 10 i then 1 else 0) = 1 from by split <;> omega] at q; exact q) (by omega) (by omega) (by omega)
theorem pi_1000 {d : Nat} {A : Nat → Prop} {g : ah_H} {m : Nat} {E : rg_D} (hO : ∀ f j, E f j < 2 ^ 30) {i n : Nat} (hi : i < 8) (hn : n < 10000) (hs : E 10 i < 4) {a : Nat} {h0 h2 : ah_H} {o : Outcome} (K : ∀ T, T = tn n → ah_At mt_M_placeIn d A h0 o h2 105 [(0, .ref m), (1, .int (nI i)), (3, .int (nI a)), (4, .int (nI n)), (5, .int (nI T))] [] (rg LTm g m E)) (hT : 1000 ≤ n) : ah_At mt_M_placeIn d A h0 o h2 85 [(0, .ref m), (1, .int (nI i)), (3, .int (nI a)), (4, .int (nI n)), (5, .int 1000)] [] (rg LTm g m E) := by
  refine b_M_placeIn_85 (nz_n (show (1000 : Int32) = nI (1000) from rfl) (by omega) (by decide)) (fun z1 => ?_) (fun z1 => by exfalso; replace z1 := mt (cvlt (tn_n (show ((nI n) / 1000 : Int32) = nI (n / 1000) from (dv_n rfl rfl (by omega) (by omega) (by decide))) (by omega)) (show ((10 : Int32)).toInt = 10 from by decide)).mpr z1; omega)
  replace z1 := (cvlt (tn_n (show ((nI n) / 1000 : Int32) = nI (n / 1000) from (dv_n rfl rfl (by omega) (by omega) (by decide))) (by omega)) (show ((10 : Int32)).toInt = 10 from by decide)).mp z1
  exact K 1000 (by unfold tn; split <;> (try split) <;> (try split) <;> omega)
theorem pi_100 {d : Nat} {A : Nat → Prop} {g : ah_H} {m : Nat} {E : rg_D} (hO : ∀ f j, E f j < 2 ^ 30) {i n : Nat} (hi : i < 8) (hn : n < 10000) (hs : E 10 i < 4) {a : Nat} {h0 h2 : ah_H} {o : Outcome} (K : ∀ T, T = tn n → ah_At mt_M_placeIn d A h0 o h2 105 [(0, .ref m), (1, .int (nI i)), (3, .int (nI a)), (4, .int (nI n)), (5, .int (nI T))] [] (rg LTm g m E)) (hT : 100 ≤ n) : ah_At mt_M_placeIn d A h0 o h2 85 [(0, .ref m), (1, .int (nI i)), (3, .int (nI a)), (4, .int (nI n)), (5, .int 100)] [] (rg LTm g m E) := by
  refine b_M_placeIn_85 (nz_n (show (100 : Int32) = nI (100) from rfl) (by omega) (by decide)) (fun z1 => ?_) (fun z1 => ?_)
  · replace z1 := (cvlt (tn_n (show ((nI n) / 100 : Int32) = nI (n / 100) from (dv_n rfl rfl (by omega) (by omega) (by decide))) (by omega)) (show ((10 : Int32)).toInt = 10 from by decide)).mp z1
    exact K 100 (by unfold tn; split <;> (try split) <;> (try split) <;> omega)
  · replace z1 := mt (cvlt (tn_n (show ((nI n) / 100 : Int32) = nI (n / 100) from (dv_n rfl rfl (by omega) (by omega) (by decide))) (by omega)) (show ((10 : Int32)).toInt = 10 from by decide)).mpr z1
    refine b_M_placeIn_95 ?_
    rw [show (100 * 10 : Int32) = nI (100 * 10) from (mu_n rfl rfl)]
    exact pi_1000 hO hi hn hs K (by omega)
theorem pi_10 {d : Nat} {A : Nat → Prop} {g : ah_H} {m : Nat} {E : rg_D} (hO : ∀ f j, E f j < 2 ^ 30) {i n : Nat} (hi : i < 8) (hn : n < 10000) (hs : E 10 i < 4) {a : Nat} {h0 h2 : ah_H} {o : Outcome} (K : ∀ T, T = tn n → ah_At mt_M_placeIn d A h0 o h2 105 [(0, .ref m), (1, .int (nI i)), (3, .int (nI a)), (4, .int (nI n)), (5, .int (nI T))] [] (rg LTm g m E)) (hT : 10 ≤ n) : ah_At mt_M_placeIn d A h0 o h2 85 [(0, .ref m), (1, .int (nI i)), (3, .int (nI a)), (4, .int (nI n)), (5, .int 10)] [] (rg LTm g m E) := by
  refine b_M_placeIn_85 (nz_n (show (10 : Int32) = nI (10) from rfl) (by omega) (by decide)) (fun z1 => ?_) (fun z1 => ?_)
  · replace z1 := (cvlt (tn_n (show ((nI n) / 10 : Int32) = nI (n / 10) from (dv_n rfl rfl (by omega) (by omega) (by decide))) (by omega)) (show ((10 : Int32)).toInt = 10 from by decide)).mp z1
    exact K 10 (by unfold tn; split <;> (try split) <;> (try split) <;> omega)
  · replace z1 := mt (cvlt (tn_n (show ((nI n) / 10 : Int32) = nI (n / 10) from (dv_n rfl rfl (by omega) (by omega) (by decide))) (by omega)) (show ((10 : Int32)).toInt = 10 from by decide)).mpr z1
    refine b_M_placeIn_95 ?_
    rw [show (10 * 10 : Int32) = nI (10 * 10) from (mu_n rfl rfl)]
    exact pi_100 hO hi hn hs K (by omega)
theorem pi_1 {d : Nat} {A : Nat → Prop} {g : ah_H} {m : Nat} {E : rg_D} (hO : ∀ f j, E f j < 2 ^ 30) {i n : Nat} (hi : i < 8) (hn : n < 10000) (hs : E 10 i < 4) {a : Nat} {h0 h2 : ah_H} {o : Outcome} (K : ∀ T, T = tn n → ah_At mt_M_placeIn d A h0 o h2 105 [(0, .ref m), (1, .int (nI i)), (3, .int (nI a)), (4, .int (nI n)), (5, .int (nI T))] [] (rg LTm g m E))  : ah_At mt_M_placeIn d A h0 o h2 85 [(0, .ref m), (1, .int (nI i)), (3, .int (nI a)), (4, .int (nI n)), (5, .int 1)] [] (rg LTm g m E) := by
  refine b_M_placeIn_85 (nz_n (show (1 : Int32) = nI (1) from rfl) (by omega) (by decide)) (fun z1 => ?_) (fun z1 => ?_)
  · replace z1 := (cvlt (tn_n (show ((nI n) / 1 : Int32) = nI (n / 1) from (dv_n rfl rfl (by omega) (by omega) (by decide))) (by omega)) (show ((10 : Int32)).toInt = 10 from by decide)).mp z1
    exact K 1 (by unfold tn; split <;> (try split) <;> (try split) <;> omega)
  · replace z1 := mt (cvlt (tn_n (show ((nI n) / 1 : Int32) = nI (n / 1) from (dv_n rfl rfl (by omega) (by omega) (by decide))) (by omega)) (show ((10 : Int32)).toInt = 10 from by decide)).mpr z1
    refine b_M_placeIn_95 ?_
    rw [show (1 * 10 : Int32) = 10 from (m1_n (show (1 : Int32) = 1 from by decide) rfl)]
    exact pi_10 hO hi hn hs K (by omega)
theorem c_patternOf1M {d : Nat} {A : Nat → Prop} {g : ah_H} {m : Nat} {E : rg_D} (hO : ∀ f j, E f j < 2 ^ 30) (hM : MI E) (hd : 4 ≤ d) {w p : Nat} (hw : w < 3) (hq : pm E w = p + 1) : ah_Ev mt_M_patternOf d A [.ref m, .int (nI w)] (rg LTm g m E) (.returned (some (.int (nI p)))) (rg LTm g m E) := by
  have k := c_patternOfM (d := d) (A := A) (g := g) (m := m) hO hM hd hw
  rw [hq, nI_pred] at k
  exact k
theorem bef_le {E : rg_D} {i w : Nat} : ∀ j, bef E i w j ≤ j
  | 0 => Nat.le_refl _
  | j + 1 => by
    have h : bef E i w j ≤ j := bef_le j
    unfold bef at h ⊢
    rw [sm]
    split <;> omega
theorem tn_le (n : Nat) : tn n ≤ 1000 := by unfold tn; split; omega; split; omega; split <;> omega
theorem lo_pi14 {d : Nat} {A : Nat → Prop} {g : ah_H} {m : Nat} {E : rg_D} (hO : ∀ f j, E f j < 2 ^ 30) {i w p : Nat} (hM : MI E) (hd : 5 ≤ d) (hi : i < E 1 0) (he : E 29 i = w + 1) (hw : w < 3) (hq : pm E w = p + 1) (hp : p < 4) (hf : fnd (E 9 (4 * w + p)) (E 10 i) 4 (tn (E 9 (4 * w + p))) (bef E i w i)) {h0 : ah_H} : ∀ (k o s : Nat), o + k = i → s = bef E i w o → ah_At mt_M_placeIn d A h0 (.returned (some (.int (nI (plc (E 9 (4 * w + p)) (E 10 i) 4 (tn (E 9 (4 * w + p))) (bef E i w i) 0))))) (rg LTm g m E) 14 [(0, .ref m), (1, .int (nI i)), (2, .int (nI w)), (3, .int (nI s)), (4, .int (nI o))] [] (rg LTm g m E)
  | 0, o, s, hk, hs2 => by
    have h8 := hM.1.2; have hO9 := hO 9 (4 * w + p)
    refine b_M_placeIn_14 (fun z1 => ?_) (fun z1 => by exfalso; replace z1 := mt (cvle (nI_toInt (n := i) (by omega)) (nI_toInt (n := o) (by omega))).mpr z1; omega)
    replace z1 := (cvle (nI_toInt (n := i) (by omega)) (nI_toInt (n := o) (by omega))).mp z1
    refine b_M_placeIn_66 (rdR (k_M_9)) (c_patternOf1M (d := d - 1) (A := A) hO hM (by omega) hw hq) (by omega) (fun q hq => hq) ?_ (rdN (k_M_0))
    refine aft_1 ?_
    rw [show (4 * (nI w) : Int32) = nI (4 * w) from (mu_n rfl rfl)]
    refine b_M_placeIn_78 (ix_n (show ((nI (4 * w)) + (nI p) : Int32) = nI ((4 * w) + p) from (ad_n rfl rfl)) (by omega)) (rdI (k_M9 _ (by omega)) rfl) ?_
    rw [hs2, show o = i by omega]
    exact pi_1 hO (by omega) (hM.2.2.1 _) (hM.2.2.2 i).2.2 (fun T hT => b_M_placeIn_105 (by rw [hT]; exact lo_pi108 hO (by omega) (hM.2.2.1 _) (hM.2.2.2 i).2.2 4 _ _ 0 hf (tn_le _) (by have := bef_le (E := E) (i := i) (w := w) i; have := hM.1.2; omega) (by decide)))
  | k + 1, o, s, hk, hs2 => by
    have h8 := hM.1.2
    refine b_M_placeIn_14 (fun z1 => by exfalso; replace z1 := (cvle (nI_toInt (n := i) (by omega)) (nI_toInt (n := o) (by omega))).mp z1; omega) (fun z1 => ?_)
    replace z1 := mt (cvle (nI_toInt (n := i) (by omega)) (nI_toInt (n := o) (by omega))).mpr z1
    refine b_M_placeIn_20 (rdR (k_M_19)) (ah_ix_nI (by omega)) (rdI (k_M29 _ (by omega)) rfl) (rdR (k_M_19)) (ah_ix_nI (by omega)) (rdI (e := w + 1) (k_M29 _ (by omega)) he) (fun z2 => ?_) (fun z2 => ?_)
    · replace z2 := mt (cveq (nI_toInt (n := E 29 o) (by have := hO 29 o; omega)) (nI_toInt (n := w + 1) (by omega))).mpr z2
      refine b_M_placeIn_57 ?_
      refine b_M_placeIn_58 ?_
      rw [show ((nI s) + 0 : Int32) = nI (s + 0) from (ad_n rfl rfl)]
      rw [show ((nI o) + 1 : Int32) = nI (o + 1) from (ad_n rfl rfl)]
      exact lo_pi14 hO hM hd hi he hw hq hp hf k (o + 1) _ (by omega) (by unfold bef at *; simp only [sm]; rw [← hs2]; split <;> omega)
    · replace z2 := (cveq (nI_toInt (n := E 29 o) (by have := hO 29 o; omega)) (nI_toInt (n := w + 1) (by omega))).mp (Decidable.not_not.mp z2)
      refine b_M_placeIn_37 (rdR (k_M_10)) (ah_ix_nI (by omega)) (rdI (k_M10 _ (by omega)) rfl) (rdR (k_M_10)) (ah_ix_nI (by omega)) (rdI (k_M10 _ (by omega)) rfl) (fun z3 => ?_) (fun z3 => ?_)
      · replace z3 := mt (cveq (nI_toInt (n := E 10 o) (by have := hO 10 o; omega)) (nI_toInt (n := E 10 i) (by have := hO 10 i; omega))).mpr z3
        refine b_M_placeIn_57 ?_
        refine b_M_placeIn_58 ?_
        rw [show ((nI s) + 0 : Int32) = nI (s + 0) from (ad_n rfl rfl)]
        rw [show ((nI o) + 1 : Int32) = nI (o + 1) from (ad_n rfl rfl)]
        exact lo_pi14 hO hM hd hi he hw hq hp hf k (o + 1) _ (by omega) (by unfold bef at *; simp only [sm]; rw [← hs2]; split <;> omega)
      · replace z3 := (cveq (nI_toInt (n := E 10 o) (by have := hO 10 o; omega)) (nI_toInt (n := E 10 i) (by have := hO 10 i; omega))).mp (Decidable.not_not.mp z3)
        refine b_M_placeIn_53 ?_
        refine b_M_placeIn_58 ?_
        rw [show ((nI s) + 1 : Int32) = nI (s + 1) from (ad_n rfl rfl)]
        rw [show ((nI o) + 1 : Int32) = nI (o + 1) from (ad_n rfl rfl)]
        exact lo_pi14 hO hM hd hi he hw hq hp hf k (o + 1) _ (by omega) (by unfold bef at *; simp only [sm]; rw [← hs2]; split <;> omega)
theorem c_placeIn {d : Nat} {A : Nat → Prop} {g : ah_H} {m : Nat} {E : rg_D} (hO : ∀ f j, E f j < 2 ^ 30) {i w p : Nat} (hM : MI E) (hd : 5 ≤ d) (hi : i < E 1 0) (he : E 29 i = w + 1) (hw : w < 3) (hq : pm E w = p + 1) (hp : p < 4) (hf : fnd (E 9 (4 * w + p)) (E 10 i) 4 (tn (E 9 (4 * w + p))) (bef E i w i)) : ah_Ev mt_M_placeIn d A [.ref m, .int (nI i)] (rg LTm g m E) (.returned (some (.int (nI (plc (E 9 (4 * w + p)) (E 10 i) 4 (tn (E 9 (4 * w + p))) (bef E i w i) 0))))) (rg LTm g m E) := by
  refine ah_Ev.of (by decide +kernel) (Nat.le_of_ble_eq_true rfl) ?_
  show ah_At mt_M_placeIn d A (rg LTm g m E) (.returned (some (.int (nI (plc (E 9 (4 * w + p)) (E 10 i) 4 (tn (E 9 (4 * w + p))) (bef E i w i) 0))))) (rg LTm g m E) 0 [(0, .ref m), (1, .int (nI i))] [] (rg LTm g m E)
  have h8 := hM.1.2
  refine b_M_placeIn_0 (rdR (k_M_19)) (ah_ix_nI (by omega)) (rdI (e := w + 1) (k_M29 _ (by omega)) he) ?_
  rw [show ((nI (w + 1)) - 1 : Int32) = nI w from (pr_n rfl)]
  exact lo_pi14 hO hM hd hi he hw hq hp hf _ 0 0 (Nat.zero_add _) rfl
