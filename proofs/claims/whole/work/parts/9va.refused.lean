/-! CONTRACTS of the model: refused, its loop. Printed out of wip/ -/
theorem lo_refused {d : Nat} {A : Nat → Prop} {g : ah_H} {m : Nat} {E : rg_D} (hO : ∀ f j, E f j < 2 ^ 30) {i : Nat} (hM : MI E) (hi : i < E 1 0) (hd : 6 ≤ d) {h0 : ah_H} : ∀ (k w s : Nat) (c : Bool), w + k = E 0 0 → (s = if E 0 0 = 0 then 4 else mxf (fun v => rsM E v i) w) → (c = true ↔ ∃ v, v < w ∧ rsM E v i = 0) → s ≤ 4 → ah_At mt_M_refused d A h0 (.returned (some (.int (nI (rsnM E i))))) (rg LTm g m E) 44 [(0, .ref m), (1, .int (nI i)), (2, .int (nI s)), (3, .int (bz c)), (4, .int (nI w))] [] (rg LTm g m E)
  | 0, w, s, c, hk, hs, hc, hs4 => by
    have h3 := hM.1.1; have h8 := hM.1.2
    refine b_M_refused_44 (rdI (k_M_1) rfl) (fun z1 => ?_) (fun z1 => by exfalso; replace z1 := mt (cvle (nI_toInt (n := E 0 0) (by have := hO 0 0; omega)) (nI_toInt (n := w) (by omega))).mpr z1; omega)
    replace z1 := (cvle (nI_toInt (n := E 0 0) (by have := hO 0 0; omega)) (nI_toInt (n := w) (by omega))).mp z1
    refine b_M_refused_201 (fun z2 => ?_) (fun z2 => ?_)
    · replace z2 := (bz0).mp z2
      refine b_M_refused_209 ?_
      refine rt_i ?_ ?_ (b_M_refused_210 )
      · congr 1; unfold rsnM; rw [pb_f (by rintro ⟨v, q1, q2⟩; exact absurd ((hc.mpr ⟨v, by omega, q2⟩).symm.trans ‹c = false›) (by decide)), if_neg (by decide), hs, show w = E 0 0 by omega]
      · rfl
    · replace z2 := mt (bz0).mpr z2
      refine b_M_refused_205 ?_
      refine rt_i ?_ ?_ (b_M_refused_210 )
      · rw [show rsnM E i = 0 from by unfold rsnM; rw [pb_t (by have q : c = true := (by simpa using ‹¬ c = false›); obtain ⟨v, q1, q2⟩ := hc.mp q; exact ⟨v, by omega, q2⟩), if_pos rfl]]; rfl
      · rfl
  | k + 1, w, s, c, hk, hs, hc, hs4 => by
    have h3 := hM.1.1; have hb := hM.1.2; have h8 := hM.2.1; have h9 := hM.2.2.1; have hw' : w < E 0 0 := (by omega); have hn3 := hM.1.1
    refine b_M_refused_44 (rdI (k_M_1) rfl) (fun z1 => by exfalso; replace z1 := (cvle (nI_toInt (n := E 0 0) (by have := hO 0 0; omega)) (nI_toInt (n := w) (by omega))).mp z1; omega) (fun z1 => ?_)
    replace z1 := mt (cvle (nI_toInt (n := E 0 0) (by have := hO 0 0; omega)) (nI_toInt (n := w) (by omega))).mpr z1
    refine b_M_refused_53 (rdR (k_M_10)) (ah_ix_nI (by omega)) (rdI (k_M10 _ (by omega)) rfl) (fun z2 => ?_) (fun z2 => ?_)
    · replace z2 := mt (cveq (nI_toInt (n := E 10 i) (by have := hO 10 i; omega)) (show ((1 : Int32)).toInt = 1 from by decide)).mpr z2
      refine b_M_refused_70 ?_
      refine b_M_refused_71 (rdR (k_M_10)) (ah_ix_nI (by omega)) (rdI (k_M10 _ (by omega)) rfl) (fun z3 => ?_) (fun z3 => ?_)
      · replace z3 := mt (cveq (nI_toInt (n := E 10 i) (by have := hO 10 i; omega)) (show ((2 : Int32)).toInt = 2 from by decide)).mpr z3
        refine b_M_refused_85 ?_
        refine b_M_refused_86 (rdR (k_M_10)) (ah_ix_nI (by omega)) (rdI (k_M10 _ (by omega)) rfl) (fun z4 => ?_) (fun z4 => ?_)
        · replace z4 := mt (cveq (nI_toInt (n := E 10 i) (by have := hO 10 i; omega)) (show ((3 : Int32)).toInt = 3 from by decide)).mpr z4
          refine b_M_refused_100 ?_
          refine b_M_refused_101 (c_patternFor (d := d - 1) (A := A) (w := w) (a := 0) (c := 0) (e := 0) hO (by omega) (h8 _) h9 (by omega) (by omega) (by omega) (by omega)) (by omega) (fun q hq => hq) ?_ (rdN (k_M_0))
          refine aft_1 ?_
          have hpf : pf E w 0 0 0 ≤ 4 := by have := ff_le (p := fun p => pb (pfP E w p 0 0 0)) (k := E 8 w) (i := 0); have := h8 w; unfold pf; omega
          refine rf_104 hO hM hi hw' hs4 (by omega) (by unfold on; rw [if_neg (by omega), if_neg (by omega), if_neg (by omega)]) hpf (fun s2 c2 hs2 hc2 => ?_)
          refine lo_refused hO hM hi hd k (w + 1) s2 c2 (by omega) ?_ ?_ ?_
          · rw [hs2, hs, if_neg (by omega), if_neg (by omega), mxf]
          · rw [hc2, hc]
            constructor
            · rintro (⟨v, q1, q2⟩ | q)
              · exact ⟨v, by omega, q2⟩
              · exact ⟨w, by omega, q⟩
            · rintro ⟨v, q1, q2⟩
              by_cases q : v = w
              · rw [← q]; exact Or.inr q2
              · exact Or.inl ⟨v, by omega, q2⟩
          · have := rsM_le (E := E) (w := w) (i := i); omega
        · replace z4 := (cveq (nI_toInt (n := E 10 i) (by have := hO 10 i; omega)) (show ((3 : Int32)).toInt = 3 from by decide)).mp (Decidable.not_not.mp z4)
          refine b_M_refused_96 ?_
          refine b_M_refused_101 (c_patternFor (d := d - 1) (A := A) (w := w) (a := 0) (c := 0) (e := 1) hO (by omega) (h8 _) h9 (by omega) (by omega) (by omega) (by omega)) (by omega) (fun q hq => hq) ?_ (rdN (k_M_0))
          refine aft_1 ?_
          have hpf : pf E w 0 0 1 ≤ 4 := by have := ff_le (p := fun p => pb (pfP E w p 0 0 1)) (k := E 8 w) (i := 0); have := h8 w; unfold pf; omega
          refine rf_104 hO hM hi hw' hs4 (by omega) (by unfold on; rw [if_neg (by omega), if_neg (by omega), if_pos (by omega)]) hpf (fun s2 c2 hs2 hc2 => ?_)
          refine lo_refused hO hM hi hd k (w + 1) s2 c2 (by omega) ?_ ?_ ?_
          · rw [hs2, hs, if_neg (by omega), if_neg (by omega), mxf]
          · rw [hc2, hc]
            constructor
            · rintro (⟨v, q1, q2⟩ | q)
              · exact ⟨v, by omega, q2⟩
              · exact ⟨w, by omega, q⟩
            · rintro ⟨v, q1, q2⟩
              by_cases q : v = w
              · rw [← q]; exact Or.inr q2
              · exact Or.inl ⟨v, by omega, q2⟩
          · have := rsM_le (E := E) (w := w) (i := i); omega
      · replace z3 := (cveq (nI_toInt (n := E 10 i) (by have := hO 10 i; omega)) (show ((2 : Int32)).toInt = 2 from by decide)).mp (Decidable.not_not.mp z3)
        refine b_M_refused_81 ?_
        refine b_M_refused_86 (rdR (k_M_10)) (ah_ix_nI (by omega)) (rdI (k_M10 _ (by omega)) rfl) (fun z5 => ?_) (fun z5 => ?_)
        · replace z5 := mt (cveq (nI_toInt (n := E 10 i) (by have := hO 10 i; omega)) (show ((3 : Int32)).toInt = 3 from by decide)).mpr z5
          refine b_M_refused_100 ?_
          refine b_M_refused_101 (c_patternFor (d := d - 1) (A := A) (w := w) (a := 0) (c := 1) (e := 0) hO (by omega) (h8 _) h9 (by omega) (by omega) (by omega) (by omega)) (by omega) (fun q hq => hq) ?_ (rdN (k_M_0))
          refine aft_1 ?_
          have hpf : pf E w 0 1 0 ≤ 4 := by have := ff_le (p := fun p => pb (pfP E w p 0 1 0)) (k := E 8 w) (i := 0); have := h8 w; unfold pf; omega
          refine rf_104 hO hM hi hw' hs4 (by omega) (by unfold on; rw [if_neg (by omega), if_pos (by omega), if_neg (by omega)]) hpf (fun s2 c2 hs2 hc2 => ?_)
          refine lo_refused hO hM hi hd k (w + 1) s2 c2 (by omega) ?_ ?_ ?_
          · rw [hs2, hs, if_neg (by omega), if_neg (by omega), mxf]
          · rw [hc2, hc]
            constructor
            · rintro (⟨v, q1, q2⟩ | q)
              · exact ⟨v, by omega, q2⟩
              · exact ⟨w, by omega, q⟩
            · rintro ⟨v, q1, q2⟩
              by_cases q : v = w
              · rw [← q]; exact Or.inr q2
              · exact Or.inl ⟨v, by omega, q2⟩
          · have := rsM_le (E := E) (w := w) (i := i); omega
        · replace z5 := (cveq (nI_toInt (n := E 10 i) (by have := hO 10 i; omega)) (show ((3 : Int32)).toInt = 3 from by decide)).mp (Decidable.not_not.mp z5)
          refine b_M_refused_96 ?_
          refine b_M_refused_101 (c_patternFor (d := d - 1) (A := A) (w := w) (a := 0) (c := 1) (e := 1) hO (by omega) (h8 _) h9 (by omega) (by omega) (by omega) (by omega)) (by omega) (fun q hq => hq) ?_ (rdN (k_M_0))
          refine aft_1 ?_
          have hpf : pf E w 0 1 1 ≤ 4 := by have := ff_le (p := fun p => pb (pfP E w p 0 1 1)) (k := E 8 w) (i := 0); have := h8 w; unfold pf; omega
          exfalso; omega
    · replace z2 := (cveq (nI_toInt (n := E 10 i) (by have := hO 10 i; omega)) (show ((1 : Int32)).toInt = 1 from by decide)).mp (Decidable.not_not.mp z2)
      refine b_M_refused_66 ?_
      refine b_M_refused_71 (rdR (k_M_10)) (ah_ix_nI (by omega)) (rdI (k_M10 _ (by omega)) rfl) (fun z6 => ?_) (fun z6 => ?_)
      · replace z6 := mt (cveq (nI_toInt (n := E 10 i) (by have := hO 10 i; omega)) (show ((2 : Int32)).toInt = 2 from by decide)).mpr z6
        refine b_M_refused_85 ?_
        refine b_M_refused_86 (rdR (k_M_10)) (ah_ix_nI (by omega)) (rdI (k_M10 _ (by omega)) rfl) (fun z7 => ?_) (fun z7 => ?_)
        · replace z7 := mt (cveq (nI_toInt (n := E 10 i) (by have := hO 10 i; omega)) (show ((3 : Int32)).toInt = 3 from by decide)).mpr z7
          refine b_M_refused_100 ?_
          refine b_M_refused_101 (c_patternFor (d := d - 1) (A := A) (w := w) (a := 1) (c := 0) (e := 0) hO (by omega) (h8 _) h9 (by omega) (by omega) (by omega) (by omega)) (by omega) (fun q hq => hq) ?_ (rdN (k_M_0))
          refine aft_1 ?_
          have hpf : pf E w 1 0 0 ≤ 4 := by have := ff_le (p := fun p => pb (pfP E w p 1 0 0)) (k := E 8 w) (i := 0); have := h8 w; unfold pf; omega
          refine rf_104 hO hM hi hw' hs4 (by omega) (by unfold on; rw [if_pos (by omega), if_neg (by omega), if_neg (by omega)]) hpf (fun s2 c2 hs2 hc2 => ?_)
          refine lo_refused hO hM hi hd k (w + 1) s2 c2 (by omega) ?_ ?_ ?_
          · rw [hs2, hs, if_neg (by omega), if_neg (by omega), mxf]
          · rw [hc2, hc]
            constructor
            · rintro (⟨v, q1, q2⟩ | q)
              · exact ⟨v, by omega, q2⟩
              · exact ⟨w, by omega, q⟩
            · rintro ⟨v, q1, q2⟩
              by_cases q : v = w
              · rw [← q]; exact Or.inr q2
              · exact Or.inl ⟨v, by omega, q2⟩
          · have := rsM_le (E := E) (w := w) (i := i); omega
        · replace z7 := (cveq (nI_toInt (n := E 10 i) (by have := hO 10 i; omega)) (show ((3 : Int32)).toInt = 3 from by decide)).mp (Decidable.not_not.mp z7)
          refine b_M_refused_96 ?_
          refine b_M_refused_101 (c_patternFor (d := d - 1) (A := A) (w := w) (a := 1) (c := 0) (e := 1) hO (by omega) (h8 _) h9 (by omega) (by omega) (by omega) (by omega)) (by omega) (fun q hq => hq) ?_ (rdN (k_M_0))
          refine aft_1 ?_
          have hpf : pf E w 1 0 1 ≤ 4 := by have := ff_le (p := fun p => pb (pfP E w p 1 0 1)) (k := E 8 w) (i := 0); have := h8 w; unfold pf; omega
          exfalso; omega
      · replace z6 := (cveq (nI_toInt (n := E 10 i) (by have := hO 10 i; omega)) (show ((2 : Int32)).toInt = 2 from by decide)).mp (Decidable.not_not.mp z6)
        refine b_M_refused_81 ?_
        refine b_M_refused_86 (rdR (k_M_10)) (ah_ix_nI (by omega)) (rdI (k_M10 _ (by omega)) rfl) (fun z8 => ?_) (fun z8 => ?_)
        · replace z8 := mt (cveq (nI_toInt (n := E 10 i) (by have := hO 10 i; omega)) (show ((3 : Int32)).toInt = 3 from by decide)).mpr z8
          refine b_M_refused_100 ?_
          refine b_M_refused_101 (c_patternFor (d := d - 1) (A := A) (w := w) (a := 1) (c := 1) (e := 0) hO (by omega) (h8 _) h9 (by omega) (by omega) (by omega) (by omega)) (by omega) (fun q hq => hq) ?_ (rdN (k_M_0))
          refine aft_1 ?_
          have hpf : pf E w 1 1 0 ≤ 4 := by have := ff_le (p := fun p => pb (pfP E w p 1 1 0)) (k := E 8 w) (i := 0); have := h8 w; unfold pf; omega
          exfalso; omega
        · replace z8 := (cveq (nI_toInt (n := E 10 i) (by have := hO 10 i; omega)) (show ((3 : Int32)).toInt = 3 from by decide)).mp (Decidable.not_not.mp z8)
          refine b_M_refused_96 ?_
          refine b_M_refused_101 (c_patternFor (d := d - 1) (A := A) (w := w) (a := 1) (c := 1) (e := 1) hO (by omega) (h8 _) h9 (by omega) (by omega) (by omega) (by omega)) (by omega) (fun q hq => hq) ?_ (rdN (k_M_0))
          refine aft_1 ?_
          have hpf : pf E w 1 1 1 ≤ 4 := by have := ff_le (p := fun p => pb (pfP E w p 1 1 1)) (k := E 8 w) (i := 0); have := h8 w; unfold pf; omega
          exfalso; omega
theorem m_refused1 {d : Nat} {A : Nat → Prop} {g : ah_H} {m : Nat} {E : rg_D} (hO : ∀ f j, E f j < 2 ^ 30) (hA : ∀ q, m ≤ q → q < m + 16 → A q) (hM : MI E) (hd : 9 ≤ d) {x1 : Int32} {p1 : Int} (h1 : x1.toInt = p1) (hn : ¬ (0 ≤ p1 ∧ p1 < ((E 1 0 : Nat) : Int))) : ah_Ev mt_M_refused d A [.ref m, .int x1] (rg LTm g m E) (.returned (some (.int 0))) (rg LTm g m (up E 32 0 1)) := by
  refine ah_Ev.of (by decide +kernel) (Nat.le_of_ble_eq_true rfl) ?_
  show ah_At mt_M_refused d A (rg LTm g m E) (.returned (some (.int 0))) (rg LTm g m (up E 32 0 1)) 0 [(0, .ref m), (1, .int x1)] [] (rg LTm g m E)
  refine b_M_refused_0 (c_isBox (d := d - 1) (A := A) (E := E) hO h1 (n := E 1 0) rfl) (by omega) (fun q hq => hq) ?_ (rdN (k_M_0))
  refine aft_1 ?_
  refine b_M_refused_6 (fun z1 => ?_) (fun z1 => ?_)
  · replace z1 := pz0.mp z1
    refine b_M_refused_13 ?_
    refine b_M_refused_14 (v2 := 1) (hA _ (by omega) (by omega)) (rdE (k_M_0)) (by rw [stmI0 (x := 1) (v := 1) (k_M_0) rfl]; exact (rdI (e := 1) (k_M_0) (by simp [up]))) (fun z => absurd z (by decide)) (fun z2 => ?_)
    rw [stmI0 (x := 1) (v := 1) (k_M_0) rfl]
    refine rt_i ?_ ?_ (b_M_refused_24 )
    · rfl
    · rfl
  · replace z1 := pz1.mp z1
    exfalso; omega
theorem m_refused0 {d : Nat} {A : Nat → Prop} {g : ah_H} {m : Nat} {E : rg_D} (hO : ∀ f j, E f j < 2 ^ 30) (hA : ∀ q, m ≤ q → q < m + 16 → A q) (hM : MI E) (hd : 9 ≤ d) {i : Nat} (hi : i < E 1 0) : ah_Ev mt_M_refused d A [.ref m, .int (nI i)] (rg LTm g m E) (.returned (some (.int (nI (rsnM (up E 32 0 0) i))))) (rg LTm g m (up E 32 0 0)) := by
  refine ah_Ev.of (by decide +kernel) (Nat.le_of_ble_eq_true rfl) ?_
  show ah_At mt_M_refused d A (rg LTm g m E) (.returned (some (.int (nI (rsnM (up E 32 0 0) i))))) (rg LTm g m (up E 32 0 0)) 0 [(0, .ref m), (1, .int (nI i))] [] (rg LTm g m E)
  have h3 := hM.1.1
  have h8 := hM.1.2
  have hM2 : MI (up E 32 0 0) := hM.of (fun f j q => up_f (by omega))
  refine b_M_refused_0 (c_isBox (d := d - 1) (A := A) (E := E) hO (nI_toInt (n := i) (by omega)) (n := E 1 0) rfl) (by omega) (fun q hq => hq) ?_ (rdN (k_M_0))
  refine aft_1 ?_
  refine b_M_refused_6 (fun z1 => ?_) (fun z1 => ?_)
  · replace z1 := pz0.mp z1
    exfalso; omega
  · replace z1 := pz1.mp z1
    refine b_M_refused_9 ?_
    refine b_M_refused_14 (v2 := 0) (hA _ (by omega) (by omega)) (rdE (k_M_0)) (by rw [stmI0 (x := 0) (v := 0) (k_M_0) rfl]; exact (rdI (e := 0) (k_M_0) (by simp [up]))) (fun z2 => ?_) (fun z => absurd (by decide) z)
    rw [stmI0 (x := 0) (v := 0) (k_M_0) rfl]
    refine b_M_refused_26 (rdI (e := E 0 0) (k_M_1) (by simp [up])) (fun z3 => ?_) (fun z3 => ?_)
    · replace z3 := mt (cveq (nI_toInt (n := E 0 0) (by have := hO 0 0; omega)) (show ((0 : Int32)).toInt = 0 from by decide)).mpr z3
      refine b_M_refused_37 ?_
      refine b_M_refused_38 ?_
      refine at_eq (lv' := [(0, .ref m), (1, .int (nI i)), (2, .int (nI 0)), (3, .int (bz false)), (4, .int (nI 0))]) rfl rfl rfl ?_
      exact lo_refused (up_O hO (by decide)) hM2 (by rw [up_f (by decide)]; exact hi) (by omega) _ 0 0 false (Nat.zero_add _) (by rw [up_f (by decide)]; first | rw [if_pos (by omega)] | (rw [if_neg (by omega)]; rfl)) (by simp) (by decide)
    · replace z3 := (cveq (nI_toInt (n := E 0 0) (by have := hO 0 0; omega)) (show ((0 : Int32)).toInt = 0 from by decide)).mp (Decidable.not_not.mp z3)
      refine b_M_refused_33 ?_
      refine b_M_refused_38 ?_
      refine at_eq (lv' := [(0, .ref m), (1, .int (nI i)), (2, .int (nI 4)), (3, .int (bz false)), (4, .int (nI 0))]) rfl rfl rfl ?_
      exact lo_refused (up_O hO (by decide)) hM2 (by rw [up_f (by decide)]; exact hi) (by omega) _ 0 4 false (Nat.zero_add _) (by rw [up_f (by decide)]; first | rw [if_pos (by omega)] | (rw [if_neg (by omega)]; rfl)) (by simp) (by decide)
