/-! WHAT makePlan LEAVES -/
theorem rk_told {D D' : rg_D} (h : ∀ f j, f < 20 → D' f j = D f j) {i : Nat} : rk D' i = rk D i := by
  unfold rk rkf
  simp only [h 14 _ (by decide), h 1 _ (by decide)]
theorem wo_told {D D' : rg_D} (h : ∀ f j, f < 20 → D' f j = D f j) {i : Nat} : wo D' i = wo D i := by
  unfold wo
  rw [rk_told h, h 10 _ (by decide)]
theorem wbS_rk {D : rg_D} {j i : Nat} : rk (wbS D j) i = rk D i := rk_told (fun f k hf => wbS_f (by omega))
theorem wbs_25o {r : Nat} : ∀ {j : Nat} {D : rg_D}, (∀ k, k < j → rk D k ≠ r) → wbs j D 25 r = D 25 r
  | 0, D, _ => rfl
  | j + 1, D, h => by
    rw [wbs, wbs_25o (fun k hk => by rw [wbS_rk]; exact h k (by omega))]
    unfold wbS
    rw [up_f (by decide), up_f (by decide), up_j (fun e => h j (by omega) e.symm)]
theorem wbs_25 {k : Nat} : ∀ {j : Nat} {D : rg_D}, j ≤ D 1 0 → k < j → wbs j D 25 (rk D k) = k
  | 0, D, _, h => by omega
  | j + 1, D, hj, h => by
    have e1 : wbS D j 1 0 = D 1 0 := wbS_f (by decide)
    rw [wbs]
    by_cases e : k = j
    · subst e
      rw [wbs_25o (fun q hq => by rw [wbS_rk]; exact fun z => by have := rk_inj (by omega) (by omega) z; omega)]
      unfold wbS
      rw [up_f (by decide), up_f (by decide), up_s]
    · have := wbs_25 (k := k) (j := j) (D := wbS D j) (by omega) (by omega)
      rw [wbS_rk] at this
      exact this
theorem LdT.none {D : rg_D} {i : Nat} (h : ∀ f j, 20 ≤ f → f ≤ 24 → D f j = 0) : LdT D (fun _ => 0) i := by
  intro w _
  refine ⟨?_, ?_, ?_, fun s _ => ?_, fun k _ => ?_⟩
  · rw [h 20 w (by decide) (by decide), sm_zero (fun j _ => by simp [cW])]
  · rw [h 21 w (by decide) (by decide), sm_zero (fun j _ => by simp [cL])]
  · rw [h 22 w (by decide) (by decide), sm_zero (fun j _ => by simp [cG])]
  · rw [h 23 _ (by decide) (by decide), sm_zero (fun j _ => by simp [cS])]
  · rw [h 24 _ (by decide) (by decide), sm_zero (fun j _ => by simp [cK])]
theorem stP_none {D : rg_D} {t : Nat → Nat} {i w : Nat} (h : stP D t i w) : stP D (fun _ => 0) i w := by
  obtain ⟨h1, h2, h3, h4, ⟨p, h5, h6⟩, h7⟩ := h
  have zG : sm (cG D (fun _ => 0) w) i = 0 := sm_zero (fun j _ => by simp [cG])
  refine ⟨h1, h2, h3, by rw [zG]; omega, ⟨p, h5, fun s s1 s2 => ?_⟩, fun n _ _ k _ _ z => ?_⟩
  · rw [sm_zero (fun j _ => by simp [cS])]
    have := h6 s s1 s2
    omega
  · rw [sm_zero (fun j _ => by simp [cK])] at z
    omega
/-- what the loads and the worths are made from -/
def mk1 (D : rg_D) : rg_D := up (clrs 3 0 D) 27 (D 1 0) 0
theorem mk1_f {D : rg_D} {f j : Nat} (h : f < 20) : mk1 D f j = D f j := by
  unfold mk1
  rw [up_f (by omega), clrs_f (by omega)]
theorem mk1_z {D : rg_D} (hG : Gh D) {f j : Nat} (h1 : 20 ≤ f) (h2 : f ≤ 24) : mk1 D f j = 0 := by
  unfold mk1
  rw [up_f (by omega), clrs_z hG h1 h2]
theorem mk4_2 {D : rg_D} {f j : Nat} (h : f ≠ 28 ∧ f ≠ 30 ∧ f ≠ 31) : mk4 D f j = mk2 D f j := by
  unfold mk4
  rw [up_f h.2.2, up_f h.2.1, fl_out (Or.inl h.1)]
theorem mk4_26 {D : rg_D} {j : Nat} (h : j < D 1 0) : mk4 D 26 j = wo D j := by
  rw [mk4_2 (by decide)]
  show wbs (D 1 0) (mk1 D) 26 j = _
  rw [wbs_26, if_pos h, wo_told (fun f k hf => mk1_f hf)]
theorem mk4_25 {D : rg_D} {j : Nat} (h : j < D 1 0) : mk4 D 25 (rk D j) = j := by
  rw [mk4_2 (by decide)]
  show wbs (D 1 0) (mk1 D) 25 (rk D j) = _
  rw [← rk_told (D := D) (D' := mk1 D) (fun f k hf => mk1_f hf)]
  exact wbs_25 (by rw [mk1_f (by decide)]; exact Nat.le_refl _) h
theorem mk4_U {D : rg_D} (hT : TI D) (hG : Gh D) {t : Nat → Nat} (ht : ∀ j, j < D 1 0 → t j ≤ D 0 0) (hF : Fz D t (D 1 0)) : ∀ n i : Nat, i + n = D 1 0 → scr (mk4 D) t ≤ sm (sc (mk4 D) t) i + mk4 D 27 i
  | 0, i, h => by
    unfold scr
    rw [mk4_f (by decide), ← h]
    exact Nat.le_add_right _ _
  | n + 1, i, h => by
    have ih := mk4_U hT hG ht hF n (i + 1) (by omega)
    rw [sm] at ih
    have e : mk4 D 27 i = mk4 D 27 (i + 1) + if pb (swP (mk1 D) i) then wo (mk1 D) i else 0 := by
      rw [mk4_2 (by decide), mk4_2 (by decide)]
      exact wbs_27 (by omega)
    have k : sc (mk4 D) t i ≤ if pb (swP (mk1 D) i) then wo (mk1 D) i else 0 := by
      unfold sc
      by_cases z : t i = 0
      · rw [if_pos z]; exact Nat.zero_le _
      · have h1 := ht i (by omega)
        have h2 := stP_none (hF i (by omega) z)
        rw [← stP_D (D' := mk1 D) (fun f j hf => mk1_f hf), ← maP_st (by rw [mk1_f (by decide)]; exact hT.1.1) (by rw [mk1_f (by decide)]; omega) (LdT.none (fun f j a c => mk1_z hG a c))] at h2
        rw [if_neg z, pb_t (show swP (mk1 D) i from ⟨t i - 1, by rw [mk1_f (by decide)]; omega, h2⟩), if_pos rfl, mk4_26 (by omega), wo_told (fun f k hf => mk1_f hf)]
        exact Nat.le_refl _
    omega
theorem Fz_D {D D' : rg_D} {t : Nat → Nat} {n : Nat} (h : ∀ f j, f < 20 → D' f j = D f j) : Fz D' t n ↔ Fz D t n := by
  unfold Fz
  constructor
  · intro q i hi z; rw [← stP_D h]; exact q i hi z
  · intro q i hi z; rw [stP_D h]; exact q i hi z
theorem mk_best {D : rg_D} (hT : TI D) (hO : ∀ f j, D f j < 2 ^ 30) (hG : Gh D) : (∀ j, j < D 1 0 → mk5 D 29 j ≤ D 0 0) ∧ Fz D (mk5 D 29) (D 1 0) ∧ ∀ t : Nat → Nat, (∀ j, j < D 1 0 → t j ≤ D 0 0) → Fz D t (D 1 0) → Ky (mk4 D) t ≤ Ky (mk4 D) (mk5 D 29) := by
  have hf : ∀ f j, f < 20 → mk4 D f j = D f j := fun f j h => mk4_f h
  have e0 : mk4 D 0 0 = D 0 0 := hf 0 0 (by decide)
  have e1 : mk4 D 1 0 = D 1 0 := hf 1 0 (by decide)
  have hS := mk4_SP hT hO hG
  have hI : Iv (mk4 D) (mk4 D) 0 := by
    refine ⟨fun _ _ _ => rfl, ?_, ?_, fun j h => by omega, fun j h => by omega⟩
    · exact (LdT.none (i := 0) (fun f j a c => mk4_z hG a c)).congr (fun _ _ _ => rfl) (fun j h => by omega)
    · unfold mk4
      rw [up_f (by decide), up_s]
      rfl
  have hz : mk4 D 27 (mk4 D 1 0) = 0 := by
    rw [e1, mk4_2 (by decide)]
    show wbs (D 1 0) (mk1 D) 27 (D 1 0) = 0
    rw [wbs_27a (Nat.le_refl _)]
    unfold mk1
    rw [up_s]
  have hp := srch_po (D0 := mk4 D) (by rw [e0]; exact hT.1.1) (by rw [e1]; exact hT.1.2) hz (fun i t hi ht hF => by
    rw [e1] at hi ht hF
    rw [e0] at ht
    exact mk4_U hT hG ht ((Fz_D hf).mp hF) (D 1 0 - i) i (by omega)) (D 1 0) 0 (mk4 D) (by omega) hS hI
  have hq : ∀ t : Nat → Nat, (∀ j, j < D 1 0 → t j ≤ D 0 0) → Fz D t (D 1 0) → Qc (mk4 D) 0 (mk4 D 28) t := fun t a c => ⟨fun j h => by omega, by rw [e0, e1]; exact a, by rw [e1]; exact (Fz_D hf).mpr c⟩
  have hne := hq (fun _ => 0) (fun j _ => Nat.zero_le _) (fun i _ z => absurd rfl z)
  have e31 : mk4 D 31 0 = 0 := by unfold mk4; rw [up_s]
  rcases hp with ⟨_, _, x3⟩ | ⟨_, _, x3, x4⟩
  · have := x3 _ hne
    omega
  · refine ⟨fun j hj => by rw [← e0]; exact x3.2.1 j (by rw [e1]; exact hj), by have := x3.2.2; rw [e1] at this; exact (Fz_D hf).mp this, fun t a c => x4 t (hq t a c)⟩
theorem pbs_f {f j : Nat} (h : f < 20 ∨ 24 < f) : ∀ {k i : Nat} {D : rg_D}, pbs k i D f j = D f j
  | 0, _, _ => rfl
  | k + 1, i, D => by
    rw [pbs, pbs_f h]
    split
    · rfl
    · exact pon_f h
theorem pbs_ld {t : Nat → Nat} : ∀ {k i : Nat} {D : rg_D}, TI D → (∀ j, D 29 j = t j) → (∀ j, i ≤ j → j < i + k → t j ≤ 3) → LdT D t i → LdT (pbs k i D) t (i + k)
  | 0, _, _, _, _, _, h => h
  | k + 1, i, D, hT, ht, h3, h => by
    rw [pbs]
    have a := h3 i (by omega) (by omega)
    rw [show i + (k + 1) = (i + 1) + k by omega]
    split
    · next e =>
      exact pbs_ld hT ht (fun j a c => h3 j (by omega) (by omega)) (h.skip (by rw [← ht]; exact e))
    · next e =>
      rw [ht i] at e ⊢
      refine pbs_ld (hT.of (fun f j hf => pon_f (by omega))) (fun j => by rw [pon_f (by omega)]; exact ht j) (fun j a c => h3 j (by omega) (by omega)) (h.put (by omega) (by omega) (hT.2.2 i).1 (hT.2.2 i).2.1)
theorem Ok.up1 {D : rg_D} {c : Nat} (h : Ok D c) : Ok D (c + 1) := ⟨h.1, fun f j a d => by have := h.2 f j a d; rw [bd_s]; omega⟩
theorem pbs_ok : ∀ {k i c : Nat} {D : rg_D}, Ok D c → c + k ≤ 16 → TI D → Ok (pbs k i D) (c + k)
  | 0, _, _, _, h, _, _ => h
  | k + 1, i, c, D, h, hc, hT => by
    rw [pbs, show c + (k + 1) = (c + 1) + k by omega]
    split
    · exact pbs_ok h.up1 (by omega) hT
    · exact pbs_ok (pon_ok h (by omega) hT) (by omega) (hT.of (fun f j hf => pon_f (by omega)))
theorem pon_Gh {D : rg_D} {l i : Nat} (h : Gh D) (hl : l < 3) (hT : TI D) : Gh (pon D l i) := by
  have a := hT.2.2 i
  refine ⟨fun j hj => ?_, fun j hj => ?_⟩
  · rw [pon_20, pon_21, pon_22, if_neg (by omega), if_neg (by omega), if_neg (by omega)]
    exact h.1 j hj
  · rw [pon_23, pon_24, if_neg (by omega), if_neg (by omega)]
    exact h.2 j hj
theorem pbs_Gh {t : Nat → Nat} : ∀ {k i : Nat} {D : rg_D}, TI D → (∀ j, D 29 j = t j) → (∀ j, i ≤ j → j < i + k → t j ≤ 3) → Gh D → Gh (pbs k i D)
  | 0, _, _, _, _, _, h => h
  | k + 1, i, D, hT, ht, h3, h => by
    rw [pbs]
    have a := h3 i (by omega) (by omega)
    split
    · exact pbs_Gh hT ht (fun j a c => h3 j (by omega) (by omega)) h
    · next e =>
      rw [ht i] at e ⊢
      exact pbs_Gh (hT.of (fun f j hf => pon_f (by omega))) (fun j => by rw [pon_f (by omega)]; exact ht j) (fun j a c => h3 j (by omega) (by omega)) (pon_Gh h (by omega) hT)
/-- all that a plan leaves in the class -/
theorem mkp_all {D : rg_D} (hT : TI D) (hO : ∀ f j, D f j < 2 ^ 30) (hG : Gh D) : (∀ f j, f < 20 → mkp D f j = D f j) ∧ mkp D 29 = mk5 D 29 ∧ LdT (mkp D) (mk5 D 29) (D 1 0) ∧ (∀ f j, mkp D f j < 2 ^ 30) ∧ Gh (mkp D) ∧ ∀ j, j < D 1 0 → mkp D 25 (rk D j) = j := by
  have hN := mk5_nr hT hO hG
  have hb := (mk_best hT hO hG).1
  have e5 : ∀ f j, f ≠ 29 → f ≠ 31 → mk5 D f j = mk4 D f j := hN.1
  have hT5 : TI (mk5 D) := hT.of (fun f j hf => by rw [e5 f j (by omega) (by omega)]; exact mk4_f (by omega))
  have z5 : ∀ f j, 20 ≤ f → f ≤ 24 → mk5 D f j = 0 := fun f j a c => by rw [e5 f j (by omega) (by omega)]; exact mk4_z hG a c
  have h3 : ∀ j, 0 ≤ j → j < 0 + D 1 0 → mk5 D 29 j ≤ 3 := fun j _ hj => by have := hb j (by omega); have := hT.1.1; omega
  have hG5 : Gh (mk5 D) := ⟨fun j _ => ⟨z5 20 j (by decide) (by decide), z5 21 j (by decide) (by decide), z5 22 j (by decide) (by decide)⟩, fun j _ => ⟨z5 23 j (by decide) (by decide), z5 24 j (by decide) (by decide)⟩⟩
  have hO5 : Ok (mk5 D) 0 := ⟨hN.2, fun f j a c => by rw [z5 f j a c]; exact Nat.zero_le _⟩
  unfold mkp
  refine ⟨fun f j hf => ?_, funext (fun j => pbs_f (by omega)), ?_, ?_, ?_, fun j hj => ?_⟩
  · rw [pbs_f (by omega), e5 f j (by omega) (by omega)]; exact mk4_f hf
  · have := pbs_ld (t := mk5 D 29) (k := D 1 0) (i := 0) hT5 (fun j => rfl) h3 ((LdT.none (i := 0) z5).congr (fun _ _ _ => rfl) (fun j h => by omega))
    rw [Nat.zero_add] at this
    exact this
  · exact (pbs_ok (k := D 1 0) (i := 0) hO5 (by have := hT.1.2; omega) hT5).1
  · exact pbs_Gh (t := mk5 D 29) hT5 (fun j => rfl) h3 hG5
  · rw [pbs_f (by omega), e5 25 _ (by decide) (by decide)]
    exact mk4_25 hj
