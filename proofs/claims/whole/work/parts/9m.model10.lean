/-! CONTRACTS of the model: refused. Printed out of wip/ -/
def on (s k : Nat) : Nat := if s = k then 1 else 0
noncomputable def rsM (E : rg_D) (w i : Nat) : Nat := if pf E w (on (E 10 i) 1) (on (E 10 i) 2) (on (E 10 i) 3) = 0 then 1 else if E 6 w < E 12 i then 2 else if E 4 w < E 11 i then 3 else 0
theorem rsM_le {E : rg_D} {w i : Nat} : rsM E w i ≤ 3 := by unfold rsM; split; omega; split; omega; split <;> omega
noncomputable def rsnM (E : rg_D) (i : Nat) : Nat := if pb (∃ w, w < E 0 0 ∧ rsM E w i = 0) then 0 else if E 0 0 = 0 then 4 else mxf (fun w => rsM E w i) (E 0 0)
theorem rf_104 {d : Nat} {A : Nat → Prop} {g : ah_H} {m : Nat} {E : rg_D} (hO : ∀ f j, E f j < 2 ^ 30) {i w s : Nat} {c : Bool} (hM : MI E) (hi : i < E 1 0) (hw : w < E 0 0) (hs4 : s ≤ 4) (hd : 5 ≤ d) {h0 h2 : ah_H} {o : Outcome} {e : Nat} (he : e = pf E w (on (E 10 i) 1) (on (E 10 i) 2) (on (E 10 i) 3)) (he4 : e ≤ 4) (K : ∀ (s2 : Nat) (c2 : Bool), s2 = max s (rsM E w i) → (c2 = true ↔ (c = true ∨ rsM E w i = 0)) → ah_At mt_M_refused d A h0 o h2 44 [(0, .ref m), (1, .int (nI i)), (2, .int (nI s2)), (3, .int (bz c2)), (4, .int (nI (w + 1)))] [] (rg LTm g m E)) : ah_At mt_M_refused d A h0 o h2 104 [(0, .ref m), (1, .int (nI i)), (2, .int (nI s)), (3, .int (bz c)), (4, .int (nI w))] [.int (nI e - 1)] (rg LTm g m E) := by
  have h3 := hM.1.1
  have h8 := hM.1.2
  refine b_M_refused_104 (fun z1 => ?_) (fun z1 => ?_)
  · replace z1 := (cvlt (sI_toInt (n := e) (by omega)) (show ((0 : Int32)).toInt = 0 from by decide)).mp z1
    refine b_M_refused_111 ?_
    refine b_M_refused_112 (fun z => absurd z (by decide)) (fun z2 => ?_)
    refine b_M_refused_119 ?_
    refine b_M_refused_165 (fun z3 => ?_) (fun z3 => ?_)
    · replace z3 := mt (bz0).mpr z3
      refine b_M_refused_176 ?_
      refine b_M_refused_181 (fun z4 => ?_) (fun z4 => ?_)
      · replace z4 := (cvle (show ((1 : Int32)).toInt = 1 from by decide) (nI_toInt (n := s) (by omega))).mp z4
        refine b_M_refused_193 ?_
        refine b_M_refused_194 ?_
        rw [show ((nI w) + 1 : Int32) = nI (w + 1) from (ad_n rfl rfl)]
        have hr : rsM E w i = 0 ∨ rsM E w i = 1 ∨ rsM E w i = 2 ∨ rsM E w i = 3 := by have := rsM_le (E := E) (w := w) (i := i); omega
        refine K s true ?_ ?_
        · revert hr; unfold rsM; rw [← he]; split <;> (try split) <;> (try split) <;> intros <;> omega
        · constructor
          · intro q; first | (cases q; done) | (left; simpa using ‹¬ c = false›) | (right; unfold rsM; rw [← he, if_neg (by omega), if_neg (by omega), if_neg (by omega)])
          · intro q; first | rfl | (exfalso; rcases q with q | q; (first | (exact absurd (q.symm.trans ‹c = false›) (by decide)) | omega); (revert q; unfold rsM; rw [← he]; split <;> (try split) <;> (try split) <;> intros <;> omega))
      · replace z4 := mt (cvle (show ((1 : Int32)).toInt = 1 from by decide) (nI_toInt (n := s) (by omega))).mpr z4
        refine b_M_refused_188 ?_
        refine b_M_refused_194 ?_
        rw [show ((nI w) + 1 : Int32) = nI (w + 1) from (ad_n rfl rfl)]
        have hr : rsM E w i = 0 ∨ rsM E w i = 1 ∨ rsM E w i = 2 ∨ rsM E w i = 3 := by have := rsM_le (E := E) (w := w) (i := i); omega
        refine K 1 true ?_ ?_
        · revert hr; unfold rsM; rw [← he]; split <;> (try split) <;> (try split) <;> intros <;> omega
        · constructor
          · intro q; first | (cases q; done) | (left; simpa using ‹¬ c = false›) | (right; unfold rsM; rw [← he, if_neg (by omega), if_neg (by omega), if_neg (by omega)])
          · intro q; first | rfl | (exfalso; rcases q with q | q; (first | (exact absurd (q.symm.trans ‹c = false›) (by decide)) | omega); (revert q; unfold rsM; rw [← he]; split <;> (try split) <;> (try split) <;> intros <;> omega))
    · replace z3 := (bz0).mp (Decidable.not_not.mp z3)
      refine b_M_refused_171 (fun z5 => ?_) (fun z => absurd (by decide) z)
      refine b_M_refused_180 ?_
      refine b_M_refused_181 (fun z6 => ?_) (fun z6 => ?_)
      · replace z6 := (cvle (show ((1 : Int32)).toInt = 1 from by decide) (nI_toInt (n := s) (by omega))).mp z6
        refine b_M_refused_193 ?_
        refine b_M_refused_194 ?_
        rw [show ((nI w) + 1 : Int32) = nI (w + 1) from (ad_n rfl rfl)]
        have hr : rsM E w i = 0 ∨ rsM E w i = 1 ∨ rsM E w i = 2 ∨ rsM E w i = 3 := by have := rsM_le (E := E) (w := w) (i := i); omega
        refine K s false ?_ ?_
        · revert hr; unfold rsM; rw [← he]; split <;> (try split) <;> (try split) <;> intros <;> omega
        · constructor
          · intro q; first | (cases q; done) | (left; simpa using ‹¬ c = false›) | (right; unfold rsM; rw [← he, if_neg (by omega), if_neg (by omega), if_neg (by omega)])
          · intro q; first | rfl | (exfalso; rcases q with q | q; (first | (exact absurd (q.symm.trans ‹c = false›) (by decide)) | omega); (revert q; unfold rsM; rw [← he]; split <;> (try split) <;> (try split) <;> intros <;> omega))
      · replace z6 := mt (cvle (show ((1 : Int32)).toInt = 1 from by decide) (nI_toInt (n := s) (by omega))).mpr z6
        refine b_M_refused_188 ?_
        refine b_M_refused_194 ?_
        rw [show ((nI w) + 1 : Int32) = nI (w + 1) from (ad_n rfl rfl)]
        have hr : rsM E w i = 0 ∨ rsM E w i = 1 ∨ rsM E w i = 2 ∨ rsM E w i = 3 := by have := rsM_le (E := E) (w := w) (i := i); omega
        refine K 1 false ?_ ?_
        · revert hr; unfold rsM; rw [← he]; split <;> (try split) <;> (try split) <;> intros <;> omega
        · constructor
          · intro q; first | (cases q; done) | (left; simpa using ‹¬ c = false›) | (right; unfold rsM; rw [← he, if_neg (by omega), if_neg (by omega), if_neg (by omega)])
          · intro q; first | rfl | (exfalso; rcases q with q | q; (first | (exact absurd (q.symm.trans ‹c = false›) (by decide)) | omega); (revert q; unfold rsM; rw [← he]; split <;> (try split) <;> (try split) <;> intros <;> omega))
  · replace z1 := mt (cvlt (sI_toInt (n := e) (by omega)) (show ((0 : Int32)).toInt = 0 from by decide)).mpr z1
    refine b_M_refused_107 ?_
    refine b_M_refused_112 (fun z7 => ?_) (fun z => absurd (by decide) z)
    refine b_M_refused_123 (rdR (k_M_12)) (ah_ix_nI (by omega)) (rdI (k_M12 _ (by omega)) rfl) (rdR (k_M_6)) (ah_ix_nI (by omega)) (rdI (k_M6 _ (by omega)) rfl) (fun z8 => ?_) (fun z8 => ?_)
    · replace z8 := (cvle (nI_toInt (n := E 12 i) (by have := hO 12 i; omega)) (nI_toInt (n := E 6 w) (by have := hO 6 w; omega))).mp z8
      refine b_M_refused_143 (rdR (k_M_11)) (ah_ix_nI (by omega)) (rdL (k_M11 _ (by omega)) rfl) (rdR (k_M_4)) (ah_ix_nI (by omega)) (rdL (k_M4 _ (by omega)) rfl) (fun z9 => ?_) (fun z9 => ?_)
      · replace z9 := (cLle (lN_toInt (n := E 11 i) (by have := hO 11 i; omega)) (lN_toInt (n := E 4 w) (by have := hO 4 w; omega))).mp z9
        refine b_M_refused_164 ?_
        refine b_M_refused_165 (fun z10 => ?_) (fun z10 => ?_)
        · replace z10 := mt (bz0).mpr z10
          refine b_M_refused_176 ?_
          refine b_M_refused_181 (fun z11 => ?_) (fun z11 => ?_)
          · replace z11 := (cvle (show ((0 : Int32)).toInt = 0 from by decide) (nI_toInt (n := s) (by omega))).mp z11
            refine b_M_refused_193 ?_
            refine b_M_refused_194 ?_
            rw [show ((nI w) + 1 : Int32) = nI (w + 1) from (ad_n rfl rfl)]
            have hr : rsM E w i = 0 ∨ rsM E w i = 1 ∨ rsM E w i = 2 ∨ rsM E w i = 3 := by have := rsM_le (E := E) (w := w) (i := i); omega
            refine K s true ?_ ?_
            · revert hr; unfold rsM; rw [← he]; split <;> (try split) <;> (try split) <;> intros <;> omega
            · constructor
              · intro q; first | (cases q; done) | (left; simpa using ‹¬ c = false›) | (right; unfold rsM; rw [← he, if_neg (by omega), if_neg (by omega), if_neg (by omega)])
              · intro q; first | rfl | (exfalso; rcases q with q | q; (first | (exact absurd (q.symm.trans ‹c = false›) (by decide)) | omega); (revert q; unfold rsM; rw [← he]; split <;> (try split) <;> (try split) <;> intros <;> omega))
          · replace z11 := mt (cvle (show ((0 : Int32)).toInt = 0 from by decide) (nI_toInt (n := s) (by omega))).mpr z11
            refine b_M_refused_188 ?_
            refine b_M_refused_194 ?_
            rw [show ((nI w) + 1 : Int32) = nI (w + 1) from (ad_n rfl rfl)]
            have hr : rsM E w i = 0 ∨ rsM E w i = 1 ∨ rsM E w i = 2 ∨ rsM E w i = 3 := by have := rsM_le (E := E) (w := w) (i := i); omega
            refine K 0 true ?_ ?_
            · revert hr; unfold rsM; rw [← he]; split <;> (try split) <;> (try split) <;> intros <;> omega
            · constructor
              · intro q; first | (cases q; done) | (left; simpa using ‹¬ c = false›) | (right; unfold rsM; rw [← he, if_neg (by omega), if_neg (by omega), if_neg (by omega)])
              · intro q; first | rfl | (exfalso; rcases q with q | q; (first | (exact absurd (q.symm.trans ‹c = false›) (by decide)) | omega); (revert q; unfold rsM; rw [← he]; split <;> (try split) <;> (try split) <;> intros <;> omega))
        · replace z10 := (bz0).mp (Decidable.not_not.mp z10)
          refine b_M_refused_171 (fun z => absurd z (by decide)) (fun z12 => ?_)
          refine b_M_refused_176 ?_
          refine b_M_refused_181 (fun z13 => ?_) (fun z13 => ?_)
          · replace z13 := (cvle (show ((0 : Int32)).toInt = 0 from by decide) (nI_toInt (n := s) (by omega))).mp z13
            refine b_M_refused_193 ?_
            refine b_M_refused_194 ?_
            rw [show ((nI w) + 1 : Int32) = nI (w + 1) from (ad_n rfl rfl)]
            have hr : rsM E w i = 0 ∨ rsM E w i = 1 ∨ rsM E w i = 2 ∨ rsM E w i = 3 := by have := rsM_le (E := E) (w := w) (i := i); omega
            refine K s true ?_ ?_
            · revert hr; unfold rsM; rw [← he]; split <;> (try split) <;> (try split) <;> intros <;> omega
            · constructor
              · intro q; first | (cases q; done) | (left; simpa using ‹¬ c = false›) | (right; unfold rsM; rw [← he, if_neg (by omega), if_neg (by omega), if_neg (by omega)])
              · intro q; first | rfl | (exfalso; rcases q with q | q; (first | (exact absurd (q.symm.trans ‹c = false›) (by decide)) | omega); (revert q; unfold rsM; rw [← he]; split <;> (try split) <;> (try split) <;> intros <;> omega))
          · replace z13 := mt (cvle (show ((0 : Int32)).toInt = 0 from by decide) (nI_toInt (n := s) (by omega))).mpr z13
            refine b_M_refused_188 ?_
            refine b_M_refused_194 ?_
            rw [show ((nI w) + 1 : Int32) = nI (w + 1) from (ad_n rfl rfl)]
            have hr : rsM E w i = 0 ∨ rsM E w i = 1 ∨ rsM E w i = 2 ∨ rsM E w i = 3 := by have := rsM_le (E := E) (w := w) (i := i); omega
            refine K 0 true ?_ ?_
            · revert hr; unfold rsM; rw [← he]; split <;> (try split) <;> (try split) <;> intros <;> omega
            · constructor
              · intro q; first | (cases q; done) | (left; simpa using ‹¬ c = false›) | (right; unfold rsM; rw [← he, if_neg (by omega), if_neg (by omega), if_neg (by omega)])
              · intro q; first | rfl | (exfalso; rcases q with q | q; (first | (exact absurd (q.symm.trans ‹c = false›) (by decide)) | omega); (revert q; unfold rsM; rw [← he]; split <;> (try split) <;> (try split) <;> intros <;> omega))
      · replace z9 := mt (cLle (lN_toInt (n := E 11 i) (by have := hO 11 i; omega)) (lN_toInt (n := E 4 w) (by have := hO 4 w; omega))).mpr z9
        refine b_M_refused_160 ?_
        refine b_M_refused_165 (fun z14 => ?_) (fun z14 => ?_)
        · replace z14 := mt (bz0).mpr z14
          refine b_M_refused_176 ?_
          refine b_M_refused_181 (fun z15 => ?_) (fun z15 => ?_)
          · replace z15 := (cvle (show ((3 : Int32)).toInt = 3 from by decide) (nI_toInt (n := s) (by omega))).mp z15
            refine b_M_refused_193 ?_
            refine b_M_refused_194 ?_
            rw [show ((nI w) + 1 : Int32) = nI (w + 1) from (ad_n rfl rfl)]
            have hr : rsM E w i = 0 ∨ rsM E w i = 1 ∨ rsM E w i = 2 ∨ rsM E w i = 3 := by have := rsM_le (E := E) (w := w) (i := i); omega
            refine K s true ?_ ?_
            · revert hr; unfold rsM; rw [← he]; split <;> (try split) <;> (try split) <;> intros <;> omega
            · constructor
              · intro q; first | (cases q; done) | (left; simpa using ‹¬ c = false›) | (right; unfold rsM; rw [← he, if_neg (by omega), if_neg (by omega), if_neg (by omega)])
              · intro q; first | rfl | (exfalso; rcases q with q | q; (first | (exact absurd (q.symm.trans ‹c = false›) (by decide)) | omega); (revert q; unfold rsM; rw [← he]; split <;> (try split) <;> (try split) <;> intros <;> omega))
          · replace z15 := mt (cvle (show ((3 : Int32)).toInt = 3 from by decide) (nI_toInt (n := s) (by omega))).mpr z15
            refine b_M_refused_188 ?_
            refine b_M_refused_194 ?_
            rw [show ((nI w) + 1 : Int32) = nI (w + 1) from (ad_n rfl rfl)]
            have hr : rsM E w i = 0 ∨ rsM E w i = 1 ∨ rsM E w i = 2 ∨ rsM E w i = 3 := by have := rsM_le (E := E) (w := w) (i := i); omega
            refine K 3 true ?_ ?_
            · revert hr; unfold rsM; rw [← he]; split <;> (try split) <;> (try split) <;> intros <;> omega
            · constructor
              · intro q; first | (cases q; done) | (left; simpa using ‹¬ c = false›) | (right; unfold rsM; rw [← he, if_neg (by omega), if_neg (by omega), if_neg (by omega)])
              · intro q; first | rfl | (exfalso; rcases q with q | q; (first | (exact absurd (q.symm.trans ‹c = false›) (by decide)) | omega); (revert q; unfold rsM; rw [← he]; split <;> (try split) <;> (try split) <;> intros <;> omega))
        · replace z14 := (bz0).mp (Decidable.not_not.mp z14)
          refine b_M_refused_171 (fun z16 => ?_) (fun z => absurd (by decide) z)
          refine b_M_refused_180 ?_
          refine b_M_refused_181 (fun z17 => ?_) (fun z17 => ?_)
          · replace z17 := (cvle (show ((3 : Int32)).toInt = 3 from by decide) (nI_toInt (n := s) (by omega))).mp z17
            refine b_M_refused_193 ?_
            refine b_M_refused_194 ?_
            rw [show ((nI w) + 1 : Int32) = nI (w + 1) from (ad_n rfl rfl)]
            have hr : rsM E w i = 0 ∨ rsM E w i = 1 ∨ rsM E w i = 2 ∨ rsM E w i = 3 := by have := rsM_le (E := E) (w := w) (i := i); omega
            refine K s false ?_ ?_
            · revert hr; unfold rsM; rw [← he]; split <;> (try split) <;> (try split) <;> intros <;> omega
            · constructor
              · intro q; first | (cases q; done) | (left; simpa using ‹¬ c = false›) | (right; unfold rsM; rw [← he, if_neg (by omega), if_neg (by omega), if_neg (by omega)])
              · intro q; first | rfl | (exfalso; rcases q with q | q; (first | (exact absurd (q.symm.trans ‹c = false›) (by decide)) | omega); (revert q; unfold rsM; rw [← he]; split <;> (try split) <;> (try split) <;> intros <;> omega))
          · replace z17 := mt (cvle (show ((3 : Int32)).toInt = 3 from by decide) (nI_toInt (n := s) (by omega))).mpr z17
            refine b_M_refused_188 ?_
            refine b_M_refused_194 ?_
            rw [show ((nI w) + 1 : Int32) = nI (w + 1) from (ad_n rfl rfl)]
            have hr : rsM E w i = 0 ∨ rsM E w i = 1 ∨ rsM E w i = 2 ∨ rsM E w i = 3 := by have := rsM_le (E := E) (w := w) (i := i); omega
            refine K 3 false ?_ ?_
            · revert hr; unfold rsM; rw [← he]; split <;> (try split) <;> (try split) <;> intros <;> omega
            · constructor
              · intro q; first | (cases q; done) | (left; simpa using ‹¬ c = false›) | (right; unfold rsM; rw [← he, if_neg (by omega), if_neg (by omega), if_neg (by omega)])
              · intro q; first | rfl | (exfalso; rcases q with q | q; (first | (exact absurd (q.symm.trans ‹c = false›) (by decide)) | omega); (revert q; unfold rsM; rw [← he]; split <;> (try split) <;> (try split) <;> intros <;> omega))
    · replace z8 := mt (cvle (nI_toInt (n := E 12 i) (by have := hO 12 i; omega)) (nI_toInt (n := E 6 w) (by have := hO 6 w; omega))).mpr z8
      refine b_M_refused_139 ?_
      refine b_M_refused_165 (fun z18 => ?_) (fun z18 => ?_)
      · replace z18 := mt (bz0).mpr z18
        refine b_M_refused_176 ?_
        refine b_M_refused_181 (fun z19 => ?_) (fun z19 => ?_)
        · replace z19 := (cvle (show ((2 : Int32)).toInt = 2 from by decide) (nI_toInt (n := s) (by omega))).mp z19
          refine b_M_refused_193 ?_
          refine b_M_refused_194 ?_
          rw [show ((nI w) + 1 : Int32) = nI (w + 1) from (ad_n rfl rfl)]
          have hr : rsM E w i = 0 ∨ rsM E w i = 1 ∨ rsM E w i = 2 ∨ rsM E w i = 3 := by have := rsM_le (E := E) (w := w) (i := i); omega
          refine K s true ?_ ?_
          · revert hr; unfold rsM; rw [← he]; split <;> (try split) <;> (try split) <;> intros <;> omega
          · constructor
            · intro q; first | (cases q; done) | (left; simpa using ‹¬ c = false›) | (right; unfold rsM; rw [← he, if_neg (by omega), if_neg (by omega), if_neg (by omega)])
            · intro q; first | rfl | (exfalso; rcases q with q | q; (first | (exact absurd (q.symm.trans ‹c = false›) (by decide)) | omega); (revert q; unfold rsM; rw [← he]; split <;> (try split) <;> (try split) <;> intros <;> omega))
        · replace z19 := mt (cvle (show ((2 : Int32)).toInt = 2 from by decide) (nI_toInt (n := s) (by omega))).mpr z19
          refine b_M_refused_188 ?_
          refine b_M_refused_194 ?_
          rw [show ((nI w) + 1 : Int32) = nI (w + 1) from (ad_n rfl rfl)]
          have hr : rsM E w i = 0 ∨ rsM E w i = 1 ∨ rsM E w i = 2 ∨ rsM E w i = 3 := by have := rsM_le (E := E) (w := w) (i := i); omega
          refine K 2 true ?_ ?_
          · revert hr; unfold rsM; rw [← he]; split <;> (try split) <;> (try split) <;> intros <;> omega
          · constructor
            · intro q; first | (cases q; done) | (left; simpa using ‹¬ c = false›) | (right; unfold rsM; rw [← he, if_neg (by omega), if_neg (by omega), if_neg (by omega)])
            · intro q; first | rfl | (exfalso; rcases q with q | q; (first | (exact absurd (q.symm.trans ‹c = false›) (by decide)) | omega); (revert q; unfold rsM; rw [← he]; split <;> (try split) <;> (try split) <;> intros <;> omega))
      · replace z18 := (bz0).mp (Decidable.not_not.mp z18)
        refine b_M_refused_171 (fun z20 => ?_) (fun z => absurd (by decide) z)
        refine b_M_refused_180 ?_
        refine b_M_refused_181 (fun z21 => ?_) (fun z21 => ?_)
        · replace z21 := (cvle (show ((2 : Int32)).toInt = 2 from by decide) (nI_toInt (n := s) (by omega))).mp z21
          refine b_M_refused_193 ?_
          refine b_M_refused_194 ?_
          rw [show ((nI w) + 1 : Int32) = nI (w + 1) from (ad_n rfl rfl)]
          have hr : rsM E w i = 0 ∨ rsM E w i = 1 ∨ rsM E w i = 2 ∨ rsM E w i = 3 := by have := rsM_le (E := E) (w := w) (i := i); omega
          refine K s false ?_ ?_
          · revert hr; unfold rsM; rw [← he]; split <;> (try split) <;> (try split) <;> intros <;> omega
          · constructor
            · intro q; first | (cases q; done) | (left; simpa using ‹¬ c = false›) | (right; unfold rsM; rw [← he, if_neg (by omega), if_neg (by omega), if_neg (by omega)])
            · intro q; first | rfl | (exfalso; rcases q with q | q; (first | (exact absurd (q.symm.trans ‹c = false›) (by decide)) | omega); (revert q; unfold rsM; rw [← he]; split <;> (try split) <;> (try split) <;> intros <;> omega))
        · replace z21 := mt (cvle (show ((2 : Int32)).toInt = 2 from by decide) (nI_toInt (n := s) (by omega))).mpr z21
          refine b_M_refused_188 ?_
          refine b_M_refused_194 ?_
          rw [show ((nI w) + 1 : Int32) = nI (w + 1) from (ad_n rfl rfl)]
          have hr : rsM E w i = 0 ∨ rsM E w i = 1 ∨ rsM E w i = 2 ∨ rsM E w i = 3 := by have := rsM_le (E := E) (w := w) (i := i); omega
          refine K 2 false ?_ ?_
          · revert hr; unfold rsM; rw [← he]; split <;> (try split) <;> (try split) <;> intros <;> omega
          · constructor
            · intro q; first | (cases q; done) | (left; simpa using ‹¬ c = false›) | (right; unfold rsM; rw [← he, if_neg (by omega), if_neg (by omega), if_neg (by omega)])
            · intro q; first | rfl | (exfalso; rcases q with q | q; (first | (exact absurd (q.symm.trans ‹c = false›) (by decide)) | omega); (revert q; unfold rsM; rw [← he]; split <;> (try split) <;> (try split) <;> intros <;> omega))
