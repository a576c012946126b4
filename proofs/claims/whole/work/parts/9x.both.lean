/-! BOTH OBJECTS in one heap -/
def HH (g : ah_H) (b m : Nat) (D E : rg_D) : ah_H := rg LTm (rg LTc g b D) m E
def LG (g : ah_H) (b m x0 x3 : Nat) (sc : List Value) : Prop := (b + 75 ≤ m) ∧ (m + 16 ≤ x3) ∧ (x3 < g.1) ∧ (x0 < b) ∧ (g.2.2 x0 = some (99, sc)) ∧ (∃ v, g.2.2 x3 = some (101, [.long v])) ∧ (∃ a c, a < b ∧ g.2.2 a = some (97, c))
theorem LG.bm {g : ah_H} {b m x0 x3 : Nat} {sc : List Value} (h : LG g b m x0 x3 sc) : b + 75 ≤ m := h.1
theorem LG.mo {g : ah_H} {b m x0 x3 : Nat} {sc : List Value} (h : LG g b m x0 x3 sc) : m + 16 ≤ x3 := h.2.1
theorem LG.og {g : ah_H} {b m x0 x3 : Nat} {sc : List Value} (h : LG g b m x0 x3 sc) : x3 < g.1 := h.2.2.1
theorem LG.xb {g : ah_H} {b m x0 x3 : Nat} {sc : List Value} (h : LG g b m x0 x3 sc) : x0 < b := h.2.2.2.1
theorem LG.script {g : ah_H} {b m x0 x3 : Nat} {sc : List Value} (h : LG g b m x0 x3 sc) : g.2.2 x0 = some (99, sc) := h.2.2.2.2.1
theorem LG.out {g : ah_H} {b m x0 x3 : Nat} {sc : List Value} (h : LG g b m x0 x3 sc) : ∃ v, g.2.2 x3 = some (101, [.long v]) := h.2.2.2.2.2.1
theorem LG.stat {g : ah_H} {b m x0 x3 : Nat} {sc : List Value} (h : LG g b m x0 x3 sc) : ∃ a c, a < b ∧ g.2.2 a = some (97, c) := h.2.2.2.2.2.2
theorem HH_swap {g : ah_H} {b m : Nat} {D E : rg_D} (h : b + 75 ≤ m) : rg LTc (rg LTm g m E) b D = HH g b m D E := rg_swap (Or.inl h)
theorem HH_g {g : ah_H} {b m a : Nat} {D E : rg_D} (h : b + 75 ≤ m) (ha : a < b ∨ m + 16 ≤ a) : (HH g b m D E).2.2 a = g.2.2 a := by
  unfold HH
  rw [rg_out (L := LTm) (by show a < m ∨ m + 16 ≤ a; omega), rg_out (L := LTc) (by show a < b ∨ b + 75 ≤ a; omega)]
theorem HH_1 {g : ah_H} {b m : Nat} {D E : rg_D} : (HH g b m D E).1 = g.1 := rfl
theorem HH_2 {g : ah_H} {b m : Nat} {D E : rg_D} : (HH g b m D E).2.1 = g.2.1 := rfl
section BothLG
variable {g : ah_H} {b m x0 x3 : Nat} {sc : List Value} {D D' E E' : rg_D}
theorem LG.newx (h : LG g b m x0 x3 sc) {t : Nat} : LG (ah_newx g t) b m x0 x3 sc := by
  obtain ⟨h1, h2, h3, h4, h5, ⟨v, h6⟩, a, c, h7, h8⟩ := h
  have e : ∀ q, q < g.1 → (ah_newx g t).2.2 q = g.2.2 q := fun q hq => by show (if q = g.1 then _ else _) = _; rw [if_neg (by omega)]
  exact ⟨h1, h2, by show x3 < g.1 + 1; omega, h4, by rw [e x0 (by omega)]; exact h5, ⟨v, by rw [e x3 (by omega)]; exact h6⟩, a, c, h7, by rw [e a (by omega)]; exact h8⟩
theorem LG.sto (h : LG g b m x0 x3 sc) {w : Int64} : LG (ah_sto g x3 0 (.long w)) b m x0 x3 sc := by
  obtain ⟨h1, h2, h3, h4, h5, ⟨v, h6⟩, a, c, h7, h8⟩ := h
  have e : ∀ q, q ≠ x3 → (ah_sto g x3 0 (.long w)).2.2 q = g.2.2 q := fun q hq => by show (if q = x3 then _ else _) = _; rw [if_neg hq]
  refine ⟨h1, h2, h3, h4, by rw [e x0 (by omega)]; exact h5, ⟨w, ?_⟩, a, c, h7, by rw [e a (by omega)]; exact h8⟩
  show (if x3 = x3 then (g.2.2 x3).map (fun c => (c.1, c.2.set 0 (.long w))) else _) = _
  rw [if_pos rfl, h6]
  rfl
theorem HH_newx (h : LG g b m x0 x3 sc) {t : Nat} : ah_newx (HH g b m D E) t = HH (ah_newx g t) b m D E := by
  unfold HH
  have h1 := h.bm
  have h2 := h.mo
  have h3 := h.og
  rw [rg_newx (L := LTm) (g := rg LTc g b D) (by show m + 16 ≤ g.1; omega), rg_newx (L := LTc) (by show b + 75 ≤ g.1; omega)]
theorem rg_stog {L : rg_L} {D : rg_D} {a i : Nat} {v : Value} (h : a < b ∨ b + L.length ≤ a) : ah_sto (rg L g b D) a i v = rg L (ah_sto g a i v) b D := by
  refine Prod.ext rfl (Prod.ext rfl ?_)
  funext q
  show (if q = a then ((rg L g b D).2.2 a).map (fun c => (c.1, c.2.set i v)) else (rg L g b D).2.2 q) = (rg L (ah_sto g a i v) b D).2.2 q
  by_cases e : q = a
  · subst e
    rw [if_pos rfl, rg_out h, rg_out h]
    show _ = if q = q then _ else _
    rw [if_pos rfl]
  · rw [if_neg e]
    by_cases e2 : q < b ∨ b + L.length ≤ q
    · rw [rg_out e2, rg_out e2]
      show _ = if q = a then _ else _
      rw [if_neg e]
    · show (if b ≤ q ∧ q < b + (rgm L b D).length then (rgm L b D)[q - b]? else _) = if b ≤ q ∧ q < b + (rgm L b D).length then (rgm L b D)[q - b]? else _
      rw [rgm_len, if_pos (by omega), if_pos (by omega)]
theorem HH_sto (h : LG g b m x0 x3 sc) {v : Value} : ah_sto (HH g b m D E) x3 0 v = HH (ah_sto g x3 0 v) b m D E := by
  unfold HH
  have h1 := h.bm
  have h2 := h.mo
  rw [rg_stog (L := LTm) (by show x3 < m ∨ m + 16 ≤ x3; omega), rg_stog (L := LTc) (by show x3 < b ∨ b + 75 ≤ x3; omega)]
theorem HH_6 (h : b + 75 ≤ m) : (ah_len (HH g b m D E) b 6).isSome = true := by
  rw [← HH_swap h]
  exact rdN (L := LTc) (k := 0) (i := 0) rfl
theorem HH_7 : (ah_len (HH g b m D E) m 7).isSome = true := rdN (L := LTm) (k := 0) (i := 0) rfl
theorem HH_o (h : LG g b m x0 x3 sc) : (ah_sel (HH g b m D E) x3 101 0).isSome = true := by
  obtain ⟨v, hv⟩ := h.out
  unfold ah_sel
  rw [HH_g h.bm (Or.inr h.mo), hv]
  rfl
theorem HH_ov (h : LG g b m x0 x3 sc) {w : Int64} : ah_sel (HH (ah_sto g x3 0 (.long w)) b m D E) x3 101 0 = some (.long w) := by
  obtain ⟨v, hv⟩ := h.out
  unfold ah_sel
  rw [HH_g h.bm (Or.inr h.mo)]
  show (match (if x3 = x3 then (g.2.2 x3).map (fun c => (c.1, c.2.set 0 (.long w))) else g.2.2 x3) with | some c => if c.1 = 101 then c.2[0]? else none | none => none) = _
  rw [if_pos rfl, hv]
  rfl
theorem HH_rd (h : LG g b m x0 x3 sc) {j : Nat} {v : Int32} (hj : sc[j]? = some (.int v)) : ah_sel (HH g b m D E) x0 99 j = some (.int v) := by
  unfold ah_sel
  rw [HH_g h.bm (Or.inl h.xb), h.script]
  exact hj
theorem HH_x (h : LG g b m x0 x3 sc) {t : Nat} : (HH (ah_newx g t) b m D E).2.2 g.1 = some (t, []) := by
  have h2 := h.mo
  have h3 := h.og
  rw [HH_g h.bm (Or.inr (by omega))]
  show (if g.1 = g.1 then some (t, []) else _) = _
  rw [if_pos rfl]
theorem HH_st (h : LG g b m x0 x3 sc) : ∃ a c, (rg LTc (rg LTm g m E) b D).2.2 a = some (97, c) := by
  obtain ⟨a, c, h7, h8⟩ := h.stat
  exact ⟨a, c, by rw [HH_swap h.bm, HH_g h.bm (Or.inl h7)]; exact h8⟩
theorem evC {M : ah_M} {d : Nat} {A : Nat → Prop} {av : List Value} {o : Outcome} (h : b + 75 ≤ m) (k : ah_Ev M d A av (rg LTc (rg LTm g m E) b D) o (rg LTc (rg LTm g m E) b D')) : ah_Ev M d A av (HH g b m D E) o (HH g b m D' E) := by
  rw [HH_swap h, HH_swap h] at k
  exact k
theorem evT {M : ah_M} {d t : Nat} {A : Nat → Prop} {av : List Value} (h : LG g b m x0 x3 sc) (k : ah_Ev M d A av (rg LTc (rg LTm g m E) b D) (.threw (rg LTm g m E).1) (ah_newx (rg LTc (rg LTm g m E) b D) t)) : ah_Ev M d A av (HH g b m D E) (.threw g.1) (HH (ah_newx g t) b m D E) := by
  rw [HH_swap h.bm, HH_newx h] at k
  exact k
end BothLG
/-- eight words of the script -/
def Rd (sc : List Value) (x4 : Int32) (f : Nat → Int32) : Prop := (∃ j, ah_ix x4 j ∧ sc[j]? = some (.int (f 0))) ∧ (∃ j, ah_ix (x4 + 1) j ∧ sc[j]? = some (.int (f 1))) ∧ (∃ j, ah_ix (x4 + 2) j ∧ sc[j]? = some (.int (f 2))) ∧ (∃ j, ah_ix (x4 + 3) j ∧ sc[j]? = some (.int (f 3))) ∧ (∃ j, ah_ix (x4 + 4) j ∧ sc[j]? = some (.int (f 4))) ∧ (∃ j, ah_ix (x4 + 5) j ∧ sc[j]? = some (.int (f 5))) ∧ (∃ j, ah_ix (x4 + 6) j ∧ sc[j]? = some (.int (f 6))) ∧ (∃ j, ah_ix (x4 + 7) j ∧ sc[j]? = some (.int (f 7)))
theorem Rd.r0 {sc : List Value} {x4 : Int32} {f : Nat → Int32} (h : Rd sc x4 f) : ∃ j, ah_ix x4 j ∧ sc[j]? = some (.int (f 0)) := h.1
theorem Rd.r1 {sc : List Value} {x4 : Int32} {f : Nat → Int32} (h : Rd sc x4 f) : ∃ j, ah_ix (x4 + 1) j ∧ sc[j]? = some (.int (f 1)) := h.2.1
theorem Rd.r2 {sc : List Value} {x4 : Int32} {f : Nat → Int32} (h : Rd sc x4 f) : ∃ j, ah_ix (x4 + 2) j ∧ sc[j]? = some (.int (f 2)) := h.2.2.1
theorem Rd.r3 {sc : List Value} {x4 : Int32} {f : Nat → Int32} (h : Rd sc x4 f) : ∃ j, ah_ix (x4 + 3) j ∧ sc[j]? = some (.int (f 3)) := h.2.2.2.1
theorem Rd.r4 {sc : List Value} {x4 : Int32} {f : Nat → Int32} (h : Rd sc x4 f) : ∃ j, ah_ix (x4 + 4) j ∧ sc[j]? = some (.int (f 4)) := h.2.2.2.2.1
theorem Rd.r5 {sc : List Value} {x4 : Int32} {f : Nat → Int32} (h : Rd sc x4 f) : ∃ j, ah_ix (x4 + 5) j ∧ sc[j]? = some (.int (f 5)) := h.2.2.2.2.2.1
theorem Rd.r6 {sc : List Value} {x4 : Int32} {f : Nat → Int32} (h : Rd sc x4 f) : ∃ j, ah_ix (x4 + 6) j ∧ sc[j]? = some (.int (f 6)) := h.2.2.2.2.2.2.1
theorem Rd.r7 {sc : List Value} {x4 : Int32} {f : Nat → Int32} (h : Rd sc x4 f) : ∃ j, ah_ix (x4 + 7) j ∧ sc[j]? = some (.int (f 7)) := h.2.2.2.2.2.2.2
/-- two words as one long number -/
abbrev lw (a c : Int32) : Int64 := ((Int32.toInt64 a) <<< ((Int32.toInt64 32) &&& 63)) ||| ((Int32.toInt64 c) &&& 4294967295)
def zl (v : Int32) : Int64 := if v = 0 then 0 else 1
