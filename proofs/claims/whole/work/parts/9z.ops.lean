/-! EACH CALL of the law: both sides answer alike and stand alike again -/
theorem nI_xo {x : Int32} (h : 0 ≤ x.toInt) : ∃ n, n < 2 ^ 31 ∧ x = nI n ∧ x.toInt = (n : Int) := by
  have h2 := Int32.toInt_lt x
  refine ⟨x.toInt.toNat, by omega, ?_, by omega⟩
  apply Int32.toInt_inj.mp
  rw [nI_toInt (by omega)]
  omega
theorem lN_xo {x : Int64} (h : 0 ≤ x.toInt) (h2 : x.toInt < 2 ^ 31) : ∃ n, n < 2 ^ 31 ∧ x = lN n ∧ x.toInt = (n : Int) := by
  refine ⟨x.toInt.toNat, by omega, ?_, by omega⟩
  apply Int64.toInt_inj.mp
  rw [lN_toInt (by omega)]
  omega
theorem i_is {x : Int32} {y : Int32} (h : x.toInt = y.toInt) : x = y := Int32.toInt_inj.mp h
def LwS (d : Nat) (A : Nat → Prop) (g : ah_H) (b m x0 x3 : Nat) (sc : List Value) (x4 : Int32) (D E : rg_D) (pc : Nat) : Prop :=
  ∃ g' D' E', Sm D' E' ∧ LG g' b m x0 x3 sc ∧ (g.1 ≤ g'.1 ∧ g'.1 ≤ g.1 + 1 ∧ g.2.1 ≤ g'.2.1 ∧ g'.2.1 ≤ g.2.1 + 6) ∧ ∀ (h0 h2 : ah_H) (o : Outcome), ah_At mt_A_law d A h0 o h2 1062 [(0, .ref x0), (1, .ref b), (2, .ref m), (3, .ref x3), (4, .int x4)] [] (HH g' b m D' E') → ah_At mt_A_law d A h0 o h2 pc [(0, .ref x0), (1, .ref b), (2, .ref m), (3, .ref x3), (4, .int x4)] [] (HH g b m D E)
theorem st_x {g : ah_H} {t : Nat} : g.1 ≤ (ah_newx g t).1 ∧ (ah_newx g t).1 ≤ g.1 + 1 ∧ g.2.1 ≤ (ah_newx g t).2.1 ∧ (ah_newx g t).2.1 ≤ g.2.1 + 6 := ⟨Nat.le_succ _, Nat.le_refl _, Nat.le_add_right _ _, Nat.le_refl _⟩
theorem st_s {g : ah_H} {a : Nat} {v : Value} : g.1 ≤ (ah_sto g a 0 v).1 ∧ (ah_sto g a 0 v).1 ≤ g.1 + 1 ∧ g.2.1 ≤ (ah_sto g a 0 v).2.1 ∧ (ah_sto g a 0 v).2.1 ≤ g.2.1 + 6 := ⟨Nat.le_refl _, Nat.le_succ _, Nat.le_refl _, Nat.le_add_right _ _⟩
theorem st_g {g : ah_H} : g.1 ≤ g.1 ∧ g.1 ≤ g.1 + 1 ∧ g.2.1 ≤ g.2.1 ∧ g.2.1 ≤ g.2.1 + 6 := ⟨Nat.le_refl _, Nat.le_succ _, Nat.le_refl _, Nat.le_add_right _ _⟩
section Ops
variable {d : Nat} {A : Nat → Prop} {g : ah_H} {b m x0 x3 : Nat} {sc : List Value} {x4 : Int32} {f : Nat → Int32} {D E : rg_D}
theorem mA (G : LG g b m x0 x3 sc) (hA : ∀ q, b ≤ q → A q) : ∀ q, m ≤ q → q < m + 16 → A q := fun q h _ => hA q (by have := G.bm; omega)
theorem op_wagon (S : Sm D E) (G : LG g b m x0 x3 sc) (rd : Rd sc x4 f) (hd : 60 ≤ d) (hA : ∀ q, b ≤ q → A q) : LwS d A g b m x0 x3 sc x4 D E 112 := by
  have hAm := mA G hA
  have h3 := S.ti.1.1
  by_cases v : (1 ≤ (f 1).toInt ∧ (f 1).toInt ≤ 30) ∧ (0 ≤ (lw (f 2) (f 3)).toInt ∧ (lw (f 2) (f 3)).toInt ≤ 1000000) ∧ (0 ≤ (f 4).toInt ∧ (f 4).toInt ≤ 8) ∧ (1 ≤ (f 5).toInt ∧ (f 5).toInt ≤ 100)
  · obtain ⟨g1, g2, g3, g4⟩ := v
    by_cases hn : D 0 0 < 3
    · obtain ⟨l, hl, el, tl⟩ := nI_xo (x := f 1) (by omega)
      obtain ⟨q, hq, eq, tq⟩ := lN_xo (x := lw (f 2) (f 3)) (by omega) (by omega)
      obtain ⟨a, ha, ea, ta⟩ := nI_xo (x := f 4) (by omega)
      obtain ⟨u, hu, eu, tu⟩ := nI_xo (x := f 5) (by omega)
      have S' := S.wagon (l := l) (q := q) (a := a) (u := u) (by omega) (by omega) (by omega) (by omega) hn
      have hX := x_wagon0 (d := d - 2) (A := A) (g := rg LTm g m E) (b := b) S.hD (fun q h _ => hA q h) (by omega) (l := l) (q := q) (a := a) (u := u) (by omega) (by omega) (by omega) (by omega) hn
      have hM := m_wagon0 (d := d - 1) (A := A) (g := rg LTc (ah_sto g x3 0 (.long (Int32.toInt64 (nI (D 0 0))))) b (aW (up D 16 0 0) l q a u)) (m := m) S.hE hAm (by omega) (l := l) (q := q) (a := a) (u := u) (by omega) (by omega) (by omega) (by omega) (by rw [S.n0]; exact hn)
      rw [← el, ← eq, ← ea, ← eu] at hX hM
      exact ⟨_, _, _, S', G.sto, st_s, fun h0 h2 o kk => l_wagon_r G rd hd hA hX hM (by rw [S.n0]) (by simp [up]) S'.hE kk⟩
    · exact ⟨_, _, _, S.mark (k := 2) (by decide), G.newx, st_x, fun h0 h2 o kk => l_wagon_t2 G rd hd hA (x_wagon2 (d := d - 2) S.hD (fun q h => h) (HH_st G) (by omega) rfl rfl rfl rfl g1 g2 g3 g4 hn) (m_wagon2 (d := d - 1) (A := A) S.hE hAm (by omega) rfl rfl rfl rfl g1 g2 g3 g4 (by rw [S.n0]; omega)) S.hE kk⟩
  · exact ⟨_, _, _, S.mark (k := 1) (by decide), G.newx, st_x, fun h0 h2 o kk => l_wagon_t1 G rd hd hA (x_wagon1 (d := d - 2) S.hD (fun q h => h) (HH_st G) (by omega) rfl rfl rfl rfl v) (m_wagon1 (d := d - 1) (A := A) S.hE hAm (by omega) rfl rfl rfl rfl v) S.hE kk⟩
theorem op_box (S : Sm D E) (G : LG g b m x0 x3 sc) (rd : Rd sc x4 f) (hd : 60 ≤ d) (hA : ∀ q, b ≤ q → A q) : LwS d A g b m x0 x3 sc x4 D E 304 := by
  have hAm := mA G hA
  have h8 := S.ti.1.2
  by_cases v : (1 ≤ (f 1).toInt ∧ (f 1).toInt ≤ 3) ∧ (0 ≤ (lw (f 2) (f 3)).toInt ∧ (lw (f 2) (f 3)).toInt ≤ 1000000) ∧ (1 ≤ (f 4).toInt ∧ (f 4).toInt ≤ 100) ∧ (0 ≤ (f 5).toInt ∧ (f 5).toInt ≤ 3) ∧ (0 ≤ (lw (f 6) (f 7)).toInt ∧ (lw (f 6) (f 7)).toInt ≤ 1000000000)
  · obtain ⟨g1, g2, g3, g4, g5⟩ := v
    by_cases hn : D 1 0 < 8
    · obtain ⟨s, hs, es, ts⟩ := nI_xo (x := f 1) (by omega)
      obtain ⟨q, hq, eq, tq⟩ := lN_xo (x := lw (f 2) (f 3)) (by omega) (by omega)
      obtain ⟨a, ha, ea, ta⟩ := nI_xo (x := f 4) (by omega)
      obtain ⟨u, hu, eu, tu⟩ := nI_xo (x := f 5) (by omega)
      obtain ⟨t, ht, et, tt⟩ := lN_xo (x := lw (f 6) (f 7)) (by omega) (by omega)
      have S' := S.box (s := s) (q := q) (t := a) (u := u) (v := t) (by omega) (by omega) (by omega) (by omega) (by omega) hn
      have hX := x_box0 (d := d - 2) (A := A) (g := rg LTm g m E) (b := b) S.hD (fun q h _ => hA q h) (by omega) (s := s) (q := q) (h := a) (u := u) (t := t) (by omega) (by omega) (by omega) (by omega) (by omega) hn
      have hM := m_box0 (d := d - 1) (A := A) (g := rg LTc (ah_sto g x3 0 (.long (Int32.toInt64 (nI (D 1 0))))) b (aB (up D 16 0 0) s q a u t)) (m := m) S.hE hAm (by omega) (s := s) (q := q) (h := a) (u := u) (t := t) (by omega) (by omega) (by omega) (by omega) (by omega) (by rw [S.n1]; exact hn)
      rw [← es, ← eq, ← ea, ← eu, ← et] at hX hM
      exact ⟨_, _, _, S', G.sto, st_s, fun h0 h2 o kk => l_box_r G rd hd hA hX hM (by rw [S.n1]) (by simp [up]) S'.hE kk⟩
    · exact ⟨_, _, _, S.mark (k := 2) (by decide), G.newx, st_x, fun h0 h2 o kk => l_box_t2 G rd hd hA (x_box2 (d := d - 2) S.hD (fun q h => h) (HH_st G) (by omega) rfl rfl rfl rfl rfl g1 g2 g3 g4 g5 hn) (m_box2 (d := d - 1) (A := A) S.hE hAm (by omega) rfl rfl rfl rfl rfl g1 g2 g3 g4 g5 (by rw [S.n1]; omega)) S.hE kk⟩
  · exact ⟨_, _, _, S.mark (k := 1) (by decide), G.newx, st_x, fun h0 h2 o kk => l_box_t1 G rd hd hA (x_box1 (d := d - 2) S.hD (fun q h => h) (HH_st G) (by omega) rfl rfl rfl rfl rfl v) (m_box1 (d := d - 1) (A := A) S.hE hAm (by omega) rfl rfl rfl rfl rfl v) S.hE kk⟩
theorem op_pattern (S : Sm D E) (G : LG g b m x0 x3 sc) (rd : Rd sc x4 f) (hd : 60 ≤ d) (hA : ∀ q, b ≤ q → A q) : LwS d A g b m x0 x3 sc x4 D E 236 := by
  have hAm := mA G hA
  have h3 := S.ti.1.1
  have m1 := S.mark (k := 1) (by decide)
  have h0' := S.n0
  by_cases v : 0 ≤ (f 1).toInt ∧ (f 1).toInt < ((D 0 0 : Nat) : Int)
  · obtain ⟨w, hw31, ew, tw⟩ := nI_xo (x := f 1) (by omega)
    have hw : w < D 0 0 := by omega
    by_cases v2 : (f 2).toInt ≤ 0
    · refine ⟨_, _, _, m1, G.newx, st_x, fun h0 h2 o kk => l_pattern_t1 G rd hd hA ?_ (m_pattern1 (d := d - 1) (A := A) S.hE hAm (by omega) rfl rfl (Or.inr (by omega))) S.hE kk⟩
      have := x_pattern1b (d := d - 2) (g := rg LTm g m E) (b := b) S.hD (fun q (h : (fun _ => False) q) => h) (HH_st G) (by omega) (x2 := f 2) rfl h3 hw v2
      rw [← ew] at this
      exact this
    · obtain ⟨n, hn31, en, tn⟩ := nI_xo (x := f 2) (by omega)
      have e3 : E 3 w = D 3 w := (S.told 3 w (by decide) (by decide)).symm
      have e8 : E 8 w = D 8 w := (S.told 8 w (by decide) (by decide)).symm
      have hw' : w < E 0 0 := by omega
      by_cases v3 : rowF 4 n ∧ lnF 4 n ≤ D 3 w
      · have hle := row_le v3.1 (by omega)
        by_cases v4 : D 8 w < 4
        · have S' := S.pattern (w := w) (n := n) hw (by omega) v3.1 v4
          have hX := x_pattern0 (d := d - 2) (A := A) (g := rg LTm g m E) (b := b) S.hD (fun q h _ => hA q h) (by omega) h3 (w := w) (n := n) hw (by omega) hn31 v3.1 v3.2 v4 (fun p t => Nat.le_trans (S.p19 _) (by decide))
          have hM := m_pattern0 (d := d - 1) (A := A) (g := rg LTc (ah_sto g x3 0 (.long (Int32.toInt64 (nI (D 8 w))))) b (aP (up D 16 0 0) w n)) (m := m) S.hE hAm (by omega) (by omega) (w := w) (n := n) hw' (by omega) v3.1 (by rw [e3]; exact v3.2) (by rw [e8]; exact v4)
          rw [← ew, ← en] at hX hM
          exact ⟨_, _, _, S', G.sto, st_s, fun h0 h2 o kk => l_pattern_r G rd hd hA hX hM (by rw [e8]) (by simp [up]) S'.hE kk⟩
        · have h84 := S.ti.2.1 w
          have hX := x_pattern2 (d := d - 2) (g := rg LTm g m E) (b := b) S.hD (fun q (h : (fun _ => False) q) => h) (HH_st G) (by omega) h3 (w := w) (n := n) hw (by omega) hn31 v3.1 v3.2 v4
          have hM := m_pattern2 (d := d - 1) (A := A) (g := rg LTc (ah_newx g 91) b D) (m := m) S.hE hAm (by omega) (by omega) (w := w) (n := n) hw' (by omega) v3.1 (by rw [e3]; exact v3.2) (by omega)
          rw [← ew, ← en] at hX hM
          exact ⟨_, _, _, S.mark (k := 2) (by decide), G.newx, st_x, fun h0 h2 o kk => l_pattern_t2 G rd hd hA hX hM S.hE kk⟩
      · have hX := x_pattern1c (d := d - 2) (g := rg LTm g m E) (b := b) S.hD (fun q (h : (fun _ => False) q) => h) (HH_st G) (by omega) h3 (w := w) (n := n) hw (by omega) hn31 v3
        rw [← ew, ← en] at hX
        by_cases v5 : n ≤ 3333
        · have hM := m_pattern1c (d := d - 1) (A := A) (g := rg LTc (ah_newx g 90) b D) (m := m) S.hE hAm (by omega) (by omega) (w := w) (n := n) hw' (by omega) (by rw [e3]; exact v3)
          rw [← ew, ← en] at hM
          exact ⟨_, _, _, m1, G.newx, st_x, fun h0 h2 o kk => l_pattern_t1 G rd hd hA hX hM S.hE kk⟩
        · exact ⟨_, _, _, m1, G.newx, st_x, fun h0 h2 o kk => l_pattern_t1 G rd hd hA hX (m_pattern1 (d := d - 1) (A := A) S.hE hAm (by omega) rfl rfl (Or.inr (by omega))) S.hE kk⟩
  · exact ⟨_, _, _, m1, G.newx, st_x, fun h0 h2 o kk => l_pattern_t1 G rd hd hA (x_pattern1 (d := d - 2) S.hD (fun q h => h) (HH_st G) (by omega) rfl rfl v) (m_pattern1 (d := d - 1) (A := A) S.hE hAm (by omega) rfl rfl (Or.inl (by rw [h0']; exact v))) S.hE kk⟩
theorem op_rule (S : Sm D E) (G : LG g b m x0 x3 sc) (rd : Rd sc x4 f) (hd : 60 ≤ d) (hA : ∀ q, b ≤ q → A q) : LwS d A g b m x0 x3 sc x4 D E 476 := by
  have hAm := mA G hA
  by_cases v : (1 ≤ (f 1).toInt ∧ (f 1).toInt ≤ 3) ∧ (1 ≤ (f 2).toInt ∧ (f 2).toInt ≤ 3) ∧ (0 ≤ (f 3).toInt ∧ (f 3).toInt ≤ 2)
  · obtain ⟨g1, g2, g3⟩ := v
    obtain ⟨a, ha, ea, ta⟩ := nI_xo (x := f 1) (by omega)
    obtain ⟨c, hc, ec, tc⟩ := nI_xo (x := f 2) (by omega)
    obtain ⟨r, hr, er, tr⟩ := nI_xo (x := f 3) (by omega)
    have S' := S.rule (a := a) (c := c) (r := r) (by omega) (by omega) (by omega)
    have hX := x_rule0 (d := d - 1) (A := A) (g := rg LTm g m E) (b := b) S.hD (fun q h _ => hA q h) (by omega) (a := a) (c := c) (r := r) (by omega) (by omega) (by omega)
    have hM := m_rule0 (d := d - 1) (A := A) (g := rg LTc g b (up (up (up D 16 0 0) 15 (4 * a + c) r) 15 (4 * c + a) r)) (m := m) S.hE hAm (by omega) (a := a) (c := c) (r := r) (by omega) (by omega) (by omega)
    rw [← ea, ← ec, ← er] at hX hM
    exact ⟨_, _, _, S', G, st_g, fun h0 h2 o kk => l_rule G rd hd hX hM rfl kk⟩
  · exact ⟨_, _, _, S.mark (k := 0) (by decide), G, st_g, fun h0 h2 o kk => l_rule G rd hd (x_rule1 (d := d - 1) S.hD (by omega) rfl rfl rfl v) (m_rule1 (d := d - 1) (A := A) S.hE hAm (by omega) rfl rfl rfl v) rfl kk⟩
theorem op_cut (S : Sm D E) (G : LG g b m x0 x3 sc) (rd : Rd sc x4 f) (hd : 60 ≤ d) (hA : ∀ q, b ≤ q → A q) : LwS d A g b m x0 x3 sc x4 D E 525 := by
  have hAm := mA G hA
  by_cases v : 0 ≤ (lw (f 1) (f 2)).toInt ∧ (lw (f 1) (f 2)).toInt ≤ 1000000000
  · obtain ⟨t, ht, et, tt⟩ := lN_xo (x := lw (f 1) (f 2)) (by omega) (by omega)
    have S' := S.cut (t := t) (by omega)
    have hX := x_cut0 (d := d - 1) (A := A) (g := rg LTm g m E) (b := b) S.hD (fun q h _ => hA q h) (by omega) (t := t) (by omega)
    have hM := m_cut0 (d := d - 1) (A := A) (g := rg LTc g b (up (up D 16 0 0) 2 0 t)) (m := m) S.hE hAm (by omega) (t := t) (by omega)
    rw [← et] at hX hM
    exact ⟨_, _, _, S', G, st_g, fun h0 h2 o kk => l_cut G rd hd hX hM rfl kk⟩
  · exact ⟨_, _, _, S.mark (k := 0) (by decide), G, st_g, fun h0 h2 o kk => l_cut G rd hd (x_cut1 (d := d - 1) S.hD (by omega) rfl v) (m_cut1 (d := d - 1) (A := A) S.hE hAm (by omega) rfl v) rfl kk⟩
theorem op_out (S : Sm D E) (G : LG g b m x0 x3 sc) (rd : Rd sc x4 f) (hd : 60 ≤ d) (hA : ∀ q, b ≤ q → A q) : LwS d A g b m x0 x3 sc x4 D E 582 := by
  have hAm := mA G hA
  have h3 := S.ti.1.1
  have h0' := S.n0
  have m0 := S.mark (k := 0) (by decide)
  by_cases v : 0 ≤ (f 1).toInt ∧ (f 1).toInt < ((D 0 0 : Nat) : Int)
  · obtain ⟨w, hw31, ew, tw⟩ := nI_xo (x := f 1) (by omega)
    have hw : w < D 0 0 := by omega
    have hw' : w < E 0 0 := by omega
    have e7 : E 7 w = D 7 w := (S.told 7 w (by decide) (by decide)).symm
    have h71 := S.out w
    by_cases z : f 2 = 0
    · by_cases y : D 7 w = 0
      · have hX := x_out2_0 (d := d - 1) (A := A) (g := rg LTm g m E) (b := b) S.hD (by omega) h3 hw y
        have hM := m_out2_0 (d := d - 1) (A := A) (g := rg LTc g b D) (m := m) S.hE hAm (by omega) (by omega) hw' (by rw [e7]; exact y)
        rw [← ew] at hX hM
        exact ⟨_, _, _, m0, G, st_g, fun h0 h2 o kk => l_out0 G rd hd z hX hM rfl kk⟩
      · have hX := x_out0_0 (d := d - 1) (A := A) (g := rg LTm g m E) (b := b) S.hD (fun q h _ => hA q h) (by omega) h3 hw y
        have hM := m_out0_0 (d := d - 1) (A := A) (g := rg LTc g b (up (up D 16 0 0) 7 w 0)) (m := m) S.hE hAm (by omega) (by omega) hw' (by rw [e7]; exact y)
        rw [← ew] at hX hM
        exact ⟨_, _, _, S.outs (w := w) (x := 0) (by decide), G, st_g, fun h0 h2 o kk => l_out0 G rd hd z hX hM rfl kk⟩
    · by_cases y : D 7 w = 1
      · have hX := x_out2_1 (d := d - 1) (A := A) (g := rg LTm g m E) (b := b) S.hD (by omega) h3 hw y
        have hM := m_out2_1 (d := d - 1) (A := A) (g := rg LTc g b D) (m := m) S.hE hAm (by omega) (by omega) hw' (by rw [e7]; exact y)
        rw [← ew] at hX hM
        exact ⟨_, _, _, m0, G, st_g, fun h0 h2 o kk => l_out1 G rd hd z hX hM rfl kk⟩
      · have hX := x_out0_1 (d := d - 1) (A := A) (g := rg LTm g m E) (b := b) S.hD (fun q h _ => hA q h) (by omega) h3 hw y
        have hM := m_out0_1 (d := d - 1) (A := A) (g := rg LTc g b (up (up D 16 0 0) 7 w 1)) (m := m) S.hE hAm (by omega) (by omega) hw' (by rw [e7]; exact y)
        rw [← ew] at hX hM
        exact ⟨_, _, _, S.outs (w := w) (x := 1) (by decide), G, st_g, fun h0 h2 o kk => l_out1 G rd hd z hX hM rfl kk⟩
  · by_cases z : f 2 = 0
    · exact ⟨_, _, _, m0, G, st_g, fun h0 h2 o kk => l_out0 G rd hd z (x_out1 (d := d - 1) S.hD (by omega) rfl v) (m_out1 (d := d - 1) (A := A) S.hE hAm (by omega) rfl (by rw [h0']; exact v)) rfl kk⟩
    · exact ⟨_, _, _, m0, G, st_g, fun h0 h2 o kk => l_out1 G rd hd z (x_out1 (d := d - 1) S.hD (by omega) rfl v) (m_out1 (d := d - 1) (A := A) S.hE hAm (by omega) rfl (by rw [h0']; exact v)) rfl kk⟩
theorem op_plan (S : Sm D E) (G : LG g b m x0 x3 sc) (rd : Rd sc x4 f) (hd : 60 ≤ d) (hA : ∀ q, b ≤ q → A q) : LwS d A g b m x0 x3 sc x4 D E 635 := by
  have hAm := mA G hA
  have hb := S.bit
  have h3 := S.ti.1.1
  by_cases z : D 16 0 = 1
  · obtain ⟨S', e⟩ := S.plan1 z
    exact ⟨_, _, _, S', G, st_g, fun h0 h2 o kk => l_plan G rd hd (x_plan1 (d := d - 1) S.hD (by omega) h3 z) (c_planM (d := d - 1) (A := A) (g := rg LTc g b D) S.hE hAm S.mi S.hb (by omega)) (by rw [e]) kk⟩
  · obtain ⟨S', e⟩ := S.plan0
    obtain ⟨q1, -, -, q4, -, -⟩ := mkp_all S.ti S.hD S.gh
    exact ⟨_, _, _, S', G, st_g, fun h0 h2 o kk => l_plan G rd hd (x_plan0 (d := d - 1) S.hD (fun q h _ => hA q h) (by omega) S.ti S.gh (mk_best S.ti S.hD S.gh).1 (by omega) q4 (by rw [q1 0 0 (by decide)]; exact h3)) (c_planM (d := d - 1) (A := A) (g := rg LTc g b (up (mkp D) 16 0 1)) S.hE hAm S.mi S.hb (by omega)) (by rw [e]) kk⟩
theorem op_at (S : Sm D E) (G : LG g b m x0 x3 sc) (rd : Rd sc x4 f) (hd : 60 ≤ d) (hA : ∀ q, b ≤ q → A q) : LwS d A g b m x0 x3 sc x4 D E 648 := by
  have hAm := mA G hA
  have hb := S.bit
  have h3 := S.ti.1.1
  have h8 := S.ti.1.2
  have n1 := S.n1
  have hfl := S.flag
  have S0 := S.mark (k := 0) (by decide)
  by_cases v : ¬ (0 ≤ (f 1).toInt ∧ (f 1).toInt < ((D 1 0 : Nat) : Int)) ∨ ¬ (0 ≤ (f 2).toInt ∧ (f 2).toInt ≤ 1)
  · exact ⟨_, _, _, S.mark (k := 1) (by decide), G.newx, st_x, fun h0 h2 o kk => l_at_t1 G rd hd hA (x_at1 (d := d - 2) S.hD (fun q h => h) (HH_st G) (by omega) rfl rfl v) (m_at1 (d := d - 1) (A := A) S.hE hAm S.mi (by omega) rfl rfl (by rw [n1]; exact v)) S.hE kk⟩
  · have g1 : 0 ≤ (f 1).toInt ∧ (f 1).toInt < ((D 1 0 : Nat) : Int) := Classical.byContradiction (fun z => v (Or.inl z))
    have g2 : 0 ≤ (f 2).toInt ∧ (f 2).toInt ≤ 1 := Classical.byContradiction (fun z => v (Or.inr z))
    by_cases z : D 16 0 = 1
    · obtain ⟨i, hi31, ei, ti⟩ := nI_xo (x := f 1) (by omega)
      have hi : i < D 1 0 := by omega
      have hsame := (S.plan z).same i hi
      by_cases w0 : E 29 i = 0
      · by_cases y : (f 2).toInt = 0
        · have e2 : f 2 = 0 := i_is y
          have hX := x_at00 (d := d - 2) (A := A) (g := rg LTm g m E) (b := b) S.hD (by omega) h3 h8 z hi
          have hM := m_at0n0 (d := d - 1) (A := A) (g := rg LTc (ah_sto g x3 0 (.long (Int32.toInt64 (nI (D 29 i) - 1)))) b D) (m := m) S.hE hAm S.mi (by omega) (by rw [n1]; exact hi) (by omega) w0
          rw [← ei, ← e2] at hX hM
          exact ⟨_, _, _, S0, G.sto, st_s, fun h0 h2 o kk => l_at_r G rd hd hA hX hM (by rw [hsame.1, w0]; decide) (by simp [up]) S0.hE kk⟩
        · have e2 : f 2 = 1 := i_is (by show (f 2).toInt = 1; omega)
          have hX : ah_Ev mt_X_at (d - 2) A [.ref b, .int (f 1), .int (f 2)] (rg LTc (rg LTm g m E) b D) (.returned (some (.int (nI 0 - 1)))) (rg LTc (rg LTm g m E) b D) := by
            rw [ei, e2]
            exact x_at01 (d := d - 2) (A := A) (g := rg LTm g m E) (b := b) S.hD (by omega) h3 h8 z hi (c_placeOf0 (d := d - 2 - 1) (A := A) S.hD h8 hi (by omega) (by rw [hsame.1]; exact w0))
          have hM : ah_Ev mt_M_at (d - 1) A [.ref m, .int (f 1), .int (f 2)] (rg LTm (rg LTc (ah_sto g x3 0 (.long (Int32.toInt64 (nI 0 - 1)))) b D) m E) (.returned (some (.int (-1)))) (rg LTm (rg LTc (ah_sto g x3 0 (.long (Int32.toInt64 (nI 0 - 1)))) b D) m (up E 32 0 0)) := by
            rw [ei, e2]
            exact m_at0n1 (d := d - 1) (A := A) (g := rg LTc (ah_sto g x3 0 (.long (Int32.toInt64 (nI 0 - 1)))) b D) (m := m) S.hE hAm S.mi (by omega) (by rw [n1]; exact hi) (by omega) w0
          exact ⟨_, _, _, S0, G.sto, st_s, fun h0 h2 o kk => l_at_r G rd hd hA hX hM (by decide) (by simp [up]) S0.hE kk⟩
      · obtain ⟨w, hw⟩ : ∃ w, E 29 i = w + 1 := ⟨E 29 i - 1, by omega⟩
        by_cases y : (f 2).toInt = 0
        · have e2 : f 2 = 0 := i_is y
          have hX := x_at00 (d := d - 2) (A := A) (g := rg LTm g m E) (b := b) S.hD (by omega) h3 h8 z hi
          have hM := m_at00 (d := d - 1) (A := A) (g := rg LTc (ah_sto g x3 0 (.long (Int32.toInt64 (nI (D 29 i) - 1)))) b D) (m := m) S.hE hAm S.mi (by omega) (by rw [n1]; exact hi) (by omega) hw
          rw [← ei, ← e2] at hX hM
          exact ⟨_, _, _, S0, G.sto, st_s, fun h0 h2 o kk => l_at_r G rd hd hA hX hM (by rw [hsame.1, hw]; exact nI_pred w) (by simp [up]) S0.hE kk⟩
        · have e2 : f 2 = 1 := i_is (by show (f 2).toInt = 1; omega)
          have e29 : up E 32 0 0 29 i = w + 1 := by rw [up_f (by decide)]; exact hw
          obtain ⟨p, p1, p2, p3, p4, p5, p6⟩ := ans_place S0 z hi e29
          have hX : ah_Ev mt_X_at (d - 2) A [.ref b, .int (f 1), .int (f 2)] (rg LTc (rg LTm g m E) b D) (.returned (some (.int (nI (pbf D w p (D 10 i) (bef D i w i) (D 17 (4 * w + p)) 0 0) - 1)))) (rg LTc (rg LTm g m E) b D) := by
            rw [ei, e2]
            exact x_at01 (d := d - 2) (A := A) (g := rg LTm g m E) (b := b) S.hD (by omega) h3 h8 z hi (c_placeOf (d := d - 2 - 1) (A := A) S.hD h8 hi h3 (by omega) S.ti.2.1 (S.ti.2.2 i).1 (by omega) (by rw [hsame.1]; exact hw) p1 p3 p4)
          have hM : ah_Ev mt_M_at (d - 1) A [.ref m, .int (f 1), .int (f 2)] (rg LTm (rg LTc (ah_sto g x3 0 (.long (Int32.toInt64 (nI (pbf D w p (D 10 i) (bef D i w i) (D 17 (4 * w + p)) 0 0) - 1)))) b D) m E) (.returned (some (.int (nI (plc (up E 32 0 0 9 (4 * w + p)) (up E 32 0 0 10 i) 4 (tn (up E 32 0 0 9 (4 * w + p))) (bef (up E 32 0 0) i w i) 0))))) (rg LTm (rg LTc (ah_sto g x3 0 (.long (Int32.toInt64 (nI (pbf D w p (D 10 i) (bef D i w i) (D 17 (4 * w + p)) 0 0) - 1)))) b D) m (up E 32 0 0)) := by
            rw [ei, e2]
            exact m_at01 (d := d - 1) (A := A) (g := rg LTc (ah_sto g x3 0 (.long (Int32.toInt64 (nI (pbf D w p (D 10 i) (bef D i w i) (D 17 (4 * w + p)) 0 0) - 1)))) b D) (m := m) S.hE hAm S.mi (by omega) (by rw [n1]; exact hi) (by omega) hw (c_placeIn (d := d - 1 - 1) (A := A) S0.hE S0.mi (by omega) (by rw [S0.n1]; exact hi) e29 (by omega) p2 p3 p5)
          exact ⟨_, _, _, S0, G.sto, st_s, fun h0 h2 o kk => l_at_r G rd hd hA hX hM (by rw [p6]; exact nI_pred _) (by simp [up]) S0.hE kk⟩
    · exact ⟨_, _, _, S.mark (k := 2) (by decide), G.newx, st_x, fun h0 h2 o kk => l_at_t2 G rd hd hA (x_at2 (d := d - 2) S.hD (fun q h => h) (HH_st G) (by omega) rfl rfl g1 g2 (by omega)) (m_at2 (d := d - 1) (A := A) S.hE hAm S.mi (by omega) rfl rfl (by rw [n1]; exact g1) g2 (by omega)) S.hE kk⟩
theorem op_load (S : Sm D E) (G : LG g b m x0 x3 sc) (rd : Rd sc x4 f) (hd : 60 ≤ d) (hA : ∀ q, b ≤ q → A q) : LwS d A g b m x0 x3 sc x4 D E 716 := by
  have hAm := mA G hA
  have hb := S.bit
  have h3 := S.ti.1.1
  have h8 := S.ti.1.2
  have n0 := S.n0
  have hfl := S.flag
  have S0 := S.mark (k := 0) (by decide)
  by_cases v : ¬ (0 ≤ (f 1).toInt ∧ (f 1).toInt < ((D 0 0 : Nat) : Int)) ∨ ¬ (0 ≤ (f 2).toInt ∧ (f 2).toInt ≤ 3)
  · exact ⟨_, _, _, S.mark (k := 1) (by decide), G.newx, st_x, fun h0 h2 o kk => l_load_t1 G rd hd hA (x_load1 (d := d - 2) S.hD (fun q h => h) (HH_st G) (by omega) rfl rfl v) (m_load1 (d := d - 1) (A := A) S.hE hAm S.mi (by omega) rfl rfl (by rw [n0]; exact v)) S.hE kk⟩
  · have g1 : 0 ≤ (f 1).toInt ∧ (f 1).toInt < ((D 0 0 : Nat) : Int) := Classical.byContradiction (fun z => v (Or.inl z))
    have g2 : 0 ≤ (f 2).toInt ∧ (f 2).toInt ≤ 3 := Classical.byContradiction (fun z => v (Or.inr z))
    by_cases z : D 16 0 = 1
    · obtain ⟨w, hw31, ew, tw⟩ := nI_xo (x := f 1) (by omega)
      have hw : w < D 0 0 := by omega
      have hw' : w < E 0 0 := by omega
      have c4 : (f 2).toInt = 0 ∨ (f 2).toInt = 1 ∨ (f 2).toInt = 2 ∨ (f 2).toInt = 3 := by omega
      rcases c4 with y | y | y | y
      · have e2 : f 2 = 0 := i_is y
        have hX := x_load00 (d := d - 2) (A := A) (g := rg LTm g m E) (b := b) S.hD (by omega) h3 h8 z hw S.ti.2.1
        have hM := m_load00 (d := d - 1) (A := A) (g := rg LTc (ah_sto g x3 0 (.long (Int32.toInt64 (nI (pa D w) - 1)))) b D) (m := m) S.hE hAm S.mi (by omega) hw' (by omega)
        rw [← ew, ← e2] at hX hM
        exact ⟨_, _, _, S0, G.sto, st_s, fun h0 h2 o kk => l_load_r G rd hd hA hX hM (by rw [ans_pa S0 z hw]) (by simp [up]) S0.hE kk⟩
      · have e2 : f 2 = 1 := i_is y
        have hX := x_load01 (d := d - 2) (A := A) (g := rg LTm g m E) (b := b) S.hD (by omega) h3 h8 z hw S.ti.2.1
        have hM := m_load01 (d := d - 1) (A := A) (g := rg LTc (ah_sto g x3 0 (.long (lN (D 20 w)))) b D) (m := m) S.hE hAm S.mi (by omega) hw' (by omega)
        rw [← ew, ← e2] at hX hM
        exact ⟨_, _, _, S0, G.sto, st_s, fun h0 h2 o kk => l_load_r G rd hd hA hX hM (by rw [ans_20 S0 z hw]) (by simp [up]) S0.hE kk⟩
      · have e2 : f 2 = 2 := i_is y
        have hX := x_load02 (d := d - 2) (A := A) (g := rg LTm g m E) (b := b) S.hD (by omega) h3 h8 z hw S.ti.2.1
        have hM := m_load02 (d := d - 1) (A := A) (g := rg LTc (ah_sto g x3 0 (.long (lN (D 21 w)))) b D) (m := m) S.hE hAm S.mi (by omega) hw' (by omega)
        rw [← ew, ← e2] at hX hM
        exact ⟨_, _, _, S0, G.sto, st_s, fun h0 h2 o kk => l_load_r G rd hd hA hX hM (by rw [ans_21 S0 z hw]) (by simp [up]) S0.hE kk⟩
      · have e2 : f 2 = 3 := i_is y
        have hX := x_load03 (d := d - 2) (A := A) (g := rg LTm g m E) (b := b) S.hD (by omega) h3 h8 z hw S.ti.2.1
        have hM := m_load03 (d := d - 1) (A := A) (g := rg LTc (ah_sto g x3 0 (.long (lN (D 22 w)))) b D) (m := m) S.hE hAm S.mi (by omega) hw' (by omega)
        rw [← ew, ← e2] at hX hM
        exact ⟨_, _, _, S0, G.sto, st_s, fun h0 h2 o kk => l_load_r G rd hd hA hX hM (by rw [ans_22 S0 z hw]) (by simp [up]) S0.hE kk⟩
    · exact ⟨_, _, _, S.mark (k := 2) (by decide), G.newx, st_x, fun h0 h2 o kk => l_load_t2 G rd hd hA (x_load2 (d := d - 2) S.hD (fun q h => h) (HH_st G) (by omega) rfl rfl g1 g2 (by omega)) (m_load2 (d := d - 1) (A := A) S.hE hAm S.mi (by omega) rfl rfl (by rw [n0]; exact g1) g2 (by omega)) S.hE kk⟩
theorem op_axle (S : Sm D E) (G : LG g b m x0 x3 sc) (rd : Rd sc x4 f) (hd : 60 ≤ d) (hA : ∀ q, b ≤ q → A q) : LwS d A g b m x0 x3 sc x4 D E 783 := by
  have hAm := mA G hA
  have hb := S.bit
  have h3 := S.ti.1.1
  have h8 := S.ti.1.2
  have n0 := S.n0
  have hfl := S.flag
  have S0 := S.mark (k := 0) (by decide)
  by_cases v : ¬ (0 ≤ (f 1).toInt ∧ (f 1).toInt < ((D 0 0 : Nat) : Int)) ∨ ¬ (0 ≤ (f 2).toInt ∧ (f 2).toInt ≤ 1)
  · exact ⟨_, _, _, S.mark (k := 1) (by decide), G.newx, st_x, fun h0 h2 o kk => l_axle_t1 G rd hd hA (x_axle1 (d := d - 2) S.hD (fun q h => h) (HH_st G) (by omega) rfl rfl v) (m_axle1 (d := d - 1) (A := A) S.hE hAm S.mi (by omega) rfl rfl (by rw [n0]; exact v)) S.hE kk⟩
  · have g1 : 0 ≤ (f 1).toInt ∧ (f 1).toInt < ((D 0 0 : Nat) : Int) := Classical.byContradiction (fun z => v (Or.inl z))
    have g2 : 0 ≤ (f 2).toInt ∧ (f 2).toInt ≤ 1 := Classical.byContradiction (fun z => v (Or.inr z))
    by_cases z : D 16 0 = 1
    · obtain ⟨w, hw31, ew, tw⟩ := nI_xo (x := f 1) (by omega)
      have hw : w < D 0 0 := by omega
      have hw' : w < E 0 0 := by omega
      have e5 : E 5 w = D 5 w := (S.told 5 w (by decide) (by decide)).symm
      by_cases x : D 5 w = 0
      · have hX := x_axle3 (d := d - 2) (g := rg LTm g m E) (b := b) S.hD (fun q (h : (fun _ => False) q) => h) (HH_st G) (by omega) (x2 := f 2) rfl g2 h3 hw z x
        have hM := m_axle3 (d := d - 1) (A := A) (g := rg LTc (ah_newx g 94) b D) (m := m) S.hE hAm S.mi (by omega) (x2 := f 2) rfl g2 hw' (by omega) (by rw [e5]; exact x)
        rw [← ew] at hX hM
        exact ⟨_, _, _, S.mark (k := 3) (by decide), G.newx, st_x, fun h0 h2 o kk => l_axle_t3 G rd hd hA hX hM S.hE kk⟩
      · by_cases y : (f 2).toInt = 0
        · have e2 : f 2 = 0 := i_is y
          have hX := x_axle00 (d := d - 2) (A := A) (g := rg LTm g m E) (b := b) S.hD (by omega) h3 h8 z hw S.ti.2.1 (by omega)
          have hM := m_axle00 (d := d - 1) (A := A) (g := rg LTc (ah_sto g x3 0 (.long (lN (D 22 w / D 5 w)))) b D) (m := m) S.hE hAm S.mi (by omega) hw' (by omega) (by omega)
          rw [← ew, ← e2] at hX hM
          exact ⟨_, _, _, S0, G.sto, st_s, fun h0 h2 o kk => l_axle_r G rd hd hA hX hM (by rw [ans_22 S0 z hw, e5]) (by simp [up]) S0.hE kk⟩
        · have e2 : f 2 = 1 := i_is (by show (f 2).toInt = 1; omega)
          have hX := x_axle01 (d := d - 2) (A := A) (g := rg LTm g m E) (b := b) S.hD (by omega) h3 h8 z hw S.ti.2.1 (by omega)
          have hM := m_axle01 (d := d - 1) (A := A) (g := rg LTc (ah_sto g x3 0 (.long (lN (D 22 w % D 5 w)))) b D) (m := m) S.hE hAm S.mi (by omega) hw' (by omega) (by omega)
          rw [← ew, ← e2] at hX hM
          exact ⟨_, _, _, S0, G.sto, st_s, fun h0 h2 o kk => l_axle_r G rd hd hA hX hM (by rw [ans_22 S0 z hw, e5]) (by simp [up]) S0.hE kk⟩
    · exact ⟨_, _, _, S.mark (k := 2) (by decide), G.newx, st_x, fun h0 h2 o kk => l_axle_t2 G rd hd hA (x_axle2 (d := d - 2) S.hD (fun q h => h) (HH_st G) (by omega) rfl rfl g1 g2 (by omega)) (m_axle2 (d := d - 1) (A := A) S.hE hAm S.mi (by omega) rfl rfl (by rw [n0]; exact g1) g2 (by omega)) S.hE kk⟩
theorem op_standby (S : Sm D E) (G : LG g b m x0 x3 sc) (rd : Rd sc x4 f) (hd : 60 ≤ d) (hA : ∀ q, b ≤ q → A q) : LwS d A g b m x0 x3 sc x4 D E 850 := by
  have hAm := mA G hA
  have hb := S.bit
  have h3 := S.ti.1.1
  have h8 := S.ti.1.2
  have n1 := S.n1
  have hfl := S.flag
  have S0 := S.mark (k := 0) (by decide)
  by_cases z : D 16 0 = 1
  · have hr : ∀ r, r < D 1 0 → D 25 r < 8 := fun r hr => by
      rw [(S.plan z).rank r hr]
      have := (bo_HB D r hr).1
      omega
    have hX := x_standby0 (d := d - 2) (A := A) (g := rg LTm g m E) (b := b) S.hD (by omega) h3 h8 z (x1 := f 1) rfl hr
    by_cases y : (f 1).toInt < 0
    · exact ⟨_, _, _, S0, G.sto, st_s, fun h0 h2 o kk => l_standby_r G rd hd hA hX (m_standby0n (d := d - 1) (A := A) S.hE hAm S.mi (by omega) rfl y (by omega)) (by rw [lbf_neg y]; decide) (by simp [up]) S0.hE kk⟩
    · obtain ⟨x, hx31, ex, tx⟩ := nI_xo (x := f 1) (by omega)
      have hM := m_standby0 (d := d - 1) (A := A) (g := rg LTc (ah_sto g x3 0 (.long (Int32.toInt64 (nI (lbf D (f 1).toInt (D 1 0) 0 0) - 1)))) b D) (m := m) S.hE hAm S.mi (by omega) S.hb (x := x) hx31 (by omega)
      rw [← ex] at hM
      exact ⟨_, _, _, S0, G.sto, st_s, fun h0 h2 o kk => l_standby_r G rd hd hA hX hM (by rw [tx, n1, ans_lb S0 z (D 1 0) 0 0 (by omega)]) (by simp [up]) S0.hE kk⟩
  · exact ⟨_, _, _, S.mark (k := 1) (by decide), G.newx, st_x, fun h0 h2 o kk => l_standby_t1 G rd hd hA (x_standby1 (d := d - 2) S.hD (fun q h => h) (HH_st G) (by omega) rfl (by omega)) (m_standby1 (d := d - 1) (A := A) S.hE hAm S.mi (by omega) rfl (by omega)) S.hE kk⟩
theorem op_refused (S : Sm D E) (G : LG g b m x0 x3 sc) (rd : Rd sc x4 f) (hd : 60 ≤ d) (hA : ∀ q, b ≤ q → A q) : LwS d A g b m x0 x3 sc x4 D E 906 := by
  have hAm := mA G hA
  have h3 := S.ti.1.1
  have h8 := S.ti.1.2
  have n1 := S.n1
  have S0 := S.mark (k := 0) (by decide)
  by_cases v : 0 ≤ (f 1).toInt ∧ (f 1).toInt < ((D 1 0 : Nat) : Int)
  · obtain ⟨i, hi31, ei, ti⟩ := nI_xo (x := f 1) (by omega)
    have hi : i < D 1 0 := by omega
    have hX := x_refused0 (d := d - 2) (A := A) (g := rg LTm g m E) (b := b) S.hD (by omega) h3 h8 hi (S.ti.2.2 i).1 S.ti.2.1
    have hM := m_refused0 (d := d - 1) (A := A) (g := rg LTc (ah_sto g x3 0 (.long (Int32.toInt64 (nI (rsn D i))))) b D) (m := m) S.hE hAm S.mi (by omega) (i := i) (by rw [n1]; exact hi)
    rw [← ei] at hX hM
    exact ⟨_, _, _, S0, G.sto, st_s, fun h0 h2 o kk => l_refused_r G rd hd hA hX hM (by rw [ans_rsn S0 hi]) (by simp [up]) S0.hE kk⟩
  · exact ⟨_, _, _, S.mark (k := 1) (by decide), G.newx, st_x, fun h0 h2 o kk => l_refused_t1 G rd hd hA (x_refused1 (d := d - 2) S.hD (fun q h => h) (HH_st G) (by omega) rfl v) (m_refused1 (d := d - 1) (A := A) S.hE hAm S.mi (by omega) rfl (by rw [n1]; exact v)) S.hE kk⟩
theorem op_together (S : Sm D E) (G : LG g b m x0 x3 sc) (rd : Rd sc x4 f) (hd : 60 ≤ d) (hA : ∀ q, b ≤ q → A q) : LwS d A g b m x0 x3 sc x4 D E 962 := by
  have hAm := mA G hA
  have h8 := S.ti.1.2
  have n1 := S.n1
  have S0 := S.mark (k := 0) (by decide)
  by_cases v : ¬ (0 ≤ (f 1).toInt ∧ (f 1).toInt < ((D 1 0 : Nat) : Int)) ∨ ¬ (0 ≤ (f 2).toInt ∧ (f 2).toInt < ((D 1 0 : Nat) : Int))
  · exact ⟨_, _, _, S.mark (k := 1) (by decide), G.newx, st_x, fun h0 h2 o kk => l_together_t1 G rd hd hA (x_together1 (d := d - 2) S.hD (fun q h => h) (HH_st G) (by omega) rfl rfl v) (m_together1 (d := d - 1) (A := A) S.hE hAm (by omega) rfl rfl (by rw [n1]; exact v)) S.hE kk⟩
  · have g1 : 0 ≤ (f 1).toInt ∧ (f 1).toInt < ((D 1 0 : Nat) : Int) := Classical.byContradiction (fun z => v (Or.inl z))
    have g2 : 0 ≤ (f 2).toInt ∧ (f 2).toInt < ((D 1 0 : Nat) : Int) := Classical.byContradiction (fun z => v (Or.inr z))
    obtain ⟨i, hi31, ei, ti⟩ := nI_xo (x := f 1) (by omega)
    obtain ⟨j, hj31, ej, tj⟩ := nI_xo (x := f 2) (by omega)
    have e13 : ∀ k, E 13 k = D 13 k := fun k => (S.told 13 k (by decide) (by decide)).symm
    have hX := x_together0 (d := d - 2) (A := A) (g := rg LTm g m E) (b := b) S.hD (by omega) h8 (i := i) (j := j) (by omega) (by omega) (S.ti.2.2 i).2.1 (S.ti.2.2 j).2.1
    have hM := m_together0 (d := d - 1) (A := A) (g := rg LTc (ah_sto g x3 0 (.long (zl (bz (pb (D 15 (4 * D 13 i + D 13 j) = 0)))))) b D) (m := m) S.hE hAm (by omega) (by omega) (i := i) (j := j) (by omega) (by omega) (by rw [e13]; exact (S.ti.2.2 i).2.1) (by rw [e13]; exact (S.ti.2.2 j).2.1)
    rw [← ei, ← ej] at hX hM
    exact ⟨_, _, _, S0, G.sto, st_s, fun h0 h2 o kk => l_together_r G rd hd hA hX hM (by rw [e13, e13, S.told 15 _ (by decide) (by decide)]) (by simp [up]) S0.hE kk⟩
theorem op_count (S : Sm D E) (G : LG g b m x0 x3 sc) (rd : Rd sc x4 f) (hd : 60 ≤ d) (hA : ∀ q, b ≤ q → A q) : LwS d A g b m x0 x3 sc x4 D E 1037 := by
  have hAm := mA G hA
  have hb := S.bit
  have h3 := S.ti.1.1
  have h8 := S.ti.1.2
  have n0 := S.n0
  have n1 := S.n1
  have hfl := S.flag
  have S0 := S.mark (k := 0) (by decide)
  by_cases c : 0 ≤ (f 1).toInt ∧ (f 1).toInt < 5
  · have c5 : (f 1).toInt = 0 ∨ (f 1).toInt = 1 ∨ (f 1).toInt = 2 ∨ (f 1).toInt = 3 ∨ (f 1).toInt = 4 := by omega
    rcases c5 with y | y | y | y | y
    · have e1 : f 1 = 0 := i_is y
      have hX := x_count0 (d := d - 1) (A := A) (g := rg LTm g m E) (b := b) S.hD (by omega) h3
      have hM := m_count0 (d := d - 1) (A := A) (g := rg LTc g b D) (m := m) S.hE hAm (by omega) (by omega)
      rw [← e1] at hX hM
      exact ⟨_, _, _, S0, G, st_g, fun h0 h2 o kk => l_count G rd hd hX hM (by rw [n0]) kk⟩
    · have e1 : f 1 = 1 := i_is y
      have hX := x_count1 (d := d - 1) (A := A) (g := rg LTm g m E) (b := b) S.hD (by omega) h3
      have hM := m_count1 (d := d - 1) (A := A) (g := rg LTc g b D) (m := m) S.hE hAm (by omega) (by omega)
      rw [← e1] at hX hM
      exact ⟨_, _, _, S0, G, st_g, fun h0 h2 o kk => l_count G rd hd hX hM (by rw [n1]) kk⟩
    · have e1 : f 1 = 2 := i_is y
      by_cases z : D 16 0 = 1
      · have hX := x_count2 (d := d - 1) (A := A) (g := rg LTm g m E) (b := b) S.hD (by omega) h3 z
        have hM := m_count2 (d := d - 1) (A := A) (g := rg LTc g b D) (m := m) S.hE hAm (by omega) (by omega) (by omega)
        rw [← e1] at hX hM
        exact ⟨_, _, _, S0, G, st_g, fun h0 h2 o kk => l_count G rd hd hX hM (by rw [sum_cnt n1 (S.plan z).ld h3 (fun j hj => ((S.plan z).same j hj).2)]) kk⟩
      · have hX := x_count2n (d := d - 1) (A := A) (g := rg LTm g m E) (b := b) S.hD (by omega) h3 (by omega)
        have hM := m_count2n (d := d - 1) (A := A) (g := rg LTc g b D) (m := m) S.hE hAm (by omega) (by omega) (by omega)
        rw [← e1] at hX hM
        exact ⟨_, _, _, S0, G, st_g, fun h0 h2 o kk => l_count G rd hd hX hM rfl kk⟩
    · have e1 : f 1 = 3 := i_is y
      by_cases z : D 16 0 = 1
      · have hX := x_count3 (d := d - 1) (A := A) (g := rg LTm g m E) (b := b) S.hD (by omega) h3 z
        have hM := m_count3 (d := d - 1) (A := A) (g := rg LTc g b D) (m := m) S.hE hAm (by omega) (by omega) (by omega)
        rw [← e1] at hX hM
        exact ⟨_, _, _, S0, G, st_g, fun h0 h2 o kk => l_count G rd hd hX hM (by rw [sum_len (S.plan z).ld h3 (fun j hj => ((S.plan z).same j hj).2), (S.plan z).len]) kk⟩
      · have hX := x_count3n (d := d - 1) (A := A) (g := rg LTm g m E) (b := b) S.hD (by omega) h3 (by omega)
        have hM := m_count3n (d := d - 1) (A := A) (g := rg LTc g b D) (m := m) S.hE hAm (by omega) (by omega) (by omega)
        rw [← e1] at hX hM
        exact ⟨_, _, _, S0, G, st_g, fun h0 h2 o kk => l_count G rd hd hX hM rfl kk⟩
    · have e1 : f 1 = 4 := i_is y
      by_cases z : D 16 0 = 1
      · have hX := x_count4 (d := d - 1) (A := A) (g := rg LTm g m E) (b := b) S.hD (by omega) h3 z
        have hM := m_count4 (d := d - 1) (A := A) (g := rg LTc g b D) (m := m) S.hE hAm (by omega) (by omega) (by omega)
        rw [← e1] at hX hM
        exact ⟨_, _, _, S0, G, st_g, fun h0 h2 o kk => l_count G rd hd hX hM rfl kk⟩
      · have hX := x_count4n (d := d - 1) (A := A) (g := rg LTm g m E) (b := b) S.hD (by omega) h3 (by omega)
        have hM := m_count4n (d := d - 1) (A := A) (g := rg LTc g b D) (m := m) S.hE hAm (by omega) (by omega) (by omega)
        rw [← e1] at hX hM
        exact ⟨_, _, _, S0, G, st_g, fun h0 h2 o kk => l_count G rd hd hX hM rfl kk⟩
  · have hl := Int32.le_toInt (f 1)
    have hu := Int32.toInt_lt (f 1)
    have hsub : (f 1 - 10).toInt = (f 1).toInt - 10 ∨ (f 1 - 10).toInt = (f 1).toInt - 10 + 2 ^ 32 := by
      rw [Int32.toInt_sub, show (10 : Int32).toInt = 10 from by decide, Int.bmod_def]
      split <;> omega
    by_cases t : 10 ≤ (f 1).toInt
    · obtain ⟨w0, hw31, ew, tw⟩ := nI_xo (x := f 1) (by omega)
      obtain ⟨w, rfl⟩ : ∃ w, w0 = w + 10 := ⟨w0 - 10, by omega⟩
      by_cases z : w < D 0 0
      · have e8 : E 8 w = D 8 w := (S.told 8 w (by decide) (by decide)).symm
        have hX := x_countp (d := d - 1) (A := A) (g := rg LTm g m E) (b := b) S.hD (by omega) h3 z
        have hM := m_countp1 (d := d - 1) (A := A) (g := rg LTc g b D) (m := m) S.hE hAm (by omega) (by omega) (w := w) (by omega)
        rw [← ew] at hX hM
        exact ⟨_, _, _, S0, G, st_g, fun h0 h2 o kk => l_count G rd hd hX hM (by rw [e8]) kk⟩
      · have hM := m_countp0 (d := d - 1) (A := A) (g := rg LTc g b D) (m := m) S.hE hAm (by omega) (by omega) (w := w) (by omega) hw31
        rw [← ew] at hM
        exact ⟨_, _, _, S0, G, st_g, fun h0 h2 o kk => l_count G rd hd (x_countn (d := d - 1) S.hD (by omega) h3 rfl (by omega) (by omega)) hM rfl kk⟩
    · exact ⟨_, _, _, S0, G, st_g, fun h0 h2 o kk => l_count G rd hd (x_countn (d := d - 1) S.hD (by omega) h3 rfl (by omega) (by omega)) (m_countn (d := d - 1) (A := A) S.hE hAm (by omega) (by omega) rfl (by omega)) rfl kk⟩
end Ops
