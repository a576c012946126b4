/-! THE LAYOUTS: the class (75 cells), the model (16 cells). Printed by wip/layout.py. -/
def LTc : rg_L := [(6, [(0, 1, 0), (0, 59, 0), (1, 16, 0)]), (4, [(0, 2, 0), (1, 0, 0), (0, 3, 0), (1, 1, 0), (0, 4, 0), (2, 2, 0)]), (115, [(0, 9, 0), (0, 23, 0), (0, 37, 0)]), (110, [(0, 51, 0), (0, 52, 0), (0, 53, 0), (0, 54, 0), (0, 55, 0), (0, 56, 0), (0, 57, 0), (0, 58, 0)]), (102, [(0, 5, 0), (0, 6, 0), (0, 7, 0), (0, 8, 0)]), (100, [(1, 15, 0), (1, 15, 1), (1, 15, 2), (1, 15, 3)]), (100, [(1, 15, 4), (1, 15, 5), (1, 15, 6), (1, 15, 7)]), (100, [(1, 15, 8), (1, 15, 9), (1, 15, 10), (1, 15, 11)]), (100, [(1, 15, 12), (1, 15, 13), (1, 15, 14), (1, 15, 15)]), (5, [(0, 10, 0), (1, 8, 0), (1, 3, 0), (2, 4, 0), (1, 5, 0), (1, 6, 0), (1, 7, 0)]), (112, [(0, 11, 0), (0, 14, 0), (0, 17, 0), (0, 20, 0)]), (2, [(0, 12, 0), (0, 13, 0), (1, 17, 0)]), (100, [(1, 18, 0), (1, 18, 1), (1, 18, 2), (1, 18, 3)]), (100, [(1, 19, 0), (1, 19, 1), (1, 19, 2), (1, 19, 3)]), (2, [(0, 15, 0), (0, 16, 0), (1, 17, 1)]), (100, [(1, 18, 4), (1, 18, 5), (1, 18, 6), (1, 18, 7)]), (100, [(1, 19, 4), (1, 19, 5), (1, 19, 6), (1, 19, 7)]), (2, [(0, 18, 0), (0, 19, 0), (1, 17, 2)]), (100, [(1, 18, 8), (1, 18, 9), (1, 18, 10), (1, 18, 11)]), (100, [(1, 19, 8), (1, 19, 9), (1, 19, 10), (1, 19, 11)]), (2, [(0, 21, 0), (0, 22, 0), (1, 17, 3)]), (100, [(1, 18, 12), (1, 18, 13), (1, 18, 14), (1, 18, 15)]), (100, [(1, 19, 12), (1, 19, 13), (1, 19, 14), (1, 19, 15)]), (5, [(0, 24, 0), (1, 8, 1), (1, 3, 1), (2, 4, 1), (1, 5, 1), (1, 6, 1), (1, 7, 1)]), (112, [(0, 25, 0), (0, 28, 0), (0, 31, 0), (0, 34, 0)]), (2, [(0, 26, 0), (0, 27, 0), (1, 17, 4)]), (100, [(1, 18, 16), (1, 18, 17), (1, 18, 18), (1, 18, 19)]), (100, [(1, 19, 16), (1, 19, 17), (1, 19, 18), (1, 19, 19)]), (2, [(0, 29, 0), (0, 30, 0), (1, 17, 5)]), (100, [(1, 18, 20), (1, 18, 21), (1, 18, 22), (1, 18, 23)]), (100, [(1, 19, 20), (1, 19, 21), (1, 19, 22), (1, 19, 23)]), (2, [(0, 32, 0), (0, 33, 0), (1, 17, 6)]), (100, [(1, 18, 24), (1, 18, 25), (1, 18, 26), (1, 18, 27)]), (100, [(1, 19, 24), (1, 19, 25), (1, 19, 26), (1, 19, 27)]), (2, [(0, 35, 0), (0, 36, 0), (1, 17, 7)]), (100, [(1, 18, 28), (1, 18, 29), (1, 18, 30), (1, 18, 31)]), (100, [(1, 19, 28), (1, 19, 29), (1, 19, 30), (1, 19, 31)]), (5, [(0, 38, 0), (1, 8, 2), (1, 3, 2), (2, 4, 2), (1, 5, 2), (1, 6, 2), (1, 7, 2)]), (112, [(0, 39, 0), (0, 42, 0), (0, 45, 0), (0, 48, 0)]), (2, [(0, 40, 0), (0, 41, 0), (1, 17, 8)]), (100, [(1, 18, 32), (1, 18, 33), (1, 18, 34), (1, 18, 35)]), (100, [(1, 19, 32), (1, 19, 33), (1, 19, 34), (1, 19, 35)]), (2, [(0, 43, 0), (0, 44, 0), (1, 17, 9)]), (100, [(1, 18, 36), (1, 18, 37), (1, 18, 38), (1, 18, 39)]), (100, [(1, 19, 36), (1, 19, 37), (1, 19, 38), (1, 19, 39)]), (2, [(0, 46, 0), (0, 47, 0), (1, 17, 10)]), (100, [(1, 18, 40), (1, 18, 41), (1, 18, 42), (1, 18, 43)]), (100, [(1, 19, 40), (1, 19, 41), (1, 19, 42), (1, 19, 43)]), (2, [(0, 49, 0), (0, 50, 0), (1, 17, 11)]), (100, [(1, 18, 44), (1, 18, 45), (1, 18, 46), (1, 18, 47)]), (100, [(1, 19, 44), (1, 19, 45), (1, 19, 46), (1, 19, 47)]), (0, [(1, 10, 0), (2, 11, 0), (1, 12, 0), (1, 13, 0), (2, 14, 0)]), (0, [(1, 10, 1), (2, 11, 1), (1, 12, 1), (1, 13, 1), (2, 14, 1)]), (0, [(1, 10, 2), (2, 11, 2), (1, 12, 2), (1, 13, 2), (2, 14, 2)]), (0, [(1, 10, 3), (2, 11, 3), (1, 12, 3), (1, 13, 3), (2, 14, 3)]), (0, [(1, 10, 4), (2, 11, 4), (1, 12, 4), (1, 13, 4), (2, 14, 4)]), (0, [(1, 10, 5), (2, 11, 5), (1, 12, 5), (1, 13, 5), (2, 14, 5)]), (0, [(1, 10, 6), (2, 11, 6), (1, 12, 6), (1, 13, 6), (2, 14, 6)]), (0, [(1, 10, 7), (2, 11, 7), (1, 12, 7), (1, 13, 7), (2, 14, 7)]), (3, [(0, 1, 0), (0, 60, 0), (0, 61, 0), (0, 62, 0), (0, 63, 0), (0, 64, 0), (0, 65, 0), (1, 30, 0), (3, 31, 0)]), (111, [(0, 66, 0), (0, 69, 0), (0, 72, 0)]), (100, [(1, 25, 0), (1, 25, 1), (1, 25, 2), (1, 25, 3), (1, 25, 4), (1, 25, 5), (1, 25, 6), (1, 25, 7)]), (100, [(1, 26, 0), (1, 26, 1), (1, 26, 2), (1, 26, 3), (1, 26, 4), (1, 26, 5), (1, 26, 6), (1, 26, 7)]), (100, [(1, 27, 0), (1, 27, 1), (1, 27, 2), (1, 27, 3), (1, 27, 4), (1, 27, 5), (1, 27, 6), (1, 27, 7), (1, 27, 8)]), (100, [(3, 28, 0), (3, 28, 1), (3, 28, 2), (3, 28, 3), (3, 28, 4), (3, 28, 5), (3, 28, 6), (3, 28, 7)]), (100, [(3, 29, 0), (3, 29, 1), (3, 29, 2), (3, 29, 3), (3, 29, 4), (3, 29, 5), (3, 29, 6), (3, 29, 7)]), (1, [(0, 67, 0), (0, 68, 0), (1, 20, 0), (1, 21, 0), (2, 22, 0)]), (100, [(1, 23, 0), (1, 23, 1), (1, 23, 2), (1, 23, 3)]), (100, [(1, 24, 0), (1, 24, 1), (1, 24, 2), (1, 24, 3)]), (1, [(0, 70, 0), (0, 71, 0), (1, 20, 1), (1, 21, 1), (2, 22, 1)]), (100, [(1, 23, 4), (1, 23, 5), (1, 23, 6), (1, 23, 7)]), (100, [(1, 24, 4), (1, 24, 5), (1, 24, 6), (1, 24, 7)]), (1, [(0, 73, 0), (0, 74, 0), (1, 20, 2), (1, 21, 2), (2, 22, 2)]), (100, [(1, 23, 8), (1, 23, 9), (1, 23, 10), (1, 23, 11)]), (100, [(1, 24, 8), (1, 24, 9), (1, 24, 10), (1, 24, 11)])]
def ivc (f j : Nat) : Nat × Nat := if f = 0 then (1, 1) else if f = 1 then (1, 3) else if f = 2 then (1, 5) else if f = 3 then ((9 + 14 * j), 2) else if f = 4 then ((9 + 14 * j), 3) else if f = 5 then ((9 + 14 * j), 4) else if f = 6 then ((9 + 14 * j), 5) else if f = 7 then ((9 + 14 * j), 6) else if f = 8 then ((9 + 14 * j), 1) else if f = 10 then ((51 + j), 0) else if f = 11 then ((51 + j), 1) else if f = 12 then ((51 + j), 2) else if f = 13 then ((51 + j), 3) else if f = 14 then ((51 + j), 4) else if f = 15 then ((5 + (j / 4)), (j % 4)) else if f = 16 then (0, 2) else if f = 17 then ((11 + 14 * (j / 4) + 3 * (j % 4)), 2) else if f = 18 then ((12 + 14 * (j / 16) + 3 * (j / 4 % 4)), (j % 4)) else if f = 19 then ((13 + 14 * (j / 16) + 3 * (j / 4 % 4)), (j % 4)) else if f = 20 then ((66 + 3 * j), 2) else if f = 21 then ((66 + 3 * j), 3) else if f = 22 then ((66 + 3 * j), 4) else if f = 23 then ((67 + 3 * (j / 4)), (j % 4)) else if f = 24 then ((68 + 3 * (j / 4)), (j % 4)) else if f = 25 then (61, j) else if f = 26 then (62, j) else if f = 27 then (63, j) else if f = 28 then (64, j) else if f = 29 then (65, j) else if f = 30 then (59, 7) else if f = 31 then (59, 8) else (0, 0)
def LTm : rg_L := [(7, [(1, 32, 0), (1, 0, 0), (1, 1, 0), (0, 1, 0), (0, 2, 0), (0, 3, 0), (0, 4, 0), (0, 5, 0), (0, 6, 0), (0, 7, 0), (0, 8, 0), (0, 9, 0), (0, 10, 0), (0, 11, 0), (0, 12, 0), (0, 13, 0), (2, 2, 0), (1, 16, 0), (0, 14, 0), (0, 15, 0), (1, 33, 0)]), (100, [(1, 3, 0), (1, 3, 1), (1, 3, 2)]), (101, [(2, 4, 0), (2, 4, 1), (2, 4, 2)]), (100, [(1, 5, 0), (1, 5, 1), (1, 5, 2)]), (100, [(1, 6, 0), (1, 6, 1), (1, 6, 2)]), (103, [(1, 7, 0), (1, 7, 1), (1, 7, 2)]), (100, [(1, 8, 0), (1, 8, 1), (1, 8, 2)]), (100, [(1, 9, 0), (1, 9, 1), (1, 9, 2), (1, 9, 3), (1, 9, 4), (1, 9, 5), (1, 9, 6), (1, 9, 7), (1, 9, 8), (1, 9, 9), (1, 9, 10), (1, 9, 11)]), (100, [(1, 10, 0), (1, 10, 1), (1, 10, 2), (1, 10, 3), (1, 10, 4), (1, 10, 5), (1, 10, 6), (1, 10, 7)]), (101, [(2, 11, 0), (2, 11, 1), (2, 11, 2), (2, 11, 3), (2, 11, 4), (2, 11, 5), (2, 11, 6), (2, 11, 7)]), (100, [(1, 12, 0), (1, 12, 1), (1, 12, 2), (1, 12, 3), (1, 12, 4), (1, 12, 5), (1, 12, 6), (1, 12, 7)]), (100, [(1, 13, 0), (1, 13, 1), (1, 13, 2), (1, 13, 3), (1, 13, 4), (1, 13, 5), (1, 13, 6), (1, 13, 7)]), (101, [(2, 14, 0), (2, 14, 1), (2, 14, 2), (2, 14, 3), (2, 14, 4), (2, 14, 5), (2, 14, 6), (2, 14, 7)]), (100, [(1, 15, 0), (1, 15, 1), (1, 15, 2), (1, 15, 3), (1, 15, 4), (1, 15, 5), (1, 15, 6), (1, 15, 7), (1, 15, 8), (1, 15, 9), (1, 15, 10), (1, 15, 11), (1, 15, 12), (1, 15, 13), (1, 15, 14), (1, 15, 15)]), (100, [(1, 28, 0), (1, 28, 1), (1, 28, 2), (1, 28, 3), (1, 28, 4), (1, 28, 5), (1, 28, 6), (1, 28, 7)]), (100, [(1, 29, 0), (1, 29, 1), (1, 29, 2), (1, 29, 3), (1, 29, 4), (1, 29, 5), (1, 29, 6), (1, 29, 7)])]
def ivm (f j : Nat) : Nat × Nat := if f = 0 then (0, 1) else if f = 1 then (0, 2) else if f = 2 then (0, 16) else if f = 3 then (1, j) else if f = 4 then (2, j) else if f = 5 then (3, j) else if f = 6 then (4, j) else if f = 7 then (5, j) else if f = 8 then (6, j) else if f = 9 then (7, j) else if f = 10 then (8, j) else if f = 11 then (9, j) else if f = 12 then (10, j) else if f = 13 then (11, j) else if f = 14 then (12, j) else if f = 15 then (13, j) else if f = 16 then (0, 17) else if f = 28 then (14, j) else if f = 29 then (15, j) else if f = 32 then (0, 0) else if f = 33 then (0, 20) else (0, 0)
theorem k_X_0 : lk LTc 0 0 = some (6, (0, 1, 0)) := by decide +kernel
theorem k_X_1 : lk LTc 0 1 = some (6, (0, 59, 0)) := by decide +kernel
theorem k_X_2 : lk LTc 0 2 = some (6, (1, 16, 0)) := by decide +kernel
theorem k_T_0 : lk LTc 1 0 = some (4, (0, 2, 0)) := by decide +kernel
theorem k_T_1 : lk LTc 1 1 = some (4, (1, 0, 0)) := by decide +kernel
theorem k_T_2 : lk LTc 1 2 = some (4, (0, 3, 0)) := by decide +kernel
theorem k_T_3 : lk LTc 1 3 = some (4, (1, 1, 0)) := by decide +kernel
theorem k_T_4 : lk LTc 1 4 = some (4, (0, 4, 0)) := by decide +kernel
theorem k_T_5 : lk LTc 1 5 = some (4, (2, 2, 0)) := by decide +kernel
theorem k_Gs : ∀ e, e < 3 → lk LTc 2 e = some (115, (0, (9 + 14 * e), 0)) := by
  have h : ∀ e ∈ List.range 3, lk LTc 2 e = some (115, (0, (9 + 14 * e), 0)) := by decide +kernel
  exact fun e he => h e (List.mem_range.mpr he)
theorem k_Bs : ∀ e, e < 8 → lk LTc 3 e = some (110, (0, (51 + e), 0)) := by
  have h : ∀ e ∈ List.range 8, lk LTc 3 e = some (110, (0, (51 + e), 0)) := by decide +kernel
  exact fun e he => h e (List.mem_range.mpr he)
theorem k_RR : ∀ e, e < 4 → lk LTc 4 e = some (102, (0, (5 + e), 0)) := by
  have h : ∀ e ∈ List.range 4, lk LTc 4 e = some (102, (0, (5 + e), 0)) := by decide +kernel
  exact fun e he => h e (List.mem_range.mpr he)
theorem k_R : ∀ w, w < 4 → ∀ e, e < 4 → lk LTc (5 + w) e = some (100, (1, 15, (4 * w + e))) := by
  have h : ∀ w ∈ List.range 4, ∀ e ∈ List.range 4, lk LTc (5 + w) e = some (100, (1, 15, (4 * w + e))) := by decide +kernel
  exact fun w hw e he => h w (List.mem_range.mpr hw) e (List.mem_range.mpr he)
theorem k_G_0 : ∀ w, w < 3 → lk LTc (9 + 14 * w) 0 = some (5, (0, (10 + 14 * w), 0)) := by
  have h : ∀ w ∈ List.range 3, lk LTc (9 + 14 * w) 0 = some (5, (0, (10 + 14 * w), 0)) := by decide +kernel
  exact fun w hw => h w (List.mem_range.mpr hw)
theorem k_G_1 : ∀ w, w < 3 → lk LTc (9 + 14 * w) 1 = some (5, (1, 8, w)) := by
  have h : ∀ w ∈ List.range 3, lk LTc (9 + 14 * w) 1 = some (5, (1, 8, w)) := by decide +kernel
  exact fun w hw => h w (List.mem_range.mpr hw)
theorem k_G_2 : ∀ w, w < 3 → lk LTc (9 + 14 * w) 2 = some (5, (1, 3, w)) := by
  have h : ∀ w ∈ List.range 3, lk LTc (9 + 14 * w) 2 = some (5, (1, 3, w)) := by decide +kernel
  exact fun w hw => h w (List.mem_range.mpr hw)
theorem k_G_3 : ∀ w, w < 3 → lk LTc (9 + 14 * w) 3 = some (5, (2, 4, w)) := by
  have h : ∀ w ∈ List.range 3, lk LTc (9 + 14 * w) 3 = some (5, (2, 4, w)) := by decide +kernel
  exact fun w hw => h w (List.mem_range.mpr hw)
theorem k_G_4 : ∀ w, w < 3 → lk LTc (9 + 14 * w) 4 = some (5, (1, 5, w)) := by
  have h : ∀ w ∈ List.range 3, lk LTc (9 + 14 * w) 4 = some (5, (1, 5, w)) := by decide +kernel
  exact fun w hw => h w (List.mem_range.mpr hw)
theorem k_G_5 : ∀ w, w < 3 → lk LTc (9 + 14 * w) 5 = some (5, (1, 6, w)) := by
  have h : ∀ w ∈ List.range 3, lk LTc (9 + 14 * w) 5 = some (5, (1, 6, w)) := by decide +kernel
  exact fun w hw => h w (List.mem_range.mpr hw)
theorem k_G_6 : ∀ w, w < 3 → lk LTc (9 + 14 * w) 6 = some (5, (1, 7, w)) := by
  have h : ∀ w ∈ List.range 3, lk LTc (9 + 14 * w) 6 = some (5, (1, 7, w)) := by decide +kernel
  exact fun w hw => h w (List.mem_range.mpr hw)
theorem k_Ps : ∀ w, w < 3 → ∀ e, e < 4 → lk LTc (10 + 14 * w) e = some (112, (0, (11 + 14 * w + 3 * e), 0)) := by
  have h : ∀ w ∈ List.range 3, ∀ e ∈ List.range 4, lk LTc (10 + 14 * w) e = some (112, (0, (11 + 14 * w + 3 * e), 0)) := by decide +kernel
  exact fun w hw e he => h w (List.mem_range.mpr hw) e (List.mem_range.mpr he)
theorem k_P_0 : ∀ w, w < 3 → ∀ p, p < 4 → lk LTc (11 + 14 * w + 3 * p) 0 = some (2, (0, (12 + 14 * w + 3 * p), 0)) := by
  have h : ∀ w ∈ List.range 3, ∀ p ∈ List.range 4, lk LTc (11 + 14 * w + 3 * p) 0 = some (2, (0, (12 + 14 * w + 3 * p), 0)) := by decide +kernel
  exact fun w hw p hp => h w (List.mem_range.mpr hw) p (List.mem_range.mpr hp)
theorem k_P_1 : ∀ w, w < 3 → ∀ p, p < 4 → lk LTc (11 + 14 * w + 3 * p) 1 = some (2, (0, (13 + 14 * w + 3 * p), 0)) := by
  have h : ∀ w ∈ List.range 3, ∀ p ∈ List.range 4, lk LTc (11 + 14 * w + 3 * p) 1 = some (2, (0, (13 + 14 * w + 3 * p), 0)) := by decide +kernel
  exact fun w hw p hp => h w (List.mem_range.mpr hw) p (List.mem_range.mpr hp)
theorem k_P_2 : ∀ w, w < 3 → ∀ p, p < 4 → lk LTc (11 + 14 * w + 3 * p) 2 = some (2, (1, 17, (4 * w + p))) := by
  have h : ∀ w ∈ List.range 3, ∀ p ∈ List.range 4, lk LTc (11 + 14 * w + 3 * p) 2 = some (2, (1, 17, (4 * w + p))) := by decide +kernel
  exact fun w hw p hp => h w (List.mem_range.mpr hw) p (List.mem_range.mpr hp)
theorem k_PA : ∀ w, w < 3 → ∀ p, p < 4 → ∀ e, e < 4 → lk LTc (12 + 14 * w + 3 * p) e = some (100, (1, 18, (16 * w + 4 * p + e))) := by
  have h : ∀ w ∈ List.range 3, ∀ p ∈ List.range 4, ∀ e ∈ List.range 4, lk LTc (12 + 14 * w + 3 * p) e = some (100, (1, 18, (16 * w + 4 * p + e))) := by decide +kernel
  exact fun w hw p hp e he => h w (List.mem_range.mpr hw) p (List.mem_range.mpr hp) e (List.mem_range.mpr he)
theorem k_PB : ∀ w, w < 3 → ∀ p, p < 4 → ∀ e, e < 4 → lk LTc (13 + 14 * w + 3 * p) e = some (100, (1, 19, (16 * w + 4 * p + e))) := by
  have h : ∀ w ∈ List.range 3, ∀ p ∈ List.range 4, ∀ e ∈ List.range 4, lk LTc (13 + 14 * w + 3 * p) e = some (100, (1, 19, (16 * w + 4 * p + e))) := by decide +kernel
  exact fun w hw p hp e he => h w (List.mem_range.mpr hw) p (List.mem_range.mpr hp) e (List.mem_range.mpr he)
theorem k_B_0 : ∀ w, w < 8 → lk LTc (51 + w) 0 = some (0, (1, 10, w)) := by
  have h : ∀ w ∈ List.range 8, lk LTc (51 + w) 0 = some (0, (1, 10, w)) := by decide +kernel
  exact fun w hw => h w (List.mem_range.mpr hw)
theorem k_B_1 : ∀ w, w < 8 → lk LTc (51 + w) 1 = some (0, (2, 11, w)) := by
  have h : ∀ w ∈ List.range 8, lk LTc (51 + w) 1 = some (0, (2, 11, w)) := by decide +kernel
  exact fun w hw => h w (List.mem_range.mpr hw)
theorem k_B_2 : ∀ w, w < 8 → lk LTc (51 + w) 2 = some (0, (1, 12, w)) := by
  have h : ∀ w ∈ List.range 8, lk LTc (51 + w) 2 = some (0, (1, 12, w)) := by decide +kernel
  exact fun w hw => h w (List.mem_range.mpr hw)
theorem k_B_3 : ∀ w, w < 8 → lk LTc (51 + w) 3 = some (0, (1, 13, w)) := by
  have h : ∀ w ∈ List.range 8, lk LTc (51 + w) 3 = some (0, (1, 13, w)) := by decide +kernel
  exact fun w hw => h w (List.mem_range.mpr hw)
theorem k_B_4 : ∀ w, w < 8 → lk LTc (51 + w) 4 = some (0, (2, 14, w)) := by
  have h : ∀ w ∈ List.range 8, lk LTc (51 + w) 4 = some (0, (2, 14, w)) := by decide +kernel
  exact fun w hw => h w (List.mem_range.mpr hw)
theorem k_N_0 : lk LTc 59 0 = some (3, (0, 1, 0)) := by decide +kernel
theorem k_N_1 : lk LTc 59 1 = some (3, (0, 60, 0)) := by decide +kernel
theorem k_N_2 : lk LTc 59 2 = some (3, (0, 61, 0)) := by decide +kernel
theorem k_N_3 : lk LTc 59 3 = some (3, (0, 62, 0)) := by decide +kernel
theorem k_N_4 : lk LTc 59 4 = some (3, (0, 63, 0)) := by decide +kernel
theorem k_N_5 : lk LTc 59 5 = some (3, (0, 64, 0)) := by decide +kernel
theorem k_N_6 : lk LTc 59 6 = some (3, (0, 65, 0)) := by decide +kernel
theorem k_N_7 : lk LTc 59 7 = some (3, (1, 30, 0)) := by decide +kernel
theorem k_N_8 : lk LTc 59 8 = some (3, (3, 31, 0)) := by decide +kernel
theorem k_Ls : ∀ e, e < 3 → lk LTc 60 e = some (111, (0, (66 + 3 * e), 0)) := by
  have h : ∀ e ∈ List.range 3, lk LTc 60 e = some (111, (0, (66 + 3 * e), 0)) := by decide +kernel
  exact fun e he => h e (List.mem_range.mpr he)
theorem k_NA : ∀ e, e < 8 → lk LTc 61 e = some (100, (1, 25, e)) := by
  have h : ∀ e ∈ List.range 8, lk LTc 61 e = some (100, (1, 25, e)) := by decide +kernel
  exact fun e he => h e (List.mem_range.mpr he)
theorem k_NB : ∀ e, e < 8 → lk LTc 62 e = some (100, (1, 26, e)) := by
  have h : ∀ e ∈ List.range 8, lk LTc 62 e = some (100, (1, 26, e)) := by decide +kernel
  exact fun e he => h e (List.mem_range.mpr he)
theorem k_NC : ∀ e, e < 9 → lk LTc 63 e = some (100, (1, 27, e)) := by
  have h : ∀ e ∈ List.range 9, lk LTc 63 e = some (100, (1, 27, e)) := by decide +kernel
  exact fun e he => h e (List.mem_range.mpr he)
theorem k_ND : ∀ e, e < 8 → lk LTc 64 e = some (100, (3, 28, e)) := by
  have h : ∀ e ∈ List.range 8, lk LTc 64 e = some (100, (3, 28, e)) := by decide +kernel
  exact fun e he => h e (List.mem_range.mpr he)
theorem k_NE : ∀ e, e < 8 → lk LTc 65 e = some (100, (3, 29, e)) := by
  have h : ∀ e ∈ List.range 8, lk LTc 65 e = some (100, (3, 29, e)) := by decide +kernel
  exact fun e he => h e (List.mem_range.mpr he)
theorem k_L_0 : ∀ w, w < 3 → lk LTc (66 + 3 * w) 0 = some (1, (0, (67 + 3 * w), 0)) := by
  have h : ∀ w ∈ List.range 3, lk LTc (66 + 3 * w) 0 = some (1, (0, (67 + 3 * w), 0)) := by decide +kernel
  exact fun w hw => h w (List.mem_range.mpr hw)
theorem k_L_1 : ∀ w, w < 3 → lk LTc (66 + 3 * w) 1 = some (1, (0, (68 + 3 * w), 0)) := by
  have h : ∀ w ∈ List.range 3, lk LTc (66 + 3 * w) 1 = some (1, (0, (68 + 3 * w), 0)) := by decide +kernel
  exact fun w hw => h w (List.mem_range.mpr hw)
theorem k_L_2 : ∀ w, w < 3 → lk LTc (66 + 3 * w) 2 = some (1, (1, 20, w)) := by
  have h : ∀ w ∈ List.range 3, lk LTc (66 + 3 * w) 2 = some (1, (1, 20, w)) := by decide +kernel
  exact fun w hw => h w (List.mem_range.mpr hw)
theorem k_L_3 : ∀ w, w < 3 → lk LTc (66 + 3 * w) 3 = some (1, (1, 21, w)) := by
  have h : ∀ w ∈ List.range 3, lk LTc (66 + 3 * w) 3 = some (1, (1, 21, w)) := by decide +kernel
  exact fun w hw => h w (List.mem_range.mpr hw)
theorem k_L_4 : ∀ w, w < 3 → lk LTc (66 + 3 * w) 4 = some (1, (2, 22, w)) := by
  have h : ∀ w ∈ List.range 3, lk LTc (66 + 3 * w) 4 = some (1, (2, 22, w)) := by decide +kernel
  exact fun w hw => h w (List.mem_range.mpr hw)
theorem k_LA : ∀ w, w < 3 → ∀ e, e < 4 → lk LTc (67 + 3 * w) e = some (100, (1, 23, (4 * w + e))) := by
  have h : ∀ w ∈ List.range 3, ∀ e ∈ List.range 4, lk LTc (67 + 3 * w) e = some (100, (1, 23, (4 * w + e))) := by decide +kernel
  exact fun w hw e he => h w (List.mem_range.mpr hw) e (List.mem_range.mpr he)
theorem k_LB : ∀ w, w < 3 → ∀ e, e < 4 → lk LTc (68 + 3 * w) e = some (100, (1, 24, (4 * w + e))) := by
  have h : ∀ w ∈ List.range 3, ∀ e ∈ List.range 4, lk LTc (68 + 3 * w) e = some (100, (1, 24, (4 * w + e))) := by decide +kernel
  exact fun w hw e he => h w (List.mem_range.mpr hw) e (List.mem_range.mpr he)
theorem k_M_0 : lk LTm 0 0 = some (7, (1, 32, 0)) := by decide +kernel
theorem k_M_1 : lk LTm 0 1 = some (7, (1, 0, 0)) := by decide +kernel
theorem k_M_2 : lk LTm 0 2 = some (7, (1, 1, 0)) := by decide +kernel
theorem k_M_3 : lk LTm 0 3 = some (7, (0, 1, 0)) := by decide +kernel
theorem k_M_4 : lk LTm 0 4 = some (7, (0, 2, 0)) := by decide +kernel
theorem k_M_5 : lk LTm 0 5 = some (7, (0, 3, 0)) := by decide +kernel
theorem k_M_6 : lk LTm 0 6 = some (7, (0, 4, 0)) := by decide +kernel
theorem k_M_7 : lk LTm 0 7 = some (7, (0, 5, 0)) := by decide +kernel
theorem k_M_8 : lk LTm 0 8 = some (7, (0, 6, 0)) := by decide +kernel
theorem k_M_9 : lk LTm 0 9 = some (7, (0, 7, 0)) := by decide +kernel
theorem k_M_10 : lk LTm 0 10 = some (7, (0, 8, 0)) := by decide +kernel
theorem k_M_11 : lk LTm 0 11 = some (7, (0, 9, 0)) := by decide +kernel
theorem k_M_12 : lk LTm 0 12 = some (7, (0, 10, 0)) := by decide +kernel
theorem k_M_13 : lk LTm 0 13 = some (7, (0, 11, 0)) := by decide +kernel
theorem k_M_14 : lk LTm 0 14 = some (7, (0, 12, 0)) := by decide +kernel
theorem k_M_15 : lk LTm 0 15 = some (7, (0, 13, 0)) := by decide +kernel
theorem k_M_16 : lk LTm 0 16 = some (7, (2, 2, 0)) := by decide +kernel
theorem k_M_17 : lk LTm 0 17 = some (7, (1, 16, 0)) := by decide +kernel
theorem k_M_18 : lk LTm 0 18 = some (7, (0, 14, 0)) := by decide +kernel
theorem k_M_19 : lk LTm 0 19 = some (7, (0, 15, 0)) := by decide +kernel
theorem k_M_20 : lk LTm 0 20 = some (7, (1, 33, 0)) := by decide +kernel
theorem k_M3 : ∀ e, e < 3 → lk LTm 1 e = some (100, (1, 3, e)) := by
  have h : ∀ e ∈ List.range 3, lk LTm 1 e = some (100, (1, 3, e)) := by decide +kernel
  exact fun e he => h e (List.mem_range.mpr he)
theorem k_M4 : ∀ e, e < 3 → lk LTm 2 e = some (101, (2, 4, e)) := by
  have h : ∀ e ∈ List.range 3, lk LTm 2 e = some (101, (2, 4, e)) := by decide +kernel
  exact fun e he => h e (List.mem_range.mpr he)
theorem k_M5 : ∀ e, e < 3 → lk LTm 3 e = some (100, (1, 5, e)) := by
  have h : ∀ e ∈ List.range 3, lk LTm 3 e = some (100, (1, 5, e)) := by decide +kernel
  exact fun e he => h e (List.mem_range.mpr he)
theorem k_M6 : ∀ e, e < 3 → lk LTm 4 e = some (100, (1, 6, e)) := by
  have h : ∀ e ∈ List.range 3, lk LTm 4 e = some (100, (1, 6, e)) := by decide +kernel
  exact fun e he => h e (List.mem_range.mpr he)
theorem k_M7 : ∀ e, e < 3 → lk LTm 5 e = some (103, (1, 7, e)) := by
  have h : ∀ e ∈ List.range 3, lk LTm 5 e = some (103, (1, 7, e)) := by decide +kernel
  exact fun e he => h e (List.mem_range.mpr he)
theorem k_M8 : ∀ e, e < 3 → lk LTm 6 e = some (100, (1, 8, e)) := by
  have h : ∀ e ∈ List.range 3, lk LTm 6 e = some (100, (1, 8, e)) := by decide +kernel
  exact fun e he => h e (List.mem_range.mpr he)
theorem k_M9 : ∀ e, e < 12 → lk LTm 7 e = some (100, (1, 9, e)) := by
  have h : ∀ e ∈ List.range 12, lk LTm 7 e = some (100, (1, 9, e)) := by decide +kernel
  exact fun e he => h e (List.mem_range.mpr he)
theorem k_M10 : ∀ e, e < 8 → lk LTm 8 e = some (100, (1, 10, e)) := by
  have h : ∀ e ∈ List.range 8, lk LTm 8 e = some (100, (1, 10, e)) := by decide +kernel
  exact fun e he => h e (List.mem_range.mpr he)
theorem k_M11 : ∀ e, e < 8 → lk LTm 9 e = some (101, (2, 11, e)) := by
  have h : ∀ e ∈ List.range 8, lk LTm 9 e = some (101, (2, 11, e)) := by decide +kernel
  exact fun e he => h e (List.mem_range.mpr he)
theorem k_M12 : ∀ e, e < 8 → lk LTm 10 e = some (100, (1, 12, e)) := by
  have h : ∀ e ∈ List.range 8, lk LTm 10 e = some (100, (1, 12, e)) := by decide +kernel
  exact fun e he => h e (List.mem_range.mpr he)
theorem k_M13 : ∀ e, e < 8 → lk LTm 11 e = some (100, (1, 13, e)) := by
  have h : ∀ e ∈ List.range 8, lk LTm 11 e = some (100, (1, 13, e)) := by decide +kernel
  exact fun e he => h e (List.mem_range.mpr he)
theorem k_M14 : ∀ e, e < 8 → lk LTm 12 e = some (101, (2, 14, e)) := by
  have h : ∀ e ∈ List.range 8, lk LTm 12 e = some (101, (2, 14, e)) := by decide +kernel
  exact fun e he => h e (List.mem_range.mpr he)
theorem k_M15 : ∀ e, e < 16 → lk LTm 13 e = some (100, (1, 15, e)) := by
  have h : ∀ e ∈ List.range 16, lk LTm 13 e = some (100, (1, 15, e)) := by decide +kernel
  exact fun e he => h e (List.mem_range.mpr he)
theorem k_M28 : ∀ e, e < 8 → lk LTm 14 e = some (100, (1, 28, e)) := by
  have h : ∀ e ∈ List.range 8, lk LTm 14 e = some (100, (1, 28, e)) := by decide +kernel
  exact fun e he => h e (List.mem_range.mpr he)
theorem k_M29 : ∀ e, e < 8 → lk LTm 15 e = some (100, (1, 29, e)) := by
  have h : ∀ e ∈ List.range 8, lk LTm 15 e = some (100, (1, 29, e)) := by decide +kernel
  exact fun e he => h e (List.mem_range.mpr he)
theorem u_c0 : ∀ k, k < LTc.length → ∀ i, i < 24 → (match lk LTc k i with
  | some (_, c) => c.1 = 0 ∨ ivc c.2.1 c.2.2 = (k, i)
  | none => True) := by
  have h : ((List.range LTc.length).all fun k => (List.range 24).all fun i => (match lk LTc k i with
    | some (_, c) => decide (c.1 = 0) || decide (ivc c.2.1 c.2.2 = (k, i))
    | none => true)) = true := by decide +kernel
  intro k hk i hi
  have h1 := List.all_eq_true.mp (List.all_eq_true.mp h k (List.mem_range.mpr hk)) i (List.mem_range.mpr hi)
  split at h1
  · simpa using h1
  · trivial
theorem u_c : rg_u LTc ivc := u_c0
theorem v_c : ∀ c ∈ LTc, c.2.length ≤ 24 := by decide +kernel
theorem stcI {g : ah_H} {b k i t f j x : Nat} {D : rg_D} {v : Int32} (h : lk LTc k i = some (t, (1, f, j))) (e : v = nI x) : ah_sto (rg LTc g b D) (b + k) i (.int v) = rg LTc g b (up D f j x) := rg_sto u_c v_c h (by rw [e]; simp only [rv, up_s])
theorem stcL {g : ah_H} {b k i t f j x : Nat} {D : rg_D} {v : Int64} (h : lk LTc k i = some (t, (2, f, j))) (e : v = lN x) : ah_sto (rg LTc g b D) (b + k) i (.long v) = rg LTc g b (up D f j x) := rg_sto u_c v_c h (by rw [e]; simp only [rv, up_s])
theorem stcS {g : ah_H} {b k i t f j x : Nat} {D : rg_D} {v : Int32} (h : lk LTc k i = some (t, (3, f, j))) (e : v = nI x - 1) : ah_sto (rg LTc g b D) (b + k) i (.int v) = rg LTc g b (up D f j x) := rg_sto u_c v_c h (by rw [e]; simp only [rv, up_s])
theorem u_m0 : ∀ k, k < LTm.length → ∀ i, i < 24 → (match lk LTm k i with
  | some (_, c) => c.1 = 0 ∨ ivm c.2.1 c.2.2 = (k, i)
  | none => True) := by
  have h : ((List.range LTm.length).all fun k => (List.range 24).all fun i => (match lk LTm k i with
    | some (_, c) => decide (c.1 = 0) || decide (ivm c.2.1 c.2.2 = (k, i))
    | none => true)) = true := by decide +kernel
  intro k hk i hi
  have h1 := List.all_eq_true.mp (List.all_eq_true.mp h k (List.mem_range.mpr hk)) i (List.mem_range.mpr hi)
  split at h1
  · simpa using h1
  · trivial
theorem u_m : rg_u LTm ivm := u_m0
theorem v_m : ∀ c ∈ LTm, c.2.length ≤ 24 := by decide +kernel
theorem stmI {g : ah_H} {b k i t f j x : Nat} {D : rg_D} {v : Int32} (h : lk LTm k i = some (t, (1, f, j))) (e : v = nI x) : ah_sto (rg LTm g b D) (b + k) i (.int v) = rg LTm g b (up D f j x) := rg_sto u_m v_m h (by rw [e]; simp only [rv, up_s])
theorem stmL {g : ah_H} {b k i t f j x : Nat} {D : rg_D} {v : Int64} (h : lk LTm k i = some (t, (2, f, j))) (e : v = lN x) : ah_sto (rg LTm g b D) (b + k) i (.long v) = rg LTm g b (up D f j x) := rg_sto u_m v_m h (by rw [e]; simp only [rv, up_s])
theorem stmS {g : ah_H} {b k i t f j x : Nat} {D : rg_D} {v : Int32} (h : lk LTm k i = some (t, (3, f, j))) (e : v = nI x - 1) : ah_sto (rg LTm g b D) (b + k) i (.int v) = rg LTm g b (up D f j x) := rg_sto u_m v_m h (by rw [e]; simp only [rv, up_s])
