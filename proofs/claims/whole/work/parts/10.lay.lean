/-! THE ONE WORLD. Cells by a table: an object (its class, its slots) or a row; a slot is a number of a region, a cell, or a long. Regions 0, 1, 2: the three states of the class, as 114 numbers each; 3 to 20 the rest of the class; 21 to 37 the reference. -/
abbrev fv_M : Type := Nat → Nat → Int32
abbrev fv_E : Type := Nat × (Nat → Nat) × va_G × (Nat → ClassId)
abbrev fv_Sp : Type := Nat × Nat × Nat
abbrev fv_Tb : Type := (Nat × List fv_Sp) ⊕ (Nat × Nat × Nat × Nat)
def fv_tab0 : List fv_Tb := [.inl (6, [(1, 1, 0), (1, 30, 0), (1, 59, 0), (0, 3, 3), (1, 88, 0), (1, 93, 0), (1, 94, 0), (1, 97, 0)]), .inl (4, [(1, 2, 0), (1, 3, 0), (1, 4, 0), (1, 5, 0), (0, 0, 1), (0, 0, 2), (0, 0, 0), (0, 0, 3)]), .inr (2, 8, 6, 2), .inr (3, 8, 22, 1), .inr (0, 4, 0, 4), .inr (0, 10, 0, 104), .inl (0, [(0, 0, 8), (0, 0, 9), (0, 0, 10), (1, 7, 0)]), .inr (0, 4, 0, 11), .inl (0, [(0, 0, 15), (0, 0, 16), (0, 0, 17), (1, 9, 0)]), .inr (0, 4, 0, 18), .inl (0, [(0, 0, 22), (0, 0, 23), (0, 0, 24), (1, 11, 0)]), .inr (0, 4, 0, 25), .inl (0, [(0, 0, 29), (0, 0, 30), (0, 0, 31), (1, 13, 0)]), .inr (0, 4, 0, 32), .inl (0, [(0, 0, 36), (0, 0, 37), (0, 0, 38), (1, 15, 0)]), .inr (0, 4, 0, 39), .inl (0, [(0, 0, 43), (0, 0, 44), (0, 0, 45), (1, 17, 0)]), .inr (0, 4, 0, 46), .inl (0, [(0, 0, 50), (0, 0, 51), (0, 0, 52), (1, 19, 0)]), .inr (0, 4, 0, 53), .inl (0, [(0, 0, 57), (0, 0, 58), (0, 0, 59), (1, 21, 0)]), .inr (0, 4, 0, 60), .inl (1, [(0, 0, 64), (0, 0, 65), (0, 0, 66), (0, 0, 67), (0, 0, 68)]), .inl (1, [(0, 0, 69), (0, 0, 70), (0, 0, 71), (0, 0, 72), (0, 0, 73)]), .inl (1, [(0, 0, 74), (0, 0, 75), (0, 0, 76), (0, 0, 77), (0, 0, 78)]), .inl (1, [(0, 0, 79), (0, 0, 80), (0, 0, 81), (0, 0, 82), (0, 0, 83)]), .inl (1, [(0, 0, 84), (0, 0, 85), (0, 0, 86), (0, 0, 87), (0, 0, 88)]), .inl (1, [(0, 0, 89), (0, 0, 90), (0, 0, 91), (0, 0, 92), (0, 0, 93)]), .inl (1, [(0, 0, 94), (0, 0, 95), (0, 0, 96), (0, 0, 97), (0, 0, 98)]), .inl (1, [(0, 0, 99), (0, 0, 100), (0, 0, 101), (0, 0, 102), (0, 0, 103)]), .inl (4, [(1, 31, 0), (1, 32, 0), (1, 33, 0), (1, 34, 0), (0, 1, 1), (0, 1, 2), (0, 1, 0), (0, 1, 3)]), .inr (2, 8, 35, 2), .inr (3, 8, 51, 1), .inr (0, 4, 1, 4), .inr (0, 10, 1, 104), .inl (0, [(0, 1, 8), (0, 1, 9), (0, 1, 10), (1, 36, 0)]), .inr (0, 4, 1, 11), .inl (0, [(0, 1, 15), (0, 1, 16), (0, 1, 17), (1, 38, 0)]), .inr (0, 4, 1, 18), .inl (0, [(0, 1, 22), (0, 1, 23), (0, 1, 24), (1, 40, 0)]), .inr (0, 4, 1, 25)]
def fv_tab1 : List fv_Tb := [.inl (0, [(0, 1, 29), (0, 1, 30), (0, 1, 31), (1, 42, 0)]), .inr (0, 4, 1, 32), .inl (0, [(0, 1, 36), (0, 1, 37), (0, 1, 38), (1, 44, 0)]), .inr (0, 4, 1, 39), .inl (0, [(0, 1, 43), (0, 1, 44), (0, 1, 45), (1, 46, 0)]), .inr (0, 4, 1, 46), .inl (0, [(0, 1, 50), (0, 1, 51), (0, 1, 52), (1, 48, 0)]), .inr (0, 4, 1, 53), .inl (0, [(0, 1, 57), (0, 1, 58), (0, 1, 59), (1, 50, 0)]), .inr (0, 4, 1, 60), .inl (1, [(0, 1, 64), (0, 1, 65), (0, 1, 66), (0, 1, 67), (0, 1, 68)]), .inl (1, [(0, 1, 69), (0, 1, 70), (0, 1, 71), (0, 1, 72), (0, 1, 73)]), .inl (1, [(0, 1, 74), (0, 1, 75), (0, 1, 76), (0, 1, 77), (0, 1, 78)]), .inl (1, [(0, 1, 79), (0, 1, 80), (0, 1, 81), (0, 1, 82), (0, 1, 83)]), .inl (1, [(0, 1, 84), (0, 1, 85), (0, 1, 86), (0, 1, 87), (0, 1, 88)]), .inl (1, [(0, 1, 89), (0, 1, 90), (0, 1, 91), (0, 1, 92), (0, 1, 93)]), .inl (1, [(0, 1, 94), (0, 1, 95), (0, 1, 96), (0, 1, 97), (0, 1, 98)]), .inl (1, [(0, 1, 99), (0, 1, 100), (0, 1, 101), (0, 1, 102), (0, 1, 103)]), .inl (4, [(1, 60, 0), (1, 61, 0), (1, 62, 0), (1, 63, 0), (0, 2, 1), (0, 2, 2), (0, 2, 0), (0, 2, 3)]), .inr (2, 8, 64, 2), .inr (3, 8, 80, 1), .inr (0, 4, 2, 4), .inr (0, 10, 2, 104), .inl (0, [(0, 2, 8), (0, 2, 9), (0, 2, 10), (1, 65, 0)]), .inr (0, 4, 2, 11), .inl (0, [(0, 2, 15), (0, 2, 16), (0, 2, 17), (1, 67, 0)]), .inr (0, 4, 2, 18), .inl (0, [(0, 2, 22), (0, 2, 23), (0, 2, 24), (1, 69, 0)]), .inr (0, 4, 2, 25), .inl (0, [(0, 2, 29), (0, 2, 30), (0, 2, 31), (1, 71, 0)]), .inr (0, 4, 2, 32), .inl (0, [(0, 2, 36), (0, 2, 37), (0, 2, 38), (1, 73, 0)]), .inr (0, 4, 2, 39), .inl (0, [(0, 2, 43), (0, 2, 44), (0, 2, 45), (1, 75, 0)]), .inr (0, 4, 2, 46), .inl (0, [(0, 2, 50), (0, 2, 51), (0, 2, 52), (1, 77, 0)]), .inr (0, 4, 2, 53), .inl (0, [(0, 2, 57), (0, 2, 58), (0, 2, 59), (1, 79, 0)]), .inr (0, 4, 2, 60), .inl (1, [(0, 2, 64), (0, 2, 65), (0, 2, 66), (0, 2, 67), (0, 2, 68)]), .inl (1, [(0, 2, 69), (0, 2, 70), (0, 2, 71), (0, 2, 72), (0, 2, 73)])]
def fv_tab2 : List fv_Tb := [.inl (1, [(0, 2, 74), (0, 2, 75), (0, 2, 76), (0, 2, 77), (0, 2, 78)]), .inl (1, [(0, 2, 79), (0, 2, 80), (0, 2, 81), (0, 2, 82), (0, 2, 83)]), .inl (1, [(0, 2, 84), (0, 2, 85), (0, 2, 86), (0, 2, 87), (0, 2, 88)]), .inl (1, [(0, 2, 89), (0, 2, 90), (0, 2, 91), (0, 2, 92), (0, 2, 93)]), .inl (1, [(0, 2, 94), (0, 2, 95), (0, 2, 96), (0, 2, 97), (0, 2, 98)]), .inl (1, [(0, 2, 99), (0, 2, 100), (0, 2, 101), (0, 2, 102), (0, 2, 103)]), .inl (5, [(0, 4, 0), (1, 89, 0), (1, 90, 0), (1, 91, 0), (1, 92, 0), (0, 4, 5), (0, 4, 6)]), .inr (0, 120, 5, 0), .inr (0, 121, 6, 0), .inr (0, 121, 7, 0), .inr (0, 121, 8, 0), .inr (4, 4, 98, 2), .inl (2, [(1, 95, 0), (0, 9, 1), (0, 9, 2), (0, 9, 3), (1, 96, 0), (0, 9, 5)]), .inr (0, 5, 10, 0), .inr (0, 5, 11, 0), .inr (0, 7, 12, 0), .inl (3, [(0, 13, 0), (0, 13, 1), (1, 99, 0)]), .inr (0, 40, 14, 0), .inl (3, [(0, 15, 0), (0, 15, 1), (1, 101, 0)]), .inr (0, 40, 16, 0), .inl (3, [(0, 17, 0), (0, 17, 1), (1, 103, 0)]), .inr (0, 40, 18, 0), .inl (3, [(0, 19, 0), (0, 19, 1), (1, 105, 0)]), .inr (0, 40, 20, 0), .inl (7, [(1, 107, 0), (1, 108, 0), (1, 109, 0), (0, 21, 3), (1, 110, 0), (1, 111, 0), (1, 112, 0), (1, 113, 0), (0, 21, 8), (0, 21, 9), (0, 21, 10), (1, 114, 0), (0, 21, 12), (0, 21, 13), (0, 21, 14), (0, 21, 15), (2, 21, 16), (1, 115, 0), (1, 116, 0), (1, 117, 0), (1, 118, 0), (1, 119, 0), (1, 120, 0), (1, 121, 0), (1, 122, 0)]), .inr (0, 114, 22, 0), .inr (0, 114, 23, 0), .inr (0, 114, 24, 0), .inr (0, 7, 25, 0), .inr (0, 8, 26, 0), .inr (0, 5, 27, 0), .inr (0, 5, 28, 0), .inr (0, 120, 29, 0), .inr (1, 56, 30, 0), .inr (1, 24, 31, 0), .inr (1, 16, 32, 0), .inr (1, 24, 33, 0), .inr (0, 4, 34, 0), .inr (0, 4, 35, 0), .inr (0, 160, 36, 0), .inr (0, 40, 37, 0)]
def fv_tab : List fv_Tb := fv_tab0 ++ (fv_tab1 ++ fv_tab2)
def fv_rc : List Nat := [0, 0, 0, 0, 88, 89, 90, 91, 92, 94, 95, 96, 97, 98, 99, 100, 101, 102, 103, 104, 105, 106, 107, 108, 109, 110, 111, 112, 113, 114, 115, 116, 117, 118, 119, 120, 121, 122]
def fv_own (r i : Nat) : Nat × Nat :=
  if r < 3 then
    if i < 4 then (1 + 29 * r, if i = 0 then 6 else if i = 1 then 4 else if i = 2 then 5 else 7)
    else if i < 8 then (4 + 29 * r, i - 4)
    else if i < 64 then (if (i - 8) % 7 < 3 then (6 + 29 * r + 2 * ((i - 8) / 7), (i - 8) % 7) else (7 + 29 * r + 2 * ((i - 8) / 7), (i - 8) % 7 - 3))
    else if i < 104 then (22 + 29 * r + (i - 64) / 5, (i - 64) % 5)
    else if i < 114 then (5 + 29 * r, i - 104)
    else (500, 0)
  else if r = 21 ∧ i = 17 then (106, 1016)
  else (fv_rc.getD r 500, i)
def fv_chk (j : Nat) (t : fv_Tb) : Bool := match t with
  | .inl o => decide (o.2.length < 1000) && (o.2.mapIdx (fun k p => p.1 == 1 || (p.1 == 0 && fv_own p.2.1 p.2.2 == (j, k)) || (p.1 == 2 && (fv_own p.2.1 p.2.2 == (j, k) && fv_own p.2.1 (p.2.2 + 1) == (j, k + 1000))))).all id
  | .inr a => !(decide (a.1 < 2)) || (List.range a.2.1).all (fun c => fv_own a.2.2.1 (a.2.2.2 + c) == (j, c))
theorem fv_chk_all : (fv_tab.mapIdx fv_chk).all id = true := by decide +kernel
theorem fv_chk_at {j : Nat} {t : fv_Tb} (h : fv_tab[j]? = some t) : fv_chk j t = true := by
  have h1 : (fv_tab.mapIdx fv_chk)[j]? = some (fv_chk j t) := by rw [List.getElem?_mapIdx, h]; rfl
  exact List.all_eq_true.mp fv_chk_all _ (List.mem_of_getElem? h1)
/-- places of the numbers of a state: field f of bird i, of motion j -/
def fB (i f : Nat) : Nat := 8 + 7 * i + f
def fM (j f : Nat) : Nat := 64 + 5 * j + f
def aSt (s : Nat) : Nat := 1 + 29 * s
def aBs (s : Nat) : Nat := 2 + 29 * s
def aMs (s : Nat) : Nat := 3 + 29 * s
def aFt (s : Nat) : Nat := 4 + 29 * s
def aSp (s : Nat) : Nat := 5 + 29 * s
def aB (s i : Nat) : Nat := 6 + 29 * s + 2 * i
def aF (s i : Nat) : Nat := 7 + 29 * s + 2 * i
def aM (s j : Nat) : Nat := 22 + 29 * s + 1 * j
def aSh (t : Nat) : Nat := 98 + 2 * t
def aNu (t : Nat) : Nat := 99 + 2 * t
theorem fv_all1 {p : Nat → Bool} {n : Nat} (h : (List.range n).all p = true) {s : Nat} (hs : s < n) : p s = true := List.all_eq_true.mp h s (List.mem_range.mpr hs)
theorem tb_st {s : Nat} (h : s < 3) : fv_tab[aSt s]? = some (.inl (4, [(1, aBs s, 0), (1, aMs s, 0), (1, aFt s, 0), (1, aSp s, 0), (0, s, 1), (0, s, 2), (0, s, 0), (0, s, 3)])) :=
  of_decide_eq_true (fv_all1 (p := fun s => decide (fv_tab[aSt s]? = some (.inl (4, [(1, aBs s, 0), (1, aMs s, 0), (1, aFt s, 0), (1, aSp s, 0), (0, s, 1), (0, s, 2), (0, s, 0), (0, s, 3)])))) (n := 3) (by decide +kernel) h)
theorem tb_bs {s : Nat} (h : s < 3) : fv_tab[aBs s]? = some (.inr (2, 8, aB s 0, 2)) := of_decide_eq_true (fv_all1 (p := fun s => decide (fv_tab[aBs s]? = some (.inr (2, 8, aB s 0, 2)))) (n := 3) (by decide +kernel) h)
theorem tb_ms {s : Nat} (h : s < 3) : fv_tab[aMs s]? = some (.inr (3, 8, aM s 0, 1)) := of_decide_eq_true (fv_all1 (p := fun s => decide (fv_tab[aMs s]? = some (.inr (3, 8, aM s 0, 1)))) (n := 3) (by decide +kernel) h)
theorem tb_ft {s : Nat} (h : s < 3) : fv_tab[aFt s]? = some (.inr (0, 4, s, 4)) := of_decide_eq_true (fv_all1 (p := fun s => decide (fv_tab[aFt s]? = some (.inr (0, 4, s, 4)))) (n := 3) (by decide +kernel) h)
theorem tb_sp {s : Nat} (h : s < 3) : fv_tab[aSp s]? = some (.inr (0, 10, s, 104)) := of_decide_eq_true (fv_all1 (p := fun s => decide (fv_tab[aSp s]? = some (.inr (0, 10, s, 104)))) (n := 3) (by decide +kernel) h)
theorem tb_b {s i : Nat} (h : s < 3) (hi : i < 8) : fv_tab[aB s i]? = some (.inl (0, [(0, s, fB i 0), (0, s, fB i 1), (0, s, fB i 2), (1, aF s i, 0)])) :=
  of_decide_eq_true (fv_all1 (n := 8) (fv_all1 (p := fun s => (List.range 8).all fun i => decide (fv_tab[aB s i]? = some (.inl (0, [(0, s, fB i 0), (0, s, fB i 1), (0, s, fB i 2), (1, aF s i, 0)])))) (n := 3) (by decide +kernel) h) hi)
theorem tb_f {s i : Nat} (h : s < 3) (hi : i < 8) : fv_tab[aF s i]? = some (.inr (0, 4, s, fB i 3)) := of_decide_eq_true (fv_all1 (n := 8) (fv_all1 (p := fun s => (List.range 8).all fun i => decide (fv_tab[aF s i]? = some (.inr (0, 4, s, fB i 3)))) (n := 3) (by decide +kernel) h) hi)
theorem tb_m {s j : Nat} (h : s < 3) (hj : j < 8) : fv_tab[aM s j]? = some (.inl (1, [(0, s, fM j 0), (0, s, fM j 1), (0, s, fM j 2), (0, s, fM j 3), (0, s, fM j 4)])) :=
  of_decide_eq_true (fv_all1 (n := 8) (fv_all1 (p := fun s => (List.range 8).all fun j => decide (fv_tab[aM s j]? = some (.inl (1, [(0, s, fM j 0), (0, s, fM j 1), (0, s, fM j 2), (0, s, fM j 3), (0, s, fM j 4)])))) (n := 3) (by decide +kernel) h) hj)
theorem tb_sh {t : Nat} (h : t < 4) : fv_tab[aSh t]? = some (.inl (3, [(0, 13 + 2 * t, 0), (0, 13 + 2 * t, 1), (1, aNu t, 0)])) := of_decide_eq_true (fv_all1 (p := fun t => decide (fv_tab[aSh t]? = some (.inl (3, [(0, 13 + 2 * t, 0), (0, 13 + 2 * t, 1), (1, aNu t, 0)])))) (n := 4) (by decide +kernel) h)
theorem tb_nu {t : Nat} (h : t < 4) : fv_tab[aNu t]? = some (.inr (0, 40, 14 + 2 * t, 0)) := of_decide_eq_true (fv_all1 (p := fun t => decide (fv_tab[aNu t]? = some (.inr (0, 40, 14 + 2 * t, 0)))) (n := 4) (by decide +kernel) h)
theorem tb_fv : fv_tab[0]? = some (.inl (6, [(1, aSt 0, 0), (1, aSt 1, 0), (1, aSt 2, 0), (0, 3, 3), (1, 88, 0), (1, 93, 0), (1, 94, 0), (1, 97, 0)])) := by decide +kernel
theorem tb_88 : fv_tab[88]? = some (.inl (5, [(0, 4, 0), (1, 89, 0), (1, 90, 0), (1, 91, 0), (1, 92, 0), (0, 4, 5), (0, 4, 6)])) := by decide +kernel
theorem tb_89 : fv_tab[89]? = some (.inr (0, 120, 5, 0)) := by decide +kernel
theorem tb_90 : fv_tab[90]? = some (.inr (0, 121, 6, 0)) := by decide +kernel
theorem tb_91 : fv_tab[91]? = some (.inr (0, 121, 7, 0)) := by decide +kernel
theorem tb_92 : fv_tab[92]? = some (.inr (0, 121, 8, 0)) := by decide +kernel
theorem tb_93 : fv_tab[93]? = some (.inr (4, 4, 98, 2)) := by decide +kernel
theorem tb_94 : fv_tab[94]? = some (.inl (2, [(1, 95, 0), (0, 9, 1), (0, 9, 2), (0, 9, 3), (1, 96, 0), (0, 9, 5)])) := by decide +kernel
theorem tb_95 : fv_tab[95]? = some (.inr (0, 5, 10, 0)) := by decide +kernel
theorem tb_96 : fv_tab[96]? = some (.inr (0, 5, 11, 0)) := by decide +kernel
theorem tb_97 : fv_tab[97]? = some (.inr (0, 7, 12, 0)) := by decide +kernel
theorem tb_106 : fv_tab[106]? = some (.inl (7, [(1, 107, 0), (1, 108, 0), (1, 109, 0), (0, 21, 3), (1, 110, 0), (1, 111, 0), (1, 112, 0), (1, 113, 0), (0, 21, 8), (0, 21, 9), (0, 21, 10), (1, 114, 0), (0, 21, 12), (0, 21, 13), (0, 21, 14), (0, 21, 15), (2, 21, 16), (1, 115, 0), (1, 116, 0), (1, 117, 0), (1, 118, 0), (1, 119, 0), (1, 120, 0), (1, 121, 0), (1, 122, 0)])) := by decide +kernel
theorem tb_107 : fv_tab[107]? = some (.inr (0, 114, 22, 0)) := by decide +kernel
theorem tb_108 : fv_tab[108]? = some (.inr (0, 114, 23, 0)) := by decide +kernel
theorem tb_109 : fv_tab[109]? = some (.inr (0, 114, 24, 0)) := by decide +kernel
theorem tb_110 : fv_tab[110]? = some (.inr (0, 7, 25, 0)) := by decide +kernel
theorem tb_111 : fv_tab[111]? = some (.inr (0, 8, 26, 0)) := by decide +kernel
theorem tb_112 : fv_tab[112]? = some (.inr (0, 5, 27, 0)) := by decide +kernel
theorem tb_113 : fv_tab[113]? = some (.inr (0, 5, 28, 0)) := by decide +kernel
theorem tb_114 : fv_tab[114]? = some (.inr (0, 120, 29, 0)) := by decide +kernel
theorem tb_115 : fv_tab[115]? = some (.inr (1, 56, 30, 0)) := by decide +kernel
theorem tb_116 : fv_tab[116]? = some (.inr (1, 24, 31, 0)) := by decide +kernel
theorem tb_117 : fv_tab[117]? = some (.inr (1, 16, 32, 0)) := by decide +kernel
theorem tb_118 : fv_tab[118]? = some (.inr (1, 24, 33, 0)) := by decide +kernel
theorem tb_119 : fv_tab[119]? = some (.inr (0, 4, 34, 0)) := by decide +kernel
theorem tb_120 : fv_tab[120]? = some (.inr (0, 4, 35, 0)) := by decide +kernel
theorem tb_121 : fv_tab[121]? = some (.inr (0, 160, 36, 0)) := by decide +kernel
theorem tb_122 : fv_tab[122]? = some (.inr (0, 40, 37, 0)) := by decide +kernel
