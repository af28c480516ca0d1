/-! THE FIRST MEMORY, and its world -/
def vl_M : fv_M := fun r i => if r < 3 ∨ r = 22 then vz_s0 i else if r = 30 then vz_l vz_t0 i else if r = 31 then vz_l vz_t1 i else if r = 32 then vz_l vz_t2 i else if r = 33 then vz_l vz_t3 i else 0
theorem vz_s0_0 {i : Nat} (h : i ≠ 3) (h2 : i < 104) : vz_s0 i = 0 := by
  unfold vz_s0
  rw [if_neg h, if_neg (by omega)]
theorem vz_s0_n {i : Nat} (h : i < 10) : vz_s0 (104 + i) = -1 := by
  unfold vz_s0
  rw [if_neg (by omega), if_pos (by omega)]
theorem vl_inv : pInv vl_M := by
  have hG : pGd vz_s0 0 0 := ⟨rfl, by decide, rfl, by decide, fun b h => absurd h (Nat.not_lt_zero _), fun b h => absurd h (Nat.not_lt_zero _), fun c hc => ⟨0, by decide, vz_s0_0 (by omega) (by omega)⟩, fun i hi => .inl (vz_s0_n hi), 0, by decide, rfl⟩
  refine ⟨⟨0, 0, hG, pEq.rfl', 0, by decide, rfl⟩, ⟨rfl, .inl rfl⟩, ⟨0, by decide, rfl, rfl, fun i h => absurd h (Nat.not_lt_zero _)⟩, fun t ht => ?_, fun f _ => rfl, ?_⟩
  · have hz : ∀ r, 13 ≤ r → r ≤ 20 → ∀ i, vl_M r i = 0 := fun r h1 h2 i => by
      unfold vl_M
      rw [if_neg (by omega), if_neg (by omega), if_neg (by omega), if_neg (by omega), if_neg (by omega)]
    refine ⟨0, by decide, hz _ (by omega) (by omega) 1, rfl, (hz _ (by omega) (by omega) 0).symm, fun i hi => (hz _ (by omega) (by omega) i).symm⟩
  · refine ⟨fun i hi => ?_, fun i hi => ?_, fun i hi => ?_, fun i hi => ?_⟩
    · exact of_decide_eq_true (fv_all1 (p := fun i => decide (vl_M 30 i = nI (pL0.getD i 0))) (n := 56) (by decide +kernel) hi)
    · exact of_decide_eq_true (fv_all1 (p := fun i => decide (vl_M 31 i = nI (pL1.getD i 0))) (n := 24) (by decide +kernel) hi)
    · exact of_decide_eq_true (fv_all1 (p := fun i => decide (vl_M 32 i = nI (pL2.getD i 0))) (n := 16) (by decide +kernel) hi)
    · exact of_decide_eq_true (fv_all1 (p := fun i => decide (vl_M 33 i = nI (pL3.getD i 0))) (n := 24) (by decide +kernel) hi)
/-- cells that hold the same -/
def vl_q (x y : va_E) : Prop := x = y ∨ (∃ (c : ClassId) (n : Nat) (f f' : Nat → Int32), x = .inl (c, n, .inl f) ∧ y = .inl (c, n, .inl f') ∧ ∀ j, j < n → f j = f' j) ∨ ∃ (c : ClassId) (n : Nat) (f f' : Nat → Option Nat), x = .inl (c, n, .inr (.inr (.inr (.inr f)))) ∧ y = .inl (c, n, .inr (.inr (.inr (.inr f')))) ∧ ∀ j, j < n → f j = f' j
theorem vl_q_at {D : va_G} {cl : List vw_C} {a : Nat} {x y : va_E} {H : Heap} (h : vl_q x y) (hx : va_at D cl (a, x) H) : va_at D cl (a, y) H := by
  rcases h with rfl | ⟨c, n, f, f', rfl, rfl, h⟩ | ⟨c, n, f, f', rfl, rfl, h⟩
  · exact hx
  · show H[a]? = some (vp_cell c (n, .inl f'))
    rw [show H[a]? = some (vp_cell c (n, .inl f)) from hx, vp_cell_i, vp_cell_i]
    exact congrArg some (vz_arrV (fun z hz => by rw [h z hz]))
  · show H[a]? = some (vp_cell c (n, .inr (.inr (.inr (.inr f')))))
    rw [show H[a]? = some (vp_cell c (n, .inr (.inr (.inr (.inr f))))) from hx, vp_cell_q, vp_cell_q]
    exact congrArg some (vz_arrV (fun z hz => by rw [h z hz]))
theorem vl_world {E : fv_E} {A : Nat → Prop} {M : fv_M} {ws : va_W} {H : Heap} (h : ∀ k t, fv_tab[k]? = some t → ∃ e, ws[k]? = some (E.2.1 k, e) ∧ vl_q e (fv_cell E M t)) (hP : va_P E.2.2.1 vwCl ws H) (hD : va_D A ws) : va_P E.2.2.1 vwCl (fv_W E M) H ∧ va_D A (fv_W E M) := by
  have key : ∀ (k : Nat) (q : Nat × va_E), (fv_W E M)[k]? = some q → ∃ e, ws[k]? = some (q.1, e) ∧ vl_q e q.2 := fun k q hq => by
    cases ht : fv_tab[k]? with
    | none => rw [fv_W_non ht] at hq; cases hq
    | some t =>
      rw [fv_W_at ht] at hq
      cases hq
      exact h k t ht
  refine ⟨fun k q hq => ?_, fun i j p q hp hq e => ?_, fun k q hq => ?_⟩
  · obtain ⟨e, h1, h2⟩ := key k q hq
    exact vl_q_at h2 (hP k _ h1)
  · obtain ⟨e1, h1, -⟩ := key i p hp
    obtain ⟨e2, h2, -⟩ := key j q hq
    exact hD.1 i j _ _ h1 h2 e
  · obtain ⟨e1, h1, -⟩ := key k q hq
    exact hD.2 k (q.1, e1) h1
def vl_ad (q0 q1 : Nat) (Q Q2 adK adV : Nat → Nat) (ab b : Nat) : Nat → Nat := fun k => if k = 0 then q0 else if k < 106 then Q (k - 1) else if k = 106 then q1 else if k < 123 then Q2 (k - 107) else if k < 1500 then adK (k - 1000) else if k < 2000 then adV (k - 1500) else if k = 2000 then ab else b
abbrev vl_E (sz : Nat) (D : vz_G) (q0 q1 : Nat) (Q Q2 adK adV : Nat → Nat) (ab b : Nat) : fv_E := (sz, vl_ad q0 q1 Q Q2 adK adV ab b, D.1, D.2)
abbrev vl_ws (D : vz_G) (q0 q1 : Nat) (Q Q2 : Nat → Nat) : va_W := vz_Fv D.2 q0 Q ++ vz_Md D.2 q1 Q2
theorem vl_arr {M : fv_M} {n r i0 j : Nat} (h : j < n) : fv_arr M n r i0 j = M r (i0 + j) := if_pos h
section VLC
variable {sz q0 q1 ab b : Nat} {D : vz_G} {Q Q2 adK adV : Nat → Nat}
theorem vl_of {k : Nat} {t : fv_Tb} (ht : fv_tab[k]? = some t) {e : va_E} (h1 : (vl_ws D q0 q1 Q Q2)[k]? = some ((vl_E sz D q0 q1 Q Q2 adK adV ab b).2.1 k, e)) (h2 : vl_q e (fv_cell (vl_E sz D q0 q1 Q Q2 adK adV ab b) vl_M t)) : ∀ t', fv_tab[k]? = some t' → ∃ e, (vl_ws D q0 q1 Q Q2)[k]? = some ((vl_E sz D q0 q1 Q Q2 adK adV ab b).2.1 k, e) ∧ vl_q e (fv_cell (vl_E sz D q0 q1 Q Q2 adK adV ab b) vl_M t') := fun t' h => by
  rw [ht] at h
  cases h
  exact ⟨e, h1, h2⟩
theorem vl_k0 : ∀ t', fv_tab[0]? = some t' → ∃ e, (vl_ws D q0 q1 Q Q2)[0]? = some ((vl_E sz D q0 q1 Q Q2 adK adV ab b).2.1 0, e) ∧ vl_q e (fv_cell (vl_E sz D q0 q1 Q Q2 adK adV ab b) vl_M t') := vl_of (t := .inl (6, [(1, 1, 0), (1, 30, 0), (1, 59, 0), (0, 3, 3), (1, 88, 0), (1, 93, 0), (1, 94, 0), (1, 97, 0)])) rfl rfl (Or.inl rfl)
theorem vl_k1 : ∀ t', fv_tab[1]? = some t' → ∃ e, (vl_ws D q0 q1 Q Q2)[1]? = some ((vl_E sz D q0 q1 Q Q2 adK adV ab b).2.1 1, e) ∧ vl_q e (fv_cell (vl_E sz D q0 q1 Q Q2 adK adV ab b) vl_M t') := vl_of (t := .inl (4, [(1, 2, 0), (1, 3, 0), (1, 4, 0), (1, 5, 0), (0, 0, 1), (0, 0, 2), (0, 0, 0), (0, 0, 3)])) rfl rfl (Or.inl rfl)
theorem vl_k2 : ∀ t', fv_tab[2]? = some t' → ∃ e, (vl_ws D q0 q1 Q Q2)[2]? = some ((vl_E sz D q0 q1 Q Q2 adK adV ab b).2.1 2, e) ∧ vl_q e (fv_cell (vl_E sz D q0 q1 Q Q2 adK adV ab b) vl_M t') := vl_of (t := .inr (2, 8, 6, 2)) rfl rfl (Or.inr (Or.inr ⟨_, _, _, _, rfl, rfl, fun j hj => by rcases (show j = 0 ∨ j = 1 ∨ j = 2 ∨ j = 3 ∨ j = 4 ∨ j = 5 ∨ j = 6 ∨ j = 7 by omega) with rfl | rfl | rfl | rfl | rfl | rfl | rfl | rfl <;> rfl⟩))
theorem vl_k3 : ∀ t', fv_tab[3]? = some t' → ∃ e, (vl_ws D q0 q1 Q Q2)[3]? = some ((vl_E sz D q0 q1 Q Q2 adK adV ab b).2.1 3, e) ∧ vl_q e (fv_cell (vl_E sz D q0 q1 Q Q2 adK adV ab b) vl_M t') := vl_of (t := .inr (3, 8, 22, 1)) rfl rfl (Or.inr (Or.inr ⟨_, _, _, _, rfl, rfl, fun j hj => by rcases (show j = 0 ∨ j = 1 ∨ j = 2 ∨ j = 3 ∨ j = 4 ∨ j = 5 ∨ j = 6 ∨ j = 7 by omega) with rfl | rfl | rfl | rfl | rfl | rfl | rfl | rfl <;> rfl⟩))
theorem vl_k4 : ∀ t', fv_tab[4]? = some t' → ∃ e, (vl_ws D q0 q1 Q Q2)[4]? = some ((vl_E sz D q0 q1 Q Q2 adK adV ab b).2.1 4, e) ∧ vl_q e (fv_cell (vl_E sz D q0 q1 Q Q2 adK adV ab b) vl_M t') := vl_of (t := .inr (0, 4, 0, 4)) rfl rfl (Or.inr (Or.inl ⟨_, _, _, _, rfl, rfl, fun j hj => by
  rw [vl_arr hj]
  exact (vz_s0_0 (i := 4 + j) (by omega) (by omega)).symm⟩))
theorem vl_k5 : ∀ t', fv_tab[5]? = some t' → ∃ e, (vl_ws D q0 q1 Q Q2)[5]? = some ((vl_E sz D q0 q1 Q Q2 adK adV ab b).2.1 5, e) ∧ vl_q e (fv_cell (vl_E sz D q0 q1 Q Q2 adK adV ab b) vl_M t') := vl_of (t := .inr (0, 10, 0, 104)) rfl rfl (Or.inr (Or.inl ⟨_, _, _, _, rfl, rfl, fun j hj => by
  rw [vl_arr hj]
  exact (if_pos hj).trans (vz_s0_n hj).symm⟩))
theorem vl_k6 : ∀ t', fv_tab[6]? = some t' → ∃ e, (vl_ws D q0 q1 Q Q2)[6]? = some ((vl_E sz D q0 q1 Q Q2 adK adV ab b).2.1 6, e) ∧ vl_q e (fv_cell (vl_E sz D q0 q1 Q Q2 adK adV ab b) vl_M t') := vl_of (t := .inl (0, [(0, 0, 8), (0, 0, 9), (0, 0, 10), (1, 7, 0)])) rfl rfl (Or.inl rfl)
theorem vl_k7 : ∀ t', fv_tab[7]? = some t' → ∃ e, (vl_ws D q0 q1 Q Q2)[7]? = some ((vl_E sz D q0 q1 Q Q2 adK adV ab b).2.1 7, e) ∧ vl_q e (fv_cell (vl_E sz D q0 q1 Q Q2 adK adV ab b) vl_M t') := vl_of (t := .inr (0, 4, 0, 11)) rfl rfl (Or.inr (Or.inl ⟨_, _, _, _, rfl, rfl, fun j hj => by
  rw [vl_arr hj]
  exact (vz_s0_0 (i := 11 + j) (by omega) (by omega)).symm⟩))
theorem vl_k8 : ∀ t', fv_tab[8]? = some t' → ∃ e, (vl_ws D q0 q1 Q Q2)[8]? = some ((vl_E sz D q0 q1 Q Q2 adK adV ab b).2.1 8, e) ∧ vl_q e (fv_cell (vl_E sz D q0 q1 Q Q2 adK adV ab b) vl_M t') := vl_of (t := .inl (0, [(0, 0, 15), (0, 0, 16), (0, 0, 17), (1, 9, 0)])) rfl rfl (Or.inl rfl)
theorem vl_k9 : ∀ t', fv_tab[9]? = some t' → ∃ e, (vl_ws D q0 q1 Q Q2)[9]? = some ((vl_E sz D q0 q1 Q Q2 adK adV ab b).2.1 9, e) ∧ vl_q e (fv_cell (vl_E sz D q0 q1 Q Q2 adK adV ab b) vl_M t') := vl_of (t := .inr (0, 4, 0, 18)) rfl rfl (Or.inr (Or.inl ⟨_, _, _, _, rfl, rfl, fun j hj => by
  rw [vl_arr hj]
  exact (vz_s0_0 (i := 18 + j) (by omega) (by omega)).symm⟩))
theorem vl_k10 : ∀ t', fv_tab[10]? = some t' → ∃ e, (vl_ws D q0 q1 Q Q2)[10]? = some ((vl_E sz D q0 q1 Q Q2 adK adV ab b).2.1 10, e) ∧ vl_q e (fv_cell (vl_E sz D q0 q1 Q Q2 adK adV ab b) vl_M t') := vl_of (t := .inl (0, [(0, 0, 22), (0, 0, 23), (0, 0, 24), (1, 11, 0)])) rfl rfl (Or.inl rfl)
theorem vl_k11 : ∀ t', fv_tab[11]? = some t' → ∃ e, (vl_ws D q0 q1 Q Q2)[11]? = some ((vl_E sz D q0 q1 Q Q2 adK adV ab b).2.1 11, e) ∧ vl_q e (fv_cell (vl_E sz D q0 q1 Q Q2 adK adV ab b) vl_M t') := vl_of (t := .inr (0, 4, 0, 25)) rfl rfl (Or.inr (Or.inl ⟨_, _, _, _, rfl, rfl, fun j hj => by
  rw [vl_arr hj]
  exact (vz_s0_0 (i := 25 + j) (by omega) (by omega)).symm⟩))
theorem vl_k12 : ∀ t', fv_tab[12]? = some t' → ∃ e, (vl_ws D q0 q1 Q Q2)[12]? = some ((vl_E sz D q0 q1 Q Q2 adK adV ab b).2.1 12, e) ∧ vl_q e (fv_cell (vl_E sz D q0 q1 Q Q2 adK adV ab b) vl_M t') := vl_of (t := .inl (0, [(0, 0, 29), (0, 0, 30), (0, 0, 31), (1, 13, 0)])) rfl rfl (Or.inl rfl)
theorem vl_k13 : ∀ t', fv_tab[13]? = some t' → ∃ e, (vl_ws D q0 q1 Q Q2)[13]? = some ((vl_E sz D q0 q1 Q Q2 adK adV ab b).2.1 13, e) ∧ vl_q e (fv_cell (vl_E sz D q0 q1 Q Q2 adK adV ab b) vl_M t') := vl_of (t := .inr (0, 4, 0, 32)) rfl rfl (Or.inr (Or.inl ⟨_, _, _, _, rfl, rfl, fun j hj => by
  rw [vl_arr hj]
  exact (vz_s0_0 (i := 32 + j) (by omega) (by omega)).symm⟩))
theorem vl_k14 : ∀ t', fv_tab[14]? = some t' → ∃ e, (vl_ws D q0 q1 Q Q2)[14]? = some ((vl_E sz D q0 q1 Q Q2 adK adV ab b).2.1 14, e) ∧ vl_q e (fv_cell (vl_E sz D q0 q1 Q Q2 adK adV ab b) vl_M t') := vl_of (t := .inl (0, [(0, 0, 36), (0, 0, 37), (0, 0, 38), (1, 15, 0)])) rfl rfl (Or.inl rfl)
theorem vl_k15 : ∀ t', fv_tab[15]? = some t' → ∃ e, (vl_ws D q0 q1 Q Q2)[15]? = some ((vl_E sz D q0 q1 Q Q2 adK adV ab b).2.1 15, e) ∧ vl_q e (fv_cell (vl_E sz D q0 q1 Q Q2 adK adV ab b) vl_M t') := vl_of (t := .inr (0, 4, 0, 39)) rfl rfl (Or.inr (Or.inl ⟨_, _, _, _, rfl, rfl, fun j hj => by
  rw [vl_arr hj]
  exact (vz_s0_0 (i := 39 + j) (by omega) (by omega)).symm⟩))
theorem vl_k16 : ∀ t', fv_tab[16]? = some t' → ∃ e, (vl_ws D q0 q1 Q Q2)[16]? = some ((vl_E sz D q0 q1 Q Q2 adK adV ab b).2.1 16, e) ∧ vl_q e (fv_cell (vl_E sz D q0 q1 Q Q2 adK adV ab b) vl_M t') := vl_of (t := .inl (0, [(0, 0, 43), (0, 0, 44), (0, 0, 45), (1, 17, 0)])) rfl rfl (Or.inl rfl)
theorem vl_k17 : ∀ t', fv_tab[17]? = some t' → ∃ e, (vl_ws D q0 q1 Q Q2)[17]? = some ((vl_E sz D q0 q1 Q Q2 adK adV ab b).2.1 17, e) ∧ vl_q e (fv_cell (vl_E sz D q0 q1 Q Q2 adK adV ab b) vl_M t') := vl_of (t := .inr (0, 4, 0, 46)) rfl rfl (Or.inr (Or.inl ⟨_, _, _, _, rfl, rfl, fun j hj => by
  rw [vl_arr hj]
  exact (vz_s0_0 (i := 46 + j) (by omega) (by omega)).symm⟩))
theorem vl_k18 : ∀ t', fv_tab[18]? = some t' → ∃ e, (vl_ws D q0 q1 Q Q2)[18]? = some ((vl_E sz D q0 q1 Q Q2 adK adV ab b).2.1 18, e) ∧ vl_q e (fv_cell (vl_E sz D q0 q1 Q Q2 adK adV ab b) vl_M t') := vl_of (t := .inl (0, [(0, 0, 50), (0, 0, 51), (0, 0, 52), (1, 19, 0)])) rfl rfl (Or.inl rfl)
theorem vl_k19 : ∀ t', fv_tab[19]? = some t' → ∃ e, (vl_ws D q0 q1 Q Q2)[19]? = some ((vl_E sz D q0 q1 Q Q2 adK adV ab b).2.1 19, e) ∧ vl_q e (fv_cell (vl_E sz D q0 q1 Q Q2 adK adV ab b) vl_M t') := vl_of (t := .inr (0, 4, 0, 53)) rfl rfl (Or.inr (Or.inl ⟨_, _, _, _, rfl, rfl, fun j hj => by
  rw [vl_arr hj]
  exact (vz_s0_0 (i := 53 + j) (by omega) (by omega)).symm⟩))
theorem vl_k20 : ∀ t', fv_tab[20]? = some t' → ∃ e, (vl_ws D q0 q1 Q Q2)[20]? = some ((vl_E sz D q0 q1 Q Q2 adK adV ab b).2.1 20, e) ∧ vl_q e (fv_cell (vl_E sz D q0 q1 Q Q2 adK adV ab b) vl_M t') := vl_of (t := .inl (0, [(0, 0, 57), (0, 0, 58), (0, 0, 59), (1, 21, 0)])) rfl rfl (Or.inl rfl)
theorem vl_k21 : ∀ t', fv_tab[21]? = some t' → ∃ e, (vl_ws D q0 q1 Q Q2)[21]? = some ((vl_E sz D q0 q1 Q Q2 adK adV ab b).2.1 21, e) ∧ vl_q e (fv_cell (vl_E sz D q0 q1 Q Q2 adK adV ab b) vl_M t') := vl_of (t := .inr (0, 4, 0, 60)) rfl rfl (Or.inr (Or.inl ⟨_, _, _, _, rfl, rfl, fun j hj => by
  rw [vl_arr hj]
  exact (vz_s0_0 (i := 60 + j) (by omega) (by omega)).symm⟩))
theorem vl_k22 : ∀ t', fv_tab[22]? = some t' → ∃ e, (vl_ws D q0 q1 Q Q2)[22]? = some ((vl_E sz D q0 q1 Q Q2 adK adV ab b).2.1 22, e) ∧ vl_q e (fv_cell (vl_E sz D q0 q1 Q Q2 adK adV ab b) vl_M t') := vl_of (t := .inl (1, [(0, 0, 64), (0, 0, 65), (0, 0, 66), (0, 0, 67), (0, 0, 68)])) rfl rfl (Or.inl rfl)
theorem vl_k23 : ∀ t', fv_tab[23]? = some t' → ∃ e, (vl_ws D q0 q1 Q Q2)[23]? = some ((vl_E sz D q0 q1 Q Q2 adK adV ab b).2.1 23, e) ∧ vl_q e (fv_cell (vl_E sz D q0 q1 Q Q2 adK adV ab b) vl_M t') := vl_of (t := .inl (1, [(0, 0, 69), (0, 0, 70), (0, 0, 71), (0, 0, 72), (0, 0, 73)])) rfl rfl (Or.inl rfl)
theorem vl_k24 : ∀ t', fv_tab[24]? = some t' → ∃ e, (vl_ws D q0 q1 Q Q2)[24]? = some ((vl_E sz D q0 q1 Q Q2 adK adV ab b).2.1 24, e) ∧ vl_q e (fv_cell (vl_E sz D q0 q1 Q Q2 adK adV ab b) vl_M t') := vl_of (t := .inl (1, [(0, 0, 74), (0, 0, 75), (0, 0, 76), (0, 0, 77), (0, 0, 78)])) rfl rfl (Or.inl rfl)
theorem vl_k25 : ∀ t', fv_tab[25]? = some t' → ∃ e, (vl_ws D q0 q1 Q Q2)[25]? = some ((vl_E sz D q0 q1 Q Q2 adK adV ab b).2.1 25, e) ∧ vl_q e (fv_cell (vl_E sz D q0 q1 Q Q2 adK adV ab b) vl_M t') := vl_of (t := .inl (1, [(0, 0, 79), (0, 0, 80), (0, 0, 81), (0, 0, 82), (0, 0, 83)])) rfl rfl (Or.inl rfl)
theorem vl_k26 : ∀ t', fv_tab[26]? = some t' → ∃ e, (vl_ws D q0 q1 Q Q2)[26]? = some ((vl_E sz D q0 q1 Q Q2 adK adV ab b).2.1 26, e) ∧ vl_q e (fv_cell (vl_E sz D q0 q1 Q Q2 adK adV ab b) vl_M t') := vl_of (t := .inl (1, [(0, 0, 84), (0, 0, 85), (0, 0, 86), (0, 0, 87), (0, 0, 88)])) rfl rfl (Or.inl rfl)
theorem vl_k27 : ∀ t', fv_tab[27]? = some t' → ∃ e, (vl_ws D q0 q1 Q Q2)[27]? = some ((vl_E sz D q0 q1 Q Q2 adK adV ab b).2.1 27, e) ∧ vl_q e (fv_cell (vl_E sz D q0 q1 Q Q2 adK adV ab b) vl_M t') := vl_of (t := .inl (1, [(0, 0, 89), (0, 0, 90), (0, 0, 91), (0, 0, 92), (0, 0, 93)])) rfl rfl (Or.inl rfl)
theorem vl_k28 : ∀ t', fv_tab[28]? = some t' → ∃ e, (vl_ws D q0 q1 Q Q2)[28]? = some ((vl_E sz D q0 q1 Q Q2 adK adV ab b).2.1 28, e) ∧ vl_q e (fv_cell (vl_E sz D q0 q1 Q Q2 adK adV ab b) vl_M t') := vl_of (t := .inl (1, [(0, 0, 94), (0, 0, 95), (0, 0, 96), (0, 0, 97), (0, 0, 98)])) rfl rfl (Or.inl rfl)
theorem vl_k29 : ∀ t', fv_tab[29]? = some t' → ∃ e, (vl_ws D q0 q1 Q Q2)[29]? = some ((vl_E sz D q0 q1 Q Q2 adK adV ab b).2.1 29, e) ∧ vl_q e (fv_cell (vl_E sz D q0 q1 Q Q2 adK adV ab b) vl_M t') := vl_of (t := .inl (1, [(0, 0, 99), (0, 0, 100), (0, 0, 101), (0, 0, 102), (0, 0, 103)])) rfl rfl (Or.inl rfl)
theorem vl_k30 : ∀ t', fv_tab[30]? = some t' → ∃ e, (vl_ws D q0 q1 Q Q2)[30]? = some ((vl_E sz D q0 q1 Q Q2 adK adV ab b).2.1 30, e) ∧ vl_q e (fv_cell (vl_E sz D q0 q1 Q Q2 adK adV ab b) vl_M t') := vl_of (t := .inl (4, [(1, 31, 0), (1, 32, 0), (1, 33, 0), (1, 34, 0), (0, 1, 1), (0, 1, 2), (0, 1, 0), (0, 1, 3)])) rfl rfl (Or.inl rfl)
theorem vl_k31 : ∀ t', fv_tab[31]? = some t' → ∃ e, (vl_ws D q0 q1 Q Q2)[31]? = some ((vl_E sz D q0 q1 Q Q2 adK adV ab b).2.1 31, e) ∧ vl_q e (fv_cell (vl_E sz D q0 q1 Q Q2 adK adV ab b) vl_M t') := vl_of (t := .inr (2, 8, 35, 2)) rfl rfl (Or.inr (Or.inr ⟨_, _, _, _, rfl, rfl, fun j hj => by rcases (show j = 0 ∨ j = 1 ∨ j = 2 ∨ j = 3 ∨ j = 4 ∨ j = 5 ∨ j = 6 ∨ j = 7 by omega) with rfl | rfl | rfl | rfl | rfl | rfl | rfl | rfl <;> rfl⟩))
theorem vl_k32 : ∀ t', fv_tab[32]? = some t' → ∃ e, (vl_ws D q0 q1 Q Q2)[32]? = some ((vl_E sz D q0 q1 Q Q2 adK adV ab b).2.1 32, e) ∧ vl_q e (fv_cell (vl_E sz D q0 q1 Q Q2 adK adV ab b) vl_M t') := vl_of (t := .inr (3, 8, 51, 1)) rfl rfl (Or.inr (Or.inr ⟨_, _, _, _, rfl, rfl, fun j hj => by rcases (show j = 0 ∨ j = 1 ∨ j = 2 ∨ j = 3 ∨ j = 4 ∨ j = 5 ∨ j = 6 ∨ j = 7 by omega) with rfl | rfl | rfl | rfl | rfl | rfl | rfl | rfl <;> rfl⟩))
theorem vl_k33 : ∀ t', fv_tab[33]? = some t' → ∃ e, (vl_ws D q0 q1 Q Q2)[33]? = some ((vl_E sz D q0 q1 Q Q2 adK adV ab b).2.1 33, e) ∧ vl_q e (fv_cell (vl_E sz D q0 q1 Q Q2 adK adV ab b) vl_M t') := vl_of (t := .inr (0, 4, 1, 4)) rfl rfl (Or.inr (Or.inl ⟨_, _, _, _, rfl, rfl, fun j hj => by
  rw [vl_arr hj]
  exact (vz_s0_0 (i := 4 + j) (by omega) (by omega)).symm⟩))
theorem vl_k34 : ∀ t', fv_tab[34]? = some t' → ∃ e, (vl_ws D q0 q1 Q Q2)[34]? = some ((vl_E sz D q0 q1 Q Q2 adK adV ab b).2.1 34, e) ∧ vl_q e (fv_cell (vl_E sz D q0 q1 Q Q2 adK adV ab b) vl_M t') := vl_of (t := .inr (0, 10, 1, 104)) rfl rfl (Or.inr (Or.inl ⟨_, _, _, _, rfl, rfl, fun j hj => by
  rw [vl_arr hj]
  exact (if_pos hj).trans (vz_s0_n hj).symm⟩))
theorem vl_k35 : ∀ t', fv_tab[35]? = some t' → ∃ e, (vl_ws D q0 q1 Q Q2)[35]? = some ((vl_E sz D q0 q1 Q Q2 adK adV ab b).2.1 35, e) ∧ vl_q e (fv_cell (vl_E sz D q0 q1 Q Q2 adK adV ab b) vl_M t') := vl_of (t := .inl (0, [(0, 1, 8), (0, 1, 9), (0, 1, 10), (1, 36, 0)])) rfl rfl (Or.inl rfl)
theorem vl_k36 : ∀ t', fv_tab[36]? = some t' → ∃ e, (vl_ws D q0 q1 Q Q2)[36]? = some ((vl_E sz D q0 q1 Q Q2 adK adV ab b).2.1 36, e) ∧ vl_q e (fv_cell (vl_E sz D q0 q1 Q Q2 adK adV ab b) vl_M t') := vl_of (t := .inr (0, 4, 1, 11)) rfl rfl (Or.inr (Or.inl ⟨_, _, _, _, rfl, rfl, fun j hj => by
  rw [vl_arr hj]
  exact (vz_s0_0 (i := 11 + j) (by omega) (by omega)).symm⟩))
theorem vl_k37 : ∀ t', fv_tab[37]? = some t' → ∃ e, (vl_ws D q0 q1 Q Q2)[37]? = some ((vl_E sz D q0 q1 Q Q2 adK adV ab b).2.1 37, e) ∧ vl_q e (fv_cell (vl_E sz D q0 q1 Q Q2 adK adV ab b) vl_M t') := vl_of (t := .inl (0, [(0, 1, 15), (0, 1, 16), (0, 1, 17), (1, 38, 0)])) rfl rfl (Or.inl rfl)
theorem vl_k38 : ∀ t', fv_tab[38]? = some t' → ∃ e, (vl_ws D q0 q1 Q Q2)[38]? = some ((vl_E sz D q0 q1 Q Q2 adK adV ab b).2.1 38, e) ∧ vl_q e (fv_cell (vl_E sz D q0 q1 Q Q2 adK adV ab b) vl_M t') := vl_of (t := .inr (0, 4, 1, 18)) rfl rfl (Or.inr (Or.inl ⟨_, _, _, _, rfl, rfl, fun j hj => by
  rw [vl_arr hj]
  exact (vz_s0_0 (i := 18 + j) (by omega) (by omega)).symm⟩))
theorem vl_k39 : ∀ t', fv_tab[39]? = some t' → ∃ e, (vl_ws D q0 q1 Q Q2)[39]? = some ((vl_E sz D q0 q1 Q Q2 adK adV ab b).2.1 39, e) ∧ vl_q e (fv_cell (vl_E sz D q0 q1 Q Q2 adK adV ab b) vl_M t') := vl_of (t := .inl (0, [(0, 1, 22), (0, 1, 23), (0, 1, 24), (1, 40, 0)])) rfl rfl (Or.inl rfl)
theorem vl_k40 : ∀ t', fv_tab[40]? = some t' → ∃ e, (vl_ws D q0 q1 Q Q2)[40]? = some ((vl_E sz D q0 q1 Q Q2 adK adV ab b).2.1 40, e) ∧ vl_q e (fv_cell (vl_E sz D q0 q1 Q Q2 adK adV ab b) vl_M t') := vl_of (t := .inr (0, 4, 1, 25)) rfl rfl (Or.inr (Or.inl ⟨_, _, _, _, rfl, rfl, fun j hj => by
  rw [vl_arr hj]
  exact (vz_s0_0 (i := 25 + j) (by omega) (by omega)).symm⟩))
theorem vl_k41 : ∀ t', fv_tab[41]? = some t' → ∃ e, (vl_ws D q0 q1 Q Q2)[41]? = some ((vl_E sz D q0 q1 Q Q2 adK adV ab b).2.1 41, e) ∧ vl_q e (fv_cell (vl_E sz D q0 q1 Q Q2 adK adV ab b) vl_M t') := vl_of (t := .inl (0, [(0, 1, 29), (0, 1, 30), (0, 1, 31), (1, 42, 0)])) rfl rfl (Or.inl rfl)
theorem vl_k42 : ∀ t', fv_tab[42]? = some t' → ∃ e, (vl_ws D q0 q1 Q Q2)[42]? = some ((vl_E sz D q0 q1 Q Q2 adK adV ab b).2.1 42, e) ∧ vl_q e (fv_cell (vl_E sz D q0 q1 Q Q2 adK adV ab b) vl_M t') := vl_of (t := .inr (0, 4, 1, 32)) rfl rfl (Or.inr (Or.inl ⟨_, _, _, _, rfl, rfl, fun j hj => by
  rw [vl_arr hj]
  exact (vz_s0_0 (i := 32 + j) (by omega) (by omega)).symm⟩))
theorem vl_k43 : ∀ t', fv_tab[43]? = some t' → ∃ e, (vl_ws D q0 q1 Q Q2)[43]? = some ((vl_E sz D q0 q1 Q Q2 adK adV ab b).2.1 43, e) ∧ vl_q e (fv_cell (vl_E sz D q0 q1 Q Q2 adK adV ab b) vl_M t') := vl_of (t := .inl (0, [(0, 1, 36), (0, 1, 37), (0, 1, 38), (1, 44, 0)])) rfl rfl (Or.inl rfl)
theorem vl_k44 : ∀ t', fv_tab[44]? = some t' → ∃ e, (vl_ws D q0 q1 Q Q2)[44]? = some ((vl_E sz D q0 q1 Q Q2 adK adV ab b).2.1 44, e) ∧ vl_q e (fv_cell (vl_E sz D q0 q1 Q Q2 adK adV ab b) vl_M t') := vl_of (t := .inr (0, 4, 1, 39)) rfl rfl (Or.inr (Or.inl ⟨_, _, _, _, rfl, rfl, fun j hj => by
  rw [vl_arr hj]
  exact (vz_s0_0 (i := 39 + j) (by omega) (by omega)).symm⟩))
theorem vl_k45 : ∀ t', fv_tab[45]? = some t' → ∃ e, (vl_ws D q0 q1 Q Q2)[45]? = some ((vl_E sz D q0 q1 Q Q2 adK adV ab b).2.1 45, e) ∧ vl_q e (fv_cell (vl_E sz D q0 q1 Q Q2 adK adV ab b) vl_M t') := vl_of (t := .inl (0, [(0, 1, 43), (0, 1, 44), (0, 1, 45), (1, 46, 0)])) rfl rfl (Or.inl rfl)
theorem vl_k46 : ∀ t', fv_tab[46]? = some t' → ∃ e, (vl_ws D q0 q1 Q Q2)[46]? = some ((vl_E sz D q0 q1 Q Q2 adK adV ab b).2.1 46, e) ∧ vl_q e (fv_cell (vl_E sz D q0 q1 Q Q2 adK adV ab b) vl_M t') := vl_of (t := .inr (0, 4, 1, 46)) rfl rfl (Or.inr (Or.inl ⟨_, _, _, _, rfl, rfl, fun j hj => by
  rw [vl_arr hj]
  exact (vz_s0_0 (i := 46 + j) (by omega) (by omega)).symm⟩))
theorem vl_k47 : ∀ t', fv_tab[47]? = some t' → ∃ e, (vl_ws D q0 q1 Q Q2)[47]? = some ((vl_E sz D q0 q1 Q Q2 adK adV ab b).2.1 47, e) ∧ vl_q e (fv_cell (vl_E sz D q0 q1 Q Q2 adK adV ab b) vl_M t') := vl_of (t := .inl (0, [(0, 1, 50), (0, 1, 51), (0, 1, 52), (1, 48, 0)])) rfl rfl (Or.inl rfl)
theorem vl_k48 : ∀ t', fv_tab[48]? = some t' → ∃ e, (vl_ws D q0 q1 Q Q2)[48]? = some ((vl_E sz D q0 q1 Q Q2 adK adV ab b).2.1 48, e) ∧ vl_q e (fv_cell (vl_E sz D q0 q1 Q Q2 adK adV ab b) vl_M t') := vl_of (t := .inr (0, 4, 1, 53)) rfl rfl (Or.inr (Or.inl ⟨_, _, _, _, rfl, rfl, fun j hj => by
  rw [vl_arr hj]
  exact (vz_s0_0 (i := 53 + j) (by omega) (by omega)).symm⟩))
theorem vl_k49 : ∀ t', fv_tab[49]? = some t' → ∃ e, (vl_ws D q0 q1 Q Q2)[49]? = some ((vl_E sz D q0 q1 Q Q2 adK adV ab b).2.1 49, e) ∧ vl_q e (fv_cell (vl_E sz D q0 q1 Q Q2 adK adV ab b) vl_M t') := vl_of (t := .inl (0, [(0, 1, 57), (0, 1, 58), (0, 1, 59), (1, 50, 0)])) rfl rfl (Or.inl rfl)
theorem vl_k50 : ∀ t', fv_tab[50]? = some t' → ∃ e, (vl_ws D q0 q1 Q Q2)[50]? = some ((vl_E sz D q0 q1 Q Q2 adK adV ab b).2.1 50, e) ∧ vl_q e (fv_cell (vl_E sz D q0 q1 Q Q2 adK adV ab b) vl_M t') := vl_of (t := .inr (0, 4, 1, 60)) rfl rfl (Or.inr (Or.inl ⟨_, _, _, _, rfl, rfl, fun j hj => by
  rw [vl_arr hj]
  exact (vz_s0_0 (i := 60 + j) (by omega) (by omega)).symm⟩))
theorem vl_k51 : ∀ t', fv_tab[51]? = some t' → ∃ e, (vl_ws D q0 q1 Q Q2)[51]? = some ((vl_E sz D q0 q1 Q Q2 adK adV ab b).2.1 51, e) ∧ vl_q e (fv_cell (vl_E sz D q0 q1 Q Q2 adK adV ab b) vl_M t') := vl_of (t := .inl (1, [(0, 1, 64), (0, 1, 65), (0, 1, 66), (0, 1, 67), (0, 1, 68)])) rfl rfl (Or.inl rfl)
theorem vl_k52 : ∀ t', fv_tab[52]? = some t' → ∃ e, (vl_ws D q0 q1 Q Q2)[52]? = some ((vl_E sz D q0 q1 Q Q2 adK adV ab b).2.1 52, e) ∧ vl_q e (fv_cell (vl_E sz D q0 q1 Q Q2 adK adV ab b) vl_M t') := vl_of (t := .inl (1, [(0, 1, 69), (0, 1, 70), (0, 1, 71), (0, 1, 72), (0, 1, 73)])) rfl rfl (Or.inl rfl)
theorem vl_k53 : ∀ t', fv_tab[53]? = some t' → ∃ e, (vl_ws D q0 q1 Q Q2)[53]? = some ((vl_E sz D q0 q1 Q Q2 adK adV ab b).2.1 53, e) ∧ vl_q e (fv_cell (vl_E sz D q0 q1 Q Q2 adK adV ab b) vl_M t') := vl_of (t := .inl (1, [(0, 1, 74), (0, 1, 75), (0, 1, 76), (0, 1, 77), (0, 1, 78)])) rfl rfl (Or.inl rfl)
theorem vl_k54 : ∀ t', fv_tab[54]? = some t' → ∃ e, (vl_ws D q0 q1 Q Q2)[54]? = some ((vl_E sz D q0 q1 Q Q2 adK adV ab b).2.1 54, e) ∧ vl_q e (fv_cell (vl_E sz D q0 q1 Q Q2 adK adV ab b) vl_M t') := vl_of (t := .inl (1, [(0, 1, 79), (0, 1, 80), (0, 1, 81), (0, 1, 82), (0, 1, 83)])) rfl rfl (Or.inl rfl)
theorem vl_k55 : ∀ t', fv_tab[55]? = some t' → ∃ e, (vl_ws D q0 q1 Q Q2)[55]? = some ((vl_E sz D q0 q1 Q Q2 adK adV ab b).2.1 55, e) ∧ vl_q e (fv_cell (vl_E sz D q0 q1 Q Q2 adK adV ab b) vl_M t') := vl_of (t := .inl (1, [(0, 1, 84), (0, 1, 85), (0, 1, 86), (0, 1, 87), (0, 1, 88)])) rfl rfl (Or.inl rfl)
theorem vl_k56 : ∀ t', fv_tab[56]? = some t' → ∃ e, (vl_ws D q0 q1 Q Q2)[56]? = some ((vl_E sz D q0 q1 Q Q2 adK adV ab b).2.1 56, e) ∧ vl_q e (fv_cell (vl_E sz D q0 q1 Q Q2 adK adV ab b) vl_M t') := vl_of (t := .inl (1, [(0, 1, 89), (0, 1, 90), (0, 1, 91), (0, 1, 92), (0, 1, 93)])) rfl rfl (Or.inl rfl)
theorem vl_k57 : ∀ t', fv_tab[57]? = some t' → ∃ e, (vl_ws D q0 q1 Q Q2)[57]? = some ((vl_E sz D q0 q1 Q Q2 adK adV ab b).2.1 57, e) ∧ vl_q e (fv_cell (vl_E sz D q0 q1 Q Q2 adK adV ab b) vl_M t') := vl_of (t := .inl (1, [(0, 1, 94), (0, 1, 95), (0, 1, 96), (0, 1, 97), (0, 1, 98)])) rfl rfl (Or.inl rfl)
theorem vl_k58 : ∀ t', fv_tab[58]? = some t' → ∃ e, (vl_ws D q0 q1 Q Q2)[58]? = some ((vl_E sz D q0 q1 Q Q2 adK adV ab b).2.1 58, e) ∧ vl_q e (fv_cell (vl_E sz D q0 q1 Q Q2 adK adV ab b) vl_M t') := vl_of (t := .inl (1, [(0, 1, 99), (0, 1, 100), (0, 1, 101), (0, 1, 102), (0, 1, 103)])) rfl rfl (Or.inl rfl)
theorem vl_k59 : ∀ t', fv_tab[59]? = some t' → ∃ e, (vl_ws D q0 q1 Q Q2)[59]? = some ((vl_E sz D q0 q1 Q Q2 adK adV ab b).2.1 59, e) ∧ vl_q e (fv_cell (vl_E sz D q0 q1 Q Q2 adK adV ab b) vl_M t') := vl_of (t := .inl (4, [(1, 60, 0), (1, 61, 0), (1, 62, 0), (1, 63, 0), (0, 2, 1), (0, 2, 2), (0, 2, 0), (0, 2, 3)])) rfl rfl (Or.inl rfl)
theorem vl_k60 : ∀ t', fv_tab[60]? = some t' → ∃ e, (vl_ws D q0 q1 Q Q2)[60]? = some ((vl_E sz D q0 q1 Q Q2 adK adV ab b).2.1 60, e) ∧ vl_q e (fv_cell (vl_E sz D q0 q1 Q Q2 adK adV ab b) vl_M t') := vl_of (t := .inr (2, 8, 64, 2)) rfl rfl (Or.inr (Or.inr ⟨_, _, _, _, rfl, rfl, fun j hj => by rcases (show j = 0 ∨ j = 1 ∨ j = 2 ∨ j = 3 ∨ j = 4 ∨ j = 5 ∨ j = 6 ∨ j = 7 by omega) with rfl | rfl | rfl | rfl | rfl | rfl | rfl | rfl <;> rfl⟩))
theorem vl_k61 : ∀ t', fv_tab[61]? = some t' → ∃ e, (vl_ws D q0 q1 Q Q2)[61]? = some ((vl_E sz D q0 q1 Q Q2 adK adV ab b).2.1 61, e) ∧ vl_q e (fv_cell (vl_E sz D q0 q1 Q Q2 adK adV ab b) vl_M t') := vl_of (t := .inr (3, 8, 80, 1)) rfl rfl (Or.inr (Or.inr ⟨_, _, _, _, rfl, rfl, fun j hj => by rcases (show j = 0 ∨ j = 1 ∨ j = 2 ∨ j = 3 ∨ j = 4 ∨ j = 5 ∨ j = 6 ∨ j = 7 by omega) with rfl | rfl | rfl | rfl | rfl | rfl | rfl | rfl <;> rfl⟩))
theorem vl_k62 : ∀ t', fv_tab[62]? = some t' → ∃ e, (vl_ws D q0 q1 Q Q2)[62]? = some ((vl_E sz D q0 q1 Q Q2 adK adV ab b).2.1 62, e) ∧ vl_q e (fv_cell (vl_E sz D q0 q1 Q Q2 adK adV ab b) vl_M t') := vl_of (t := .inr (0, 4, 2, 4)) rfl rfl (Or.inr (Or.inl ⟨_, _, _, _, rfl, rfl, fun j hj => by
  rw [vl_arr hj]
  exact (vz_s0_0 (i := 4 + j) (by omega) (by omega)).symm⟩))
theorem vl_k63 : ∀ t', fv_tab[63]? = some t' → ∃ e, (vl_ws D q0 q1 Q Q2)[63]? = some ((vl_E sz D q0 q1 Q Q2 adK adV ab b).2.1 63, e) ∧ vl_q e (fv_cell (vl_E sz D q0 q1 Q Q2 adK adV ab b) vl_M t') := vl_of (t := .inr (0, 10, 2, 104)) rfl rfl (Or.inr (Or.inl ⟨_, _, _, _, rfl, rfl, fun j hj => by
  rw [vl_arr hj]
  exact (if_pos hj).trans (vz_s0_n hj).symm⟩))
theorem vl_k64 : ∀ t', fv_tab[64]? = some t' → ∃ e, (vl_ws D q0 q1 Q Q2)[64]? = some ((vl_E sz D q0 q1 Q Q2 adK adV ab b).2.1 64, e) ∧ vl_q e (fv_cell (vl_E sz D q0 q1 Q Q2 adK adV ab b) vl_M t') := vl_of (t := .inl (0, [(0, 2, 8), (0, 2, 9), (0, 2, 10), (1, 65, 0)])) rfl rfl (Or.inl rfl)
theorem vl_k65 : ∀ t', fv_tab[65]? = some t' → ∃ e, (vl_ws D q0 q1 Q Q2)[65]? = some ((vl_E sz D q0 q1 Q Q2 adK adV ab b).2.1 65, e) ∧ vl_q e (fv_cell (vl_E sz D q0 q1 Q Q2 adK adV ab b) vl_M t') := vl_of (t := .inr (0, 4, 2, 11)) rfl rfl (Or.inr (Or.inl ⟨_, _, _, _, rfl, rfl, fun j hj => by
  rw [vl_arr hj]
  exact (vz_s0_0 (i := 11 + j) (by omega) (by omega)).symm⟩))
theorem vl_k66 : ∀ t', fv_tab[66]? = some t' → ∃ e, (vl_ws D q0 q1 Q Q2)[66]? = some ((vl_E sz D q0 q1 Q Q2 adK adV ab b).2.1 66, e) ∧ vl_q e (fv_cell (vl_E sz D q0 q1 Q Q2 adK adV ab b) vl_M t') := vl_of (t := .inl (0, [(0, 2, 15), (0, 2, 16), (0, 2, 17), (1, 67, 0)])) rfl rfl (Or.inl rfl)
theorem vl_k67 : ∀ t', fv_tab[67]? = some t' → ∃ e, (vl_ws D q0 q1 Q Q2)[67]? = some ((vl_E sz D q0 q1 Q Q2 adK adV ab b).2.1 67, e) ∧ vl_q e (fv_cell (vl_E sz D q0 q1 Q Q2 adK adV ab b) vl_M t') := vl_of (t := .inr (0, 4, 2, 18)) rfl rfl (Or.inr (Or.inl ⟨_, _, _, _, rfl, rfl, fun j hj => by
  rw [vl_arr hj]
  exact (vz_s0_0 (i := 18 + j) (by omega) (by omega)).symm⟩))
theorem vl_k68 : ∀ t', fv_tab[68]? = some t' → ∃ e, (vl_ws D q0 q1 Q Q2)[68]? = some ((vl_E sz D q0 q1 Q Q2 adK adV ab b).2.1 68, e) ∧ vl_q e (fv_cell (vl_E sz D q0 q1 Q Q2 adK adV ab b) vl_M t') := vl_of (t := .inl (0, [(0, 2, 22), (0, 2, 23), (0, 2, 24), (1, 69, 0)])) rfl rfl (Or.inl rfl)
theorem vl_k69 : ∀ t', fv_tab[69]? = some t' → ∃ e, (vl_ws D q0 q1 Q Q2)[69]? = some ((vl_E sz D q0 q1 Q Q2 adK adV ab b).2.1 69, e) ∧ vl_q e (fv_cell (vl_E sz D q0 q1 Q Q2 adK adV ab b) vl_M t') := vl_of (t := .inr (0, 4, 2, 25)) rfl rfl (Or.inr (Or.inl ⟨_, _, _, _, rfl, rfl, fun j hj => by
  rw [vl_arr hj]
  exact (vz_s0_0 (i := 25 + j) (by omega) (by omega)).symm⟩))
theorem vl_k70 : ∀ t', fv_tab[70]? = some t' → ∃ e, (vl_ws D q0 q1 Q Q2)[70]? = some ((vl_E sz D q0 q1 Q Q2 adK adV ab b).2.1 70, e) ∧ vl_q e (fv_cell (vl_E sz D q0 q1 Q Q2 adK adV ab b) vl_M t') := vl_of (t := .inl (0, [(0, 2, 29), (0, 2, 30), (0, 2, 31), (1, 71, 0)])) rfl rfl (Or.inl rfl)
theorem vl_k71 : ∀ t', fv_tab[71]? = some t' → ∃ e, (vl_ws D q0 q1 Q Q2)[71]? = some ((vl_E sz D q0 q1 Q Q2 adK adV ab b).2.1 71, e) ∧ vl_q e (fv_cell (vl_E sz D q0 q1 Q Q2 adK adV ab b) vl_M t') := vl_of (t := .inr (0, 4, 2, 32)) rfl rfl (Or.inr (Or.inl ⟨_, _, _, _, rfl, rfl, fun j hj => by
  rw [vl_arr hj]
  exact (vz_s0_0 (i := 32 + j) (by omega) (by omega)).symm⟩))
theorem vl_k72 : ∀ t', fv_tab[72]? = some t' → ∃ e, (vl_ws D q0 q1 Q Q2)[72]? = some ((vl_E sz D q0 q1 Q Q2 adK adV ab b).2.1 72, e) ∧ vl_q e (fv_cell (vl_E sz D q0 q1 Q Q2 adK adV ab b) vl_M t') := vl_of (t := .inl (0, [(0, 2, 36), (0, 2, 37), (0, 2, 38), (1, 73, 0)])) rfl rfl (Or.inl rfl)
theorem vl_k73 : ∀ t', fv_tab[73]? = some t' → ∃ e, (vl_ws D q0 q1 Q Q2)[73]? = some ((vl_E sz D q0 q1 Q Q2 adK adV ab b).2.1 73, e) ∧ vl_q e (fv_cell (vl_E sz D q0 q1 Q Q2 adK adV ab b) vl_M t') := vl_of (t := .inr (0, 4, 2, 39)) rfl rfl (Or.inr (Or.inl ⟨_, _, _, _, rfl, rfl, fun j hj => by
  rw [vl_arr hj]
  exact (vz_s0_0 (i := 39 + j) (by omega) (by omega)).symm⟩))
theorem vl_k74 : ∀ t', fv_tab[74]? = some t' → ∃ e, (vl_ws D q0 q1 Q Q2)[74]? = some ((vl_E sz D q0 q1 Q Q2 adK adV ab b).2.1 74, e) ∧ vl_q e (fv_cell (vl_E sz D q0 q1 Q Q2 adK adV ab b) vl_M t') := vl_of (t := .inl (0, [(0, 2, 43), (0, 2, 44), (0, 2, 45), (1, 75, 0)])) rfl rfl (Or.inl rfl)
theorem vl_k75 : ∀ t', fv_tab[75]? = some t' → ∃ e, (vl_ws D q0 q1 Q Q2)[75]? = some ((vl_E sz D q0 q1 Q Q2 adK adV ab b).2.1 75, e) ∧ vl_q e (fv_cell (vl_E sz D q0 q1 Q Q2 adK adV ab b) vl_M t') := vl_of (t := .inr (0, 4, 2, 46)) rfl rfl (Or.inr (Or.inl ⟨_, _, _, _, rfl, rfl, fun j hj => by
  rw [vl_arr hj]
  exact (vz_s0_0 (i := 46 + j) (by omega) (by omega)).symm⟩))
theorem vl_k76 : ∀ t', fv_tab[76]? = some t' → ∃ e, (vl_ws D q0 q1 Q Q2)[76]? = some ((vl_E sz D q0 q1 Q Q2 adK adV ab b).2.1 76, e) ∧ vl_q e (fv_cell (vl_E sz D q0 q1 Q Q2 adK adV ab b) vl_M t') := vl_of (t := .inl (0, [(0, 2, 50), (0, 2, 51), (0, 2, 52), (1, 77, 0)])) rfl rfl (Or.inl rfl)
theorem vl_k77 : ∀ t', fv_tab[77]? = some t' → ∃ e, (vl_ws D q0 q1 Q Q2)[77]? = some ((vl_E sz D q0 q1 Q Q2 adK adV ab b).2.1 77, e) ∧ vl_q e (fv_cell (vl_E sz D q0 q1 Q Q2 adK adV ab b) vl_M t') := vl_of (t := .inr (0, 4, 2, 53)) rfl rfl (Or.inr (Or.inl ⟨_, _, _, _, rfl, rfl, fun j hj => by
  rw [vl_arr hj]
  exact (vz_s0_0 (i := 53 + j) (by omega) (by omega)).symm⟩))
theorem vl_k78 : ∀ t', fv_tab[78]? = some t' → ∃ e, (vl_ws D q0 q1 Q Q2)[78]? = some ((vl_E sz D q0 q1 Q Q2 adK adV ab b).2.1 78, e) ∧ vl_q e (fv_cell (vl_E sz D q0 q1 Q Q2 adK adV ab b) vl_M t') := vl_of (t := .inl (0, [(0, 2, 57), (0, 2, 58), (0, 2, 59), (1, 79, 0)])) rfl rfl (Or.inl rfl)
theorem vl_k79 : ∀ t', fv_tab[79]? = some t' → ∃ e, (vl_ws D q0 q1 Q Q2)[79]? = some ((vl_E sz D q0 q1 Q Q2 adK adV ab b).2.1 79, e) ∧ vl_q e (fv_cell (vl_E sz D q0 q1 Q Q2 adK adV ab b) vl_M t') := vl_of (t := .inr (0, 4, 2, 60)) rfl rfl (Or.inr (Or.inl ⟨_, _, _, _, rfl, rfl, fun j hj => by
  rw [vl_arr hj]
  exact (vz_s0_0 (i := 60 + j) (by omega) (by omega)).symm⟩))
theorem vl_k80 : ∀ t', fv_tab[80]? = some t' → ∃ e, (vl_ws D q0 q1 Q Q2)[80]? = some ((vl_E sz D q0 q1 Q Q2 adK adV ab b).2.1 80, e) ∧ vl_q e (fv_cell (vl_E sz D q0 q1 Q Q2 adK adV ab b) vl_M t') := vl_of (t := .inl (1, [(0, 2, 64), (0, 2, 65), (0, 2, 66), (0, 2, 67), (0, 2, 68)])) rfl rfl (Or.inl rfl)
theorem vl_k81 : ∀ t', fv_tab[81]? = some t' → ∃ e, (vl_ws D q0 q1 Q Q2)[81]? = some ((vl_E sz D q0 q1 Q Q2 adK adV ab b).2.1 81, e) ∧ vl_q e (fv_cell (vl_E sz D q0 q1 Q Q2 adK adV ab b) vl_M t') := vl_of (t := .inl (1, [(0, 2, 69), (0, 2, 70), (0, 2, 71), (0, 2, 72), (0, 2, 73)])) rfl rfl (Or.inl rfl)
theorem vl_k82 : ∀ t', fv_tab[82]? = some t' → ∃ e, (vl_ws D q0 q1 Q Q2)[82]? = some ((vl_E sz D q0 q1 Q Q2 adK adV ab b).2.1 82, e) ∧ vl_q e (fv_cell (vl_E sz D q0 q1 Q Q2 adK adV ab b) vl_M t') := vl_of (t := .inl (1, [(0, 2, 74), (0, 2, 75), (0, 2, 76), (0, 2, 77), (0, 2, 78)])) rfl rfl (Or.inl rfl)
theorem vl_k83 : ∀ t', fv_tab[83]? = some t' → ∃ e, (vl_ws D q0 q1 Q Q2)[83]? = some ((vl_E sz D q0 q1 Q Q2 adK adV ab b).2.1 83, e) ∧ vl_q e (fv_cell (vl_E sz D q0 q1 Q Q2 adK adV ab b) vl_M t') := vl_of (t := .inl (1, [(0, 2, 79), (0, 2, 80), (0, 2, 81), (0, 2, 82), (0, 2, 83)])) rfl rfl (Or.inl rfl)
theorem vl_k84 : ∀ t', fv_tab[84]? = some t' → ∃ e, (vl_ws D q0 q1 Q Q2)[84]? = some ((vl_E sz D q0 q1 Q Q2 adK adV ab b).2.1 84, e) ∧ vl_q e (fv_cell (vl_E sz D q0 q1 Q Q2 adK adV ab b) vl_M t') := vl_of (t := .inl (1, [(0, 2, 84), (0, 2, 85), (0, 2, 86), (0, 2, 87), (0, 2, 88)])) rfl rfl (Or.inl rfl)
theorem vl_k85 : ∀ t', fv_tab[85]? = some t' → ∃ e, (vl_ws D q0 q1 Q Q2)[85]? = some ((vl_E sz D q0 q1 Q Q2 adK adV ab b).2.1 85, e) ∧ vl_q e (fv_cell (vl_E sz D q0 q1 Q Q2 adK adV ab b) vl_M t') := vl_of (t := .inl (1, [(0, 2, 89), (0, 2, 90), (0, 2, 91), (0, 2, 92), (0, 2, 93)])) rfl rfl (Or.inl rfl)
theorem vl_k86 : ∀ t', fv_tab[86]? = some t' → ∃ e, (vl_ws D q0 q1 Q Q2)[86]? = some ((vl_E sz D q0 q1 Q Q2 adK adV ab b).2.1 86, e) ∧ vl_q e (fv_cell (vl_E sz D q0 q1 Q Q2 adK adV ab b) vl_M t') := vl_of (t := .inl (1, [(0, 2, 94), (0, 2, 95), (0, 2, 96), (0, 2, 97), (0, 2, 98)])) rfl rfl (Or.inl rfl)
theorem vl_k87 : ∀ t', fv_tab[87]? = some t' → ∃ e, (vl_ws D q0 q1 Q Q2)[87]? = some ((vl_E sz D q0 q1 Q Q2 adK adV ab b).2.1 87, e) ∧ vl_q e (fv_cell (vl_E sz D q0 q1 Q Q2 adK adV ab b) vl_M t') := vl_of (t := .inl (1, [(0, 2, 99), (0, 2, 100), (0, 2, 101), (0, 2, 102), (0, 2, 103)])) rfl rfl (Or.inl rfl)
theorem vl_k88 : ∀ t', fv_tab[88]? = some t' → ∃ e, (vl_ws D q0 q1 Q Q2)[88]? = some ((vl_E sz D q0 q1 Q Q2 adK adV ab b).2.1 88, e) ∧ vl_q e (fv_cell (vl_E sz D q0 q1 Q Q2 adK adV ab b) vl_M t') := vl_of (t := .inl (5, [(0, 4, 0), (1, 89, 0), (1, 90, 0), (1, 91, 0), (1, 92, 0), (0, 4, 5), (0, 4, 6)])) rfl rfl (Or.inl rfl)
theorem vl_k89 : ∀ t', fv_tab[89]? = some t' → ∃ e, (vl_ws D q0 q1 Q Q2)[89]? = some ((vl_E sz D q0 q1 Q Q2 adK adV ab b).2.1 89, e) ∧ vl_q e (fv_cell (vl_E sz D q0 q1 Q Q2 adK adV ab b) vl_M t') := vl_of (t := .inr (0, 120, 5, 0)) rfl rfl (Or.inr (Or.inl ⟨_, _, _, _, rfl, rfl, fun j hj => by
  rw [vl_arr hj]
  rfl⟩))
theorem vl_k90 : ∀ t', fv_tab[90]? = some t' → ∃ e, (vl_ws D q0 q1 Q Q2)[90]? = some ((vl_E sz D q0 q1 Q Q2 adK adV ab b).2.1 90, e) ∧ vl_q e (fv_cell (vl_E sz D q0 q1 Q Q2 adK adV ab b) vl_M t') := vl_of (t := .inr (0, 121, 6, 0)) rfl rfl (Or.inr (Or.inl ⟨_, _, _, _, rfl, rfl, fun j hj => by
  rw [vl_arr hj]
  rfl⟩))
theorem vl_k91 : ∀ t', fv_tab[91]? = some t' → ∃ e, (vl_ws D q0 q1 Q Q2)[91]? = some ((vl_E sz D q0 q1 Q Q2 adK adV ab b).2.1 91, e) ∧ vl_q e (fv_cell (vl_E sz D q0 q1 Q Q2 adK adV ab b) vl_M t') := vl_of (t := .inr (0, 121, 7, 0)) rfl rfl (Or.inr (Or.inl ⟨_, _, _, _, rfl, rfl, fun j hj => by
  rw [vl_arr hj]
  rfl⟩))
theorem vl_k92 : ∀ t', fv_tab[92]? = some t' → ∃ e, (vl_ws D q0 q1 Q Q2)[92]? = some ((vl_E sz D q0 q1 Q Q2 adK adV ab b).2.1 92, e) ∧ vl_q e (fv_cell (vl_E sz D q0 q1 Q Q2 adK adV ab b) vl_M t') := vl_of (t := .inr (0, 121, 8, 0)) rfl rfl (Or.inr (Or.inl ⟨_, _, _, _, rfl, rfl, fun j hj => by
  rw [vl_arr hj]
  rfl⟩))
theorem vl_k93 : ∀ t', fv_tab[93]? = some t' → ∃ e, (vl_ws D q0 q1 Q Q2)[93]? = some ((vl_E sz D q0 q1 Q Q2 adK adV ab b).2.1 93, e) ∧ vl_q e (fv_cell (vl_E sz D q0 q1 Q Q2 adK adV ab b) vl_M t') := vl_of (t := .inr (4, 4, 98, 2)) rfl rfl (Or.inr (Or.inr ⟨_, _, _, _, rfl, rfl, fun j hj => by rcases (show j = 0 ∨ j = 1 ∨ j = 2 ∨ j = 3 by omega) with rfl | rfl | rfl | rfl <;> rfl⟩))
theorem vl_k94 : ∀ t', fv_tab[94]? = some t' → ∃ e, (vl_ws D q0 q1 Q Q2)[94]? = some ((vl_E sz D q0 q1 Q Q2 adK adV ab b).2.1 94, e) ∧ vl_q e (fv_cell (vl_E sz D q0 q1 Q Q2 adK adV ab b) vl_M t') := vl_of (t := .inl (2, [(1, 95, 0), (0, 9, 1), (0, 9, 2), (0, 9, 3), (1, 96, 0), (0, 9, 5)])) rfl rfl (Or.inl rfl)
theorem vl_k95 : ∀ t', fv_tab[95]? = some t' → ∃ e, (vl_ws D q0 q1 Q Q2)[95]? = some ((vl_E sz D q0 q1 Q Q2 adK adV ab b).2.1 95, e) ∧ vl_q e (fv_cell (vl_E sz D q0 q1 Q Q2 adK adV ab b) vl_M t') := vl_of (t := .inr (0, 5, 10, 0)) rfl rfl (Or.inr (Or.inl ⟨_, _, _, _, rfl, rfl, fun j hj => by
  rw [vl_arr hj]
  rfl⟩))
theorem vl_k96 : ∀ t', fv_tab[96]? = some t' → ∃ e, (vl_ws D q0 q1 Q Q2)[96]? = some ((vl_E sz D q0 q1 Q Q2 adK adV ab b).2.1 96, e) ∧ vl_q e (fv_cell (vl_E sz D q0 q1 Q Q2 adK adV ab b) vl_M t') := vl_of (t := .inr (0, 5, 11, 0)) rfl rfl (Or.inr (Or.inl ⟨_, _, _, _, rfl, rfl, fun j hj => by
  rw [vl_arr hj]
  rfl⟩))
theorem vl_k97 : ∀ t', fv_tab[97]? = some t' → ∃ e, (vl_ws D q0 q1 Q Q2)[97]? = some ((vl_E sz D q0 q1 Q Q2 adK adV ab b).2.1 97, e) ∧ vl_q e (fv_cell (vl_E sz D q0 q1 Q Q2 adK adV ab b) vl_M t') := vl_of (t := .inr (0, 7, 12, 0)) rfl rfl (Or.inr (Or.inl ⟨_, _, _, _, rfl, rfl, fun j hj => by
  rw [vl_arr hj]
  rfl⟩))
theorem vl_k98 : ∀ t', fv_tab[98]? = some t' → ∃ e, (vl_ws D q0 q1 Q Q2)[98]? = some ((vl_E sz D q0 q1 Q Q2 adK adV ab b).2.1 98, e) ∧ vl_q e (fv_cell (vl_E sz D q0 q1 Q Q2 adK adV ab b) vl_M t') := vl_of (t := .inl (3, [(0, 13, 0), (0, 13, 1), (1, 99, 0)])) rfl rfl (Or.inl rfl)
theorem vl_k99 : ∀ t', fv_tab[99]? = some t' → ∃ e, (vl_ws D q0 q1 Q Q2)[99]? = some ((vl_E sz D q0 q1 Q Q2 adK adV ab b).2.1 99, e) ∧ vl_q e (fv_cell (vl_E sz D q0 q1 Q Q2 adK adV ab b) vl_M t') := vl_of (t := .inr (0, 40, 14, 0)) rfl rfl (Or.inr (Or.inl ⟨_, _, _, _, rfl, rfl, fun j hj => by
  rw [vl_arr hj]
  rfl⟩))
theorem vl_k100 : ∀ t', fv_tab[100]? = some t' → ∃ e, (vl_ws D q0 q1 Q Q2)[100]? = some ((vl_E sz D q0 q1 Q Q2 adK adV ab b).2.1 100, e) ∧ vl_q e (fv_cell (vl_E sz D q0 q1 Q Q2 adK adV ab b) vl_M t') := vl_of (t := .inl (3, [(0, 15, 0), (0, 15, 1), (1, 101, 0)])) rfl rfl (Or.inl rfl)
theorem vl_k101 : ∀ t', fv_tab[101]? = some t' → ∃ e, (vl_ws D q0 q1 Q Q2)[101]? = some ((vl_E sz D q0 q1 Q Q2 adK adV ab b).2.1 101, e) ∧ vl_q e (fv_cell (vl_E sz D q0 q1 Q Q2 adK adV ab b) vl_M t') := vl_of (t := .inr (0, 40, 16, 0)) rfl rfl (Or.inr (Or.inl ⟨_, _, _, _, rfl, rfl, fun j hj => by
  rw [vl_arr hj]
  rfl⟩))
theorem vl_k102 : ∀ t', fv_tab[102]? = some t' → ∃ e, (vl_ws D q0 q1 Q Q2)[102]? = some ((vl_E sz D q0 q1 Q Q2 adK adV ab b).2.1 102, e) ∧ vl_q e (fv_cell (vl_E sz D q0 q1 Q Q2 adK adV ab b) vl_M t') := vl_of (t := .inl (3, [(0, 17, 0), (0, 17, 1), (1, 103, 0)])) rfl rfl (Or.inl rfl)
theorem vl_k103 : ∀ t', fv_tab[103]? = some t' → ∃ e, (vl_ws D q0 q1 Q Q2)[103]? = some ((vl_E sz D q0 q1 Q Q2 adK adV ab b).2.1 103, e) ∧ vl_q e (fv_cell (vl_E sz D q0 q1 Q Q2 adK adV ab b) vl_M t') := vl_of (t := .inr (0, 40, 18, 0)) rfl rfl (Or.inr (Or.inl ⟨_, _, _, _, rfl, rfl, fun j hj => by
  rw [vl_arr hj]
  rfl⟩))
theorem vl_k104 : ∀ t', fv_tab[104]? = some t' → ∃ e, (vl_ws D q0 q1 Q Q2)[104]? = some ((vl_E sz D q0 q1 Q Q2 adK adV ab b).2.1 104, e) ∧ vl_q e (fv_cell (vl_E sz D q0 q1 Q Q2 adK adV ab b) vl_M t') := vl_of (t := .inl (3, [(0, 19, 0), (0, 19, 1), (1, 105, 0)])) rfl rfl (Or.inl rfl)
theorem vl_k105 : ∀ t', fv_tab[105]? = some t' → ∃ e, (vl_ws D q0 q1 Q Q2)[105]? = some ((vl_E sz D q0 q1 Q Q2 adK adV ab b).2.1 105, e) ∧ vl_q e (fv_cell (vl_E sz D q0 q1 Q Q2 adK adV ab b) vl_M t') := vl_of (t := .inr (0, 40, 20, 0)) rfl rfl (Or.inr (Or.inl ⟨_, _, _, _, rfl, rfl, fun j hj => by
  rw [vl_arr hj]
  rfl⟩))
theorem vl_k106 : ∀ t', fv_tab[106]? = some t' → ∃ e, (vl_ws D q0 q1 Q Q2)[106]? = some ((vl_E sz D q0 q1 Q Q2 adK adV ab b).2.1 106, e) ∧ vl_q e (fv_cell (vl_E sz D q0 q1 Q Q2 adK adV ab b) vl_M t') := vl_of (t := .inl (7, [(1, 107, 0), (1, 108, 0), (1, 109, 0), (0, 21, 3), (1, 110, 0), (1, 111, 0), (1, 112, 0), (1, 113, 0), (0, 21, 8), (0, 21, 9), (0, 21, 10), (1, 114, 0), (0, 21, 12), (0, 21, 13), (0, 21, 14), (0, 21, 15), (2, 21, 16), (1, 115, 0), (1, 116, 0), (1, 117, 0), (1, 118, 0), (1, 119, 0), (1, 120, 0), (1, 121, 0), (1, 122, 0)])) rfl rfl (Or.inl (by
  have hc : fv_comb (vl_M 21 16) (vl_M 21 (16 + 1)) = 0 := by decide +kernel
  show _ = (Sum.inr (7, [.ref (Q2 0), .ref (Q2 1), .ref (Q2 2), .int 0, .ref (Q2 3), .ref (Q2 4), .ref (Q2 5), .ref (Q2 6), .int 0, .int 0, .int 0, .ref (Q2 7), .int 0, .int 0, .int 0, .int 0, .long (fv_comb (vl_M 21 16) (vl_M 21 (16 + 1))), .ref (Q2 8), .ref (Q2 9), .ref (Q2 10), .ref (Q2 11), .ref (Q2 12), .ref (Q2 13), .ref (Q2 14), .ref (Q2 15)]) : va_E)
  rw [hc]))
theorem vl_k107 : ∀ t', fv_tab[107]? = some t' → ∃ e, (vl_ws D q0 q1 Q Q2)[107]? = some ((vl_E sz D q0 q1 Q Q2 adK adV ab b).2.1 107, e) ∧ vl_q e (fv_cell (vl_E sz D q0 q1 Q Q2 adK adV ab b) vl_M t') := vl_of (t := .inr (0, 114, 22, 0)) rfl rfl (Or.inr (Or.inl ⟨_, _, _, _, rfl, rfl, fun j hj => by
  rw [vl_arr hj, Nat.zero_add]
  rfl⟩))
theorem vl_k108 : ∀ t', fv_tab[108]? = some t' → ∃ e, (vl_ws D q0 q1 Q Q2)[108]? = some ((vl_E sz D q0 q1 Q Q2 adK adV ab b).2.1 108, e) ∧ vl_q e (fv_cell (vl_E sz D q0 q1 Q Q2 adK adV ab b) vl_M t') := vl_of (t := .inr (0, 114, 23, 0)) rfl rfl (Or.inr (Or.inl ⟨_, _, _, _, rfl, rfl, fun j hj => by
  rw [vl_arr hj]
  rfl⟩))
theorem vl_k109 : ∀ t', fv_tab[109]? = some t' → ∃ e, (vl_ws D q0 q1 Q Q2)[109]? = some ((vl_E sz D q0 q1 Q Q2 adK adV ab b).2.1 109, e) ∧ vl_q e (fv_cell (vl_E sz D q0 q1 Q Q2 adK adV ab b) vl_M t') := vl_of (t := .inr (0, 114, 24, 0)) rfl rfl (Or.inr (Or.inl ⟨_, _, _, _, rfl, rfl, fun j hj => by
  rw [vl_arr hj]
  rfl⟩))
theorem vl_k110 : ∀ t', fv_tab[110]? = some t' → ∃ e, (vl_ws D q0 q1 Q Q2)[110]? = some ((vl_E sz D q0 q1 Q Q2 adK adV ab b).2.1 110, e) ∧ vl_q e (fv_cell (vl_E sz D q0 q1 Q Q2 adK adV ab b) vl_M t') := vl_of (t := .inr (0, 7, 25, 0)) rfl rfl (Or.inr (Or.inl ⟨_, _, _, _, rfl, rfl, fun j hj => by
  rw [vl_arr hj]
  rfl⟩))
theorem vl_k111 : ∀ t', fv_tab[111]? = some t' → ∃ e, (vl_ws D q0 q1 Q Q2)[111]? = some ((vl_E sz D q0 q1 Q Q2 adK adV ab b).2.1 111, e) ∧ vl_q e (fv_cell (vl_E sz D q0 q1 Q Q2 adK adV ab b) vl_M t') := vl_of (t := .inr (0, 8, 26, 0)) rfl rfl (Or.inr (Or.inl ⟨_, _, _, _, rfl, rfl, fun j hj => by
  rw [vl_arr hj]
  rfl⟩))
theorem vl_k112 : ∀ t', fv_tab[112]? = some t' → ∃ e, (vl_ws D q0 q1 Q Q2)[112]? = some ((vl_E sz D q0 q1 Q Q2 adK adV ab b).2.1 112, e) ∧ vl_q e (fv_cell (vl_E sz D q0 q1 Q Q2 adK adV ab b) vl_M t') := vl_of (t := .inr (0, 5, 27, 0)) rfl rfl (Or.inr (Or.inl ⟨_, _, _, _, rfl, rfl, fun j hj => by
  rw [vl_arr hj]
  rfl⟩))
theorem vl_k113 : ∀ t', fv_tab[113]? = some t' → ∃ e, (vl_ws D q0 q1 Q Q2)[113]? = some ((vl_E sz D q0 q1 Q Q2 adK adV ab b).2.1 113, e) ∧ vl_q e (fv_cell (vl_E sz D q0 q1 Q Q2 adK adV ab b) vl_M t') := vl_of (t := .inr (0, 5, 28, 0)) rfl rfl (Or.inr (Or.inl ⟨_, _, _, _, rfl, rfl, fun j hj => by
  rw [vl_arr hj]
  rfl⟩))
theorem vl_k114 : ∀ t', fv_tab[114]? = some t' → ∃ e, (vl_ws D q0 q1 Q Q2)[114]? = some ((vl_E sz D q0 q1 Q Q2 adK adV ab b).2.1 114, e) ∧ vl_q e (fv_cell (vl_E sz D q0 q1 Q Q2 adK adV ab b) vl_M t') := vl_of (t := .inr (0, 120, 29, 0)) rfl rfl (Or.inr (Or.inl ⟨_, _, _, _, rfl, rfl, fun j hj => by
  rw [vl_arr hj]
  rfl⟩))
theorem vl_k115 : ∀ t', fv_tab[115]? = some t' → ∃ e, (vl_ws D q0 q1 Q Q2)[115]? = some ((vl_E sz D q0 q1 Q Q2 adK adV ab b).2.1 115, e) ∧ vl_q e (fv_cell (vl_E sz D q0 q1 Q Q2 adK adV ab b) vl_M t') := vl_of (t := .inr (1, 56, 30, 0)) rfl rfl (Or.inr (Or.inl ⟨_, _, _, _, rfl, rfl, fun j hj => by
  rw [vl_arr hj, Nat.zero_add]
  rfl⟩))
theorem vl_k116 : ∀ t', fv_tab[116]? = some t' → ∃ e, (vl_ws D q0 q1 Q Q2)[116]? = some ((vl_E sz D q0 q1 Q Q2 adK adV ab b).2.1 116, e) ∧ vl_q e (fv_cell (vl_E sz D q0 q1 Q Q2 adK adV ab b) vl_M t') := vl_of (t := .inr (1, 24, 31, 0)) rfl rfl (Or.inr (Or.inl ⟨_, _, _, _, rfl, rfl, fun j hj => by
  rw [vl_arr hj, Nat.zero_add]
  rfl⟩))
theorem vl_k117 : ∀ t', fv_tab[117]? = some t' → ∃ e, (vl_ws D q0 q1 Q Q2)[117]? = some ((vl_E sz D q0 q1 Q Q2 adK adV ab b).2.1 117, e) ∧ vl_q e (fv_cell (vl_E sz D q0 q1 Q Q2 adK adV ab b) vl_M t') := vl_of (t := .inr (1, 16, 32, 0)) rfl rfl (Or.inr (Or.inl ⟨_, _, _, _, rfl, rfl, fun j hj => by
  rw [vl_arr hj, Nat.zero_add]
  rfl⟩))
theorem vl_k118 : ∀ t', fv_tab[118]? = some t' → ∃ e, (vl_ws D q0 q1 Q Q2)[118]? = some ((vl_E sz D q0 q1 Q Q2 adK adV ab b).2.1 118, e) ∧ vl_q e (fv_cell (vl_E sz D q0 q1 Q Q2 adK adV ab b) vl_M t') := vl_of (t := .inr (1, 24, 33, 0)) rfl rfl (Or.inr (Or.inl ⟨_, _, _, _, rfl, rfl, fun j hj => by
  rw [vl_arr hj, Nat.zero_add]
  rfl⟩))
theorem vl_k119 : ∀ t', fv_tab[119]? = some t' → ∃ e, (vl_ws D q0 q1 Q Q2)[119]? = some ((vl_E sz D q0 q1 Q Q2 adK adV ab b).2.1 119, e) ∧ vl_q e (fv_cell (vl_E sz D q0 q1 Q Q2 adK adV ab b) vl_M t') := vl_of (t := .inr (0, 4, 34, 0)) rfl rfl (Or.inr (Or.inl ⟨_, _, _, _, rfl, rfl, fun j hj => by
  rw [vl_arr hj]
  rfl⟩))
theorem vl_k120 : ∀ t', fv_tab[120]? = some t' → ∃ e, (vl_ws D q0 q1 Q Q2)[120]? = some ((vl_E sz D q0 q1 Q Q2 adK adV ab b).2.1 120, e) ∧ vl_q e (fv_cell (vl_E sz D q0 q1 Q Q2 adK adV ab b) vl_M t') := vl_of (t := .inr (0, 4, 35, 0)) rfl rfl (Or.inr (Or.inl ⟨_, _, _, _, rfl, rfl, fun j hj => by
  rw [vl_arr hj]
  rfl⟩))
theorem vl_k121 : ∀ t', fv_tab[121]? = some t' → ∃ e, (vl_ws D q0 q1 Q Q2)[121]? = some ((vl_E sz D q0 q1 Q Q2 adK adV ab b).2.1 121, e) ∧ vl_q e (fv_cell (vl_E sz D q0 q1 Q Q2 adK adV ab b) vl_M t') := vl_of (t := .inr (0, 160, 36, 0)) rfl rfl (Or.inr (Or.inl ⟨_, _, _, _, rfl, rfl, fun j hj => by
  rw [vl_arr hj]
  rfl⟩))
theorem vl_k122 : ∀ t', fv_tab[122]? = some t' → ∃ e, (vl_ws D q0 q1 Q Q2)[122]? = some ((vl_E sz D q0 q1 Q Q2 adK adV ab b).2.1 122, e) ∧ vl_q e (fv_cell (vl_E sz D q0 q1 Q Q2 adK adV ab b) vl_M t') := vl_of (t := .inr (0, 40, 37, 0)) rfl rfl (Or.inr (Or.inl ⟨_, _, _, _, rfl, rfl, fun j hj => by
  rw [vl_arr hj]
  rfl⟩))
theorem vl_all : ∀ k t, fv_tab[k]? = some t → ∃ e, (vl_ws D q0 q1 Q Q2)[k]? = some ((vl_E sz D q0 q1 Q Q2 adK adV ab b).2.1 k, e) ∧ vl_q e (fv_cell (vl_E sz D q0 q1 Q Q2 adK adV ab b) vl_M t) := by
  intro k
  by_cases hk : k < 123
  ·
    by_cases h0_123 : k < 61
    ·
      by_cases h0_61 : k < 30
      ·
        by_cases h0_30 : k < 15
        ·
          by_cases h0_15 : k < 7
          ·
            by_cases h0_7 : k < 3
            ·
              by_cases h0_3 : k < 1
              ·
                obtain rfl : k = 0 := by omega
                exact vl_k0
              ·
                by_cases h1_3 : k < 2
                ·
                  obtain rfl : k = 1 := by omega
                  exact vl_k1
                ·
                  obtain rfl : k = 2 := by omega
                  exact vl_k2
            ·
              by_cases h3_7 : k < 5
              ·
                by_cases h3_5 : k < 4
                ·
                  obtain rfl : k = 3 := by omega
                  exact vl_k3
                ·
                  obtain rfl : k = 4 := by omega
                  exact vl_k4
              ·
                by_cases h5_7 : k < 6
                ·
                  obtain rfl : k = 5 := by omega
                  exact vl_k5
                ·
                  obtain rfl : k = 6 := by omega
                  exact vl_k6
          ·
            by_cases h7_15 : k < 11
            ·
              by_cases h7_11 : k < 9
              ·
                by_cases h7_9 : k < 8
                ·
                  obtain rfl : k = 7 := by omega
                  exact vl_k7
                ·
                  obtain rfl : k = 8 := by omega
                  exact vl_k8
              ·
                by_cases h9_11 : k < 10
                ·
                  obtain rfl : k = 9 := by omega
                  exact vl_k9
                ·
                  obtain rfl : k = 10 := by omega
                  exact vl_k10
            ·
              by_cases h11_15 : k < 13
              ·
                by_cases h11_13 : k < 12
                ·
                  obtain rfl : k = 11 := by omega
                  exact vl_k11
                ·
                  obtain rfl : k = 12 := by omega
                  exact vl_k12
              ·
                by_cases h13_15 : k < 14
                ·
                  obtain rfl : k = 13 := by omega
                  exact vl_k13
                ·
                  obtain rfl : k = 14 := by omega
                  exact vl_k14
        ·
          by_cases h15_30 : k < 22
          ·
            by_cases h15_22 : k < 18
            ·
              by_cases h15_18 : k < 16
              ·
                obtain rfl : k = 15 := by omega
                exact vl_k15
              ·
                by_cases h16_18 : k < 17
                ·
                  obtain rfl : k = 16 := by omega
                  exact vl_k16
                ·
                  obtain rfl : k = 17 := by omega
                  exact vl_k17
            ·
              by_cases h18_22 : k < 20
              ·
                by_cases h18_20 : k < 19
                ·
                  obtain rfl : k = 18 := by omega
                  exact vl_k18
                ·
                  obtain rfl : k = 19 := by omega
                  exact vl_k19
              ·
                by_cases h20_22 : k < 21
                ·
                  obtain rfl : k = 20 := by omega
                  exact vl_k20
                ·
                  obtain rfl : k = 21 := by omega
                  exact vl_k21
          ·
            by_cases h22_30 : k < 26
            ·
              by_cases h22_26 : k < 24
              ·
                by_cases h22_24 : k < 23
                ·
                  obtain rfl : k = 22 := by omega
                  exact vl_k22
                ·
                  obtain rfl : k = 23 := by omega
                  exact vl_k23
              ·
                by_cases h24_26 : k < 25
                ·
                  obtain rfl : k = 24 := by omega
                  exact vl_k24
                ·
                  obtain rfl : k = 25 := by omega
                  exact vl_k25
            ·
              by_cases h26_30 : k < 28
              ·
                by_cases h26_28 : k < 27
                ·
                  obtain rfl : k = 26 := by omega
                  exact vl_k26
                ·
                  obtain rfl : k = 27 := by omega
                  exact vl_k27
              ·
                by_cases h28_30 : k < 29
                ·
                  obtain rfl : k = 28 := by omega
                  exact vl_k28
                ·
                  obtain rfl : k = 29 := by omega
                  exact vl_k29
      ·
        by_cases h30_61 : k < 45
        ·
          by_cases h30_45 : k < 37
          ·
            by_cases h30_37 : k < 33
            ·
              by_cases h30_33 : k < 31
              ·
                obtain rfl : k = 30 := by omega
                exact vl_k30
              ·
                by_cases h31_33 : k < 32
                ·
                  obtain rfl : k = 31 := by omega
                  exact vl_k31
                ·
                  obtain rfl : k = 32 := by omega
                  exact vl_k32
            ·
              by_cases h33_37 : k < 35
              ·
                by_cases h33_35 : k < 34
                ·
                  obtain rfl : k = 33 := by omega
                  exact vl_k33
                ·
                  obtain rfl : k = 34 := by omega
                  exact vl_k34
              ·
                by_cases h35_37 : k < 36
                ·
                  obtain rfl : k = 35 := by omega
                  exact vl_k35
                ·
                  obtain rfl : k = 36 := by omega
                  exact vl_k36
          ·
            by_cases h37_45 : k < 41
            ·
              by_cases h37_41 : k < 39
              ·
                by_cases h37_39 : k < 38
                ·
                  obtain rfl : k = 37 := by omega
                  exact vl_k37
                ·
                  obtain rfl : k = 38 := by omega
                  exact vl_k38
              ·
                by_cases h39_41 : k < 40
                ·
                  obtain rfl : k = 39 := by omega
                  exact vl_k39
                ·
                  obtain rfl : k = 40 := by omega
                  exact vl_k40
            ·
              by_cases h41_45 : k < 43
              ·
                by_cases h41_43 : k < 42
                ·
                  obtain rfl : k = 41 := by omega
                  exact vl_k41
                ·
                  obtain rfl : k = 42 := by omega
                  exact vl_k42
              ·
                by_cases h43_45 : k < 44
                ·
                  obtain rfl : k = 43 := by omega
                  exact vl_k43
                ·
                  obtain rfl : k = 44 := by omega
                  exact vl_k44
        ·
          by_cases h45_61 : k < 53
          ·
            by_cases h45_53 : k < 49
            ·
              by_cases h45_49 : k < 47
              ·
                by_cases h45_47 : k < 46
                ·
                  obtain rfl : k = 45 := by omega
                  exact vl_k45
                ·
                  obtain rfl : k = 46 := by omega
                  exact vl_k46
              ·
                by_cases h47_49 : k < 48
                ·
                  obtain rfl : k = 47 := by omega
                  exact vl_k47
                ·
                  obtain rfl : k = 48 := by omega
                  exact vl_k48
            ·
              by_cases h49_53 : k < 51
              ·
                by_cases h49_51 : k < 50
                ·
                  obtain rfl : k = 49 := by omega
                  exact vl_k49
                ·
                  obtain rfl : k = 50 := by omega
                  exact vl_k50
              ·
                by_cases h51_53 : k < 52
                ·
                  obtain rfl : k = 51 := by omega
                  exact vl_k51
                ·
                  obtain rfl : k = 52 := by omega
                  exact vl_k52
          ·
            by_cases h53_61 : k < 57
            ·
              by_cases h53_57 : k < 55
              ·
                by_cases h53_55 : k < 54
                ·
                  obtain rfl : k = 53 := by omega
                  exact vl_k53
                ·
                  obtain rfl : k = 54 := by omega
                  exact vl_k54
              ·
                by_cases h55_57 : k < 56
                ·
                  obtain rfl : k = 55 := by omega
                  exact vl_k55
                ·
                  obtain rfl : k = 56 := by omega
                  exact vl_k56
            ·
              by_cases h57_61 : k < 59
              ·
                by_cases h57_59 : k < 58
                ·
                  obtain rfl : k = 57 := by omega
                  exact vl_k57
                ·
                  obtain rfl : k = 58 := by omega
                  exact vl_k58
              ·
                by_cases h59_61 : k < 60
                ·
                  obtain rfl : k = 59 := by omega
                  exact vl_k59
                ·
                  obtain rfl : k = 60 := by omega
                  exact vl_k60
    ·
      by_cases h61_123 : k < 92
      ·
        by_cases h61_92 : k < 76
        ·
          by_cases h61_76 : k < 68
          ·
            by_cases h61_68 : k < 64
            ·
              by_cases h61_64 : k < 62
              ·
                obtain rfl : k = 61 := by omega
                exact vl_k61
              ·
                by_cases h62_64 : k < 63
                ·
                  obtain rfl : k = 62 := by omega
                  exact vl_k62
                ·
                  obtain rfl : k = 63 := by omega
                  exact vl_k63
            ·
              by_cases h64_68 : k < 66
              ·
                by_cases h64_66 : k < 65
                ·
                  obtain rfl : k = 64 := by omega
                  exact vl_k64
                ·
                  obtain rfl : k = 65 := by omega
                  exact vl_k65
              ·
                by_cases h66_68 : k < 67
                ·
                  obtain rfl : k = 66 := by omega
                  exact vl_k66
                ·
                  obtain rfl : k = 67 := by omega
                  exact vl_k67
          ·
            by_cases h68_76 : k < 72
            ·
              by_cases h68_72 : k < 70
              ·
                by_cases h68_70 : k < 69
                ·
                  obtain rfl : k = 68 := by omega
                  exact vl_k68
                ·
                  obtain rfl : k = 69 := by omega
                  exact vl_k69
              ·
                by_cases h70_72 : k < 71
                ·
                  obtain rfl : k = 70 := by omega
                  exact vl_k70
                ·
                  obtain rfl : k = 71 := by omega
                  exact vl_k71
            ·
              by_cases h72_76 : k < 74
              ·
                by_cases h72_74 : k < 73
                ·
                  obtain rfl : k = 72 := by omega
                  exact vl_k72
                ·
                  obtain rfl : k = 73 := by omega
                  exact vl_k73
              ·
                by_cases h74_76 : k < 75
                ·
                  obtain rfl : k = 74 := by omega
                  exact vl_k74
                ·
                  obtain rfl : k = 75 := by omega
                  exact vl_k75
        ·
          by_cases h76_92 : k < 84
          ·
            by_cases h76_84 : k < 80
            ·
              by_cases h76_80 : k < 78
              ·
                by_cases h76_78 : k < 77
                ·
                  obtain rfl : k = 76 := by omega
                  exact vl_k76
                ·
                  obtain rfl : k = 77 := by omega
                  exact vl_k77
              ·
                by_cases h78_80 : k < 79
                ·
                  obtain rfl : k = 78 := by omega
                  exact vl_k78
                ·
                  obtain rfl : k = 79 := by omega
                  exact vl_k79
            ·
              by_cases h80_84 : k < 82
              ·
                by_cases h80_82 : k < 81
                ·
                  obtain rfl : k = 80 := by omega
                  exact vl_k80
                ·
                  obtain rfl : k = 81 := by omega
                  exact vl_k81
              ·
                by_cases h82_84 : k < 83
                ·
                  obtain rfl : k = 82 := by omega
                  exact vl_k82
                ·
                  obtain rfl : k = 83 := by omega
                  exact vl_k83
          ·
            by_cases h84_92 : k < 88
            ·
              by_cases h84_88 : k < 86
              ·
                by_cases h84_86 : k < 85
                ·
                  obtain rfl : k = 84 := by omega
                  exact vl_k84
                ·
                  obtain rfl : k = 85 := by omega
                  exact vl_k85
              ·
                by_cases h86_88 : k < 87
                ·
                  obtain rfl : k = 86 := by omega
                  exact vl_k86
                ·
                  obtain rfl : k = 87 := by omega
                  exact vl_k87
            ·
              by_cases h88_92 : k < 90
              ·
                by_cases h88_90 : k < 89
                ·
                  obtain rfl : k = 88 := by omega
                  exact vl_k88
                ·
                  obtain rfl : k = 89 := by omega
                  exact vl_k89
              ·
                by_cases h90_92 : k < 91
                ·
                  obtain rfl : k = 90 := by omega
                  exact vl_k90
                ·
                  obtain rfl : k = 91 := by omega
                  exact vl_k91
      ·
        by_cases h92_123 : k < 107
        ·
          by_cases h92_107 : k < 99
          ·
            by_cases h92_99 : k < 95
            ·
              by_cases h92_95 : k < 93
              ·
                obtain rfl : k = 92 := by omega
                exact vl_k92
              ·
                by_cases h93_95 : k < 94
                ·
                  obtain rfl : k = 93 := by omega
                  exact vl_k93
                ·
                  obtain rfl : k = 94 := by omega
                  exact vl_k94
            ·
              by_cases h95_99 : k < 97
              ·
                by_cases h95_97 : k < 96
                ·
                  obtain rfl : k = 95 := by omega
                  exact vl_k95
                ·
                  obtain rfl : k = 96 := by omega
                  exact vl_k96
              ·
                by_cases h97_99 : k < 98
                ·
                  obtain rfl : k = 97 := by omega
                  exact vl_k97
                ·
                  obtain rfl : k = 98 := by omega
                  exact vl_k98
          ·
            by_cases h99_107 : k < 103
            ·
              by_cases h99_103 : k < 101
              ·
                by_cases h99_101 : k < 100
                ·
                  obtain rfl : k = 99 := by omega
                  exact vl_k99
                ·
                  obtain rfl : k = 100 := by omega
                  exact vl_k100
              ·
                by_cases h101_103 : k < 102
                ·
                  obtain rfl : k = 101 := by omega
                  exact vl_k101
                ·
                  obtain rfl : k = 102 := by omega
                  exact vl_k102
            ·
              by_cases h103_107 : k < 105
              ·
                by_cases h103_105 : k < 104
                ·
                  obtain rfl : k = 103 := by omega
                  exact vl_k103
                ·
                  obtain rfl : k = 104 := by omega
                  exact vl_k104
              ·
                by_cases h105_107 : k < 106
                ·
                  obtain rfl : k = 105 := by omega
                  exact vl_k105
                ·
                  obtain rfl : k = 106 := by omega
                  exact vl_k106
        ·
          by_cases h107_123 : k < 115
          ·
            by_cases h107_115 : k < 111
            ·
              by_cases h107_111 : k < 109
              ·
                by_cases h107_109 : k < 108
                ·
                  obtain rfl : k = 107 := by omega
                  exact vl_k107
                ·
                  obtain rfl : k = 108 := by omega
                  exact vl_k108
              ·
                by_cases h109_111 : k < 110
                ·
                  obtain rfl : k = 109 := by omega
                  exact vl_k109
                ·
                  obtain rfl : k = 110 := by omega
                  exact vl_k110
            ·
              by_cases h111_115 : k < 113
              ·
                by_cases h111_113 : k < 112
                ·
                  obtain rfl : k = 111 := by omega
                  exact vl_k111
                ·
                  obtain rfl : k = 112 := by omega
                  exact vl_k112
              ·
                by_cases h113_115 : k < 114
                ·
                  obtain rfl : k = 113 := by omega
                  exact vl_k113
                ·
                  obtain rfl : k = 114 := by omega
                  exact vl_k114
          ·
            by_cases h115_123 : k < 119
            ·
              by_cases h115_119 : k < 117
              ·
                by_cases h115_117 : k < 116
                ·
                  obtain rfl : k = 115 := by omega
                  exact vl_k115
                ·
                  obtain rfl : k = 116 := by omega
                  exact vl_k116
              ·
                by_cases h117_119 : k < 118
                ·
                  obtain rfl : k = 117 := by omega
                  exact vl_k117
                ·
                  obtain rfl : k = 118 := by omega
                  exact vl_k118
            ·
              by_cases h119_123 : k < 121
              ·
                by_cases h119_121 : k < 120
                ·
                  obtain rfl : k = 119 := by omega
                  exact vl_k119
                ·
                  obtain rfl : k = 120 := by omega
                  exact vl_k120
              ·
                by_cases h121_123 : k < 122
                ·
                  obtain rfl : k = 121 := by omega
                  exact vl_k121
                ·
                  obtain rfl : k = 122 := by omega
                  exact vl_k122
  · intro t ht
    have := (List.getElem?_eq_some_iff.mp ht).1
    exact absurd (show k < 123 from this) hk
end VLC
