/-! THE INVARIANT of the law's loop: the class's numbers and the model's -/
def pI1 (σ τ : Nat → Int32) (nb nm : Nat) : Prop := pGd σ nb nm ∧ pEq nb nm τ σ ∧ ∃ t, t < 100000 ∧ σ 0 = nI t
def pI2 (f v : Int32) (σ τ : Nat → Int32) : Prop := v = f ∧ (f = 0 ∨ (f = 1 ∧ ∃ kb km, pI1 σ τ kb km))
def pI3 (l v : Int32) (p q : Nat → Int32) : Prop := ∃ L, L ≤ 120 ∧ l = nI L ∧ v = nI L ∧ ∀ i, i < L → q i = p i ∧ ∃ b, b < 256 ∧ p i = nI b
def pI4 (t : Nat) (s c w z x : Nat → Int32) : Prop := ∃ n, n ≤ 40 ∧ s 1 = nI n ∧ z t = nI n ∧ w t = s 0 ∧ ∀ i, i < 40 → x (40 * t + i) = c i
def pI5 (p q : Nat → Int32) : Prop := ∀ f, f < 7 → q f = p f
def pL0 : List Nat := [98, 105, 114, 100, 32, 32, 32, 32, 115, 119, 97, 110, 32, 32, 32, 32, 99, 114, 111, 119, 32, 32, 32, 32, 114, 97, 118, 101, 110, 32, 32, 32, 116, 101, 114, 110, 32, 32, 32, 32, 119, 114, 101, 110, 32, 32, 32, 32, 103, 117, 108, 108, 32, 32, 32, 32]
def pL1 : List Nat := [104, 97, 115, 32, 32, 32, 32, 32, 107, 101, 101, 112, 115, 32, 32, 32, 103, 114, 111, 119, 115, 32, 32, 32]
def pL2 : List Nat := [109, 111, 116, 105, 111, 110, 32, 32, 115, 101, 97, 115, 111, 110, 32, 32]
def pL3 : List Nat := [113, 117, 111, 114, 117, 109, 32, 32, 119, 97, 110, 116, 115, 32, 32, 32, 101, 102, 102, 101, 99, 116, 32, 32]
def pLs' (l : List Nat) (f : Nat → Int32) : Prop := ∀ i, i < l.length → f i = nI (l.getD i 0)
def pI6 (a b c e : Nat → Int32) : Prop := pLs' pL0 a ∧ pLs' pL1 b ∧ pLs' pL2 c ∧ pLs' pL3 e
def pInv (M : fv_M) : Prop := (∃ nb nm, pI1 (M 0) (M 22) nb nm) ∧ pI2 (M 3 3) (M 21 3) (M 2) (M 23) ∧ pI3 (M 4 0) (M 21 12) (M 5) (M 29) ∧ (∀ t, t < 4 → pI4 t (M (13 + 2 * t)) (M (14 + 2 * t)) (M 34) (M 35) (M 36)) ∧ pI5 (M 12) (M 25) ∧ pI6 (M 30) (M 31) (M 32) (M 33)
/-- regions that a call may leave otherwise, if it says what of them counts -/
def pRg : List Nat := [0, 1, 4, 6, 7, 8, 9, 10, 11, 12, 21, 22, 24, 25, 26, 27, 28, 37]
theorem pInv.all {M M' : fv_M} (I : pInv M) (F : pFr pRg M M') (h3 : M' 21 3 = M 21 3) (h12 : M' 21 12 = M 21 12) (h4 : M' 4 0 = M 4 0) (h0 : ∃ nb nm, pI1 (M' 0) (M' 22) nb nm) (h5 : pI5 (M' 12) (M' 25)) : pInv M' := by
  obtain ⟨i1, i2, i3, i4, i5, i6⟩ := I
  refine ⟨h0, ?_, ?_, fun t ht => ?_, h5, ?_⟩
  · rw [h3, F 3 (by decide), F 2 (by decide), F 23 (by decide)]; exact i2
  · rw [h12, h4, F 5 (by decide), F 29 (by decide)]; exact i3
  · have hh : 13 + 2 * t ∉ pRg ∧ 14 + 2 * t ∉ pRg := by
      match t, ht with
      | 0, _ => decide
      | 1, _ => decide
      | 2, _ => decide
      | 3, _ => decide
      | n + 4, h => omega
    rw [F _ hh.1, F _ hh.2, F 34 (by decide), F 35 (by decide), F 36 (by decide)]; exact i4 t ht
  · rw [F 30 (by decide), F 31 (by decide), F 32 (by decide), F 33 (by decide)]; exact i6
theorem pI5.up {p q : Nat → Int32} (h : pI5 p q) (f : Nat) : pI5 (fv_u p f (p f + 1)) (fv_u q f (q f + 1)) := fun g hg => by
  unfold fv_u
  by_cases e : g = f
  · subst e; rw [if_pos rfl, if_pos rfl, h g hg]
  · rw [if_neg e, if_neg e]; exact h g hg
abbrev pFd (M : fv_M) (f : Nat) : fv_M := fv_s M 12 (fv_u (M 12) f (M 12 f + 1))
abbrev pNd (M : fv_M) (f : Nat) : fv_M := fv_s M 25 (fv_u (M 25) f (M 25 f + 1))
theorem pFd_ne (M : fv_M) (f : Nat) {q : Nat} (h : q ≠ 12) : pFd M f q = M q := fv_s_ne _ _ h
theorem pFd_12 (M : fv_M) (f : Nat) : pFd M f 12 = fv_u (M 12) f (M 12 f + 1) := fv_s_same _ _ _
theorem pNd_ne (M : fv_M) (f : Nat) {q : Nat} (h : q ≠ 25) : pNd M f q = M q := fv_s_ne _ _ h
theorem pNd_25 (M : fv_M) (f : Nat) : pNd M f 25 = fv_u (M 25) f (M 25 f + 1) := fv_s_same _ _ _
def pOp (E : fv_E) (y y' : fv_Y) (args : List Value) (M : fv_M) : Prop := fv_C E 13 y (.ref 0 :: args) M (fun r M1 => ∃ v, r = some (.int v) ∧ fv_C E 13 y' (.ref 106 :: args) M1 (fun r2 M2 => r2 = some (.int v) ∧ pInv M2))
section POP
variable {E : fv_E} {y y' : fv_Y} {args : List Value} {M : fv_M} {v : Int32} {P : fv_M → Prop}
theorem pOp.of (h1 : fv_P E 13 y (.ref 0 :: args) M (some (.int v)) P) (h2 : ∀ M1, P M1 → fv_P E 13 y' (.ref 106 :: args) M1 (some (.int v)) pInv) : pOp E y y' args M := fv_C.mono h1 (fun _ M1 q => ⟨v, q.1, h2 M1 q.2⟩)
/-- a call that leaves all as it was, but for junk -/
def pJk : List Nat := [1, 6, 7, 8, 9, 10, 11]
def pJm : List Nat := [24, 26, 27, 28, 37]
theorem pOp.qry (I : pInv M) (h1 : fv_P E 13 y (.ref 0 :: args) M (some (.int v)) (pFr pJk M)) (h2 : ∀ M1, pFr pJk M M1 → fv_P E 13 y' (.ref 106 :: args) M1 (some (.int v)) (fun M2 => pFr (21 :: 22 :: pJm) M1 M2 ∧ M2 21 3 = M1 21 3 ∧ M2 21 12 = M1 21 12 ∧ ∀ nb nm, pI1 (M1 0) (M1 22) nb nm → pEq nb nm (M2 22) (M1 22))) : pOp E y y' args M :=
  pOp.of h1 (fun M1 hF => (h2 M1 hF).mono (fun M2 ⟨g1, g2, g3, g4⟩ => by
    obtain ⟨nb, nm, i1⟩ := I.1
    have i1' : pI1 (M1 0) (M1 22) nb nm := by rw [hF 0 (by decide), hF 22 (by decide)]; exact i1
    refine pInv.all I ((hF.mono (by decide)).tr (g1.mono (by decide))) (by rw [g2, hF 21 (by decide)]) (by rw [g3, hF 21 (by decide)]) (by rw [g1 4 (by decide), hF 4 (by decide)]) ⟨nb, nm, ?_⟩ ?_
    · rw [g1 0 (by decide)]
      exact ⟨i1'.1, (g4 nb nm i1').tr i1'.2.1, i1'.2.2⟩
    · rw [g1 12 (by decide), g1 25 (by decide), hF 12 (by decide), hF 25 (by decide)]; exact I.2.2.2.2.1))
/-- a call that answers a finding -/
theorem pInv.fd {f : Nat} {M0 M3 : fv_M} (I : pInv M) (hF : pFr pJk M M0) (g1 : pFr (22 :: pJm) (pFd M0 f) M3) (g2 : ∀ nb nm, pI1 (M 0) (M 22) nb nm → pEq nb nm (M3 22) (M 22)) : pInv (pNd M3 f) := by
  obtain ⟨nb, nm, i1⟩ := I.1
  have F1 : pFr pRg M (pFd M0 f) := (hF.mono (by decide)).s (by decide)
  have F2 : pFr pRg M (pNd M3 f) := (F1.tr (g1.mono (by decide))).s (by decide)
  have b21 : pNd M3 f 21 = M 21 := by rw [pNd_ne _ _ (by decide), g1 21 (by decide), pFd_ne _ _ (by decide)]; exact hF 21 (by decide)
  refine pInv.all I F2 (by rw [b21]) (by rw [b21]) (by rw [pNd_ne _ _ (by decide), g1 4 (by decide), pFd_ne _ _ (by decide), hF 4 (by decide)]) ⟨nb, nm, ?_⟩ ?_
  · rw [pNd_ne _ _ (by decide), pNd_ne _ _ (by decide), g1 0 (by decide), pFd_ne _ _ (by decide), hF 0 (by decide)]
    exact ⟨i1.1, (g2 nb nm i1).tr i1.2.1, i1.2.2⟩
  · rw [pNd_ne _ _ (by decide), pNd_25, g1 12 (by decide), g1 25 (by decide), pFd_12, pFd_ne _ _ (by decide), hF 12 (by decide), hF 25 (by decide)]
    exact I.2.2.2.2.1.up f
theorem pOp.badJ (f : Nat) (I : pInv M) (h1 : fv_P E 13 y (.ref 0 :: args) M (some (.int v)) (fun M1 => ∃ M0, pFr pJk M M0 ∧ M1 = pFd M0 f)) (h2 : ∀ M1, pFr (12 :: pJk) M M1 → fv_P E 13 y' (.ref 106 :: args) M1 (some (.int v)) (fun M2 => ∃ M3, pFr (22 :: pJm) M1 M3 ∧ (∀ nb nm, pI1 (M1 0) (M1 22) nb nm → pEq nb nm (M3 22) (M1 22)) ∧ M2 = pNd M3 f)) : pOp E y y' args M :=
  pOp.of h1 (fun M1 ⟨M0, hF, e⟩ => (h2 M1 (by rw [e]; exact (hF.mono (by decide)).s (by decide))).mono (fun M2 ⟨M3, g1, g2, e2⟩ => by
    subst e
    subst e2
    refine pInv.fd I hF g1 ?_
    rw [pFd_ne _ _ (by decide), pFd_ne _ _ (by decide), hF 0 (by decide), hF 22 (by decide)] at g2
    exact g2))
theorem pOp.bad (f : Nat) (I : pInv M) (h1 : fv_F E 13 y (.ref 0 :: args) M (some (.int v)) (pFd M f)) (h2 : ∀ M1, pFr [12] M M1 → fv_F E 13 y' (.ref 106 :: args) M1 (some (.int v)) (pNd M1 f)) : pOp E y y' args M :=
  fv_C.mono h1 (fun r M1 ⟨e1, e2⟩ => ⟨v, e1, fv_C.mono (h2 M1 (by rw [e2]; exact pFr.rfl'.s (by decide))) (fun r2 M2 ⟨q1, q2⟩ => ⟨q1, by
    subst e2
    subst q2
    exact pInv.fd I pFr.rfl' pFr.rfl' (fun nb nm _ => by rw [pFd_ne _ _ (by decide)]; exact pEq.rfl')⟩)⟩)
end POP
/-- contracts at the invariant's numbers -/
theorem hX6_fin {E : fv_E} {d : Nat} {M : fv_M} (f : Nat) (v : Int32) (hf : -1000001 - v = nI f) (h7 : f < 7) : fv_F E (d + 1) mX6_finding [.ref 0, .int v] M (some (.int v)) (pFd M f) := hX6_finding hf h7
theorem hX7_noL {E : fv_E} {d : Nat} {M : fv_M} (f : Nat) (v : Int32) (h7 : f < 7) (e : -1000001 - nI f = v) : fv_F E d mX7_no [.ref 106, .int (nI f)] M (some (.int v)) (pNd M f) := (hX7_no h7).v e
theorem hHb {E : fv_E} {d nb : Nat} {b : Int32} {M : fv_M} (hB : M 0 1 = nI nb) : fv_F E (d + 1) mX4_hasBird [.ref (aSt 0), .int b] M (some (.int (bI (0 ≤ b ∧ b ≤ nI nb - 1)))) M := (hX4_hasBird (by decide)).v (bI_congr (by rw [hB]))
theorem hHm {E : fv_E} {d nm : Nat} {b : Int32} {M : fv_M} (hM : M 0 2 = nI nm) : fv_F E (d + 1) mX4_hasMotion [.ref (aSt 0), .int b] M (some (.int (bI (0 ≤ b ∧ b ≤ nI nm - 1)))) M := (hX4_hasMotion (by decide)).v (bI_congr (by rw [hM]))
