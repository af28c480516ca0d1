theorem op_textN {E : fv_E} {N : Nat} {M : fv_M} (I : pInv M) (hN : 61 ≤ N) (hN9 : N ≤ 900) : pOp E mX6_text mX7_text [] M := by
  obtain ⟨⟨nb, nm, hG, hE, hT⟩, i2, ⟨L, hL, e4, e21, hby⟩, i4, i5, i6⟩ := I
  obtain ⟨b, hb⟩ : ∃ b : Nat → Nat, ∀ i, i < L → b i < 256 ∧ M 5 i = nI (b i) := ⟨fun i => (M 5 i).toNatClampNeg, fun i hi => by
    obtain ⟨-, c, hc, e⟩ := hby i hi
    show (M 5 i).toNatClampNeg < 256 ∧ M 5 i = nI (M 5 i).toNatClampNeg
    rw [e, nI_clamp (by omega)]
    exact ⟨hc, rfl⟩⟩
  have hb29 : ∀ i, i < L → b i < 256 ∧ M 29 i = nI (b i) := fun i hi => ⟨(hb i hi).1, ((hby i hi).1).trans (hb i hi).2⟩
  have hb8 := hG.2.1
  have hm8 := hG.2.2.2.1
  have hR := pTx_keep (b := b) (L := L) N 1 0 nb nm (M 0) (M 22) ⟨hG, hE, hT⟩
  have h1 := hX6_text (E := E) hN hN9 hL e4 hb hG hT
  have h2 : ∀ M1 : fv_M, pFr [0, 1, 4, 6, 7, 8] M M1 → fv_P E 13 mX7_text [.ref 106] M1 (some (.int (pTx b L N 1 0 nb nm (M 22)).1)) (fun M2 => pFr [21, 22, 24] M1 M2 ∧ M2 21 12 = 0 ∧ M2 21 3 = M1 21 3 ∧ ((pTx b L N 1 0 nb nm (M 22)).2.1 = true → M2 22 = (pTx b L N 1 0 nb nm (M 22)).2.2.2.2) ∧ ((pTx b L N 1 0 nb nm (M 22)).2.1 = false → ∀ i, i < 114 → M2 22 i = M 22 i)) := fun M1 hF => by
    have e22 : M1 22 = M 22 := hF 22 (by decide)
    have e21' : M1 21 = M 21 := hF 21 (by decide)
    have H1 : pHm b L M1 := ⟨hL, by rw [e21']; exact e21, by rw [hF 29 (by decide)]; exact hb29, by rw [hF 30 (by decide), hF 31 (by decide), hF 32 (by decide), hF 33 (by decide)]; exact i6⟩
    have h := hX7_text0 (E := E) (nb := nb) (nm := nm) hN (pTx b L) (pTx_s b L) H1 (by rw [e22]; exact (hE.n (by decide)).trans hG.1) hb8 (by rw [e22]; exact (hE.n (by decide)).trans hG.2.2.1) hm8
    rw [e22] at h
    exact h
  generalize pTx b L N 1 0 nb nm (M 0) = R at *
  generalize pTx b L N 1 0 nb nm (M 22) = Q at *
  obtain ⟨q1, q2, q3⟩ := hR
  refine pOp.of h1 (fun M1 hM1 => ?_)
  obtain ⟨f1, f2, f3, f4⟩ := hM1
  have h := h2 M1 f1
  rw [q1] at h
  refine h.mono (fun M2 hM2 => ?_)
  obtain ⟨g1, g2, g3, g4, g5⟩ := hM2
  have F : pFr [0, 1, 4, 6, 7, 8, 21, 22, 24] M M2 := (f1.mono (by decide)).tr (g1.mono (by decide))
  have a0 : M2 0 = M1 0 := g1 0 (by decide)
  refine ⟨?_, ?_, ⟨0, Nat.zero_le _, ?_, g2, fun i hi => absurd hi (Nat.not_lt_zero _)⟩, fun t ht => ?_, ?_, ?_⟩
  · rw [a0]
    cases hg : R.2.1 with
    | true =>
      obtain ⟨hGk, hEk, t, ht, eT⟩ := q3 hg
      have hEq := f3 hg
      exact ⟨R.2.2.1, R.2.2.2.1, hGk.cg hEq, by rw [g4 (q2.trans hg)]; exact hEk.tr hEq.sym, t, ht, (hEq.n (by decide)).trans eT⟩
    | false =>
      rw [f4 hg]
      exact ⟨nb, nm, hG, fun j hj => (g5 (q2.trans hg) j (pLv_lt hb8 hm8 hj)).trans (hE j hj), hT⟩
  · rw [g3, f1 21 (by decide), F 3 (by decide), F 2 (by decide), F 23 (by decide)]; exact i2
  · rw [g1 4 (by decide)]; exact f2
  · have hh : 13 + 2 * t ∉ [0, 1, 4, 6, 7, 8, 21, 22, 24] ∧ 14 + 2 * t ∉ [0, 1, 4, 6, 7, 8, 21, 22, 24] := by
      match t, ht with
      | 0, _ => decide
      | 1, _ => decide
      | 2, _ => decide
      | 3, _ => decide
      | n + 4, h => omega
    rw [F _ hh.1, F _ hh.2, F 34 (by decide), F 35 (by decide), F 36 (by decide)]; exact i4 t ht
  · rw [F 12 (by decide), F 25 (by decide)]; exact i5
  · rw [F 30 (by decide), F 31 (by decide), F 32 (by decide), F 33 (by decide)]; exact i6
theorem op_text {E : fv_E} {M : fv_M} (I : pInv M) : pOp E mX6_text mX7_text [] M := op_textN (N := 61) I (Nat.le_refl _) (by decide)
