theorem pAd_ge {b : Nat → Nat} {L j : Nat} : j ≤ pAd b L j := by
  unfold pAd
  by_cases h : pTS b L j < L
  · rw [if_pos h]; omega
  · rw [if_neg h]; exact Nat.le_refl _
theorem pNj_ge {b : Nat → Nat} {L most j : Nat} : j ≤ pNj b L most j := by
  unfold pNj
  by_cases h : pNum b L j most
  · rw [if_pos h]; exact pAd_ge
  · rw [if_neg h]; exact Nat.le_refl _
theorem pBj_ge {b : Nat → Nat} {L k most j : Nat} : j ≤ pBj b L k most j := by
  unfold pBj
  by_cases h : pWi b L (pTS b L j) = k
  · rw [if_pos h]; exact Nat.le_trans pAd_ge pNj_ge
  · rw [if_neg h]; exact Nat.le_refl _
theorem pAi_ge {b : Nat → Nat} {L j : Nat} : ∀ c, j ≤ pAi b L j c
  | 0 => Nat.le_refl _
  | c + 1 => Nat.le_trans (pAi_ge c) pAd_ge
theorem pRj_ge {b : Nat → Nat} {L j : Nat} : j ≤ pRj b L j := by
  unfold pRj
  by_cases h : pWi b L (pTS b L j) = 7
  · rw [if_pos h]; exact Nat.le_trans pAd_ge (pAi_ge _)
  · rw [if_neg h]; exact Nat.le_refl _
theorem pAd_w {b : Nat → Nat} {L j : Nat} (h : pWi b L (pTS b L j) ≠ 15) : pAd b L j = j + 1 := by
  unfold pWi at h
  by_cases q : pTo b L (pTS b L j) = 1
  · exact if_pos (pTo_1 q).1
  · rw [if_neg q] at h; exact absurd rfl h
theorem pBdj_le {b : Nat → Nat} {L nb j : Nat} (hj : j ≤ pTn b L) : pBdj b L nb j ≤ pTn b L := by
  have h2 : pB2 b L j ≤ pTn b L := pRj_le (pAd_le hj)
  have h3 : pB3 b L j ≤ pTn b L := pBj_le h2
  have h4 : pB4 b L j ≤ pTn b L := pBj_le h3
  unfold pBdj
  (repeat' split) <;> assumption
theorem pMmj_le {b : Nat → Nat} {L nb nm j : Nat} (hj : j ≤ pTn b L) : pMmj b L nb nm j ≤ pTn b L := by
  have h1 : pAd b L j ≤ pTn b L := pAd_le hj
  have h2 : pM2 b L j ≤ pTn b L := pAd_le h1
  have h3 : pM3 b L j ≤ pTn b L := pBj_le h2
  have h4 : pM4 b L nb j ≤ pTn b L := pBj_le h3
  have h5 : pM5 b L nb j ≤ pTn b L := pBj_le h4
  unfold pMmj
  (repeat' split) <;> assumption
theorem pIj_le {b : Nat → Nat} {L nb nm j : Nat} (hj : j ≤ pTn b L) : pIj b L nb nm j ≤ pTn b L := by
  unfold pIj
  by_cases h7 : pWi b L (pTS b L j) < 7
  · rw [if_pos h7]; exact pBdj_le hj
  · rw [if_neg h7]
    by_cases h10 : pWi b L (pTS b L j) = 10
    · rw [if_pos h10]; exact pMmj_le hj
    · rw [if_neg h10]
      by_cases h14 : pWi b L (pTS b L j) = 14
      · rw [if_pos h14]; exact pNj_le (pAd_le hj)
      · rw [if_neg h14]; exact hj
theorem pIj_gt {b : Nat → Nat} {L nb nm j : Nat} (h : pIo b L nb nm j) : j + 1 ≤ pIj b L nb nm j := by
  have hw : pWi b L (pTS b L j) ≠ 15 := by rcases h with h | h | h <;> omega
  have e1 := pAd_w hw
  unfold pIj
  rcases h with ⟨h7, hn, hR, h8, h9⟩ | ⟨h10, hn, hp, h11, h12, h13⟩ | ⟨h14, -⟩
  · rw [if_pos h7]
    unfold pBdj
    rw [if_pos hn, if_pos hR, if_pos h8, ← e1]
    exact Nat.le_trans (pRj_ge (b := b) (L := L)) (Nat.le_trans (pBj_ge (k := 8) (most := 99)) (pBj_ge (k := 9) (most := 9)))
  · rw [if_neg (show ¬ pWi b L (pTS b L j) < 7 by omega), if_pos h10]
    unfold pMmj
    rw [if_pos hn, if_pos hp, if_pos h11, if_pos h12, ← e1]
    exact Nat.le_trans (pAd_ge (b := b) (L := L)) (Nat.le_trans (pBj_ge (k := 11) (most := 99)) (Nat.le_trans (pBj_ge (k := 12) (most := 2 ^ nb - 1)) (pBj_ge (k := 13) (most := 4))))
  · rw [if_neg (show ¬ pWi b L (pTS b L j) < 7 by omega), if_neg (show ¬ pWi b L (pTS b L j) = 10 by omega), if_pos h14, ← e1]
    exact pNj_ge
/-- the counts behind an item -/
def pInb (b : Nat → Nat) (L nb j : Nat) : Nat := if pWi b L (pTS b L j) < 7 then nb + 1 else nb
def pInm (b : Nat → Nat) (L nm j : Nat) : Nat := if pWi b L (pTS b L j) = 10 then nm + 1 else nm
theorem pBst_ne {b : Nat → Nat} {L k most x j i : Nat} {σ : Nat → Int32} (h : i ≠ x) : pBst b L k most x j σ i = σ i := by
  unfold pBst
  by_cases q : pWi b L (pTS b L j) = k ∧ pNum b L (pAd b L j) most
  · rw [if_pos q, fv_u_ne _ _ h]
  · rw [if_neg q]
theorem pGs_lo {b : Nat → Nat} {L i j x : Nat} {σ : Nat → Int32} (h : x < 8) : ∀ n, pGs b L i j σ n x = σ x
  | 0 => rfl
  | n + 1 => (fv_u_ne _ _ (by unfold fB; omega)).trans (pGs_lo h n)
theorem pRs_lo {b : Nat → Nat} {L i j x : Nat} {σ : Nat → Int32} (h : x < 8) : pRs b L i j σ x = σ x := by
  unfold pRs
  by_cases q : pWi b L (pTS b L j) = 7
  · rw [if_pos q]; exact pGs_lo h _
  · rw [if_neg q]
theorem pAddB_lo {σ : Nat → Int32} {n : Nat} {k : Int32} : pAddB σ n k 1 = nI (n + 1) ∧ pAddB σ n k 2 = σ 2 := by
  refine ⟨?_, ?_⟩
  · unfold pAddB; rw [fv_u_same]; exact nI_add n 1
  · unfold pAddB; rw [fv_u_ne _ _ (by decide), pHat_ne (Or.inl (by unfold fB; omega))]
theorem pIst_n {b : Nat → Nat} {L nb nm j : Nat} {σ : Nat → Int32} (hB : σ 1 = nI nb) (hM : σ 2 = nI nm) (h : pIo b L nb nm j) : pIst b L nb nm j σ 1 = nI (pInb b L nb j) ∧ pIst b L nb nm j σ 2 = nI (pInm b L nm j) ∧ pInb b L nb j ≤ max nb 8 ∧ pInm b L nm j ≤ max nm 8 := by
  unfold pIst pInb pInm
  rcases h with ⟨h7, hn, hR, h8, h9⟩ | ⟨h10, hn, hp, h11, h12, h13⟩ | ⟨h14, hp⟩
  · rw [if_pos h7, if_pos h7, if_neg (show ¬ pWi b L (pTS b L j) = 10 by omega)]
    unfold pBds
    rw [pBst_ne (by unfold fB; omega), pBst_ne (by unfold fB; omega), pRs_lo (by decide), pBst_ne (by unfold fB; omega), pBst_ne (by unfold fB; omega), pRs_lo (by decide), pAddB_lo.1, pAddB_lo.2]
    exact ⟨rfl, hM, by omega, by omega⟩
  · rw [if_neg (show ¬ pWi b L (pTS b L j) < 7 by omega), if_pos h10, if_neg (show ¬ pWi b L (pTS b L j) < 7 by omega), if_pos h10]
    unfold pMms
    rw [pBst_ne (by unfold fM; omega), pBst_ne (by unfold fM; omega), pBst_ne (by unfold fM; omega), pBst_ne (by unfold fM; omega), pBst_ne (by unfold fM; omega), pBst_ne (by unfold fM; omega), pAddM_1]
    exact ⟨hB, by unfold pAddM; rw [fv_u_same]; exact nI_add nm 1, by omega, by omega⟩
  · rw [if_neg (show ¬ pWi b L (pTS b L j) < 7 by omega), if_neg (show ¬ pWi b L (pTS b L j) = 10 by omega), if_neg (show ¬ pWi b L (pTS b L j) < 7 by omega), if_neg (show ¬ pWi b L (pTS b L j) = 10 by omega)]
    unfold pLs1
    rw [if_pos hp]
    exact ⟨(fv_u_ne _ _ (by decide)).trans hB, (fv_u_ne _ _ (by decide)).trans hM, by omega, by omega⟩
