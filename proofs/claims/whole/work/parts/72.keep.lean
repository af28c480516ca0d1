/-! WHAT A TEXT TELLS KEEPS: good states stay good, alike ones alike -/
section PKP
variable {b : Nat → Nat} {L nb nm : Nat} {σ τ : Nat → Int32}
theorem pI1.ub {i f : Nat} {v : Int32} (h : pI1 σ τ nb nm) (hb : i < nb) (hf : f < 7) (hv : ∃ k, k < (if f = 0 then 7 else if f = 2 then 10 else 100) ∧ v = nI k) : pI1 (fv_u σ (fB i f) v) (fv_u τ (fB i f) v) nb nm := by
  obtain ⟨hG, hE, t, ht, eT⟩ := h
  exact ⟨pGd_ub hG hb hf hv, fv_u_cg hE rfl, t, ht, (fv_u_ne _ _ (by unfold fB; omega)).trans eT⟩
theorem pI1.um {i f : Nat} {v : Int32} (h : pI1 σ τ nb nm) (hb : i < nm) (hf : f < 5) (hv : ∃ k, k < pMm f ∧ v = nI k) : pI1 (fv_u σ (fM i f) v) (fv_u τ (fM i f) v) nb nm := by
  obtain ⟨hG, hE, t, ht, eT⟩ := h
  exact ⟨pGd_um hG hb hf hv, fv_u_cg hE rfl, t, ht, (fv_u_ne _ _ (by unfold fM; omega)).trans eT⟩
theorem pI1.u0 {v : Nat} (h : pI1 σ τ nb nm) (hv : v < 100000) : pI1 (fv_u σ 0 (nI v)) (fv_u τ 0 (nI v)) nb nm := by
  obtain ⟨hG, hE, t, ht, eT⟩ := h
  refine ⟨pGd_u hG (by decide) (by decide) (fun b hb => pG1_of (fun j j1 _ => by unfold fB at j1; exact fv_u_ne _ _ (by omega)) (hG.2.2.2.2.1 b hb)) (fun m hm => pG2_of (fun j j1 _ => by unfold fM at j1; exact fv_u_ne _ _ (by omega)) (hG.2.2.2.2.2.1 m hm)) (fun c _ e => absurd e (by omega)) (fun z _ e => absurd e (by omega)) (fun _ => ⟨v, by omega, rfl⟩), fv_u_cg hE rfl, v, hv, fv_u_same _ _ _⟩
theorem pI1.bst {k most x j : Nat} (h : pI1 σ τ nb nm) (hu : ∀ v, v ≤ most → pI1 (fv_u σ x (nI v)) (fv_u τ x (nI v)) nb nm) : pI1 (pBst b L k most x j σ) (pBst b L k most x j τ) nb nm := by
  unfold pBst
  by_cases q : pWi b L (pTS b L j) = k ∧ pNum b L (pAd b L j) most
  · rw [if_pos q, if_pos q]; exact hu _ q.2.2
  · rw [if_neg q, if_neg q]; exact h
theorem pI1.gs {i j : Nat} (h : pI1 σ τ nb nm) (hi : i < nb) : ∀ n, n ≤ 4 → (∀ c, c < n → pNum b L (pAi b L j c) 99) → pI1 (pGs b L i j σ n) (pGs b L i j τ n) nb nm
  | 0, _, _ => h
  | n + 1, hn, hp => pI1.ub (pI1.gs h hi n (by omega) (fun c hc => hp c (by omega))) hi (by omega) ⟨_, by rw [if_neg (by omega), if_neg (by omega)]; have := (hp n (by omega)).2; omega, rfl⟩
theorem pI1.rs {i j : Nat} (h : pI1 σ τ nb nm) (hi : i < nb) : pI1 (pRs b L i j σ) (pRs b L i j τ) nb nm := by
  unfold pRs
  by_cases q : pWi b L (pTS b L j) = 7
  · rw [if_pos q, if_pos q]
    obtain ⟨w1, w2, w3⟩ := wT_all (fun c => decide (pNum b L (pAi b L (pAd b L j) c) 99)) 4
    exact pI1.gs h hi _ w1 (fun c hc => of_decide_eq_true (w2 c hc))
  · rw [if_neg q, if_neg q]; exact h
theorem pI1.item {j : Nat} (h : pI1 σ τ nb nm) (ho : pIo b L nb nm j) : pI1 (pIst b L nb nm j σ) (pIst b L nb nm j τ) (pInb b L nb j) (pInm b L nm j) := by
  unfold pIst pInb pInm
  rcases ho with ⟨h7, hn, -⟩ | ⟨h10, hn, hp, -⟩ | ⟨h14, hp⟩
  · rw [if_pos h7, if_pos h7, if_pos h7, if_neg (show ¬ pWi b L (pTS b L j) = 10 by omega)]
    obtain ⟨hG, hE, t, ht, eT⟩ := h
    have hA : pI1 (pAddB σ nb (nI (pWi b L (pTS b L j)))) (pAddB τ nb (nI (pWi b L (pTS b L j)))) (nb + 1) nm := ⟨pGd_addB hG hn h7, pAddB_cg hE, t, ht, pAddB_0.trans eT⟩
    have hR : pI1 (pRs b L nb (pAd b L j) (pAddB σ nb (nI (pWi b L (pTS b L j))))) (pRs b L nb (pAd b L j) (pAddB τ nb (nI (pWi b L (pTS b L j))))) (nb + 1) nm := hA.rs (by omega)
    unfold pBds
    refine pI1.bst (pI1.bst hR (fun v hv => hR.ub (by omega) (by decide) ⟨v, by rw [if_neg (by decide), if_neg (by decide)]; omega, rfl⟩)) (fun v hv => pI1.ub (pI1.bst hR (fun v hv => hR.ub (by omega) (by decide) ⟨v, by rw [if_neg (by decide), if_neg (by decide)]; omega, rfl⟩)) (by omega) (by decide) ⟨v, by rw [if_neg (by decide), if_pos rfl]; omega, rfl⟩)
  · rw [if_neg (show ¬ pWi b L (pTS b L j) < 7 by omega), if_pos h10, if_neg (show ¬ pWi b L (pTS b L j) < 7 by omega), if_pos h10, if_neg (show ¬ pWi b L (pTS b L j) < 7 by omega), if_pos h10]
    obtain ⟨hG, hE, t, ht, eT⟩ := h
    have hb8 := hG.2.1
    have hA : pI1 (pAddM σ nm (nI (pVn b L (pTS b L (pAd b L j))))) (pAddM τ nm (nI (pVn b L (pTS b L (pAd b L j))))) nb (nm + 1) := ⟨pGd_addM hG hn (by have := hp.2; omega), pAddM_cg hE, t, ht, pAddM_0.trans eT⟩
    have h1 := hA.bst (b := b) (L := L) (k := 11) (most := 99) (x := fM nm 1) (j := pM2 b L j) (fun v hv => hA.um (by omega) (by decide) ⟨v, by show v < 100; omega, rfl⟩)
    have h2 := h1.bst (b := b) (L := L) (k := 12) (most := 2 ^ nb - 1) (x := fM nm 2) (j := pM3 b L j) (fun v hv => h1.um (by omega) (by decide) ⟨v, by
      show v < 256
      have : 2 ^ nb ≤ 2 ^ 8 := Nat.pow_le_pow_right (by decide) hb8
      omega, rfl⟩)
    exact h2.bst (b := b) (L := L) (k := 13) (most := 4) (x := fM nm 3) (j := pM4 b L nb j) (fun v hv => h2.um (by omega) (by decide) ⟨v, by show v < 5; omega, rfl⟩)
  · rw [if_neg (show ¬ pWi b L (pTS b L j) < 7 by omega), if_neg (show ¬ pWi b L (pTS b L j) = 10 by omega), if_neg (show ¬ pWi b L (pTS b L j) < 7 by omega), if_neg (show ¬ pWi b L (pTS b L j) = 10 by omega), if_neg (show ¬ pWi b L (pTS b L j) < 7 by omega), if_neg (show ¬ pWi b L (pTS b L j) = 10 by omega)]
    unfold pLs1
    rw [if_pos hp, if_pos hp]
    exact h.u0 (by have := hp.2; omega)
theorem pTx_keep : ∀ (f k j nb nm : Nat) (σ τ : Nat → Int32), pI1 σ τ nb nm → (pTx b L f k j nb nm τ).1 = (pTx b L f k j nb nm σ).1 ∧ (pTx b L f k j nb nm τ).2.1 = (pTx b L f k j nb nm σ).2.1 ∧ ((pTx b L f k j nb nm σ).2.1 = true → pI1 (pTx b L f k j nb nm σ).2.2.2.2 (pTx b L f k j nb nm τ).2.2.2.2 (pTx b L f k j nb nm σ).2.2.1 (pTx b L f k j nb nm σ).2.2.2.1) := by
  intro f
  induction f with
  | zero => intro k j nb nm σ τ h; exact ⟨rfl, rfl, fun z => by cases z⟩
  | succ f ih =>
    intro k j nb nm σ τ h
    rw [pTx_s b L f k j nb nm σ, pTx_s b L f k j nb nm τ]
    by_cases ho : pIo b L nb nm j
    · rw [if_pos ho, if_pos ho]
      by_cases h0 : pTo b L (pTS b L (pIj b L nb nm j)) = 0
      · rw [if_pos h0, if_pos h0]
        exact ⟨rfl, rfl, fun _ => h.item ho⟩
      · rw [if_neg h0, if_neg h0]
        by_cases h3 : pTo b L (pTS b L (pIj b L nb nm j)) = 3
        · rw [if_pos h3, if_pos h3]
          exact ih _ _ _ _ _ _ (h.item ho)
        · rw [if_neg h3, if_neg h3]
          exact ⟨rfl, rfl, fun z => by cases z⟩
    · rw [if_neg ho, if_neg ho]
      exact ⟨rfl, rfl, fun z => by cases z⟩
/-- the answer: below 0, if not in order -/
theorem pTx_sg : ∀ (f k j nb nm : Nat) (σ : Nat → Int32), k + f ≤ 1000 → ((pTx b L f k j nb nm σ).2.1 = true → ∃ n, n < 1000 ∧ (pTx b L f k j nb nm σ).1 = nI n) ∧ ((pTx b L f k j nb nm σ).2.1 = false → ∃ p, p ≤ L ∧ (pTx b L f k j nb nm σ).1 = -1 - nI p) := by
  intro f
  induction f with
  | zero => intro k j nb nm σ _; exact ⟨fun z => (by cases z), fun _ => ⟨0, Nat.zero_le _, rfl⟩⟩
  | succ f ih =>
    intro k j nb nm σ hf
    rw [pTx_s b L f k j nb nm σ]
    have hS := pTS_le (b := b) (L := L) (pIj b L nb nm j)
    by_cases ho : pIo b L nb nm j
    · rw [if_pos ho]
      by_cases h0 : pTo b L (pTS b L (pIj b L nb nm j)) = 0
      · rw [if_pos h0]
        exact ⟨fun _ => ⟨k, by omega, rfl⟩, fun z => by cases z⟩
      · rw [if_neg h0]
        by_cases h3 : pTo b L (pTS b L (pIj b L nb nm j)) = 3
        · rw [if_pos h3]
          exact ih _ _ _ _ _ (by omega)
        · rw [if_neg h3]
          exact ⟨fun z => (by cases z), fun _ => ⟨_, hS, rfl⟩⟩
    · rw [if_neg ho]
      exact ⟨fun z => (by cases z), fun _ => ⟨_, hS, rfl⟩⟩
theorem pNeg_lt {p : Nat} (h : p ≤ 120) : (-1 - nI p : Int32) < 0 := of_decide_eq_true (fv_all1 (p := fun p => decide ((-1 - nI p : Int32) < 0)) (n := 121) (by decide +kernel) (by omega))
end PKP
