theorem pGd_vote {nb nm m : Nat} {σ : Nat → Int32} (h : pGd σ nb nm) (hm : m < nm) : pGd (pVo nb m σ) nb nm := by
  obtain ⟨h1, h2, h3, h4, h5, h6, h7, h8, h9⟩ := h
  obtain ⟨c, hc, hcol⟩ := (h6 m hm).1
  obtain ⟨u, hu, eu⟩ := (h6 m hm).2.2.1
  obtain ⟨a, ha, ea⟩ := h7 c hc
  have ec : pCo σ m = c := by unfold pCo; rw [hcol, nI_clamp (by omega)]
  unfold pVo
  rw [ec]
  have keep : ∀ j, (∀ b, b < nb → j ≠ fB b 3 + c) → j ≠ 4 + c → j ≠ fM m 4 → (∀ b, b < nb → j ≠ fB b 1 ∧ j ≠ fB b 2) → pVote σ m c nb j = σ j := fun j a1 a2 a3 a4 => pVote_keep a1 a2 a3 a4
  refine ⟨(keep _ (fun b hb => by unfold fB; omega) (by omega) (by unfold fM; omega) (fun b hb => by unfold fB; omega)).trans h1, h2, (keep _ (fun b hb => by unfold fB; omega) (by omega) (by unfold fM; omega) (fun b hb => by unfold fB; omega)).trans h3, h4, fun b hb => ?_, fun m' hm' => ?_, fun c' hc' => ?_, fun i hi => ?_, ?_⟩
  · have g : ∀ b, b < nb → pG1 (pV3 σ m c nb) b := fun b hb => pV3_G1 h2 hc hcol hu eu h5 hb
    unfold pVote
    split
    · exact pEn_G1 (fun b hb => pG1_of (fun j j1 j2 => by unfold fB at j1 j2; exact fv_u_ne _ _ (by unfold fM; omega)) (g b hb)) hb
    · exact g b hb
  · obtain ⟨g0, g1, g2, g3, g4⟩ := h6 m' hm'
    have k : ∀ f, f < 4 → pVote σ m c nb (fM m' f) = σ (fM m' f) := fun f hf => keep _ (fun b hb => by unfold fB fM; omega) (by unfold fM; omega) (by unfold fM; omega) (fun b hb => by unfold fB fM; omega)
    refine ⟨by rw [k 0 (by decide)]; exact g0, by rw [k 1 (by decide)]; exact g1, by rw [k 2 (by decide)]; exact g2, by rw [k 3 (by decide)]; exact g3, ?_⟩
    by_cases hmm : m' = m
    · subst hmm
      unfold pVote
      split
      · rw [pEn_ne (fun b hb => by unfold fB fM; omega), fv_u_same]; exact ⟨1, by decide, rfl⟩
      · unfold pV3
        rw [fv_u_ne _ _ (by unfold fM; omega), pV2_ne (fun b hb => by unfold fB fM; omega)]; exact g4
    · rw [keep _ (fun b hb => by unfold fB fM; omega) (by unfold fM; omega) (by unfold fM; omega) (fun b hb => by unfold fB fM; omega)]; exact g4
  · by_cases hcc : c' = c
    · subst hcc
      have e : pVote σ m c' nb (4 + c') = pV3 σ m c' nb (4 + c') := by
        unfold pVote
        split
        · rw [pEn_ne (fun b hb => by unfold fB; omega), fv_u_ne _ _ (by unfold fM; omega)]
        · rfl
      rw [e, ← pV3_eq h2 hc' hcol hu eu ha ea h5, pMv_eq hc', fv_u_same]
      obtain ⟨s, hs, e1, e2⟩ := pFt_n (D := pDn σ m c' nb) (by omega) ea nb (fun b hb => by obtain ⟨x, y, z1, z2, _, z3⟩ := pDm_n (w := σ (fM m 2)) h2 (h5 b hb) hc'; exact ⟨y, by omega, z3⟩)
      rw [e2]
      exact ⟨min 9999 (a + s), by omega, rfl⟩
    · rw [keep _ (fun b hb => by unfold fB; omega) (by omega) (by unfold fM; omega) (fun b hb => by unfold fB; omega)]; exact h7 c' hc'
  · rw [keep _ (fun b hb => by unfold fB; omega) (by omega) (by unfold fM; omega) (fun b hb => by unfold fB; omega)]; exact h8 i hi
  · rw [keep _ (fun b hb => by unfold fB; omega) (by omega) (by unfold fM; omega) (fun b hb => by unfold fB; omega)]; exact h9
theorem pGr_G1 {σ : Nat → Int32} {c n b : Nat} (hc : c < 4) (hG : ∀ b, b < n → pG1 σ b) (hb : b < n) : pG1 (fN (pGr c) σ n) b := by
  have key : ∀ k, k ≤ n → ∀ b, b < n → pG1 (fN (pGr c) σ k) b := by
    intro k
    induction k with
    | zero => intro _; exact hG
    | succ k ih =>
      intro hk b hb
      have g := ih (by omega) b hb
      show pG1 (pGr c k (fN (pGr c) σ k)) b
      generalize fN (pGr c) σ k = τ at g ⊢
      by_cases hkb : b = k
      · subst hkb
        obtain ⟨g0, g1, g2, g3⟩ := g
        unfold pGr
        refine ⟨by rw [fv_u_ne _ _ (by unfold fB; omega)]; exact g0, by rw [fv_u_ne _ _ (by unfold fB; omega)]; exact g1, by rw [fv_u_ne _ _ (by unfold fB; omega)]; exact g2, fun z hz => ?_⟩
        by_cases hzc : z = c
        · subst hzc
          rw [fv_u_same]
          obtain ⟨x, hx, ex⟩ := g3 z hz
          obtain ⟨y, hy, ey⟩ := g2
          rw [ex, ey, nI_add, show (99 : Int32) = nI 99 from rfl, pMin_n (by omega) (by omega)]
          exact ⟨min 99 (x + y), by omega, rfl⟩
        · rw [fv_u_ne _ _ (by omega)]; exact g3 z hz
      · exact pG1_of (fun j j1 j2 => by unfold fB at j1 j2; exact fv_u_ne _ _ (by unfold fB; omega)) g
  exact key n (Nat.le_refl _) b hb
theorem pGd_sea {nb nm t : Nat} {σ : Nat → Int32} (h : pGd σ nb nm) (ht : t + 1 < 2 ^ 30) : pGd (pSea σ nb t) nb nm := by
  obtain ⟨h1, h2, h3, h4, h5, h6, h7, h8, h9⟩ := h
  have hc : t % 4 < 4 := Nat.mod_lt _ (by decide)
  have keep : ∀ j, j ≠ 0 → (∀ b, b < nb → j ≠ fB b 3 + t % 4) → pSea σ nb t j = σ j := fun j j0 hj => by
    unfold pSea
    rw [fv_u_ne _ _ j0]
    exact fN_keep (fun b τ hb => pGr_ne (hj b hb))
  refine ⟨(keep _ (by decide) (fun b hb => by unfold fB; omega)).trans h1, h2, (keep _ (by decide) (fun b hb => by unfold fB; omega)).trans h3, h4, fun b hb => ?_, fun m' hm' => ?_, fun c' hc' => ?_, fun i hi => ?_, ?_⟩
  · unfold pSea
    exact pG1_of (fun j j1 j2 => by unfold fB at j1 j2; exact fv_u_ne _ _ (by omega)) (pGr_G1 hc h5 hb)
  · exact pG2_of (fun j j1 j2 => by unfold fM at j1 j2; exact keep j (by omega) (fun b hb => by unfold fB; omega)) (h6 m' hm')
  · rw [keep _ (by omega) (fun b hb => by unfold fB; omega)]; exact h7 c' hc'
  · rw [keep _ (by omega) (fun b hb => by unfold fB; omega)]; exact h8 i hi
  · refine ⟨t + 1, ht, ?_⟩
    unfold pSea
    rw [fv_u_same, nI_1]
/-- how to see a state good that differs in a number -/
theorem pGd_u {nb nm i : Nat} {v : Int32} {σ : Nat → Int32} (h : pGd σ nb nm) (h1 : i ≠ 1) (h2 : i ≠ 2) (g1 : ∀ b, b < nb → pG1 (fv_u σ i v) b) (g2 : ∀ m, m < nm → pG2 (fv_u σ i v) m) (g3 : ∀ c, c < 4 → i = 4 + c → ∃ k, k < 10000 ∧ v = nI k) (g4 : ∀ z, z < 10 → i = 104 + z → v = -1 ∨ ∃ b, b < nb ∧ v = nI b) (g5 : i = 0 → ∃ t, t < 2 ^ 30 ∧ v = nI t) : pGd (fv_u σ i v) nb nm := by
  obtain ⟨k1, k2, k3, k4, k5, k6, k7, k8, k9⟩ := h
  refine ⟨(fv_u_ne _ _ (fun q => h1 q.symm)).trans k1, k2, (fv_u_ne _ _ (fun q => h2 q.symm)).trans k3, k4, g1, g2, fun c hc => ?_, fun z hz => ?_, ?_⟩
  · by_cases e : i = 4 + c
    · subst e; rw [fv_u_same]; exact g3 c hc rfl
    · rw [fv_u_ne _ _ (fun q => e q.symm)]; exact k7 c hc
  · by_cases e : i = 104 + z
    · subst e; rw [fv_u_same]; exact g4 z hz rfl
    · rw [fv_u_ne _ _ (fun q => e q.symm)]; exact k8 z hz
  · by_cases e : i = 0
    · subst e; rw [fv_u_same]; exact g5 rfl
    · rw [fv_u_ne _ _ (fun q => e q.symm)]; exact k9
theorem pGd_ub {nb nm b f : Nat} {v : Int32} {σ : Nat → Int32} (h : pGd σ nb nm) (hb : b < nb) (hf : f < 7) (hv : ∃ k, k < (if f = 0 then 7 else if f = 2 then 10 else 100) ∧ v = nI k) : pGd (fv_u σ (fB b f) v) nb nm := by
  have hb8 := h.2.1
  refine pGd_u h (by unfold fB; omega) (by unfold fB; omega) (fun b' hb' => ?_) (fun m hm => ?_) (fun c hc e => ?_) (fun z hz e => ?_) (fun e => ?_)
  · have g := h.2.2.2.2.1 b' hb'
    by_cases e : b' = b
    · subst e
      obtain ⟨g0, g1, g2, g3⟩ := g
      have at' : ∀ z, z < 7 → (∃ k, k < (if z = 0 then 7 else if z = 2 then 10 else 100) ∧ σ (fB b' z) = nI k) → ∃ k, k < (if z = 0 then 7 else if z = 2 then 10 else 100) ∧ fv_u σ (fB b' f) v (fB b' z) = nI k := fun z hz hg => by
        by_cases e : z = f
        · subst e; rw [fv_u_same]; exact hv
        · rw [fv_u_ne _ _ (by unfold fB; omega)]; exact hg
      refine ⟨at' 0 (by decide) g0, at' 1 (by decide) g1, at' 2 (by decide) g2, fun c hc => ?_⟩
      have e3 : fB b' 3 + c = fB b' (3 + c) := by unfold fB; omega
      have g3c := g3 c hc
      rw [e3] at g3c ⊢
      have := at' (3 + c) (by omega) (by rw [if_neg (by omega), if_neg (by omega)]; exact g3c)
      rw [if_neg (by omega), if_neg (by omega)] at this
      exact this
    · exact pG1_of (fun j j1 j2 => by unfold fB at j1 j2; exact fv_u_ne _ _ (by unfold fB; omega)) g
  · exact pG2_of (fun j j1 j2 => by unfold fM at j1 j2; exact fv_u_ne _ _ (by unfold fB; omega)) (h.2.2.2.2.2.1 m hm)
  · exfalso; unfold fB at e; omega
  · exfalso; unfold fB at e; omega
  · exfalso; unfold fB at e; omega
def pMm (f : Nat) : Nat := if f = 0 then 4 else if f = 1 then 100 else if f = 2 then 256 else if f = 3 then 5 else 2
theorem pGd_um {nb nm b f : Nat} {v : Int32} {σ : Nat → Int32} (h : pGd σ nb nm) (hb : b < nm) (hf : f < 5) (hv : ∃ k, k < pMm f ∧ v = nI k) : pGd (fv_u σ (fM b f) v) nb nm := by
  have hb8 := h.2.1
  have hm8 := h.2.2.2.1
  refine pGd_u h (by unfold fM; omega) (by unfold fM; omega) (fun b' hb' => ?_) (fun m hm => ?_) (fun c hc e => ?_) (fun z hz e => ?_) (fun e => ?_)
  · exact pG1_of (fun j j1 j2 => by unfold fB at j1 j2; exact fv_u_ne _ _ (by unfold fM; omega)) (h.2.2.2.2.1 b' hb')
  · have g := h.2.2.2.2.2.1 m hm
    by_cases e : m = b
    · subst e
      obtain ⟨g0, g1, g2, g3, g4⟩ := g
      have at' : ∀ z, z < 5 → (∃ k, k < pMm z ∧ σ (fM m z) = nI k) → ∃ k, k < pMm z ∧ fv_u σ (fM m f) v (fM m z) = nI k := fun z hz hg => by
        by_cases e : z = f
        · subst e; rw [fv_u_same]; exact hv
        · rw [fv_u_ne _ _ (by unfold fM; omega)]; exact hg
      exact ⟨at' 0 (by decide) g0, at' 1 (by decide) g1, at' 2 (by decide) g2, at' 3 (by decide) g3, at' 4 (by decide) g4⟩
    · exact pG2_of (fun j j1 j2 => by unfold fM at j1 j2; exact fv_u_ne _ _ (by unfold fM; omega)) g
  · exfalso; unfold fM at e; omega
  · exfalso; unfold fM at e; omega
  · exfalso; unfold fM at e; omega
theorem pGd_addB {nb nm k : Nat} {σ : Nat → Int32} (h : pGd σ nb nm) (hb : nb < 8) (hk : k < 7) : pGd (pAddB σ nb (nI k)) (nb + 1) nm := by
  obtain ⟨h1, h2, h3, h4, h5, h6, h7, h8, h9⟩ := h
  have keep : ∀ j, j ≠ 1 → (j < fB nb 0 ∨ fB nb 7 ≤ j) → pAddB σ nb (nI k) j = σ j := fun j j1 hj => by
    unfold pAddB
    rw [fv_u_ne _ _ j1, pHat_ne hj]
  refine ⟨by unfold pAddB; rw [fv_u_same, nI_1], by omega, (keep _ (by decide) (Or.inl (by unfold fB; omega))).trans h3, h4, fun b hb' => ?_, fun m hm => ?_, fun c hc => ?_, fun i hi => ?_, ?_⟩
  · by_cases e : b = nb
    · subst e
      have q : ∀ j, j ≠ 1 → pAddB σ b (nI k) j = pHat σ b (nI k) j := fun j j1 => fv_u_ne _ _ j1
      refine ⟨⟨k, hk, ?_⟩, ⟨2, by decide, ?_⟩, ⟨1, by decide, ?_⟩, fun c hc => ⟨0, by decide, ?_⟩⟩
      · rw [q _ (by unfold fB; omega)]; simp only [pHat, pFill, fv_u]; rw [if_neg (by unfold fB; omega), if_neg (by unfold fB; omega), if_neg (by unfold fB; omega), if_pos trivial]
      · rw [q _ (by unfold fB; omega)]; simp only [pHat, pFill, fv_u]; rw [if_neg (by unfold fB; omega), if_neg (by unfold fB; omega), if_pos trivial]; rfl
      · rw [q _ (by unfold fB; omega)]; simp only [pHat, pFill, fv_u]; rw [if_neg (by unfold fB; omega), if_pos trivial]; rfl
      · rw [q _ (by unfold fB; omega)]; simp only [pHat, pFill]; rw [if_pos (by unfold fB; omega)]; rfl
    · exact pG1_of (fun j j1 j2 => by unfold fB at j1 j2; exact keep j (by omega) (Or.inl (by unfold fB; omega))) (h5 b (by omega))
  · exact pG2_of (fun j j1 j2 => by unfold fM at j1 j2; exact keep j (by omega) (Or.inr (by unfold fB; omega))) (h6 m hm)
  · rw [keep _ (by omega) (Or.inl (by unfold fB; omega))]; exact h7 c hc
  · rw [keep _ (by omega) (Or.inr (by unfold fB; omega))]
    rcases h8 i hi with e | ⟨b, hb2, e⟩
    · exact Or.inl e
    · exact Or.inr ⟨b, by omega, e⟩
  · rw [keep _ (by decide) (Or.inl (by unfold fB; omega))]; exact h9
theorem pGd_addM {nb nm k : Nat} {σ : Nat → Int32} (h : pGd σ nb nm) (hb : nm < 8) (hk : k < 4) : pGd (pAddM σ nm (nI k)) nb (nm + 1) := by
  obtain ⟨h1, h2, h3, h4, h5, h6, h7, h8, h9⟩ := h
  have keep : ∀ j, j ≠ 2 → (j < fM nm 0 ∨ fM nm 5 ≤ j) → pAddM σ nm (nI k) j = σ j := fun j j1 hj => by
    unfold pAddM
    rw [fv_u_ne _ _ j1, pBeg_ne hj]
  refine ⟨(keep _ (by decide) (Or.inl (by unfold fM; omega))).trans h1, h2, by unfold pAddM; rw [fv_u_same, nI_1], by omega, fun b hb' => ?_, fun m hm => ?_, fun c hc => ?_, fun i hi => ?_, ?_⟩
  · exact pG1_of (fun j j1 j2 => by unfold fB at j1 j2; exact keep j (by omega) (Or.inl (by unfold fM; omega))) (h5 b hb')
  · by_cases e : m = nm
    · subst e
      have q : ∀ j, j ≠ 2 → pAddM σ m (nI k) j = pBeg σ m (nI k) j := fun j j1 => fv_u_ne _ _ j1
      refine ⟨⟨k, hk, ?_⟩, ⟨1, by decide, ?_⟩, ⟨0, by decide, ?_⟩, ⟨0, by decide, ?_⟩, ⟨0, by decide, ?_⟩⟩
      · rw [q _ (by unfold fM; omega)]; simp only [pBeg, fv_u]; rw [if_neg (by unfold fM; omega), if_neg (by unfold fM; omega), if_neg (by unfold fM; omega), if_neg (by unfold fM; omega), if_pos trivial]
      · rw [q _ (by unfold fM; omega)]; simp only [pBeg, fv_u]; rw [if_neg (by unfold fM; omega), if_neg (by unfold fM; omega), if_neg (by unfold fM; omega), if_pos trivial]; rfl
      · rw [q _ (by unfold fM; omega)]; simp only [pBeg, fv_u]; rw [if_neg (by unfold fM; omega), if_neg (by unfold fM; omega), if_pos trivial]; rfl
      · rw [q _ (by unfold fM; omega)]; simp only [pBeg, fv_u]; rw [if_neg (by unfold fM; omega), if_pos trivial]; rfl
      · rw [q _ (by unfold fM; omega)]; simp only [pBeg, fv_u]; rw [if_pos trivial]; rfl
    · exact pG2_of (fun j j1 j2 => by unfold fM at j1 j2; exact keep j (by omega) (Or.inl (by unfold fM; omega))) (h6 m (by omega))
  · rw [keep _ (by omega) (Or.inl (by unfold fM; omega))]; exact h7 c hc
  · rw [keep _ (by omega) (Or.inr (by unfold fM; omega))]; exact h8 i hi
  · rw [keep _ (by decide) (Or.inl (by unfold fM; omega))]; exact h9
theorem pGd_votes {nb nm : Nat} {σ : Nat → Int32} {row : Nat → Nat} (h : pGd σ nb nm) : ∀ k, (∀ i, i < k → row i < nm) → pGd (pVs σ row nb k) nb nm := by
  intro k
  induction k with
  | zero => intro _; exact h
  | succ k ih => intro hr; exact pGd_vote (ih (fun i hi => hr i (by omega))) (hr k (by omega))
