/-! STATES THAT ARE ALIKE where they are alive -/
def pEq (nb nm : Nat) (σ τ : Nat → Int32) : Prop := ∀ j, pLv nb nm j → σ j = τ j
section PEQ
variable {nb nm : Nat} {σ τ : Nat → Int32}
theorem pEq.rfl' : pEq nb nm σ σ := fun _ _ => rfl
theorem pEq.sym (h : pEq nb nm σ τ) : pEq nb nm τ σ := fun j hj => (h j hj).symm
theorem pEq.tr {ρ : Nat → Int32} (h : pEq nb nm σ τ) (h2 : pEq nb nm τ ρ) : pEq nb nm σ ρ := fun j hj => (h j hj).trans (h2 j hj)
theorem pEq.n (h : pEq nb nm σ τ) {j : Nat} (hj : j < 8) : σ j = τ j := h j (Or.inl hj)
theorem pEq.s (h : pEq nb nm σ τ) {j : Nat} (hj : j < 10) : σ (104 + j) = τ (104 + j) := h _ (Or.inr (Or.inr (Or.inr (by omega))))
theorem pEq.b (h : pEq nb nm σ τ) {b f : Nat} (hb : b < nb) (hf : f < 7) : σ (fB b f) = τ (fB b f) := h _ (Or.inr (Or.inl (by unfold fB; omega)))
theorem pEq.f (h : pEq nb nm σ τ) {b c : Nat} (hb : b < nb) (hc : c < 4) : σ (fB b 3 + c) = τ (fB b 3 + c) := h _ (Or.inr (Or.inl (by unfold fB; omega)))
theorem pEq.m (h : pEq nb nm σ τ) {m f : Nat} (hm : m < nm) (hf : f < 5) : σ (fM m f) = τ (fM m f) := h _ (Or.inr (Or.inr (Or.inl (by unfold fM; omega))))
theorem fv_u_cg (h : pEq nb nm σ τ) {i : Nat} {v w : Int32} (e : v = w) : pEq nb nm (fv_u σ i v) (fv_u τ i w) := fun j hj => by
  subst e
  unfold fv_u
  by_cases hi : j = i
  · rw [if_pos hi, if_pos hi]
  · rw [if_neg hi, if_neg hi]; exact h j hj
theorem fN_cg {g : Nat → (Nat → Int32) → Nat → Int32} : ∀ {n}, (∀ b, b < n → ∀ σ τ, pEq nb nm σ τ → pEq nb nm (g b σ) (g b τ)) → pEq nb nm σ τ → pEq nb nm (fN g σ n) (fN g τ n) := by
  intro n
  induction n with
  | zero => intro _ h; exact h
  | succ n ih => intro hg h; exact hg n (Nat.lt_succ_self n) _ _ (ih (fun b hb => hg b (by omega)) h)
theorem pFe_cg (h : pEq nb nm σ τ) {b : Nat} (hb : b < nb) : pFe σ b = pFe τ b := sN_congr (fun c hc => h.f hb hc)
theorem pAf_cg (h : pEq nb nm σ τ) : pAf σ nb = pAf τ nb := sN_congr (fun b hb => pFe_cg h hb)
theorem pFy_cg (h : pEq nb nm σ τ) : pFy σ nb = pFy τ nb := oN_congr (fun b hb => by rw [pFe_cg h hb, h.b hb (by decide)])
theorem pLw_cg (h : pEq nb nm σ τ) : pLw σ nm = pLw τ nm := oN_congr (fun m hm => by rw [h.m hm (by decide)])
theorem pCr_cg (h : pEq nb nm σ τ) (w : Int32) : pCr σ w nb = pCr τ w nb := sN_congr (fun b hb => bI_congr (by unfold pCrow; rw [h.b hb (by decide)]))
theorem pDr_eg (h : pEq nb nm σ τ) {b m c : Nat} {cr : Int32} (hb : b < nb) (hm : m < nm) (hc : c < 4) : pDr σ b m c cr = pDr τ b m c cr := pDr_cg hc (fun f hf => h.b hb hf) (h.m hm (by decide)) (h.m hm (by decide))
theorem pSd_cg (h : pEq nb nm σ τ) {m c : Nat} {w : Int32} (hm : m < nm) (hc : c < 4) : pSd σ nb m c w = pSd τ nb m c w := by
  unfold pSd pSdK
  rw [pCr_cg h]
  exact sN_congr (fun b hb => by rw [pDr_eg h hb hm hc])
theorem pWa_cg (h : pEq nb nm σ τ) {m : Nat} (hm : m < nm) : pWa σ nb m = pWa τ nb m := by unfold pWa; rw [h.m hm (by decide)]
theorem pPs_cg (h : pEq nb nm σ τ) {m c : Nat} (hm : m < nm) (hc : c < 4) : pPs σ nb m c ↔ pPs τ nb m c := by
  unfold pPs
  rw [pWa_cg h hm, pSd_cg h hm hc, pSd_cg h hm hc, h.m hm (by decide), h.m hm (by decide)]
theorem pCo_cg (h : pEq nb nm σ τ) {m : Nat} (hm : m < nm) : pCo σ m = pCo τ m := by unfold pCo; rw [h.m hm (by decide)]
theorem pCl_cg (h : pEq nb nm σ τ) (hc : pCl τ nm) : pCl σ nm := fun m hm => by obtain ⟨c, h1, h2⟩ := hc m hm; exact ⟨c, h1, (h.m hm (by decide)).trans h2⟩
theorem pKd_cg (h : pEq nb nm σ τ) (hc : pKd τ nb) : pKd σ nb := fun m hm => by obtain ⟨c, h1, h2⟩ := hc m hm; exact ⟨c, h1, (h.b hm (by decide)).trans h2⟩
theorem pGr_cg (h : pEq nb nm σ τ) {c b : Nat} (hb : b < nb) (hc : c < 4) : pEq nb nm (pGr c b σ) (pGr c b τ) := fv_u_cg h (by rw [h.f hb hc, h.b hb (by decide)])
theorem pSea_cg (h : pEq nb nm σ τ) {t : Nat} : pEq nb nm (pSea σ nb t) (pSea τ nb t) := by
  unfold pSea
  exact fv_u_cg (fN_cg (g := pGr (t % 4)) (fun b hb _ _ h2 => pGr_cg h2 hb (Nat.mod_lt _ (by decide))) h) rfl
theorem pFaB_cg (h : pEq nb nm σ τ) {m c b : Nat} {w cr : Int32} (hb : b < nb) (hm : m < nm) (hc : c < 4) : pEq nb nm (pFaB m c w cr b σ) (pFaB m c w cr b τ) := by
  unfold pFaB
  split
  · exact fv_u_cg h (by rw [h.f hb hc, pDr_eg h hb hm hc])
  · exact h
theorem pFal_cg (h : pEq nb nm σ τ) {m c n : Nat} {w cr : Int32} (hn : n ≤ nb) (hm : m < nm) (hc : c < 4) : pEq nb nm (pFal σ m c w cr n) (pFal τ m c w cr n) := fN_cg (fun b hb _ _ h2 => pFaB_cg h2 (by omega) hm hc) h
theorem pFaS_cg (h : pEq nb nm σ τ) {m c : Nat} {w cr : Int32} (hm : m < nm) (hc : c < 4) : pFaS σ m c w cr nb = pFaS τ m c w cr nb := sN_congr (fun b hb => by rw [pDr_eg (pFal_cg h (by omega) hm hc) hb hm hc])
theorem pV1_cg (h : pEq nb nm σ τ) {m c : Nat} (hm : m < nm) (hc : c < 4) : pEq nb nm (pV1 σ m c nb) (pV1 τ m c nb) := by
  unfold pV1
  rw [h.m hm (by decide), pCr_cg h]
  exact pFal_cg h (Nat.le_refl _) hm hc
theorem pVf_cg (h : pEq nb nm σ τ) {m c : Nat} (hm : m < nm) (hc : c < 4) : pVf σ m c nb = pVf τ m c nb := by
  unfold pVf
  rw [h.m hm (by decide), pCr_cg h, pFaS_cg h hm hc]
theorem pV2_cg (h : pEq nb nm σ τ) {m c : Nat} (hm : m < nm) (hc : c < 4) : pEq nb nm (pV2 σ m c nb) (pV2 τ m c nb) := by
  have h1 := pV1_cg h hm hc
  unfold pV2
  rw [pWa_cg h1 hm, pCr_cg h1]
  exact pFal_cg h1 (Nat.le_refl _) hm hc
theorem pVa_cg (h : pEq nb nm σ τ) {m c : Nat} (hm : m < nm) (hc : c < 4) : pVa σ m c nb = pVa τ m c nb := by
  have h1 := pV1_cg h hm hc
  unfold pVa
  rw [pWa_cg h1 hm, pCr_cg h1, pFaS_cg h1 hm hc]
theorem pV3_cg (h : pEq nb nm σ τ) {m c : Nat} (hm : m < nm) (hc : c < 4) : pEq nb nm (pV3 σ m c nb) (pV3 τ m c nb) := by
  have h2 := pV2_cg h hm hc
  unfold pV3
  exact fv_u_cg h2 (by rw [h2.n (j := 4 + c) (by omega), pVf_cg h hm hc, pVa_cg h hm hc])
theorem pVp_cg (h : pEq nb nm σ τ) {m c : Nat} (hm : m < nm) (hc : c < 4) : pVp σ m c nb ↔ pVp τ m c nb := by
  unfold pVp
  rw [pVf_cg h hm hc, pVa_cg h hm hc, (pV3_cg h hm hc).m hm (by decide)]
theorem pEn_cg (h : pEq nb nm σ τ) {e : Int32} : pEq nb nm (pEn σ e nb) (pEn τ e nb) := fN_cg (fun b hb σ τ h2 => by
  rw [pEnB_w, pEnB_w]
  exact fv_u_cg (fv_u_cg h2 (by rw [h2.b hb (by decide)])) (by rw [h2.b hb (by decide)])) h
theorem pVote_cg (h : pEq nb nm σ τ) {m c : Nat} (hm : m < nm) (hc : c < 4) : pEq nb nm (pVote σ m c nb) (pVote τ m c nb) := by
  have h3 := pV3_cg h hm hc
  have h4 : pEq nb nm (fv_u (pV3 σ m c nb) (fM m 4) 1) (fv_u (pV3 τ m c nb) (fM m 4) 1) := fv_u_cg h3 rfl
  unfold pVote
  by_cases hp : pVp τ m c nb ∧ pV3 τ m c nb (fM m 4) = 0
  · have hp2 : pVp σ m c nb ∧ pV3 σ m c nb (fM m 4) = 0 := ⟨(pVp_cg h hm hc).mpr hp.1, (h3.m hm (by decide)).trans hp.2⟩
    rw [if_pos hp, if_pos hp2, h4.m hm (by decide)]
    exact pEn_cg h4
  · have hp2 : ¬ (pVp σ m c nb ∧ pV3 σ m c nb (fM m 4) = 0) := fun q => hp ⟨(pVp_cg h hm hc).mp q.1, (h3.m hm (by decide)).symm.trans q.2⟩
    rw [if_neg hp, if_neg hp2]
    exact h3
theorem pVo_cg (h : pEq nb nm σ τ) {m : Nat} (hm : m < nm) (hc : pCl τ nm) : pEq nb nm (pVo nb m σ) (pVo nb m τ) := by
  unfold pVo
  rw [pCo_cg h hm]
  exact pVote_cg h hm (pCo_of hc hm).2
theorem pVs_cg (h : pEq nb nm σ τ) {row : Nat → Nat} (hb : nb ≤ 8) (hn : nm ≤ 8) (hK : pKd τ nb) (hc : pCl τ nm) : ∀ k, (∀ i, i < k → row i < nm) → pEq nb nm (pVs σ row nb k) (pVs τ row nb k) := by
  intro k
  induction k with
  | zero => intro _; exact h
  | succ k ih =>
    intro hr
    exact pVo_cg (ih (fun i hi => hr i (by omega))) (hr k (by omega)) (pVs_keep hb hn hK hc k (fun i hi => hr i (by omega))).2.2.2
theorem pVc_cg (h : pEq nb nm σ τ) {row : Nat → Nat} (hb : nb ≤ 8) (hn : nm ≤ 8) (hK : pKd τ nb) (hc : pCl τ nm) {k : Nat} (hr : ∀ i, i < k → row i < nm) : pVc σ row nb k = pVc τ row nb k := by
  refine sN_congr (fun i hi => bI_congr ?_)
  have h1 := pVs_cg h hb hn hK hc i (fun z hz => hr z (by omega))
  have h2 := (pVs_keep hb hn hK hc i (fun z hz => hr z (by omega))).2.2.2
  rw [pCo_cg h1 (hr i hi)]
  exact pVp_cg h1 (hr i hi) (pCo_of h2 (hr i hi)).2
theorem pPn_cg (h : pEq nb nm σ τ) (hc : pCl τ nm) : pPn σ nb nm = pPn τ nb nm := sN_congr (fun m hm => bI_congr (by show pPs σ nb m (pCo σ m) ↔ pPs τ nb m (pCo τ m); rw [pCo_cg h hm]; exact pPs_cg h hm (pCo_of hc hm).2))
theorem pSt_cg (h : pEq nb nm σ τ) : pSt σ 10 = pSt τ 10 := sN_congr (fun k hk => bI_congr (by rw [h.s hk]))
theorem pSB_eq (hb : nb ≤ 8) : pEq nb nm (pSB σ τ nb nm) τ := fun j hj => by rw [pSB_at, if_pos hj]
end PEQ
/-! GOOD STATES, whole -/
def pGd (σ : Nat → Int32) (nb nm : Nat) : Prop := σ 1 = nI nb ∧ nb ≤ 8 ∧ σ 2 = nI nm ∧ nm ≤ 8 ∧ (∀ b, b < nb → pG1 σ b) ∧ (∀ m, m < nm → pG2 σ m) ∧ (∀ c, c < 4 → ∃ k, k < 10000 ∧ σ (4 + c) = nI k) ∧ (∀ i, i < 10 → σ (104 + i) = -1 ∨ ∃ b, b < nb ∧ σ (104 + i) = nI b) ∧ ∃ t, t < 2 ^ 30 ∧ σ 0 = nI t
section PGD
variable {nb nm : Nat} {σ τ : Nat → Int32}
theorem pGd.gb (h : pGd σ nb nm) : pGb σ nb := ⟨h.1, h.2.1, h.2.2.2.2.1⟩
theorem pGd.K (h : pGd σ nb nm) : pKd σ nb := h.gb.K
theorem pGd.C (h : pGd σ nb nm) : pCl σ nm := fun m hm => (h.2.2.2.2.2.1 m hm).1
theorem pGd.cg (h : pGd τ nb nm) (e : pEq nb nm σ τ) : pGd σ nb nm := by
  obtain ⟨h1, h2, h3, h4, h5, h6, h7, h8, h9⟩ := h
  refine ⟨(e.n (by decide)).trans h1, h2, (e.n (by decide)).trans h3, h4, fun b hb => ?_, fun m hm => ?_, fun c hc => ?_, fun i hi => ?_, ?_⟩
  · obtain ⟨g0, g1, g2, g3⟩ := h5 b hb
    refine ⟨by rw [e.b hb (by decide)]; exact g0, by rw [e.b hb (by decide)]; exact g1, by rw [e.b hb (by decide)]; exact g2, fun c hc => by rw [e.f hb hc]; exact g3 c hc⟩
  · obtain ⟨g0, g1, g2, g3, g4⟩ := h6 m hm
    exact ⟨by rw [e.m hm (by decide)]; exact g0, by rw [e.m hm (by decide)]; exact g1, by rw [e.m hm (by decide)]; exact g2, by rw [e.m hm (by decide)]; exact g3, by rw [e.m hm (by decide)]; exact g4⟩
  · rw [e.n (by omega)]; exact h7 c hc
  · rw [e.s hi]; exact h8 i hi
  · rw [e.n (by decide)]; exact h9
/-- what a vote leaves good -/
theorem pEn_G1 {e : Int32} {n b : Nat} (hG : ∀ b, b < n → pG1 σ b) (hb : b < n) : pG1 (pEn σ e n) b := by
  have key : ∀ k, k ≤ n → ∀ b, b < n → pG1 (pEn σ e k) b := by
    intro k
    induction k with
    | zero => intro _; exact hG
    | succ k ih =>
      intro hk b hb
      obtain ⟨g0, g1, g2, g3⟩ := ih (by omega) b hb
      rw [show pEn σ e (k + 1) = pEnB e k (pEn σ e k) from rfl, pEnB_w]
      have ne : ∀ f, f ≠ 1 → f ≠ 2 → f < 7 → fv_u (fv_u (pEn σ e k) (fB k 2) (pGw e (pEn σ e k (fB k 2)))) (fB k 1) (pKw e (pEn σ e k (fB k 1))) (fB b f) = pEn σ e k (fB b f) := fun f h1 h2 h3 => by
        rw [fv_u_ne _ _ (by unfold fB; omega), fv_u_ne _ _ (by unfold fB; omega)]
      by_cases hkb : b = k
      · subst hkb
        obtain ⟨x1, hx1, ex1⟩ := g1
        obtain ⟨x2, hx2, ex2⟩ := g2
        refine ⟨by rw [ne 0 (by decide) (by decide) (by decide)]; exact g0, ?_, ?_, fun c hc => by rw [show fB b 3 + c = fB b (3 + c) by unfold fB; omega, ne (3 + c) (by omega) (by omega) (by omega), show fB b (3 + c) = fB b 3 + c by unfold fB; omega]; exact g3 c hc⟩
        · rw [fv_u_same, ex1]
          unfold pKw
          split
          · rw [nI_1, show (99 : Int32) = nI 99 from rfl, pMin_n (by omega) (by omega)]; exact ⟨min 99 (x1 + 1), by omega, rfl⟩
          split
          · rw [pMax_s (by omega)]
            split
            · next h => cases x1 with
              | zero => exact absurd h (by decide)
              | succ x1 => rw [nI_pred]; exact ⟨x1, by omega, rfl⟩
            · exact ⟨x1, hx1, rfl⟩
          · exact ⟨x1, hx1, rfl⟩
        · rw [fv_u_ne _ _ (by unfold fB; omega), fv_u_same, ex2]
          unfold pGw
          split
          · rw [nI_1, show (9 : Int32) = nI 9 from rfl, pMin_n (by omega) (by omega)]; exact ⟨min 9 (x2 + 1), by omega, rfl⟩
          split
          · rw [pMax_s (by omega)]
            split
            · next h => cases x2 with
              | zero => exact absurd h (by decide)
              | succ x2 => rw [nI_pred]; exact ⟨x2, by omega, rfl⟩
            · exact ⟨x2, hx2, rfl⟩
          · exact ⟨x2, hx2, rfl⟩
      · have ne2 : ∀ j, fB b 0 ≤ j → j < fB b 7 → fv_u (fv_u (pEn σ e k) (fB k 2) (pGw e (pEn σ e k (fB k 2)))) (fB k 1) (pKw e (pEn σ e k (fB k 1))) j = pEn σ e k j := fun j h1 h2 => by
          unfold fB at h1 h2
          rw [fv_u_ne _ _ (by unfold fB; omega), fv_u_ne _ _ (by unfold fB; omega)]
        refine ⟨by rw [ne2 _ (by unfold fB; omega) (by unfold fB; omega)]; exact g0, by rw [ne2 _ (by unfold fB; omega) (by unfold fB; omega)]; exact g1, by rw [ne2 _ (by unfold fB; omega) (by unfold fB; omega)]; exact g2, fun c hc => by rw [ne2 _ (by unfold fB; omega) (by unfold fB; omega)]; exact g3 c hc⟩
  exact key n (Nat.le_refl _) b hb
theorem pG1_of {b : Nat} (h : ∀ j, fB b 0 ≤ j → j < fB b 7 → τ j = σ j) (g : pG1 σ b) : pG1 τ b := by
  obtain ⟨g0, g1, g2, g3⟩ := g
  refine ⟨by rw [h _ (by unfold fB; omega) (by unfold fB; omega)]; exact g0, by rw [h _ (by unfold fB; omega) (by unfold fB; omega)]; exact g1, by rw [h _ (by unfold fB; omega) (by unfold fB; omega)]; exact g2, fun c hc => by rw [h _ (by unfold fB; omega) (by unfold fB; omega)]; exact g3 c hc⟩
theorem pG2_of {m : Nat} (h : ∀ j, fM m 0 ≤ j → j < fM m 5 → τ j = σ j) (g : pG2 σ m) : pG2 τ m := by
  obtain ⟨g0, g1, g2, g3, g4⟩ := g
  exact ⟨by rw [h _ (by unfold fM; omega) (by unfold fM; omega)]; exact g0, by rw [h _ (by unfold fM; omega) (by unfold fM; omega)]; exact g1, by rw [h _ (by unfold fM; omega) (by unfold fM; omega)]; exact g2, by rw [h _ (by unfold fM; omega) (by unfold fM; omega)]; exact g3, by rw [h _ (by unfold fM; omega) (by unfold fM; omega)]; exact g4⟩
end PGD
