theorem pDr_cg {σ τ : Nat → Int32} {b m c : Nat} {cr : Int32} (hc : c < 4) (hf : ∀ f, f < 7 → τ (fB b f) = σ (fB b f)) (h0 : τ (fM m 0) = σ (fM m 0)) (h2 : τ (fM m 2) = σ (fM m 2)) : pDr τ b m c cr = pDr σ b m c cr := by
  have ef : ∀ z, z < 4 → τ (fB b 3 + z) = σ (fB b 3 + z) := fun z hz => by
    have := hf (3 + z) (by omega)
    rw [show fB b (3 + z) = fB b 3 + z by unfold fB; omega] at this
    exact this
  unfold pDr
  rw [pWish_v, pWish_v, ef c hc, hf 0 (by decide), hf 1 (by decide), h0, h2, show pFe τ b = pFe σ b from sN_congr (fun z hz => ef z hz)]
theorem pFal_get {σ : Nat → Int32} {m c : Nat} {w cr : Int32} {j : Nat} : ∀ n, (∀ b, b < n → pIn w b → j ≠ fB b 3 + c) → pFal σ m c w cr n j = σ j := by
  intro n
  induction n with
  | zero => intro _; rfl
  | succ n ih =>
    intro h
    show pFaB m c w cr n (pFal σ m c w cr n) j = σ j
    unfold pFaB
    split
    · next hi => rw [fv_u_ne _ _ (h n (by omega) hi)]; exact ih (fun b hb => h b (by omega))
    · exact ih (fun b hb => h b (by omega))
theorem pFal_dr {σ : Nat → Int32} {m c b : Nat} {w cr : Int32} (hb : b < 8) (hc : c < 4) : pDr (pFal σ m c w cr b) b m c cr = pDr σ b m c cr :=
  pDr_cg hc (fun f hf => pFal_get _ (fun b' hb' _ => by unfold fB; omega)) (pFal_get _ (fun b' hb' _ => by unfold fB fM; omega)) (pFal_get _ (fun b' hb' _ => by unfold fB fM; omega))
theorem pFaS_eq {σ : Nat → Int32} {m c n : Nat} {w cr : Int32} (hn : n ≤ 8) (hc : c < 4) : pFaS σ m c w cr n = pSdK σ m c w cr n := by
  unfold pFaS pSdK
  exact sN_congr (fun b hb => by rw [pFal_dr (by omega) hc])
theorem pFal_in {σ : Nat → Int32} {m c b : Nat} {w cr : Int32} (hc : c < 4) (hi : pIn w b) : ∀ n, n ≤ 8 → b < n → pFal σ m c w cr n (fB b 3 + c) = σ (fB b 3 + c) - pDr σ b m c cr := by
  intro n
  induction n with
  | zero => intro _ h; exact absurd h (Nat.not_lt_zero b)
  | succ n ih =>
    intro hn hb
    show pFaB m c w cr n (pFal σ m c w cr n) (fB b 3 + c) = _
    by_cases h : b = n
    · subst h
      unfold pFaB
      rw [if_pos hi, fv_u_same, pFal_dr (by omega) hc, pFal_get b (fun b' hb' _ => by unfold fB; omega)]
    · rw [pFaB_ne (by unfold fB; omega)]
      exact ih (by omega) (by omega)
theorem pFal_nin {σ : Nat → Int32} {m c b n : Nat} {w cr : Int32} (hc : c < 4) (hi : ¬ pIn w b) : pFal σ m c w cr n (fB b 3 + c) = σ (fB b 3 + c) :=
  pFal_get n (fun b' _ hp e => hi (by rw [show b = b' by unfold fB at e; omega]; exact hp))
def pLs (σ : Nat → Int32) (c : Nat) (D : Nat → Int32) (n : Nat) : Nat → Int32 := fN (fun b τ => fv_u τ (fB b 3 + c) (τ (fB b 3 + c) - D b)) σ n
theorem pLs_out {σ : Nat → Int32} {c n j : Nat} {D : Nat → Int32} (h : ∀ b, b < n → j ≠ fB b 3 + c) : pLs σ c D n j = σ j := fN_keep (fun b τ hb => fv_u_ne _ _ (h b hb))
theorem pLs_in {σ : Nat → Int32} {c b : Nat} {D : Nat → Int32} : ∀ n, b < n → pLs σ c D n (fB b 3 + c) = σ (fB b 3 + c) - D b := by
  intro n
  induction n with
  | zero => intro h; exact absurd h (Nat.not_lt_zero b)
  | succ n ih =>
    intro hb
    show fv_u (pLs σ c D n) (fB n 3 + c) (pLs σ c D n (fB n 3 + c) - D n) (fB b 3 + c) = _
    by_cases h : b = n
    · subst h
      rw [fv_u_same, pLs_out (fun b' hb' => by unfold fB; omega)]
    · rw [fv_u_ne _ _ (by unfold fB; omega)]
      exact ih (by omega)
/-- a motion's wants, and what each bird drops for it -/
abbrev pDn (σ : Nat → Int32) (m c n : Nat) : Nat → Int32 := fun b => pDm σ b c (σ (fM m 2)) n
theorem pTw_id (σ : Nat → Int32) (m : Nat) : pTw σ m (σ (fM m 2)) = σ := fv_u_id _ _
theorem pDn_t {σ : Nat → Int32} {m c n b : Nat} (hn : n ≤ 8) (hcol : σ (fM m 0) = nI c) (hc : c < 4) (hb : b < n) (hi : pIn (σ (fM m 2)) b) : pDr σ b m c (pCr σ (σ (fM m 2)) n) = pDn σ m c n b := by
  have h := pDr_m (σ := σ) (w := σ (fM m 2)) (w' := σ (fM m 2)) (k := b) (m := m) (c := c) (n := n) (fun i _ => ⟨fun q => ⟨fun _ => hi, fun _ => q⟩, fun q => q.mpr hi⟩) hb hn hcol hc
  rw [pTw_id] at h
  exact h
theorem pDn_f {σ : Nat → Int32} {m c n b u : Nat} (hn : n ≤ 8) (hu : u < 256) (eu : σ (fM m 2) = nI u) (hcol : σ (fM m 0) = nI c) (hc : c < 4) (hb : b < n) (hi : ¬ pIn (σ (fM m 2)) b) : pDr σ b m c (pCr σ (pWa σ n m) n) = pDn σ m c n b := by
  have h := pDr_m (σ := σ) (w := σ (fM m 2)) (w' := pWa σ n m) (k := b) (m := m) (c := c) (n := n) (fun i hi2 => by
    unfold pWa
    rw [eu] at hi ⊢
    rw [pWa_tb hn hu hi2]
    exact ⟨fun q => ⟨fun z => absurd z q, fun z => absurd z hi⟩, fun q z => hi (q.mp z)⟩) hb hn hcol hc
  rw [pTw_id] at h
  exact h
theorem pV1_cr {σ : Nat → Int32} {m c n : Nat} {w' : Int32} (hn : n ≤ 8) (hc : c < 4) : pCr (pV1 σ m c n) w' n = pCr σ w' n := sN_congr (fun i hi => bI_congr (by unfold pCrow; rw [pV1_ne (fun b hb => by unfold fB; omega)]))
theorem pV1_wa {σ : Nat → Int32} {m c n : Nat} (hn : n ≤ 8) (hc : c < 4) : pWa (pV1 σ m c n) n m = pWa σ n m := by unfold pWa; rw [pV1_ne (fun b hb => by unfold fB fM; omega)]
theorem pVf_eq {σ : Nat → Int32} {m c n : Nat} (hn : n ≤ 8) (hc : c < 4) : pVf σ m c n = pSd σ n m c (σ (fM m 2)) := pFaS_eq hn hc
theorem pV1_at {σ : Nat → Int32} {m c n b f : Nat} (hb : b < 8) (hc : c < 4) (hi : ¬ pIn (σ (fM m 2)) b) (hf : f < 7) : pV1 σ m c n (fB b f) = σ (fB b f) := by
  refine pFal_get n (fun b' _ hp e => hi ?_)
  rw [show b = b' by unfold fB at e; omega]
  exact hp
theorem pVa_eq {σ : Nat → Int32} {m c n u : Nat} (hn : n ≤ 8) (hc : c < 4) (hu : u < 256) (eu : σ (fM m 2) = nI u) : pVa σ m c n = pSd σ n m c (pWa σ n m) := by
  unfold pVa
  rw [pV1_wa hn hc, pV1_cr hn hc, pFaS_eq hn hc]
  unfold pSd pSdK
  refine sN_congr (fun b hb => ?_)
  by_cases h : pIn (pWa σ n m) b
  · have hi : ¬ pIn (σ (fM m 2)) b := by unfold pWa at h; rw [eu] at h ⊢; exact (pWa_tb hn hu hb).mp h
    rw [if_pos h, if_pos h]
    exact pDr_cg hc (fun f hf => pV1_at (by omega) hc hi hf) (pV1_ne (fun b hb => by unfold fB fM; omega)) (pV1_ne (fun b hb => by unfold fB fM; omega))
  · rw [if_neg h, if_neg h]
theorem pV2_eq {σ : Nat → Int32} {m c n u : Nat} (hn : n ≤ 8) (hc : c < 4) (hcol : σ (fM m 0) = nI c) (hu : u < 256) (eu : σ (fM m 2) = nI u) : pV2 σ m c n = pLs σ c (pDn σ m c n) n := by
  funext j
  by_cases h : ∃ b, b < n ∧ j = fB b 3 + c
  · obtain ⟨b, hb, rfl⟩ := h
    rw [pLs_in n hb]
    unfold pV2
    rw [pV1_wa hn hc, pV1_cr hn hc]
    by_cases hi : pIn (σ (fM m 2)) b
    · have hni : ¬ pIn (pWa σ n m) b := by unfold pWa; rw [eu] at hi ⊢; exact fun q => (pWa_tb hn hu hb).mp q hi
      rw [pFal_nin hc hni]
      unfold pV1
      rw [pFal_in hc hi n hn hb, pDn_t hn hcol hc hb hi]
    · have hni : pIn (pWa σ n m) b := by unfold pWa; rw [eu] at hi ⊢; exact (pWa_tb hn hu hb).mpr hi
      rw [pFal_in hc hni n hn hb, ← pDn_f hn hu eu hcol hc hb hi]
      have e1 : pV1 σ m c n (fB b 3 + c) = σ (fB b 3 + c) := pFal_nin hc hi
      rw [e1, pDr_cg hc (fun f hf => pV1_at (by omega) hc hi hf) (pV1_ne (fun b hb => by unfold fB fM; omega)) (pV1_ne (fun b hb => by unfold fB fM; omega))]
  · rw [pLs_out (fun b hb e => h ⟨b, hb, e⟩), pV2_ne (fun b hb e => h ⟨b, hb, e⟩)]
theorem pVp_eq {σ : Nat → Int32} {m c n u : Nat} (hn : n ≤ 8) (hc : c < 4) (hu : u < 256) (eu : σ (fM m 2) = nI u) : pVp σ m c n ↔ pPs σ n m c := by
  unfold pVp pPs
  rw [pVf_eq hn hc, pVa_eq hn hc hu eu]
  unfold pV3
  rw [fv_u_ne _ _ (by unfold fM; omega), pV2_ne (fun b hb => by unfold fB fM; omega)]
/-- each drop is a number, no more than is held -/
theorem pCb_n (σ : Nat → Int32) (w : Int32) (k : Nat) : ∀ n, ∃ x, x ≤ n ∧ pCb σ w k n = nI x := by
  intro n
  induction n with
  | zero => exact ⟨0, Nat.le_refl _, nI_0.symm⟩
  | succ n ih =>
    obtain ⟨x, hx, e⟩ := ih
    show ∃ y, y ≤ n + 1 ∧ pCb σ w k n + bI (n ≠ k ∧ pCrow σ n ∧ (pIn w n ↔ pIn w k)) = nI y
    rw [e]
    by_cases h : n ≠ k ∧ pCrow σ n ∧ (pIn w n ↔ pIn w k)
    · rw [bI_t h, nI_1]; exact ⟨x + 1, by omega, rfl⟩
    · rw [bI_f h, Int32.add_zero]; exact ⟨x, by omega, rfl⟩
theorem pWv_n {kd col keeps fe wants : Int32} {x : Nat} (hx : x ≤ 8) : ∃ y, y < 20 ∧ pWv kd col keeps fe wants (1 + nI x) = nI y := by
  have e1 : (1 : Int32) + nI x = nI (1 + x) := nI_add 1 x
  have e2 : (2 : Int32) * nI (1 + x) = nI (2 * (1 + x)) := pk_mul 2 (1 + x)
  unfold pWv
  rw [e1, e2]
  repeat' split
  · exact ⟨1, by decide, rfl⟩
  · exact ⟨0, by decide, rfl⟩
  · exact ⟨1 + x, by omega, rfl⟩
  · exact ⟨2 * (1 + x), by omega, rfl⟩
  · exact ⟨2 * (1 + x) + 1, by omega, nI_1 _⟩
  · exact ⟨1, by decide, rfl⟩
  · exact ⟨0, by decide, rfl⟩
  · exact ⟨2, by decide, rfl⟩
  · exact ⟨1, by decide, rfl⟩
  · exact ⟨1, by decide, rfl⟩
  · exact ⟨0, by decide, rfl⟩
  · exact ⟨1, by decide, rfl⟩
theorem pMin_n {a b : Nat} (ha : a < 2 ^ 31) (hb : b < 2 ^ 31) : pMin (nI a) (nI b) = nI (min a b) := by
  unfold pMin
  by_cases h : b < a
  · rw [if_pos (nI_lt h ha), Nat.min_eq_right (by omega)]
  · rw [if_neg (nI_nlt (by omega) hb), Nat.min_eq_left (by omega)]
theorem pDm_n {σ : Nat → Int32} {b c n : Nat} {w : Int32} (hn : n ≤ 8) (hG : pG1 σ b) (hc : c < 4) : ∃ x y, x < 100 ∧ y ≤ x ∧ σ (fB b 3 + c) = nI x ∧ pDm σ b c w n = nI y := by
  obtain ⟨x, hx, ex⟩ := hG.2.2.2 c hc
  obtain ⟨z, hz, ez⟩ := pCb_n σ w b n
  unfold pDm
  rw [ez, ex]
  obtain ⟨y, hy, ey⟩ := pWv_n (kd := σ (fB b 0)) (col := nI c) (keeps := σ (fB b 1)) (fe := pFe σ b) (wants := w) (x := z) (by omega)
  rw [ey, pMin_n (by omega) (by omega)]
  exact ⟨x, min x y, hx, Nat.min_le_left _ _, rfl, rfl⟩
def pFt (f : Int32) (D : Nat → Int32) : Nat → Int32
  | 0 => f
  | k + 1 => pMin (pFt f D k + D k) 9999
def pMv (σ : Nat → Int32) (c : Nat) (D : Nat → Int32) (n : Nat) : Nat → Int32 := fN (fun b τ => fv_u (fv_u τ (fB b 3 + c) (τ (fB b 3 + c) - D b)) (4 + c) (pMin (τ (4 + c) + D b) 9999)) σ n
theorem pMv_eq {σ : Nat → Int32} {c : Nat} {D : Nat → Int32} (hc : c < 4) : ∀ n, pMv σ c D n = fv_u (pLs σ c D n) (4 + c) (pFt (σ (4 + c)) D n) := by
  intro n
  induction n with
  | zero => exact (fv_u_id σ (4 + c)).symm
  | succ n ih =>
    have hne : fB n 3 + c ≠ 4 + c := by unfold fB; omega
    show fv_u (fv_u (pMv σ c D n) (fB n 3 + c) (pMv σ c D n (fB n 3 + c) - D n)) (4 + c) (pMin (pMv σ c D n (4 + c) + D n) 9999) = fv_u (fv_u (pLs σ c D n) (fB n 3 + c) (pLs σ c D n (fB n 3 + c) - D n)) (4 + c) (pMin (pFt (σ (4 + c)) D n + D n) 9999)
    rw [ih, fv_u_same, fv_u_ne _ _ hne]
    funext j
    unfold fv_u
    repeat' split
    all_goals first | rfl | (exfalso; omega)
theorem pFt_n {f : Int32} {D : Nat → Int32} {a : Nat} (ha : a ≤ 9999) (hf : f = nI a) : ∀ n, (∀ b, b < n → ∃ y, y < 100 ∧ D b = nI y) → ∃ s, s ≤ 100 * n ∧ sN D n = nI s ∧ pFt f D n = nI (min 9999 (a + s)) := by
  intro n
  induction n with
  | zero => intro _; exact ⟨0, by omega, nI_0.symm, by rw [Nat.add_zero, Nat.min_eq_right ha]; exact hf⟩
  | succ n ih =>
    intro h
    obtain ⟨s, hs, e1, e2⟩ := ih (fun b hb => h b (by omega))
    obtain ⟨y, hy, e3⟩ := h n (by omega)
    refine ⟨s + y, by omega, ?_, ?_⟩
    · show sN D n + D n = _
      rw [e1, e3, nI_add]
    · show pMin (pFt f D n + D n) 9999 = _
      rw [e2, e3, nI_add, show (9999 : Int32) = nI 9999 from rfl, pMin_n (by omega) (by omega)]
      congr 1; omega
theorem sN_add {f g : Nat → Int32} : ∀ n, sN f n + sN g n = sN (fun i => f i + g i) n := by
  intro n
  induction n with
  | zero => rfl
  | succ n ih =>
    show sN f n + f n + (sN g n + g n) = sN (fun i => f i + g i) n + (f n + g n)
    rw [← ih, Int32.add_assoc, Int32.add_assoc, ← Int32.add_assoc (f n), Int32.add_comm (f n), Int32.add_assoc]
theorem pV_sum {σ : Nat → Int32} {m c n u : Nat} (hn : n ≤ 8) (hc : c < 4) (hcol : σ (fM m 0) = nI c) (hu : u < 256) (eu : σ (fM m 2) = nI u) : pVf σ m c n + pVa σ m c n = sN (pDn σ m c n) n := by
  rw [pVf_eq hn hc, pVa_eq hn hc hu eu]
  unfold pSd pSdK
  rw [sN_add]
  refine sN_congr (fun b hb => ?_)
  by_cases hi : pIn (σ (fM m 2)) b
  · have hni : ¬ pIn (pWa σ n m) b := by unfold pWa; rw [eu] at hi ⊢; exact fun q => (pWa_tb hn hu hb).mp q hi
    rw [if_pos hi, if_neg hni, Int32.add_zero, pDn_t hn hcol hc hb hi]
  · have hni : pIn (pWa σ n m) b := by unfold pWa; rw [eu] at hi ⊢; exact (pWa_tb hn hu hb).mpr hi
    rw [if_neg hi, if_pos hni, Int32.zero_add, pDn_f hn hu eu hcol hc hb hi]
/-- the model's votes come to the class's -/
theorem pV3_eq {σ : Nat → Int32} {m c n u a : Nat} (hn : n ≤ 8) (hc : c < 4) (hcol : σ (fM m 0) = nI c) (hu : u < 256) (eu : σ (fM m 2) = nI u) (ha : a < 10000) (ea : σ (4 + c) = nI a) (hG : ∀ b, b < n → pG1 σ b) : pMv σ c (pDn σ m c n) n = pV3 σ m c n := by
  obtain ⟨s, hs, e1, e2⟩ := pFt_n (D := pDn σ m c n) (by omega) ea n (fun b hb => by obtain ⟨x, y, h1, h2, _, h3⟩ := pDm_n (w := σ (fM m 2)) hn (hG b hb) hc; exact ⟨y, by omega, h3⟩)
  rw [pMv_eq hc, e2]
  unfold pV3
  rw [pV2_eq hn hc hcol hu eu, Int32.add_assoc, pV_sum hn hc hcol hu eu, e1, pLs_out (fun b hb => by unfold fB; omega), ea, nI_add, show (9999 : Int32) = nI 9999 from rfl, pMin_n (by omega) (by omega)]
theorem pV3_G1 {σ : Nat → Int32} {m c n u b : Nat} (hn : n ≤ 8) (hc : c < 4) (hcol : σ (fM m 0) = nI c) (hu : u < 256) (eu : σ (fM m 2) = nI u) (hG : ∀ b, b < n → pG1 σ b) (hb : b < n) : pG1 (pV3 σ m c n) b := by
  have key : ∀ j, j ≠ 4 + c → pV3 σ m c n j = pLs σ c (pDn σ m c n) n j := fun j hj => by unfold pV3; rw [fv_u_ne _ _ hj, pV2_eq hn hc hcol hu eu]
  obtain ⟨g0, g1, g2, g3⟩ := hG b hb
  refine ⟨?_, ?_, ?_, fun z hz => ?_⟩
  · rw [key _ (by unfold fB; omega), pLs_out (fun b' hb' => by unfold fB; omega)]; exact g0
  · rw [key _ (by unfold fB; omega), pLs_out (fun b' hb' => by unfold fB; omega)]; exact g1
  · rw [key _ (by unfold fB; omega), pLs_out (fun b' hb' => by unfold fB; omega)]; exact g2
  · rw [key _ (by unfold fB; omega)]
    by_cases hzc : z = c
    · subst hzc
      rw [pLs_in n hb]
      obtain ⟨x, y, h1, h2, h3, h4⟩ := pDm_n (w := σ (fM m 2)) hn (hG b hb) hc
      rw [h3, show pDn σ m z n b = nI y from h4, pk_sub h2]
      exact ⟨x - y, by omega, rfl⟩
    · rw [pLs_out (fun b' hb' => by unfold fB; omega)]; exact g3 z hz
theorem hX7_votes {E : fv_E} {d nb m c u a : Nat} {M : fv_M} (hg : pGb (M 22) nb) (hm : m < 8) (hcol : M 22 (fM m 0) = nI c) (hc : c < 4) (hu : u < 256) (eu : M 22 (fM m 2) = nI u) (ha : a < 10000) (ea : M 22 (4 + c) = nI a) : fv_F E (d + 6) mX7_votes [.ref 106, .int (nI m)] M (some (.int (bI (pVp (M 22) m c nb)))) (fv_s (fv_s M 26 (pCpy (M 26) (pDn (M 22) m c nb) nb)) 22 (pVote (M 22) m c nb)) := by
  have hb := hg.2.1
  have h22 : ∀ X, (fv_s M 26 X) 22 = M 22 := fun X => fv_s_ne _ _ (by decide)
  have h26 : ∀ N τ, (fv_s N 22 τ) 26 = N 26 := fun N τ => fv_s_ne _ _ (by decide)
  have e3 : (3 : Int32) + nI c = nI (3 + c) := nI_add 3 c
  have ef : ∀ b, fB b (3 + c) = fB b 3 + c := fun b => by unfold fB; omega
  have hD : ∀ X j, j < nb → fv_F E (d + 5) mX7_dropsBy [.ref 106, .int (nI j), .int (nI m), .int (M 22 (fM m 2))] (fv_s M 26 X) (some (.int (pDn (M 22) m c nb j))) (fv_s M 26 X) := fun X j hj => by
    have h := hX7_dropsBy (E := E) (d := d + 3) (nb := nb) (k := j) (m := m) (c := c) (w := M 22 (fM m 2)) (M := fv_s M 26 X) (by rw [h22]; exact hg.1) hb (by rw [h22]; exact hg.K) (by rw [h22]; exact hg.2.2 j hj) hj hm (by rw [h22]; exact hcol) hc
    rw [h22] at h
    exact h
  have h3 := pV3_eq hb hc hcol hu eu ha ea hg.2.2
  have hne : ∀ b, 4 + c ≠ fB b 3 + c := fun b => by unfold fB; omega
  have m1 : ∀ j, pMv (M 22) c (pDn (M 22) m c nb) j 1 = nI nb := fun j => by
    rw [pMv_eq hc, fv_u_ne _ _ (by omega), pLs_out (fun b hb => by unfold fB; omega)]; exact hg.1
  refine fv_F.of (ls := [some (.ref 106), some (.int (nI m)), none, none, none]) (by decide) (Nat.le_of_ble_eq_true rfl) rfl ?_
  refine x_aload_n (pc := 0) dX7_votes_0 rfl rfl ?_
  refine x_iload_n (pc := 1) dX7_votes_1 rfl rfl ?_
  refine x_Vi (pc := 2) ks_X7_104 dX7_votes_2 (tb_106) rfl rfl ((hX7_passesNow hg hm hcol hc ⟨u, hu, eu⟩).v (bI_congr (pVp_eq hb hc hu eu).symm)) rfl rfl rfl (Nat.le_of_ble_eq_true rfl) ?_
  refine x_istore_n2 (pc := 5) dX7_votes_5 rfl ?_
  refine x_aload_n (pc := 6) dX7_votes_6 rfl rfl ?_
  refine x_iload_n (pc := 7) dX7_votes_7 rfl rfl ?_
  refine x_iconst (pc := 8) (v := 0) dX7_votes_8 rfl ?_
  refine x_Vi (pc := 9) ks_X7_80 dX7_votes_9 (tb_106) rfl rfl ((hX7_of1 (f := 0) hm (by decide)).v hcol) rfl rfl rfl (Nat.le_of_ble_eq_true rfl) ?_
  refine x_istore_n3 (pc := 12) dX7_votes_12 rfl ?_
  refine x_iconst (pc := 13) (v := 0) dX7_votes_13 rfl ?_
  refine x_istore4 (pc := 14) dX7_votes_14 rfl ?_
  refine x_loop (fun j => [some (.ref 106), some (.int (nI m)), some (.int (bI (pVp (M 22) m c nb))), some (.int (nI c)), some (.int (nI j))]) (fun j => fv_s M 26 (pCpy (M 26) (pDn (M 22) m c nb) j)) nb rfl (by rw [pCpy_0, fv_s_id]) (fun j hj hL => ?_) ?_
  · show fv_X E mX7_votes _ _ 16 [some (.ref 106), some (.int (nI m)), some (.int (bI (pVp (M 22) m c nb))), some (.int (nI c)), some (.int (nI j))] [] (fv_s M 26 (pCpy (M 26) (pDn (M 22) m c nb) j))
    replace hL : fv_X E mX7_votes _ _ 16 [some (.ref 106), some (.int (nI m)), some (.int (bI (pVp (M 22) m c nb))), some (.int (nI c)), some (.int (nI (j + 1)))] [] (fv_s M 26 (pCpy (M 26) (pDn (M 22) m c nb) (j + 1))) := hL
    refine x_iload (pc := 16) dX7_votes_16 rfl ?_
    refine x_aload_n (pc := 18) dX7_votes_18 rfl rfl ?_
    refine x_geta (pc := 19) fl_X7_9 dX7_votes_19 (tb_106) rfl ?_
    refine x_iconst (pc := 22) (v := 1) dX7_votes_22 rfl ?_
    refine x_iale (pc := 23) dX7_votes_23 (tb_107) ((rfl : (1 : Int32) = nI 1)) (by decide) (by first | decide | assumption) ((congrFun (h22 _) 1).trans hg.1) ?_
    refine x_icmp_ge (pc := 24) dX7_votes_24 (tgt := 53) rfl (fun h24 => ?_) (fun h24 => ?_)
    ·
      exact absurd h24 (nI_ge hj (by omega))
    ·
      refine x_aload_n (pc := 27) dX7_votes_27 rfl rfl ?_
      refine x_geta (pc := 28) fl_X7_22 dX7_votes_28 (tb_106) rfl ?_
      refine x_iload (pc := 31) dX7_votes_31 rfl ?_
      refine x_aload_n (pc := 33) dX7_votes_33 rfl rfl ?_
      refine x_iload (pc := 34) dX7_votes_34 rfl ?_
      refine x_iload_n (pc := 36) dX7_votes_36 rfl rfl ?_
      refine x_aload_n (pc := 37) dX7_votes_37 rfl rfl ?_
      refine x_iload_n (pc := 38) dX7_votes_38 rfl rfl ?_
      refine x_iconst (pc := 39) (v := 2) dX7_votes_39 rfl ?_
      refine x_Vi (pc := 40) ks_X7_80 dX7_votes_40 (tb_106) rfl rfl ((hX7_of1 (f := 2) hm (by decide)).v (congrFun (h22 _) (fM m 2))) rfl rfl rfl (Nat.le_of_ble_eq_true rfl) ?_
      refine x_Vi (pc := 43) ks_X7_89 dX7_votes_43 (tb_106) rfl rfl (hD _ j hj) rfl rfl rfl (Nat.le_of_ble_eq_true rfl) ?_
      refine x_iast (pc := 46) dX7_votes_46 (tb_111) (rfl) (by omega) (by first | decide | assumption) ?_
      rw [fv_s_same, fv_s_s, Nat.zero_add, pCpy_s]
      refine x_iinc4 (pc := 47) dX7_votes_47 (by first | exact fv_inc _ | exact fv_dec _ | rfl) rfl ?_
      refine x_goto (pc := 50) dX7_votes_50 (tgt := 16) rfl ?_
      exact hL
  · show fv_X E mX7_votes _ _ 16 [some (.ref 106), some (.int (nI m)), some (.int (bI (pVp (M 22) m c nb))), some (.int (nI c)), some (.int (nI nb))] [] (fv_s M 26 (pCpy (M 26) (pDn (M 22) m c nb) nb))
    refine x_iload (pc := 16) dX7_votes_16 rfl ?_
    refine x_aload_n (pc := 18) dX7_votes_18 rfl rfl ?_
    refine x_geta (pc := 19) fl_X7_9 dX7_votes_19 (tb_106) rfl ?_
    refine x_iconst (pc := 22) (v := 1) dX7_votes_22 rfl ?_
    refine x_iale (pc := 23) dX7_votes_23 (tb_107) ((rfl : (1 : Int32) = nI 1)) (by decide) (by first | decide | assumption) ((congrFun (h22 _) 1).trans hg.1) ?_
    refine x_icmp_ge (pc := 24) dX7_votes_24 (tgt := 53) rfl (fun h24 => ?_) (fun h24 => ?_)
    ·
      refine x_iconst (pc := 53) (v := 0) dX7_votes_53 rfl ?_
      refine x_istore4 (pc := 54) dX7_votes_54 rfl ?_
      generalize hZ : pCpy (M 26) (pDn (M 22) m c nb) nb = Z
      have hZj : ∀ j, j < nb → Z j = pDn (M 22) m c nb j := fun j hj => by rw [← hZ]; unfold pCpy; rw [if_pos hj]
      refine x_loop (fun j => [some (.ref 106), some (.int (nI m)), some (.int (bI (pVp (M 22) m c nb))), some (.int (nI c)), some (.int (nI j))]) (fun j => fv_s (fv_s M 26 Z) 22 (pMv (M 22) c (pDn (M 22) m c nb) j)) nb rfl (by show fv_s (fv_s M 26 Z) 22 (M 22) = fv_s M 26 Z; rw [← h22 Z, fv_s_id]) (fun j hj hL => ?_) ?_
      · show fv_X E mX7_votes _ _ 56 [some (.ref 106), some (.int (nI m)), some (.int (bI (pVp (M 22) m c nb))), some (.int (nI c)), some (.int (nI j))] [] (fv_s (fv_s M 26 Z) 22 (pMv (M 22) c (pDn (M 22) m c nb) j))
        replace hL : fv_X E mX7_votes _ _ 56 [some (.ref 106), some (.int (nI m)), some (.int (bI (pVp (M 22) m c nb))), some (.int (nI c)), some (.int (nI (j + 1)))] [] (fv_s (fv_s M 26 Z) 22 (fv_u (fv_u (pMv (M 22) c (pDn (M 22) m c nb) j) (fB j 3 + c) (pMv (M 22) c (pDn (M 22) m c nb) j (fB j 3 + c) - pDn (M 22) m c nb j)) (4 + c) (pMin (pMv (M 22) c (pDn (M 22) m c nb) j (4 + c) + pDn (M 22) m c nb j) 9999))) := hL
        refine x_iload (pc := 56) dX7_votes_56 rfl ?_
        refine x_aload_n (pc := 58) dX7_votes_58 rfl rfl ?_
        refine x_geta (pc := 59) fl_X7_9 dX7_votes_59 (tb_106) rfl ?_
        refine x_iconst (pc := 62) (v := 1) dX7_votes_62 rfl ?_
        refine x_iale (pc := 63) dX7_votes_63 (tb_107) ((rfl : (1 : Int32) = nI 1)) (by decide) (by first | decide | assumption) ((congrFun (fv_s_same _ _ _) 1).trans (m1 j)) ?_
        refine x_icmp_ge (pc := 64) dX7_votes_64 (tgt := 129) rfl (fun h64 => ?_) (fun h64 => ?_)
        ·
          exact absurd h64 (nI_ge hj (by omega))
        ·
          refine x_aload_n (pc := 67) dX7_votes_67 rfl rfl ?_
          refine x_iload (pc := 68) dX7_votes_68 rfl ?_
          refine x_iconst (pc := 70) (v := 3) dX7_votes_70 rfl ?_
          refine x_iload_n (pc := 71) dX7_votes_71 rfl rfl ?_
          refine x_iadd (pc := 72) dX7_votes_72 ?_
          rw [e3]
          refine x_aload_n (pc := 73) dX7_votes_73 rfl rfl ?_
          refine x_iload (pc := 74) dX7_votes_74 rfl ?_
          refine x_iconst (pc := 76) (v := 3) dX7_votes_76 rfl ?_
          refine x_iload_n (pc := 77) dX7_votes_77 rfl rfl ?_
          refine x_iadd (pc := 78) dX7_votes_78 ?_
          rw [e3]
          refine x_Vi (pc := 79) ks_X7_64 dX7_votes_79 (tb_106) rfl rfl ((hX7_get (f := 3 + c) (by omega) (by omega)).v (by rw [fv_s_same, ef])) rfl rfl rfl (Nat.le_of_ble_eq_true rfl) ?_
          refine x_aload_n (pc := 82) dX7_votes_82 rfl rfl ?_
          refine x_geta (pc := 83) fl_X7_22 dX7_votes_83 (tb_106) rfl ?_
          refine x_iload (pc := 86) dX7_votes_86 rfl ?_
          refine x_iale (pc := 88) dX7_votes_88 (tb_111) (rfl) (by omega) (by first | decide | assumption) (show _ = pDn (M 22) m c nb j from by rw [h26, fv_s_same, Nat.zero_add]; exact hZj j hj) ?_
          refine x_isub (pc := 89) dX7_votes_89 ?_
          refine x_Vv (pc := 90) ks_X7_100 dX7_votes_90 (tb_106) rfl rfl (hX7_puts (f := 3 + c) (by omega) (by omega)) rfl rfl rfl (Nat.le_of_ble_eq_true rfl) ?_
          refine x_aload_n (pc := 93) dX7_votes_93 rfl rfl ?_
          refine x_geta (pc := 94) fl_X7_9 dX7_votes_94 (tb_106) rfl ?_
          refine x_iconst (pc := 97) (v := 4) dX7_votes_97 rfl ?_
          refine x_iload_n (pc := 98) dX7_votes_98 rfl rfl ?_
          refine x_iadd (pc := 99) dX7_votes_99 ?_
          refine x_sipush (pc := 100) (v := 9999) dX7_votes_100 rfl ?_
          refine x_aload_n (pc := 103) dX7_votes_103 rfl rfl ?_
          refine x_geta (pc := 104) fl_X7_9 dX7_votes_104 (tb_106) rfl ?_
          refine x_iconst (pc := 107) (v := 4) dX7_votes_107 rfl ?_
          refine x_iload_n (pc := 108) dX7_votes_108 rfl rfl ?_
          refine x_iadd (pc := 109) dX7_votes_109 ?_
          refine x_iale (pc := 110) dX7_votes_110 (tb_107) (nI_add 4 c) (by omega) (by first | decide | assumption) (show _ = pMv (M 22) c (pDn (M 22) m c nb) j (4 + c) from by rw [fv_s_same, fv_s_same, Nat.zero_add, ef, fv_u_ne _ _ (hne j)]) ?_
          refine x_aload_n (pc := 111) dX7_votes_111 rfl rfl ?_
          refine x_geta (pc := 112) fl_X7_22 dX7_votes_112 (tb_106) rfl ?_
          refine x_iload (pc := 115) dX7_votes_115 rfl ?_
          refine x_iale (pc := 117) dX7_votes_117 (tb_111) (rfl) (by omega) (by first | decide | assumption) (show _ = pDn (M 22) m c nb j from by rw [h26, h26, fv_s_same, Nat.zero_add]; exact hZj j hj) ?_
          refine x_iadd (pc := 118) dX7_votes_118 ?_
          refine x_Si (pc := 119) ks_X7_86 dX7_votes_119 (hX7_less) rfl rfl rfl (Nat.le_of_ble_eq_true rfl) ?_
          refine x_iast (pc := 122) dX7_votes_122 (tb_107) (nI_add 4 c) (by omega) (by first | decide | assumption) ?_
          simp only [fv_s_same, fv_s_s, Nat.zero_add, ef]
          refine x_iinc4 (pc := 123) dX7_votes_123 (by first | exact fv_inc _ | exact fv_dec _ | rfl) rfl ?_
          refine x_goto (pc := 126) dX7_votes_126 (tgt := 56) rfl ?_
          exact hL
      · show fv_X E mX7_votes _ _ 56 [some (.ref 106), some (.int (nI m)), some (.int (bI (pVp (M 22) m c nb))), some (.int (nI c)), some (.int (nI nb))] [] (fv_s (fv_s M 26 Z) 22 (pMv (M 22) c (pDn (M 22) m c nb) nb))
        rw [h3]
        have v1 : pV3 (M 22) m c nb 1 = nI nb := by rw [← h3]; exact m1 nb
        have hge : pGb (fv_u (pV3 (M 22) m c nb) (fM m 4) 1) nb := by
          refine ⟨by rw [fv_u_ne _ _ (by unfold fM; omega)]; exact v1, hb, fun k hk => ?_⟩
          obtain ⟨g0, g1, g2, g3⟩ := pV3_G1 hb hc hcol hu eu hg.2.2 hk
          refine ⟨?_, ?_, ?_, fun z hz => ?_⟩
          · rw [fv_u_ne _ _ (by unfold fB fM; omega)]; exact g0
          · rw [fv_u_ne _ _ (by unfold fB fM; omega)]; exact g1
          · rw [fv_u_ne _ _ (by unfold fB fM; omega)]; exact g2
          · rw [fv_u_ne _ _ (by unfold fB fM; omega)]; exact g3 z hz
        refine x_iload (pc := 56) dX7_votes_56 rfl ?_
        refine x_aload_n (pc := 58) dX7_votes_58 rfl rfl ?_
        refine x_geta (pc := 59) fl_X7_9 dX7_votes_59 (tb_106) rfl ?_
        refine x_iconst (pc := 62) (v := 1) dX7_votes_62 rfl ?_
        refine x_iale (pc := 63) dX7_votes_63 (tb_107) ((rfl : (1 : Int32) = nI 1)) (by decide) (by first | decide | assumption) ((congrFun (fv_s_same _ _ _) 1).trans v1) ?_
        refine x_icmp_ge (pc := 64) dX7_votes_64 (tgt := 129) rfl (fun h64 => ?_) (fun h64 => ?_)
        ·
          refine x_iload_n (pc := 129) dX7_votes_129 rfl rfl ?_
          refine x_ifb_eq (pc := 130) dX7_votes_130 (tgt := 159) rfl (fun h130 => ?_) (fun h130 => ?_)
          ·
            refine x_iload_n (pc := 159) dX7_votes_159 rfl rfl ?_
            refine x_iret (pc := 160) dX7_votes_160 rfl (by first | rfl | exact fv_nz _) ?_
            refine ⟨rfl, ?_⟩
            unfold pVote
            first | (rw [if_pos ⟨h130, h139⟩, fv_s_same, fv_s_s]; done) | (rw [if_neg (fun q => h139 q.2)]; done) | (rw [if_neg (fun q => h130 q.1)]; done)
          ·
            refine x_aload_n (pc := 133) dX7_votes_133 rfl rfl ?_
            refine x_iload_n (pc := 134) dX7_votes_134 rfl rfl ?_
            refine x_iconst (pc := 135) (v := 4) dX7_votes_135 rfl ?_
            refine x_Vi (pc := 136) ks_X7_80 dX7_votes_136 (tb_106) rfl rfl ((hX7_of1 (f := 4) hm (by decide)).v (congrFun (fv_s_same _ _ _) _)) rfl rfl rfl (Nat.le_of_ble_eq_true rfl) ?_
            refine x_if_ne (pc := 139) dX7_votes_139 (tgt := 159) rfl (fun h139 => ?_) (fun h139 => ?_)
            ·
              refine x_iload_n (pc := 159) dX7_votes_159 rfl rfl ?_
              refine x_iret (pc := 160) dX7_votes_160 rfl (by first | rfl | exact fv_nz _) ?_
              refine ⟨rfl, ?_⟩
              unfold pVote
              first | (rw [if_pos ⟨h130, h139⟩, fv_s_same, fv_s_s]; done) | (rw [if_neg (fun q => h139 q.2)]; done) | (rw [if_neg (fun q => h130 q.1)]; done)
            ·
              refine x_aload_n (pc := 142) dX7_votes_142 rfl rfl ?_
              refine x_iload_n (pc := 143) dX7_votes_143 rfl rfl ?_
              refine x_iconst (pc := 144) (v := 4) dX7_votes_144 rfl ?_
              refine x_iconst (pc := 145) (v := 1) dX7_votes_145 rfl ?_
              refine x_Vv (pc := 146) ks_X7_107 dX7_votes_146 (tb_106) rfl rfl (hX7_puts1 (f := 4) hm (by decide)) rfl rfl rfl (Nat.le_of_ble_eq_true rfl) ?_
              rw [fv_s_same, fv_s_s]
              refine x_aload_n (pc := 149) dX7_votes_149 rfl rfl ?_
              refine x_aload_n (pc := 150) dX7_votes_150 rfl rfl ?_
              refine x_iload_n (pc := 151) dX7_votes_151 rfl rfl ?_
              refine x_iconst (pc := 152) (v := 3) dX7_votes_152 rfl ?_
              refine x_Vi (pc := 153) ks_X7_80 dX7_votes_153 (tb_106) rfl rfl ((hX7_of1 (f := 3) hm (by decide)).v (congrFun (fv_s_same _ _ _) _)) rfl rfl rfl (Nat.le_of_ble_eq_true rfl) ?_
              refine x_Vv (pc := 156) ks_X7_110 dX7_votes_156 (tb_106) rfl rfl (hX7_comesEffect (by rw [fv_s_same]; exact hge)) rfl rfl rfl (Nat.le_of_ble_eq_true rfl) ?_
              refine x_iload_n (pc := 159) dX7_votes_159 rfl rfl ?_
              refine x_iret (pc := 160) dX7_votes_160 rfl (by first | rfl | exact fv_nz _) ?_
              refine ⟨rfl, ?_⟩
              unfold pVote
              first | (rw [if_pos ⟨h130, h139⟩, fv_s_same, fv_s_s]; done) | (rw [if_neg (fun q => h139 q.2)]; done) | (rw [if_neg (fun q => h130 q.1)]; done)
        ·
          exact absurd (Int32.le_refl _) h64
    ·
      exact absurd (Int32.le_refl _) h24
