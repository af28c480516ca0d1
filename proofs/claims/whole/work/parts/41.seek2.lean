theorem fv_C.mono {E : fv_E} {y : fv_Y} {d : Nat} {M : fv_M} {args : List Value} {Φ Ψ : Option Value → fv_M → Prop} (h : fv_C E d y args M Φ) (hi : ∀ r M', Φ r M' → Ψ r M') : fv_C E d y args M Ψ := by
  intro l p e h1 h2 h3 s m a below h4 h5 h6 h7
  obtain ⟨n, o, k1, k2, k3, k4⟩ := h l p e h1 h2 h3 s m a below h4 h5 h6 h7
  obtain ⟨⟨⟨r, M', e1, hp, hw⟩, hf⟩, hL⟩ := k4
  exact ⟨n, o, k1, k2, k3, ⟨⟨⟨r, M', e1, hi r M' hp, hw⟩, hf⟩, hL⟩⟩
theorem fv_F.p {E : fv_E} {y : fv_Y} {d : Nat} {M M0 : fv_M} {args : List Value} {r : Option Value} {P : fv_M → Prop} (h : fv_F E d y args M r M0) (hP : P M0) : fv_P E d y args M r P := fv_C.mono h (fun _ _ q => ⟨q.1, q.2 ▸ hP⟩)
theorem fv_P.mono {E : fv_E} {y : fv_Y} {d : Nat} {M : fv_M} {args : List Value} {r : Option Value} {P P' : fv_M → Prop} (h : fv_P E d y args M r P) (hP : ∀ M', P M' → P' M') : fv_P E d y args M r P' := fv_C.mono h (fun _ M' q => ⟨q.1, hP M' q.2⟩)
theorem fv_P.v {E : fv_E} {d : Nat} {y : fv_Y} {args : List Value} {M : fv_M} {a b : Int32} {P : fv_M → Prop} (h : fv_P E d y args M (some (.int a)) P) (e : a = b) : fv_P E d y args M (some (.int b)) P := by subst e; exact h
abbrev pRw (o : List Nat) : Nat → Nat := fun i => o.getD i 0
def pSc (σ : Nat → Int32) (nb n : Nat) (o : List Nat) : Int32 := pVc σ (pRw o) nb n
def pAo (σ : Nat → Int32) (nb n : Nat) (o : List Nat) : Int32 := pAf (pVs σ (pRw o) nb n) nb
def pBs (σ : Nat → Int32) (nb n : Nat) (o : Nat → List Nat) (c0 l0 : Int32) : Nat → Int32 × Int32 × Int32 × List Nat
  | 0 => (-1, c0, l0, [])
  | j + 1 => if (pBs σ nb n o c0 l0 j).1 < pSc σ nb n (o j) then (pSc σ nb n (o j), 1, pAo σ nb n (o j), o j)
    else if pSc σ nb n (o j) = (pBs σ nb n o c0 l0 j).1 then ((pBs σ nb n o c0 l0 j).1, (pBs σ nb n o c0 l0 j).2.1 + 1, (pBs σ nb n o c0 l0 j).2.2)
    else pBs σ nb n o c0 l0 j
theorem pVc_n (σ : Nat → Int32) (row : Nat → Nat) (nb : Nat) : ∀ k, ∃ x, x ≤ k ∧ pVc σ row nb k = nI x := by
  intro k
  induction k with
  | zero => exact ⟨0, Nat.le_refl _, nI_0.symm⟩
  | succ k ih =>
    obtain ⟨x, hx, e⟩ := ih
    by_cases h : pVp (pVs σ row nb k) (row k) (pCo (pVs σ row nb k) (row k)) nb
    · rw [← pVc_t h, e]; exact ⟨x + 1, by omega, fv_inc x⟩
    · rw [← pVc_f h, e]; exact ⟨x, by omega, rfl⟩
theorem pSc_pos (σ : Nat → Int32) (nb n : Nat) (o : List Nat) (hn : n ≤ 8) : (-1 : Int32) < pSc σ nb n o := by
  obtain ⟨x, hx, e⟩ := pVc_n σ (pRw o) nb n
  unfold pSc
  rw [e, Int32.lt_iff_toInt_lt, nI_toInt (by omega), show (-1 : Int32).toInt = -1 by decide +kernel]
  omega
theorem pBs_ind {σ : Nat → Int32} {nb n : Nat} {o : Nat → List Nat} (hn : n ≤ 8) (c0 l0 c1 l1 : Int32) : ∀ j, pBs σ nb n o c0 l0 (j + 1) = pBs σ nb n o c1 l1 (j + 1) := by
  intro j
  induction j with
  | zero =>
    show (if (-1 : Int32) < pSc σ nb n (o 0) then _ else _) = (if (-1 : Int32) < pSc σ nb n (o 0) then _ else _)
    rw [if_pos (pSc_pos σ nb n (o 0) hn), if_pos (pSc_pos σ nb n (o 0) hn)]
  | succ j ih =>
    rw [pBs, ih]
    rfl
theorem pBs_cg {nb nm n : Nat} {σ τ : Nat → Int32} {o : Nat → List Nat} (h : pEq nb nm σ τ) (hb : nb ≤ 8) (hm : nm ≤ 8) (hK : pKd τ nb) (hC : pCl τ nm) (ho : ∀ j, pIb n nm (o j)) (c0 l0 : Int32) : ∀ j, pBs σ nb n o c0 l0 j = pBs τ nb n o c0 l0 j := by
  intro j
  induction j with
  | zero => rfl
  | succ j ih =>
    have e1 : pSc σ nb n (o j) = pSc τ nb n (o j) := pVc_cg h hb hm hK hC (fun i hi => (ho j).2 i hi)
    have e2 : pAo σ nb n (o j) = pAo τ nb n (o j) := pAf_cg (pVs_cg h hb hm hK hC n (fun i hi => (ho j).2 i hi))
    rw [pBs, pBs, ih, e1, e2]
/-- what a search leaves in a region of numbers (w: its first place) and a region of the best row -/
def pSk (B : Int32 × Int32 × Int32 × List Nat) (n : Nat) (f g : Nat → Int32) (w : Nat) : Prop := f w = B.1 ∧ f (w + 1) = B.2.1 ∧ f (w + 2) = B.2.2.1 ∧ ∀ i, i < n → g i = nI (B.2.2.2.getD i 0)
theorem hX2_seek {E : fv_E} {d nb nm k : Nat} {M : fv_M} (hG : pGd (M 0) nb nm) (hk : k < 2 ^ nm) (h5 : pBc k ≤ 5) : fv_P E (d + 5) mX2_seek [.ref 94, .ref (aSt 0), .ref (aSt 1), .int (nI k)] M none (fun M' => pFr [1, 9, 10, 11] M M' ∧ pSk (pBs (M 0) nb (pBc k) (pO k) (M 9 2) (M 9 3) (pJ k + 1)) (pBc k) (M' 9) (M' 10) 1) := by
  have hb := hG.2.1
  have hm := hG.2.2.2.1
  have hk8 : k < 256 := Nat.lt_of_lt_of_le hk (pAll_of hm).2.1
  obtain ⟨j1, j2, j3⟩ := pJ_of hk8 h5
  have ho := pO_ib hm hk
  have hs0 : 0 < 3 := by decide
  have hs1 : 1 < 3 := by decide
  generalize hJ : pJ k = J at *
  generalize hn : pBc k = n at *
  refine fv_P.of (ls := [some (.ref 94), some (.ref (aSt 0)), some (.ref (aSt 1)), some (.int (nI k)), none, none]) (by decide) (Nat.le_of_ble_eq_true rfl) rfl ?_
  refine x_aload_n (pc := 0) dX2_seek_0 rfl rfl ?_
  refine x_iload_n (pc := 1) dX2_seek_1 rfl rfl ?_
  refine x_Vv (pc := 2) ks_X2_18 dX2_seek_2 (tb_94) rfl rfl (hX2_listMembers hk8 (by rw [hn]; exact h5)) rfl rfl rfl (Nat.le_of_ble_eq_true rfl) ?_
  refine x_aload_n (pc := 5) dX2_seek_5 rfl rfl ?_
  refine x_iconst (pc := 6) (v := (-1)) dX2_seek_6 fv_m1 ?_
  refine x_put (pc := 7) fl_X2_22 dX2_seek_7 (tb_94) rfl rfl rfl ?_
  refine x_iconst (pc := 10) (v := 1) dX2_seek_10 rfl ?_
  refine x_istore4 (pc := 11) dX2_seek_11 rfl ?_
  refine x_iconst (pc := 13) (v := 0) dX2_seek_13 rfl ?_
  refine x_istore5 (pc := 14) dX2_seek_14 rfl ?_
  refine x_loopI (fun j => [some (.ref 94), some (.ref (aSt 0)), some (.ref (aSt 1)), some (.int (nI k)), some (.int (bI (j ≤ J))), some (.int (nI j))]) (fun j M' => pFr [1, 9, 10, 11] M M' ∧ M' 9 1 = (pBs (M 0) nb n (pO k) (M 9 2) (M 9 3) j).1 ∧ M' 9 2 = (pBs (M 0) nb n (pO k) (M 9 2) (M 9 3) j).2.1 ∧ M' 9 3 = (pBs (M 0) nb n (pO k) (M 9 2) (M 9 3) j).2.2.1 ∧ M' 9 5 = nI n ∧ (0 < j → ∀ i, i < n → M' 10 i = nI ((pBs (M 0) nb n (pO k) (M 9 2) (M 9 3) j).2.2.2.getD i 0)) ∧ M' 11 = pLay (M 11) (pO k j)) (J + 1) ?_ ?_ ?_ ?_
  · rw [bI_t (Nat.zero_le J)]; rfl
  · refine ⟨((pFr.rfl'.s (by decide)).s (by decide)).s (by decide), ?_, ?_, ?_, ?_, fun h => absurd h (Nat.lt_irrefl 0), ?_⟩
    · rw [fv_s_same, fv_u_same]; rfl
    · rw [fv_s_same, fv_u_ne _ _ (by decide), fv_s_ne _ _ (by decide), fv_s_same, fv_u_ne _ _ (by decide)]; rfl
    · rw [fv_s_same, fv_u_ne _ _ (by decide), fv_s_ne _ _ (by decide), fv_s_same, fv_u_ne _ _ (by decide)]; rfl
    · rw [fv_s_same, fv_u_ne _ _ (by decide), fv_s_ne _ _ (by decide), fv_s_same, fv_u_same, hn]
    · rw [fv_s_ne _ _ (by decide), fv_s_same]; rfl
  · rintro j M1 hj ⟨f0, f1, f2, f3, f4, f5, f6⟩ hL
    have e0 : M1 0 = M 0 := f0 0 (by decide)
    have hj2 : j ≤ J := by omega
    have hbec := hX4_become (E := E) (d := d + 2) (s := 1) (t := 0) (nb := nb) (nm := nm) (M := M1) hs1 hs0 (by decide) (by rw [e0]; exact hG.1) hb (by rw [e0]; exact hG.2.2.1) hm
    rw [e0] at hbec
    generalize hρ : pSB (M1 1) (M 0) nb nm = ρ at hbec
    have hρe : pEq nb nm ρ (M 0) := by rw [← hρ]; exact pSB_eq hb
    have hGρ : pGd ρ nb nm := hG.cg hρe
    have r1 : (fv_s M1 1 ρ) 1 = ρ := fv_s_same _ _ _
    have r9 : ∀ X Y, (fv_s (fv_s M1 1 X) 1 Y) 9 = M1 9 := fun X Y => by rw [fv_s_ne _ _ (by decide), fv_s_ne _ _ (by decide)]
    have hcv := hX4_castVotes (E := E) (d := d) (s := 1) (nb := nb) (nm := nm) (q := 96) (k := n) (row := pRw (pO k j)) (M := fv_s M1 1 ρ) hs1 (by rw [r1]; exact hGρ.1) hb (by rw [r1]; exact hGρ.K) (by rw [r1]; exact hGρ.2.2.1) hm (by rw [r1]; exact hGρ.C) tb_96 (by decide) (by decide) h5 (fun i hi => ⟨(ho j).2 i hi, by rw [fv_s_ne _ _ (by decide), f6, Nat.zero_add, pLay_at (by rw [(ho j).1]; exact hi)]⟩)
    rw [r1, fv_s_s] at hcv
    have hsc : pVc ρ (pRw (pO k j)) nb n = pSc (M 0) nb n (pO k j) := pVc_cg hρe hb hm hG.K hG.C (fun i hi => (ho j).2 i hi)
    have hao : pAf (pVs ρ (pRw (pO k j)) nb n) nb = pAo (M 0) nb n (pO k j) := pAf_cg (pVs_cg hρe hb hm hG.K hG.C n (fun i hi => (ho j).2 i hi))
    have hvk := pVs_keep (row := pRw (pO k j)) hb hm hGρ.K hGρ.C n (fun i hi => (ho j).2 i hi)
    generalize hω : pVs ρ (pRw (pO k j)) nb n = ω at hcv hao hvk
    have hw := hX2_weigh (E := E) (d := d + 2) (nb := nb) (n := n) (p := pSc (M 0) nb n (pO k j)) (mo := (pBs (M 0) nb n (pO k) (M 9 2) (M 9 3) j).1) (bc := (pBs (M 0) nb n (pO k) (M 9 2) (M 9 3) j).2.1) (M := fv_s M1 1 ω) (by rw [fv_s_same, hvk.1]; exact hGρ.1) hb (by rw [fv_s_ne _ _ (by decide)]; exact f1) (by rw [fv_s_ne _ _ (by decide)]; exact f2) (by rw [fv_s_ne _ _ (by decide)]; exact f4) h5
    rw [fv_s_same, fv_s_ne _ _ (show 9 ≠ 1 by decide), fv_s_ne _ _ (show 10 ≠ 1 by decide), fv_s_ne _ _ (show 11 ≠ 1 by decide), hao] at hw
    obtain ⟨M2, hM2⟩ : ∃ M2 : fv_M, M2 = (if (pBs (M 0) nb n (pO k) (M 9 2) (M 9 3) j).1 < pSc (M 0) nb n (pO k j) then fv_s (fv_s (fv_s M1 1 ω) 9 (fv_u (fv_u (fv_u (M1 9) 1 (pSc (M 0) nb n (pO k j))) 2 1) 3 (pAo (M 0) nb n (pO k j)))) 10 (fv_cp (M1 10) (0 + 0) (M1 11) (0 + 0) n) else if pSc (M 0) nb n (pO k j) = (pBs (M 0) nb n (pO k) (M 9 2) (M 9 3) j).1 then fv_s (fv_s M1 1 ω) 9 (fv_u (M1 9) 2 ((pBs (M 0) nb n (pO k) (M 9 2) (M 9 3) j).2.1 + 1)) else fv_s M1 1 ω) := ⟨_, rfl⟩
    rw [← hM2] at hw
    have F : pFr [1, 9, 10, 11] M M2 ∧ M2 9 1 = (pBs (M 0) nb n (pO k) (M 9 2) (M 9 3) (j + 1)).1 ∧ M2 9 2 = (pBs (M 0) nb n (pO k) (M 9 2) (M 9 3) (j + 1)).2.1 ∧ M2 9 3 = (pBs (M 0) nb n (pO k) (M 9 2) (M 9 3) (j + 1)).2.2.1 ∧ M2 9 5 = nI n ∧ (∀ i, i < n → M2 10 i = nI ((pBs (M 0) nb n (pO k) (M 9 2) (M 9 3) (j + 1)).2.2.2.getD i 0)) ∧ M2 11 = pLay (M 11) (pO k j) := by
      rw [hM2, pBs]
      by_cases c1 : (pBs (M 0) nb n (pO k) (M 9 2) (M 9 3) j).1 < pSc (M 0) nb n (pO k j)
      · rw [if_pos c1, if_pos c1]
        refine ⟨((f0.s (by decide)).s (by decide)).s (by decide), ?_, ?_, ?_, ?_, fun i hi => ?_, ?_⟩
        · rw [fv_s_ne _ _ (by decide), fv_s_same, fv_u_ne _ _ (by decide), fv_u_ne _ _ (by decide), fv_u_same]
        · rw [fv_s_ne _ _ (by decide), fv_s_same, fv_u_ne _ _ (by decide), fv_u_same]
        · rw [fv_s_ne _ _ (by decide), fv_s_same, fv_u_same]
        · rw [fv_s_ne _ _ (by decide), fv_s_same, fv_u_ne _ _ (by decide), fv_u_ne _ _ (by decide), fv_u_ne _ _ (by decide)]; exact f4
        · rw [fv_s_same]
          unfold fv_cp
          rw [if_pos (by omega), f6, show 0 + 0 + (i - (0 + 0)) = i by omega, pLay_at (by rw [(ho j).1]; exact hi)]
        · rw [fv_s_ne _ _ (by decide), fv_s_ne _ _ (by decide), fv_s_ne _ _ (by decide)]; exact f6
      · have hj0 : 0 < j := by
          rcases Nat.eq_zero_or_pos j with q | q
          · subst q; exact absurd (pSc_pos (M 0) nb n (pO k 0) (by omega)) c1
          · exact q
        rw [if_neg c1, if_neg c1]
        by_cases c2 : pSc (M 0) nb n (pO k j) = (pBs (M 0) nb n (pO k) (M 9 2) (M 9 3) j).1
        · rw [if_pos c2, if_pos c2]
          refine ⟨(f0.s (by decide)).s (by decide), ?_, ?_, ?_, ?_, fun i hi => ?_, ?_⟩
          · rw [fv_s_same, fv_u_ne _ _ (by decide)]; exact f1
          · rw [fv_s_same, fv_u_same]
          · rw [fv_s_same, fv_u_ne _ _ (by decide)]; exact f3
          · rw [fv_s_same, fv_u_ne _ _ (by decide)]; exact f4
          · rw [fv_s_ne _ _ (by decide), fv_s_ne _ _ (by decide)]; exact f5 hj0 i hi
          · rw [fv_s_ne _ _ (by decide), fv_s_ne _ _ (by decide)]; exact f6
        · rw [if_neg c2, if_neg c2]
          refine ⟨f0.s (by decide), ?_, ?_, ?_, ?_, fun i hi => ?_, ?_⟩
          · rw [fv_s_ne _ _ (by decide)]; exact f1
          · rw [fv_s_ne _ _ (by decide)]; exact f2
          · rw [fv_s_ne _ _ (by decide)]; exact f3
          · rw [fv_s_ne _ _ (by decide)]; exact f4
          · rw [fv_s_ne _ _ (by decide)]; exact f5 hj0 i hi
          · rw [fv_s_ne _ _ (by decide)]; exact f6
    clear hM2
    obtain ⟨g0, g1, g2, g3, g4, g5, g6⟩ := F
    have hst := hX2_stepOrder (E := E) (d := d + 3) (n := n) (o := pO k j) (f := M 11) (M := M2) ⟨(ho j).1, fun i hi => Nat.lt_of_lt_of_le ((ho j).2 i hi) hm⟩ h5 g4
    rw [← g6, fv_s_id] at hst
    have hiff : (pNx (pO k j)).isSome = true ↔ j + 1 ≤ J := by
      constructor
      · intro q
        rcases Nat.lt_or_ge j J with z | z
        · exact z
        · have e : j = J := by omega
          rw [e, j2] at q
          exact absurd q (by decide)
      · exact fun q => j3 j q
    have hst2 := hst.v (bI_congr hiff)
    refine x_iload (pc := 16) dX2_seek_16 rfl ?_
    refine x_bipush (pc := 18) (v := 120) dX2_seek_18 rfl ?_
    refine x_icmp_ge (pc := 20) dX2_seek_20 (tgt := 62) rfl (fun h20 => ?_) (fun h20 => ?_)
    ·
      exact absurd h20 (nI_ge (b := 120) (by omega) (by omega))
    ·
      refine x_iload (pc := 23) dX2_seek_23 rfl ?_
      refine x_ifb_eq (pc := 25) dX2_seek_25 (tgt := 62) rfl (fun h25 => ?_) (fun h25 => ?_)
      ·
        exact absurd hj2 h25
      ·
        refine x_aload_n (pc := 28) dX2_seek_28 rfl rfl ?_
        refine x_aload_n (pc := 29) dX2_seek_29 rfl rfl ?_
        refine x_Vv (pc := 30) ks_X2_26 dX2_seek_30 (tb_st (by assumption)) rfl rfl (hbec) rfl rfl rfl (Nat.le_of_ble_eq_true rfl) ?_
        refine x_aload_n (pc := 33) dX2_seek_33 rfl rfl ?_
        refine x_aload_n (pc := 34) dX2_seek_34 rfl rfl ?_
        refine x_aload_n (pc := 35) dX2_seek_35 rfl rfl ?_
        refine x_geta (pc := 36) fl_X2_15 dX2_seek_36 (tb_94) rfl ?_
        refine x_aload_n (pc := 39) dX2_seek_39 rfl rfl ?_
        refine x_geti (pc := 40) fl_X2_32 dX2_seek_40 (tb_94) rfl (show _ = nI n from by rw [fv_s_ne _ _ (by decide)]; exact f4) ?_
        refine x_Vi (pc := 43) ks_X2_35 dX2_seek_43 (tb_st (by assumption)) rfl rfl (hcv.v hsc) rfl rfl rfl (Nat.le_of_ble_eq_true rfl) ?_
        refine x_aload_n (pc := 46) dX2_seek_46 rfl rfl ?_
        refine x_Vv (pc := 47) ks_X2_39 dX2_seek_47 (tb_94) rfl rfl (hw) rfl rfl rfl (Nat.le_of_ble_eq_true rfl) ?_
        refine x_aload_n (pc := 50) dX2_seek_50 rfl rfl ?_
        refine x_Vi (pc := 51) ks_X2_43 dX2_seek_51 (tb_94) rfl rfl (hst2) rfl rfl rfl (Nat.le_of_ble_eq_true rfl) ?_
        refine x_istore4 (pc := 54) dX2_seek_54 rfl ?_
        refine x_iinc5 (pc := 56) dX2_seek_56 (by first | exact fv_inc _ | exact fv_dec _ | rfl) rfl ?_
        refine x_goto (pc := 59) dX2_seek_59 (tgt := 16) rfl ?_
        exact hL _ ⟨g0.s (by decide), by rw [fv_s_ne _ _ (by decide)]; exact g1, by rw [fv_s_ne _ _ (by decide)]; exact g2, by rw [fv_s_ne _ _ (by decide)]; exact g3, by rw [fv_s_ne _ _ (by decide)]; exact g4, fun _ i hi => by rw [fv_s_ne _ _ (by decide)]; exact g5 i hi, fv_s_same _ _ _⟩
  · rintro M1 ⟨f0, f1, f2, f3, f4, f5, f6⟩
    refine x_iload (pc := 16) dX2_seek_16 rfl ?_
    refine x_bipush (pc := 18) (v := 120) dX2_seek_18 rfl ?_
    refine x_icmp_ge (pc := 20) dX2_seek_20 (tgt := 62) rfl (fun h20 => ?_) (fun h20 => ?_)
    ·
      refine x_ret (pc := 62) dX2_seek_62 rfl ?_
      exact ⟨rfl, f0, f1, f2, f3, f5 (Nat.succ_pos J)⟩
    ·
      refine x_iload (pc := 23) dX2_seek_23 rfl ?_
      refine x_ifb_eq (pc := 25) dX2_seek_25 (tgt := 62) rfl (fun h25 => ?_) (fun h25 => ?_)
      ·
        refine x_ret (pc := 62) dX2_seek_62 rfl ?_
        exact ⟨rfl, f0, f1, f2, f3, f5 (Nat.succ_pos J)⟩
      ·
        exact absurd h25 (by omega)
