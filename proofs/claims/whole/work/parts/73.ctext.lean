theorem hX6_text {E : fv_E} {L nb nm N : Nat} (hN : 61 ≤ N) (hN9 : N ≤ 900) {b : Nat → Nat} {M : fv_M} (hL : L ≤ 120) (h0 : M 4 0 = nI L) (hb : ∀ i, i < L → b i < 256 ∧ M 5 i = nI (b i)) (hG : pGd (M 0) nb nm) (hT : ∃ t, t < 100000 ∧ M 0 0 = nI t) : fv_P E 13 mX6_text [.ref 0] M (some (.int (pTx b L N 1 0 nb nm (M 0)).1)) (fun M1 => pFr [0, 1, 4, 6, 7, 8] M M1 ∧ M1 4 0 = 0 ∧ ((pTx b L N 1 0 nb nm (M 0)).2.1 = true → pEq (pTx b L N 1 0 nb nm (M 0)).2.2.1 (pTx b L N 1 0 nb nm (M 0)).2.2.2.1 (M1 0) (pTx b L N 1 0 nb nm (M 0)).2.2.2.2) ∧ ((pTx b L N 1 0 nb nm (M 0)).2.1 = false → M1 0 = M 0)) := by
  have hs0 : 0 < 3 := by decide
  have hs1 : 1 < 3 := by decide
  have hB := hG.1
  have hb8 := hG.2.1
  have hM := hG.2.2.1
  have hm8 := hG.2.2.2.1
  have hbec := hX4_become (E := E) (d := 10) (s := 1) (t := 0) (nb := nb) (nm := nm) (M := M) hs1 hs0 (by decide) hB hb8 hM hm8
  generalize hρ : pSB (M 1) (M 0) nb nm = ρ at hbec
  have hρe : pEq nb nm ρ (M 0) := by rw [← hρ]; exact pSB_eq hb8
  have hR := pTx_keep (b := b) (L := L) N 1 0 nb nm (M 0) ρ ⟨hG, hρe, hT⟩
  have hI := hX5_readInto (E := E) (d := 3) (L := L) (nb := nb) (nm := nm) (b := b) (M := fv_s M 1 ρ) hL (by rw [fv_s_ne _ _ (by decide)]; exact h0) (fun i hi => by rw [fv_s_ne _ _ (by decide)]; exact hb i hi) (by rw [fv_s_same]; exact (hρe.n (by decide)).trans hB) hb8 (by rw [fv_s_same]; exact (hρe.n (by decide)).trans hM) hm8 N hN
  rw [fv_s_same] at hI
  have hsg := pTx_sg (b := b) (L := L) N 1 0 nb nm (M 0) (by omega)
  have hF1 : pFr [0, 1, 4, 6, 7, 8] M (fv_s M 1 ρ) := pFr.rfl'.s (by decide)
  generalize pTx b L N 1 0 nb nm (M 0) = R at *
  generalize pTx b L N 1 0 nb nm ρ = Q at *
  obtain ⟨q1, q2, q3⟩ := hR
  rw [q1, q2] at hI
  clear hρ
  cases hg : R.2.1 with
  | true =>
    obtain ⟨hGk, hEk, -⟩ := q3 hg
    obtain ⟨n, hn, en⟩ := hsg.1 hg
    have hpos : ¬ R.1 < 0 := by rw [en]; exact nI_pos (by omega)
    have hbec2 : ∀ M' : fv_M, M' 1 = Q.2.2.2.2 → fv_F E 12 mX4_become [.ref (aSt 0), .ref (aSt 1)] M' none (fv_s M' 0 (pSB (M' 0) (M' 1) R.2.2.1 R.2.2.2.1)) := fun M' e => hX4_become (E := E) (d := 10) (s := 0) (t := 1) hs0 hs1 (by decide) (by rw [e]; exact (hEk.n (by decide)).trans hGk.1) hGk.2.1 (by rw [e]; exact (hEk.n (by decide)).trans hGk.2.2.1) hGk.2.2.2.1
    refine fv_P.of (ls := [some (.ref 0), none]) (by decide) (Nat.le_of_ble_eq_true rfl) rfl ?_
    refine x_aload_n (pc := 0) dX6_text_0 rfl rfl ?_
    refine x_geta (pc := 1) fl_X6_16 dX6_text_1 (tb_fv) rfl ?_
    refine x_aload_n (pc := 4) dX6_text_4 rfl rfl ?_
    refine x_geta (pc := 5) fl_X6_12 dX6_text_5 (tb_fv) rfl ?_
    refine x_Vv (pc := 8) ks_X6_150 dX6_text_8 (tb_st hs1) rfl rfl (hbec) rfl rfl rfl (Nat.le_of_ble_eq_true rfl) ?_
    refine x_aload_n (pc := 11) dX6_text_11 rfl rfl ?_
    refine x_geta (pc := 12) fl_X6_29 dX6_text_12 (tb_fv) rfl ?_
    refine x_aload_n (pc := 15) dX6_text_15 rfl rfl ?_
    refine x_geta (pc := 16) fl_X6_16 dX6_text_16 (tb_fv) rfl ?_
    refine x_Vip (pc := 19) ks_X6_238 dX6_text_19 (tb_88) rfl rfl (hI) rfl rfl rfl (Nat.le_of_ble_eq_true rfl) (fun M1 h1 => ?_)
    refine x_istore_n1 (pc := 22) dX6_text_22 rfl ?_
    refine x_aload_n (pc := 23) dX6_text_23 rfl rfl ?_
    refine x_geta (pc := 24) fl_X6_29 dX6_text_24 (tb_fv) rfl ?_
    refine x_iconst (pc := 27) (v := 0) dX6_text_27 rfl ?_
    refine x_put (pc := 28) fl_X6_231 dX6_text_28 (tb_88) rfl rfl rfl ?_
    refine x_iload_n (pc := 31) dX6_text_31 rfl rfl ?_
    refine x_if_lt (pc := 32) dX6_text_32 (tgt := 46) rfl (fun h32 => ?_) (fun h32 => ?_)
    ·
      exact absurd h32 hpos
    ·
      have e1 := (show fv_s M1 4 (fv_u (M1 4) 0 0) 1 = Q.2.2.2.2 from h1.2 hg)
      refine x_aload_n (pc := 35) dX6_text_35 rfl rfl ?_
      refine x_geta (pc := 36) fl_X6_12 dX6_text_36 (tb_fv) rfl ?_
      refine x_aload_n (pc := 39) dX6_text_39 rfl rfl ?_
      refine x_geta (pc := 40) fl_X6_16 dX6_text_40 (tb_fv) rfl ?_
      refine x_Vv (pc := 43) ks_X6_150 dX6_text_43 (tb_st hs0) rfl rfl (hbec2 _ e1) rfl rfl rfl (Nat.le_of_ble_eq_true rfl) ?_
      refine x_iload_n (pc := 46) dX6_text_46 rfl rfl ?_
      refine x_iret (pc := 47) dX6_text_47 rfl (by first | rfl | exact fv_nz _) ?_
      exact ⟨rfl, ((hF1.tr (h1.1.mono (by decide))).s (by decide)).s (by decide), by rw [fv_s_ne _ _ (by decide), fv_s_same, fv_u_same], fun _ => by rw [fv_s_same, e1]; exact (pSB_eq hGk.2.1).tr hEk, fun z => by cases z⟩
  | false =>
    obtain ⟨p, hp, en⟩ := hsg.2 hg
    have hneg : R.1 < 0 := by rw [en]; exact pNeg_lt (by omega)
    refine fv_P.of (ls := [some (.ref 0), none]) (by decide) (Nat.le_of_ble_eq_true rfl) rfl ?_
    refine x_aload_n (pc := 0) dX6_text_0 rfl rfl ?_
    refine x_geta (pc := 1) fl_X6_16 dX6_text_1 (tb_fv) rfl ?_
    refine x_aload_n (pc := 4) dX6_text_4 rfl rfl ?_
    refine x_geta (pc := 5) fl_X6_12 dX6_text_5 (tb_fv) rfl ?_
    refine x_Vv (pc := 8) ks_X6_150 dX6_text_8 (tb_st hs1) rfl rfl (hbec) rfl rfl rfl (Nat.le_of_ble_eq_true rfl) ?_
    refine x_aload_n (pc := 11) dX6_text_11 rfl rfl ?_
    refine x_geta (pc := 12) fl_X6_29 dX6_text_12 (tb_fv) rfl ?_
    refine x_aload_n (pc := 15) dX6_text_15 rfl rfl ?_
    refine x_geta (pc := 16) fl_X6_16 dX6_text_16 (tb_fv) rfl ?_
    refine x_Vip (pc := 19) ks_X6_238 dX6_text_19 (tb_88) rfl rfl (hI) rfl rfl rfl (Nat.le_of_ble_eq_true rfl) (fun M1 h1 => ?_)
    refine x_istore_n1 (pc := 22) dX6_text_22 rfl ?_
    refine x_aload_n (pc := 23) dX6_text_23 rfl rfl ?_
    refine x_geta (pc := 24) fl_X6_29 dX6_text_24 (tb_fv) rfl ?_
    refine x_iconst (pc := 27) (v := 0) dX6_text_27 rfl ?_
    refine x_put (pc := 28) fl_X6_231 dX6_text_28 (tb_88) rfl rfl rfl ?_
    refine x_iload_n (pc := 31) dX6_text_31 rfl rfl ?_
    refine x_if_lt (pc := 32) dX6_text_32 (tgt := 46) rfl (fun h32 => ?_) (fun h32 => ?_)
    ·
      refine x_iload_n (pc := 46) dX6_text_46 rfl rfl ?_
      refine x_iret (pc := 47) dX6_text_47 rfl (by first | rfl | exact fv_nz _) ?_
      exact ⟨rfl, (hF1.tr (h1.1.mono (by decide))).s (by decide), by rw [fv_s_same, fv_u_same], fun z => (by cases z), fun _ => by rw [fv_s_ne _ _ (by decide), h1.1 0 (by decide), fv_s_ne _ _ (by decide)]⟩
    ·
      exact absurd hneg h32
