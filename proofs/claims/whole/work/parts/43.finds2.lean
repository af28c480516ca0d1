theorem pLv_lt {nb nm j : Nat} (hb : nb ≤ 8) (hm : nm ≤ 8) (h : pLv nb nm j) : j < 114 := by
  unfold pLv at h
  omega
theorem hX7_findsOrder {E : fv_E} {d nb nm k : Nat} {M : fv_M} (hG : pGd (M 22) nb nm) (hk : k < 2 ^ nm) (h5 : pBc k ≤ 5) : fv_P E (d + 7) mX7_findsOrder [.ref 106, .int (nI k)] M none (fun M' => pFr [21, 22, 24, 26, 27, 28] M M' ∧ (∀ i, i ≠ 8 → i ≠ 9 → i ≠ 10 → M' 21 i = M 21 i) ∧ pEq nb nm (M' 22) (M 22) ∧ pSk (pBs (M 22) nb (pBc k) (pO k) 0 (M 21 10) (pJ k + 1)) (pBc k) (M' 21) (M' 28) 8) := by
  have hb := hG.2.1
  have hm := hG.2.2.2.1
  have hk8 : k < 256 := Nat.lt_of_lt_of_le hk (pAll_of hm).2.1
  obtain ⟨j1, j2, j3⟩ := pJ_of hk8 h5
  have ho := pO_ib hm hk
  have hlo := hX7_laysOrder (E := E) (d := d + 5) (nm := nm) (k := k) (M := fv_s (fv_s M 24 (pCpy (M 24) (M 22) 114)) 21 (fv_u (fv_u (M 21) 8 (-1)) 9 0)) (by rw [fv_s_ne _ _ (by decide), fv_s_ne _ _ (by decide)]; exact hG.2.2.1) hm hk h5
  generalize hJ : pJ k = J at *
  generalize hn : pBc k = n at *
  generalize hσ : M 22 = σ at *
  refine fv_P.of (ls := [some (.ref 106), some (.int (nI k)), none, none, none, none]) (by decide) (Nat.le_of_ble_eq_true rfl) rfl ?_
  refine x_aload_n (pc := 0) dX7_findsOrder_0 rfl rfl ?_
  refine x_Vv (pc := 1) ks_X7_152 dX7_findsOrder_1 (tb_106) rfl rfl (hX7_setsAside) rfl rfl rfl (Nat.le_of_ble_eq_true rfl) ?_
  refine x_aload_n (pc := 4) dX7_findsOrder_4 rfl rfl ?_
  refine x_iconst (pc := 5) (v := (-1)) dX7_findsOrder_5 fv_m1 ?_
  refine x_put (pc := 6) fl_X7_168 dX7_findsOrder_6 (tb_106) rfl rfl rfl ?_
  refine x_aload_n (pc := 9) dX7_findsOrder_9 rfl rfl ?_
  refine x_iconst (pc := 10) (v := 0) dX7_findsOrder_10 rfl ?_
  refine x_put (pc := 11) fl_X7_172 dX7_findsOrder_11 (tb_106) rfl rfl rfl ?_
  simp only [fv_s_same, fv_s_s, fv_s_ne _ _ (show 21 ≠ 24 by decide), hσ]
  refine x_aload_n (pc := 14) dX7_findsOrder_14 rfl rfl ?_
  refine x_iload_n (pc := 15) dX7_findsOrder_15 rfl rfl ?_
  refine x_Vi (pc := 16) ks_X7_175 dX7_findsOrder_16 (tb_106) rfl rfl (hlo) rfl rfl rfl (Nat.le_of_ble_eq_true rfl) ?_
  refine x_istore_n2 (pc := 19) dX7_findsOrder_19 rfl ?_
  refine x_iconst (pc := 20) (v := 1) dX7_findsOrder_20 rfl ?_
  refine x_istore_n3 (pc := 21) dX7_findsOrder_21 rfl ?_
  refine x_loopI (fun j => [some (.ref 106), some (.int (nI k)), some (.int (nI n)), some (.int (bI (j ≤ J))), none, none]) (fun j M1 => pFr [21, 22, 24, 26, 27, 28] M M1 ∧ (∀ i, i ≠ 8 → i ≠ 9 → i ≠ 10 → M1 21 i = M 21 i) ∧ pEq nb nm (M1 22) σ ∧ (∀ i, i < 114 → M1 24 i = σ i) ∧ M1 21 8 = (pBs σ nb n (pO k) 0 (M 21 10) j).1 ∧ M1 21 9 = (pBs σ nb n (pO k) 0 (M 21 10) j).2.1 ∧ M1 21 10 = (pBs σ nb n (pO k) 0 (M 21 10) j).2.2.1 ∧ (0 < j → ∀ i, i < n → M1 28 i = nI ((pBs σ nb n (pO k) 0 (M 21 10) j).2.2.2.getD i 0)) ∧ M1 27 = pLay (M 27) (pO k j)) (J + 1) ?_ ?_ ?_ ?_
  · rw [bI_t (Nat.zero_le J)]
  · refine ⟨((pFr.rfl'.s (by decide)).s (by decide)).s (by decide), fun i a b c => ?_, ?_, fun i hi => ?_, ?_, ?_, ?_, fun h => absurd h (Nat.lt_irrefl 0), ?_⟩
    · rw [fv_s_ne _ _ (by decide), fv_s_same, fv_u_ne _ _ b, fv_u_ne _ _ a]
    · rw [fv_s_ne _ _ (by decide), fv_s_ne _ _ (by decide), fv_s_ne _ _ (by decide), hσ]; exact pEq.rfl'
    · rw [fv_s_ne _ _ (by decide), fv_s_ne _ _ (by decide), fv_s_same]; unfold pCpy; rw [if_pos hi]
    · rw [fv_s_ne _ _ (by decide), fv_s_same, fv_u_ne _ _ (by decide), fv_u_same]; rfl
    · rw [fv_s_ne _ _ (by decide), fv_s_same, fv_u_same]; rfl
    · rw [fv_s_ne _ _ (by decide), fv_s_same, fv_u_ne _ _ (by decide), fv_u_ne _ _ (by decide)]; rfl
    · rw [fv_s_same, fv_s_ne _ _ (by decide), fv_s_ne _ _ (by decide)]; rfl
  · rintro j M1 hj ⟨f0, fz, fe, fa, f1, f2, f3, f5, f6⟩ hL
    have hj2 : j ≤ J := by omega
    have hGρ : pGd (M1 22) nb nm := hG.cg fe
    generalize hρ : M1 22 = ρ at *
    have hsc : pVc ρ (pRw (pO k j)) nb n = pSc σ nb n (pO k j) := pVc_cg fe hb hm hG.K hG.C (fun i hi => (ho j).2 i hi)
    have hao : pAf (pVs ρ (pRw (pO k j)) nb n) nb = pAo σ nb n (pO k j) := pAf_cg (pVs_cg fe hb hm hG.K hG.C n (fun i hi => (ho j).2 i hi))
    have hn8 : n ≤ 8 := by omega
    have hjoin : ∀ M4 : fv_M, pFr [21, 22, 24, 26, 27, 28] M M4 → (∀ i, i ≠ 8 → i ≠ 9 → i ≠ 10 → M4 21 i = M 21 i) → (∀ i, i < 114 → M4 24 i = σ i) → M4 27 = pLay (M 27) (pO k j) → M4 21 8 = (pBs σ nb n (pO k) 0 (M 21 10) (j + 1)).1 → M4 21 9 + bI (pSc σ nb n (pO k j) = M4 21 8) = (pBs σ nb n (pO k) 0 (M 21 10) (j + 1)).2.1 → M4 21 10 = (pBs σ nb n (pO k) 0 (M 21 10) (j + 1)).2.2.1 → (∀ i, i < n → M4 28 i = nI ((pBs σ nb n (pO k) 0 (M 21 10) (j + 1)).2.2.2.getD i 0)) →
        fv_X E mX7_findsOrder (d + 7) (fun r' M' => r' = none ∧ pFr [21, 22, 24, 26, 27, 28] M M' ∧ (∀ i, i ≠ 8 → i ≠ 9 → i ≠ 10 → M' 21 i = M 21 i) ∧ pEq nb nm (M' 22) σ ∧ pSk (pBs σ nb n (pO k) 0 (M 21 10) (J + 1)) n (M' 21) (M' 28) 8) 125 [some (.ref 106), some (.int (nI k)), some (.int (nI n)), some (.int (bI (j ≤ J))), some (.int (pSc σ nb n (pO k j))), none] [] M4 := by
      intro M4 g0 gz ga g6 g1 g2 g3 g5
      have hgo : ∀ X, X = (pBs σ nb n (pO k) 0 (M 21 10) (j + 1)).2.1 → fv_X E mX7_findsOrder (d + 7) (fun r' M' => r' = none ∧ pFr [21, 22, 24, 26, 27, 28] M M' ∧ (∀ i, i ≠ 8 → i ≠ 9 → i ≠ 10 → M' 21 i = M 21 i) ∧ pEq nb nm (M' 22) σ ∧ pSk (pBs σ nb n (pO k) 0 (M 21 10) (J + 1)) n (M' 21) (M' 28) 8) 148 [some (.ref 106), some (.int (nI k)), some (.int (nI n)), some (.int (bI (j ≤ J))), some (.int (pSc σ nb n (pO k j))), none] [] (fv_s M4 21 (fv_u (M4 21) 9 X)) := by
        intro X hX
        obtain ⟨M5, hM5⟩ : ∃ M5 : fv_M, M5 = fv_s (fv_s M4 21 (fv_u (M4 21) 9 X)) 22 (pCpy ((fv_s M4 21 (fv_u (M4 21) 9 X)) 22) ((fv_s M4 21 (fv_u (M4 21) 9 X)) 24) 114) := ⟨_, rfl⟩
        have hlb := hX7_laysBack (E := E) (d := d + 6) (M := fv_s M4 21 (fv_u (M4 21) 9 X))
        rw [← hM5] at hlb
        have q27 : M5 27 = pLay (M 27) (pO k j) := by rw [hM5, fv_s_ne _ _ (by decide), fv_s_ne _ _ (by decide)]; exact g6
        have q21 : M5 21 = fv_u (M4 21) 9 X := by rw [hM5, fv_s_ne _ _ (by decide), fv_s_same]
        have q24 : M5 24 = M4 24 := by rw [hM5, fv_s_ne _ _ (by decide), fv_s_ne _ _ (by decide)]
        have q28 : M5 28 = M4 28 := by rw [hM5, fv_s_ne _ _ (by decide), fv_s_ne _ _ (by decide)]
        have q22 : ∀ i, i < 114 → M5 22 i = σ i := fun i hi => by
          rw [hM5, fv_s_same, fv_s_ne _ _ (show 24 ≠ 21 by decide)]
          unfold pCpy
          rw [if_pos hi]; exact ga i hi
        have q0 : pFr [21, 22, 24, 26, 27, 28] M M5 := by rw [hM5]; exact (g0.s (by decide)).s (by decide)
        clear hM5
        have hst := hX7_nextOrder (E := E) (d := d + 5) (n := n) (o := pO k j) (f := M 27) (M := M5) ⟨(ho j).1, fun i hi => Nat.lt_of_lt_of_le ((ho j).2 i hi) hm⟩ h5
        rw [← q27, fv_s_id] at hst
        have hiff : (pNx (pO k j)).isSome = true ↔ j + 1 ≤ J := by
          constructor
          · intro q
            rcases Nat.lt_or_ge j J with z | z
            · exact z
            · have e : j = J := by omega
              rw [e, j2] at q
              exact absurd q (by decide)
          · exact fun q => j3 j q
        refine x_aload_n (pc := 148) dX7_findsOrder_148 rfl rfl ?_
        refine x_Vv (pc := 149) ks_X7_155 dX7_findsOrder_149 (tb_106) rfl rfl (hlb) rfl rfl rfl (Nat.le_of_ble_eq_true rfl) ?_
        refine x_aload_n (pc := 152) dX7_findsOrder_152 rfl rfl ?_
        refine x_iload_n (pc := 153) dX7_findsOrder_153 rfl rfl ?_
        refine x_Vi (pc := 154) ks_X7_181 dX7_findsOrder_154 (tb_106) rfl rfl (hst.v (bI_congr hiff)) rfl rfl rfl (Nat.le_of_ble_eq_true rfl) ?_
        refine x_istore_n3 (pc := 157) dX7_findsOrder_157 rfl ?_
        refine x_fg4 (x_fg5 ?_)
        refine x_goto (pc := 158) dX7_findsOrder_158 (tgt := 22) rfl ?_
        exact hL _ ⟨q0.s (by decide), fun i a b c => by rw [fv_s_ne _ _ (by decide), q21, fv_u_ne _ _ b]; exact gz i a b c, fun i hi => by rw [fv_s_ne _ _ (by decide)]; exact q22 i (pLv_lt hb hm hi), fun i hi => by rw [fv_s_ne _ _ (by decide), q24]; exact ga i hi, by rw [fv_s_ne _ _ (by decide), q21, fv_u_ne _ _ (by decide)]; exact g1, by rw [fv_s_ne _ _ (by decide), q21, fv_u_same]; exact hX, by rw [fv_s_ne _ _ (by decide), q21, fv_u_ne _ _ (by decide)]; exact g3, fun _ i hi => by rw [fv_s_ne _ _ (by decide), q28]; exact g5 i hi, fv_s_same _ _ _⟩
      refine x_aload_n (pc := 125) dX7_findsOrder_125 rfl rfl ?_
      first | refine x_dupa (pc := 126) dX7_findsOrder_126 ?_ | refine x_dupi (pc := 126) dX7_findsOrder_126 ?_
      refine x_geti (pc := 127) fl_X7_172 dX7_findsOrder_127 (tb_106) rfl (rfl) ?_
      refine x_iload (pc := 130) dX7_findsOrder_130 rfl ?_
      refine x_aload_n (pc := 132) dX7_findsOrder_132 rfl rfl ?_
      refine x_geti (pc := 133) fl_X7_168 dX7_findsOrder_133 (tb_106) rfl (rfl) ?_
      refine x_icmp_ne (pc := 136) dX7_findsOrder_136 (tgt := 143) rfl (fun h136 => ?_) (fun h136 => ?_)
      ·
        refine x_iconst (pc := 143) (v := 0) dX7_findsOrder_143 rfl ?_
        refine x_iadd (pc := 144) dX7_findsOrder_144 ?_
        refine x_put (pc := 145) fl_X7_172 dX7_findsOrder_145 (tb_106) rfl rfl rfl ?_
        refine hgo _ (Eq.trans ?_ g2)
        first | rw [bI_t h136] | rw [bI_f h136]
      ·
        refine x_iconst (pc := 139) (v := 1) dX7_findsOrder_139 rfl ?_
        refine x_goto (pc := 140) dX7_findsOrder_140 (tgt := 144) rfl ?_
        refine x_iadd (pc := 144) dX7_findsOrder_144 ?_
        refine x_put (pc := 145) fl_X7_172 dX7_findsOrder_145 (tb_106) rfl rfl rfl ?_
        refine hgo _ (Eq.trans ?_ g2)
        first | rw [bI_t h136] | rw [bI_f h136]
    refine x_iload_n (pc := 22) dX7_findsOrder_22 rfl rfl ?_
    refine x_ifb_eq (pc := 23) dX7_findsOrder_23 (tgt := 161) rfl (fun h23 => ?_) (fun h23 => ?_)
    ·
      exact absurd hj2 h23
    ·
      refine x_iconst (pc := 26) (v := 0) dX7_findsOrder_26 rfl ?_
      refine x_istore4 (pc := 27) dX7_findsOrder_27 rfl ?_
      refine x_iconst (pc := 29) (v := 0) dX7_findsOrder_29 rfl ?_
      refine x_istore5 (pc := 30) dX7_findsOrder_30 rfl ?_
      refine x_loopI (fun i => [some (.ref 106), some (.int (nI k)), some (.int (nI n)), some (.int (bI (j ≤ J))), some (.int (pVc ρ (pRw (pO k j)) nb i)), some (.int (nI i))]) (fun i M2 => pFr [22, 26] M1 M2 ∧ M2 22 = pVs ρ (pRw (pO k j)) nb i) n rfl ⟨pFr.rfl', hρ⟩ ?_ ?_
      · rintro i M2 hi ⟨e0, e1⟩ hL2
        have hr := (ho j).2 i hi
        have hGi : pGd (M2 22) nb nm := by rw [e1]; exact pGd_votes hGρ i (fun z hz => (ho j).2 z (by omega))
        have hv := hX7_vote1 (E := E) (d := d) (m := pRw (pO k j) i) hGi hr
        rw [e1] at hv
        refine x_iload (pc := 32) dX7_findsOrder_32 rfl ?_
        refine x_iload_n (pc := 34) dX7_findsOrder_34 rfl rfl ?_
        refine x_icmp_ge (pc := 35) dX7_findsOrder_35 (tgt := 68) rfl (fun h35 => ?_) (fun h35 => ?_)
        ·
          exact absurd h35 (nI_ge hi (by omega))
        ·
          refine x_iload (pc := 38) dX7_findsOrder_38 rfl ?_
          refine x_aload_n (pc := 40) dX7_findsOrder_40 rfl rfl ?_
          refine x_aload_n (pc := 41) dX7_findsOrder_41 rfl rfl ?_
          refine x_geta (pc := 42) fl_X7_25 dX7_findsOrder_42 (tb_106) rfl ?_
          refine x_iload (pc := 45) dX7_findsOrder_45 rfl ?_
          refine x_iale (pc := 47) dX7_findsOrder_47 (tb_112) (rfl) (by omega) (by first | decide | assumption) (show _ = nI (pRw (pO k j) i) from by rw [e0 27 (by decide), f6, Nat.zero_add, pLay_at (by rw [(ho j).1]; exact hi)]) ?_
          refine x_Vip (pc := 48) ks_X7_136 dX7_findsOrder_48 (tb_106) rfl rfl (hv) rfl rfl rfl (Nat.le_of_ble_eq_true rfl) (fun M3 h3 => ?_)
          refine x_ifb_eq (pc := 51) dX7_findsOrder_51 (tgt := 58) rfl (fun h51 => ?_) (fun h51 => ?_)
          ·
            refine x_iconst (pc := 58) (v := 0) dX7_findsOrder_58 rfl ?_
            refine x_iadd (pc := 59) dX7_findsOrder_59 ?_
            first | rw [show pVc ρ (pRw (pO k j)) nb i + 1 = pVc ρ (pRw (pO k j)) nb (i + 1) from pVc_t h51] | rw [Int32.add_zero, show pVc ρ (pRw (pO k j)) nb i = pVc ρ (pRw (pO k j)) nb (i + 1) from pVc_f h51]
            refine x_istore4 (pc := 60) dX7_findsOrder_60 rfl ?_
            refine x_iinc5 (pc := 62) dX7_findsOrder_62 (by first | exact fv_inc _ | exact fv_dec _ | rfl) rfl ?_
            refine x_goto (pc := 65) dX7_findsOrder_65 (tgt := 32) rfl ?_
            exact hL2 _ ⟨e0.tr h3.1, h3.2⟩
          ·
            refine x_iconst (pc := 54) (v := 1) dX7_findsOrder_54 rfl ?_
            refine x_goto (pc := 55) dX7_findsOrder_55 (tgt := 59) rfl ?_
            refine x_iadd (pc := 59) dX7_findsOrder_59 ?_
            first | rw [show pVc ρ (pRw (pO k j)) nb i + 1 = pVc ρ (pRw (pO k j)) nb (i + 1) from pVc_t h51] | rw [Int32.add_zero, show pVc ρ (pRw (pO k j)) nb i = pVc ρ (pRw (pO k j)) nb (i + 1) from pVc_f h51]
            refine x_istore4 (pc := 60) dX7_findsOrder_60 rfl ?_
            refine x_iinc5 (pc := 62) dX7_findsOrder_62 (by first | exact fv_inc _ | exact fv_dec _ | rfl) rfl ?_
            refine x_goto (pc := 65) dX7_findsOrder_65 (tgt := 32) rfl ?_
            exact hL2 _ ⟨e0.tr h3.1, h3.2⟩
      · rintro M2 ⟨e0, e1⟩
        rw [hsc]
        have e0' : pFr [21, 22, 24, 26, 27, 28] M M2 := f0.tr (e0.mono (by decide))
        have e21 : M2 21 = M1 21 := e0 21 (by decide)
        have e24 : M2 24 = M1 24 := e0 24 (by decide)
        have e27 : M2 27 = M1 27 := e0 27 (by decide)
        have e28 : M2 28 = M1 28 := e0 28 (by decide)
        have hGω : pGd (M2 22) nb nm := by rw [e1]; exact pGd_votes hGρ n (fun z hz => (ho j).2 z hz)
        have hB1 : pBs σ nb n (pO k) 0 (M 21 10) (j + 1) = _ := pBs.eq_2 σ nb n (pO k) 0 (M 21 10) j
        refine x_iload (pc := 32) dX7_findsOrder_32 rfl ?_
        refine x_iload_n (pc := 34) dX7_findsOrder_34 rfl rfl ?_
        refine x_icmp_ge (pc := 35) dX7_findsOrder_35 (tgt := 68) rfl (fun h35 => ?_) (fun h35 => ?_)
        ·
          refine x_iload (pc := 68) dX7_findsOrder_68 rfl ?_
          refine x_aload_n (pc := 70) dX7_findsOrder_70 rfl rfl ?_
          refine x_geti (pc := 71) fl_X7_168 dX7_findsOrder_71 (tb_106) rfl (show _ = (pBs σ nb n (pO k) 0 (M 21 10) j).1 from by rw [e21]; exact f1) ?_
          refine x_icmp_le (pc := 74) dX7_findsOrder_74 (tgt := 125) rfl (fun h74 => ?_) (fun h74 => ?_)
          ·
            have c1 := Int32.not_lt.mpr h74
            rw [if_neg c1] at hB1
            have hj0 : 0 < j := by
              rcases Nat.eq_zero_or_pos j with q | q
              · subst q; exact absurd (pSc_pos σ nb n (pO k 0) hn8) c1
              · exact q
            refine x_fg5 (hjoin _ e0' (fun i a b c => by rw [e21]; exact fz i a b c) (fun i hi => by rw [e24]; exact fa i hi) (by rw [e27]; exact f6) ?_ ?_ ?_ (fun i hi => ?_))
            · rw [hB1, e21, f1]; split <;> rfl
            · rw [hB1, e21, f1, f2]
              by_cases c2 : pSc σ nb n (pO k j) = (pBs σ nb n (pO k) 0 (M 21 10) j).1
              · rw [if_pos c2, bI_t c2]
              · rw [if_neg c2, bI_f c2, Int32.add_zero]
            · rw [hB1, e21, f3]; split <;> rfl
            · rw [hB1, e28, f5 hj0 i hi]; split <;> rfl
          ·
            refine x_aload_n (pc := 77) dX7_findsOrder_77 rfl rfl ?_
            refine x_iload (pc := 78) dX7_findsOrder_78 rfl ?_
            refine x_put (pc := 80) fl_X7_168 dX7_findsOrder_80 (tb_106) rfl rfl rfl ?_
            refine x_aload_n (pc := 83) dX7_findsOrder_83 rfl rfl ?_
            refine x_iconst (pc := 84) (v := 0) dX7_findsOrder_84 rfl ?_
            refine x_put (pc := 85) fl_X7_172 dX7_findsOrder_85 (tb_106) rfl rfl rfl ?_
            simp only [fv_s_same, fv_s_s]
            refine x_aload_n (pc := 88) dX7_findsOrder_88 rfl rfl ?_
            refine x_aload_n (pc := 89) dX7_findsOrder_89 rfl rfl ?_
            refine x_Vi (pc := 90) ks_X7_143 dX7_findsOrder_90 (tb_106) rfl rfl ((hX7_allFeathers (nb := nb) (by rw [fv_s_ne _ _ (by decide)]; exact hGω.1) hb).v (show _ = pAo σ nb n (pO k j) from by rw [fv_s_ne _ _ (by decide), e1]; exact hao)) rfl rfl rfl (Nat.le_of_ble_eq_true rfl) ?_
            refine x_put (pc := 93) fl_X7_178 dX7_findsOrder_93 (tb_106) rfl rfl rfl ?_
            simp only [fv_s_same, fv_s_s]
            refine x_iconst (pc := 96) (v := 0) dX7_findsOrder_96 rfl ?_
            refine x_istore5 (pc := 97) dX7_findsOrder_97 rfl ?_
            have c1 := Int32.not_le.mp h74
            rw [if_pos c1] at hB1
            obtain ⟨M3, hM3⟩ : ∃ M3 : fv_M, M3 = fv_s M2 21 (fv_u (fv_u (fv_u (M2 21) 8 (pSc σ nb n (pO k j))) 9 0) 10 (pAo σ nb n (pO k j))) := ⟨_, rfl⟩
            rw [← hM3]
            have q21 : M3 21 = fv_u (fv_u (fv_u (M2 21) 8 (pSc σ nb n (pO k j))) 9 0) 10 (pAo σ nb n (pO k j)) := by rw [hM3, fv_s_same]
            have q0 : pFr [21, 22, 24, 26, 27, 28] M M3 := by rw [hM3]; exact e0'.s (by decide)
            have q24 : M3 24 = M2 24 := by rw [hM3, fv_s_ne _ _ (by decide)]
            have q27 : M3 27 = M2 27 := by rw [hM3, fv_s_ne _ _ (by decide)]
            clear hM3
            refine x_loop (fun i => [some (.ref 106), some (.int (nI k)), some (.int (nI n)), some (.int (bI (j ≤ J))), some (.int (pSc σ nb n (pO k j))), some (.int (nI i))]) (fun i => fv_s M3 28 (pCpy (M3 28) (M3 27) i)) n rfl (by rw [pCpy_0, fv_s_id]) (fun i hi hL2 => ?_) ?_
            · show fv_X E mX7_findsOrder _ _ 99 [some (.ref 106), some (.int (nI k)), some (.int (nI n)), some (.int (bI (j ≤ J))), some (.int (pSc σ nb n (pO k j))), some (.int (nI i))] [] (fv_s M3 28 (pCpy (M3 28) (M3 27) i))
              replace hL2 : fv_X E mX7_findsOrder _ _ 99 [some (.ref 106), some (.int (nI k)), some (.int (nI n)), some (.int (bI (j ≤ J))), some (.int (pSc σ nb n (pO k j))), some (.int (nI (i + 1)))] [] (fv_s M3 28 (pCpy (M3 28) (M3 27) (i + 1))) := hL2
              refine x_iload (pc := 99) dX7_findsOrder_99 rfl ?_
              refine x_iload_n (pc := 101) dX7_findsOrder_101 rfl rfl ?_
              refine x_icmp_ge (pc := 102) dX7_findsOrder_102 (tgt := 125) rfl (fun h102 => ?_) (fun h102 => ?_)
              ·
                exact absurd h102 (nI_ge hi (by omega))
              ·
                refine x_aload_n (pc := 105) dX7_findsOrder_105 rfl rfl ?_
                refine x_geta (pc := 106) fl_X7_28 dX7_findsOrder_106 (tb_106) rfl ?_
                refine x_iload (pc := 109) dX7_findsOrder_109 rfl ?_
                refine x_aload_n (pc := 111) dX7_findsOrder_111 rfl rfl ?_
                refine x_geta (pc := 112) fl_X7_25 dX7_findsOrder_112 (tb_106) rfl ?_
                refine x_iload (pc := 115) dX7_findsOrder_115 rfl ?_
                refine x_iald (pc := 117) dX7_findsOrder_117 (tb_112) (rfl) (by omega) (by first | decide | assumption) ?_
                refine x_iast (pc := 118) dX7_findsOrder_118 (tb_113) (rfl) (by omega) (by first | decide | assumption) ?_
                rw [fv_s_same, fv_s_s, fv_s_ne _ _ (show 27 ≠ 28 by decide), Nat.zero_add, pCpy_s]
                refine x_iinc5 (pc := 119) dX7_findsOrder_119 (by first | exact fv_inc _ | exact fv_dec _ | rfl) rfl ?_
                refine x_goto (pc := 122) dX7_findsOrder_122 (tgt := 99) rfl ?_
                exact hL2
            · show fv_X E mX7_findsOrder _ _ 99 [some (.ref 106), some (.int (nI k)), some (.int (nI n)), some (.int (bI (j ≤ J))), some (.int (pSc σ nb n (pO k j))), some (.int (nI n))] [] (fv_s M3 28 (pCpy (M3 28) (M3 27) n))
              refine x_iload (pc := 99) dX7_findsOrder_99 rfl ?_
              refine x_iload_n (pc := 101) dX7_findsOrder_101 rfl rfl ?_
              refine x_icmp_ge (pc := 102) dX7_findsOrder_102 (tgt := 125) rfl (fun h102 => ?_) (fun h102 => ?_)
              ·
                refine x_fg5 (hjoin _ (q0.s (by decide)) (fun i a b c => by rw [fv_s_ne _ _ (by decide), q21, fv_u_ne _ _ c, fv_u_ne _ _ b, fv_u_ne _ _ a, e21]; exact fz i a b c) (fun i hi => by rw [fv_s_ne _ _ (by decide), q24, e24]; exact fa i hi) (by rw [fv_s_ne _ _ (by decide), q27, e27]; exact f6) ?_ ?_ ?_ (fun i hi => ?_))
                · rw [hB1, fv_s_ne _ _ (by decide), q21, fv_u_ne _ _ (by decide), fv_u_ne _ _ (by decide), fv_u_same]
                · rw [hB1, fv_s_ne _ _ (by decide), q21, fv_u_ne _ _ (by decide), fv_u_same, fv_u_ne _ _ (by decide), fv_u_ne _ _ (by decide), fv_u_same, bI_t rfl]; rfl
                · rw [hB1, fv_s_ne _ _ (by decide), q21, fv_u_same]
                · rw [hB1, fv_s_same]; unfold pCpy; rw [if_pos hi, q27, e27, f6, pLay_at (by rw [(ho j).1]; exact hi)]
              ·
                exact absurd (Int32.le_refl _) h102
        ·
          exact absurd (Int32.le_refl _) h35
  · rintro M1 ⟨f0, fz, fe, fa, f1, f2, f3, f5, f6⟩
    refine x_iload_n (pc := 22) dX7_findsOrder_22 rfl rfl ?_
    refine x_ifb_eq (pc := 23) dX7_findsOrder_23 (tgt := 161) rfl (fun h23 => ?_) (fun h23 => ?_)
    ·
      refine x_ret (pc := 161) dX7_findsOrder_161 rfl ?_
      exact ⟨rfl, f0, fz, fe, f1, f2, f3, f5 (Nat.succ_pos J)⟩
    ·
      exact absurd h23 (by omega)
