theorem pSn_m {nb t n k f : Nat} {σ : Nat → Int32} (hb : nb ≤ 8) : pSn nb t σ n (fM k f) = σ (fM k f) := by
  unfold pSn
  refine fN_keep (fun i τ _ => ?_)
  unfold pSea
  rw [fv_u_ne _ _ (by unfold fM; omega)]
  exact fN_keep (fun b τ hb2 => pGr_ne (by unfold fB fM; omega))
theorem hX7_pass1 {E : fv_E} {d nb nm k : Nat} {M : fv_M} (hG : pGd (M 22) nb nm) (hk : k < nm) : fv_F E (d + 5) mX7_passesNow [.ref 106, .int (nI k)] M (some (.int (bI (pPs (M 22) nb k (pCo (M 22) k))))) M := by
  obtain ⟨h8, hcol, hc, hu⟩ := pG2.at hG hk
  exact hX7_passesNow hG.gb h8 hcol hc hu
theorem op_when {E : fv_E} {m : Int32} {M : fv_M} (I : pInv M) : pOp E mX6_when mX7_when [.int m] M := by
  obtain ⟨nb, nm, hG, hE, t, ht, eT⟩ := I.1
  have hs0 : 0 < 3 := by decide
  have hs1 : 1 < 3 := by decide
  have hB := hG.1
  have hb := hG.2.1
  have hM := hG.2.2.1
  have hn := hG.2.2.2.1
  have hK := hG.K
  have hC := hG.C
  have hG2 : pGd (M 22) nb nm := hG.cg hE
  by_cases hm : 0 ≤ m ∧ m ≤ nI nm - 1
  · obtain ⟨k, hk, rfl⟩ := pUx (by omega) hm
    have hc := pCo_of hC hk
    have hk8 : k < 8 := by omega
    obtain ⟨t1, t2, t3⟩ := wT_all (fun j => !decide (pPs (pSn nb t (M 0) j) nb k (pCo (M 0) k))) 201
    generalize hT : wT (fun j => !decide (pPs (pSn nb t (M 0) j) nb k (pCo (M 0) k))) 201 = T at *
    have n2 : ∀ j, j < T → ¬ pPs (pSn nb t (M 0) j) nb k (pCo (M 0) k) := fun j hj => by
      have h := t2 j hj
      rw [Bool.not_eq_true', decide_eq_false_iff_not] at h
      exact h
    have n3 : T < 201 → pPs (pSn nb t (M 0) T) nb k (pCo (M 0) k) := fun hj => by
      have h := t3 hj
      rw [Bool.not_eq_false'] at h
      exact of_decide_eq_true h
    by_cases hle : T ≤ 200
    · skip
      refine pOp.qry (v := nI T) I ?_ (fun M1 hF => ?_)
      · have hbec := hX4_become (E := E) (d := 10) (s := 1) (t := 0) (nb := nb) (nm := nm) (M := M) hs1 hs0 (by decide) hB hb hM hn
        generalize hρ : pSB (M 1) (M 0) nb nm = ρ at hbec
        have hρe : pEq nb nm ρ (M 0) := by rw [← hρ]; exact pSB_eq hb
        have hGρ : pGd ρ nb nm := hG.cg hρe
        have eρ : ρ 0 = nI t := (hρe.n (by decide)).trans eT
        refine fv_P.of (ls := [some (.ref 0), some (.int (nI k)), none]) (by decide) (Nat.le_of_ble_eq_true rfl) rfl ?_
        refine x_aload_n (pc := 0) dX6_when_0 rfl rfl ?_
        refine x_geta (pc := 1) fl_X6_12 dX6_when_1 (tb_fv) rfl ?_
        refine x_iload_n (pc := 4) dX6_when_4 rfl rfl ?_
        refine x_Vi (pc := 5) ks_X6_94 dX6_when_5 (tb_st (by assumption)) rfl rfl (hHm hM) rfl rfl rfl (Nat.le_of_ble_eq_true rfl) ?_
        refine x_ifb_ne (pc := 8) dX6_when_8 (tgt := 18) rfl (fun h8 => ?_) (fun h8 => ?_)
        ·
          refine x_aload_n (pc := 18) dX6_when_18 rfl rfl ?_
          refine x_geta (pc := 19) fl_X6_16 dX6_when_19 (tb_fv) rfl ?_
          refine x_aload_n (pc := 22) dX6_when_22 rfl rfl ?_
          refine x_geta (pc := 23) fl_X6_12 dX6_when_23 (tb_fv) rfl ?_
          refine x_Vv (pc := 26) ks_X6_150 dX6_when_26 (tb_st (by assumption)) rfl rfl (hbec) rfl rfl rfl (Nat.le_of_ble_eq_true rfl) ?_
          refine x_iconst (pc := 29) (v := 0) dX6_when_29 rfl ?_
          refine x_istore_n2 (pc := 30) dX6_when_30 rfl ?_
          refine x_loop (fun j => [some (.ref 0), some (.int (nI k)), some (.int (nI j))]) (fun j => fv_s M 1 (pSn nb t ρ j)) T rfl rfl (fun j hj hL => ?_) ?_
          · show fv_X E mX6_when _ _ 31 [some (.ref 0), some (.int (nI k)), some (.int (nI j))] [] (fv_s M 1 (pSn nb t ρ j))
            replace hL : fv_X E mX6_when _ _ 31 [some (.ref 0), some (.int (nI k)), some (.int (nI (j + 1)))] [] (fv_s M 1 (pSn nb t ρ (j + 1))) := hL
            obtain ⟨g1, g2⟩ := pSn_1 hGρ eρ j (by omega)
            have ge := pSn_cg (t := t) hρe j
            have hp := hX4_passSeason (E := E) (d := 10) (s := 1) (nb := nb) (t := t + j) (M := fv_s M 1 (pSn nb t ρ j)) hs1 (by rw [fv_s_same]; exact g1.1) hb (by rw [fv_s_same]; exact g2) (by omega)
            rw [fv_s_same, fv_s_s, pSn_s] at hp
            have hw := (hX4_wouldPass (E := E) (d := 8) (s := 1) (nb := nb) (m := k) (c := pCo (M 0) k) (M := fv_s M 1 (pSn nb t ρ j)) hs1 (by rw [fv_s_same]; exact g1.1) hb (by rw [fv_s_same]; exact g1.K) hk8 (by rw [fv_s_same, pSn_m hb]; exact (hρe.m hk (by decide)).trans hc.1) hc.2).v (show _ = bI (pPs (pSn nb t (M 0) j) nb k (pCo (M 0) k)) from bI_congr (by rw [fv_s_same]; exact pPs_cg ge hk hc.2))
            refine x_iload_n (pc := 31) dX6_when_31 rfl rfl ?_
            refine x_sipush (pc := 32) (v := 200) dX6_when_32 rfl ?_
            refine x_icmp_gt (pc := 35) dX6_when_35 (tgt := 72) rfl (fun h35 => ?_) (fun h35 => ?_)
            ·
              exact absurd h35 (nI_nlt (b := j) (a := 200) (by omega) (by omega))
            ·
              refine x_aload_n (pc := 38) dX6_when_38 rfl rfl ?_
              refine x_geta (pc := 39) fl_X6_16 dX6_when_39 (tb_fv) rfl ?_
              refine x_aload_n (pc := 42) dX6_when_42 rfl rfl ?_
              refine x_geta (pc := 43) fl_X6_16 dX6_when_43 (tb_fv) rfl ?_
              refine x_geta (pc := 46) fl_X6_97 dX6_when_46 (tb_st (by assumption)) rfl ?_
              refine x_iload_n (pc := 49) dX6_when_49 rfl rfl ?_
              refine x_motion (pc := 50) dX6_when_50 (by assumption) (rfl) (hk8) ?_
              refine x_Vi (pc := 51) ks_X6_123 dX6_when_51 (tb_st hs1) rfl rfl (hw) rfl rfl rfl (Nat.le_of_ble_eq_true rfl) ?_
              refine x_ifb_eq (pc := 54) dX6_when_54 (tgt := 59) rfl (fun h54 => ?_) (fun h54 => ?_)
              ·
                refine x_aload_n (pc := 59) dX6_when_59 rfl rfl ?_
                refine x_geta (pc := 60) fl_X6_16 dX6_when_60 (tb_fv) rfl ?_
                refine x_Vv (pc := 63) ks_X6_135 dX6_when_63 (tb_st hs1) rfl rfl (hp) rfl rfl rfl (Nat.le_of_ble_eq_true rfl) ?_
                refine x_iinc2 (pc := 66) dX6_when_66 (by first | exact fv_inc _ | exact fv_dec _ | rfl) rfl ?_
                refine x_goto (pc := 69) dX6_when_69 (tgt := 31) rfl ?_
                exact hL
              ·
                exact absurd h54 (n2 j hj)
          · show fv_X E mX6_when _ _ 31 [some (.ref 0), some (.int (nI k)), some (.int (nI T))] [] (fv_s M 1 (pSn nb t ρ T))
            have g := pSn_1 hGρ eρ T (by omega)
            obtain ⟨g1, g2⟩ := g
            have ge := pSn_cg (t := t) hρe T
            have hw := (hX4_wouldPass (E := E) (d := 8) (s := 1) (nb := nb) (m := k) (c := pCo (M 0) k) (M := fv_s M 1 (pSn nb t ρ T)) hs1 (by rw [fv_s_same]; exact g1.1) hb (by rw [fv_s_same]; exact g1.K) hk8 (by rw [fv_s_same, pSn_m hb]; exact (hρe.m hk (by decide)).trans hc.1) hc.2).v (show _ = bI (pPs (pSn nb t (M 0) T) nb k (pCo (M 0) k)) from bI_congr (by rw [fv_s_same]; exact pPs_cg ge hk hc.2))
            refine x_iload_n (pc := 31) dX6_when_31 rfl rfl ?_
            refine x_sipush (pc := 32) (v := 200) dX6_when_32 rfl ?_
            refine x_icmp_gt (pc := 35) dX6_when_35 (tgt := 72) rfl (fun h35 => ?_) (fun h35 => ?_)
            ·
              exact absurd h35 (nI_nlt (b := T) (a := 200) (by omega) (by omega))
            ·
              refine x_aload_n (pc := 38) dX6_when_38 rfl rfl ?_
              refine x_geta (pc := 39) fl_X6_16 dX6_when_39 (tb_fv) rfl ?_
              refine x_aload_n (pc := 42) dX6_when_42 rfl rfl ?_
              refine x_geta (pc := 43) fl_X6_16 dX6_when_43 (tb_fv) rfl ?_
              refine x_geta (pc := 46) fl_X6_97 dX6_when_46 (tb_st (by assumption)) rfl ?_
              refine x_iload_n (pc := 49) dX6_when_49 rfl rfl ?_
              refine x_motion (pc := 50) dX6_when_50 (by assumption) (rfl) (hk8) ?_
              refine x_Vi (pc := 51) ks_X6_123 dX6_when_51 (tb_st hs1) rfl rfl (hw) rfl rfl rfl (Nat.le_of_ble_eq_true rfl) ?_
              refine x_ifb_eq (pc := 54) dX6_when_54 (tgt := 59) rfl (fun h54 => ?_) (fun h54 => ?_)
              ·
                exact absurd (n3 (by omega)) h54
              ·
                refine x_iload_n (pc := 57) dX6_when_57 rfl rfl ?_
                refine x_iret (pc := 58) dX6_when_58 rfl (by first | rfl | exact fv_nz _) ?_
                exact ⟨rfl, pFr.rfl'.s (by decide)⟩
        ·
          exact absurd hm h8
      · skip
        have e22 : M1 22 = M 22 := hF 22 (by decide)
        have hG1 : pGd (M1 22) nb nm := by rw [e22]; exact hG2
        have hE1 : pEq nb nm (M1 22) (M 0) := by rw [e22]; exact hE
        have hB1 := hG1.1
        have hM1 := hG1.2.2.1
        have eτ : M1 22 0 = nI t := (hE1.n (by decide)).trans eT
        obtain ⟨A, hA⟩ : ∃ A, A = pCpy (M1 24) (M1 22) 114 := ⟨_, rfl⟩
        have hAl : ∀ i, i < 114 → A i = M1 22 i := fun i hi => by rw [hA]; exact pCpy_lt hi
        have hsa := hX7_setsAside (E := E) (d := 12) (M := M1)
        rw [← hA] at hsa
        have hgs : ∀ j, j ≤ 201 → fv_F E (11 + 1) mX7_goesSeason [.ref 106] (fv_s (fv_s M1 24 A) 22 (pSn nb t (M1 22) j)) none (fv_s (fv_s M1 24 A) 22 (pSn nb t (M1 22) (j + 1))) := fun j hj => by
          obtain ⟨g1, g2⟩ := pSn_1 hG1 eτ j (by omega)
          have hp := hX7_goesSeason (E := E) (d := 11) (nb := nb) (t := t + j) (M := fv_s (fv_s M1 24 A) 22 (pSn nb t (M1 22) j)) (by rw [fv_s_same]; exact g1.1) hb (by rw [fv_s_same]; exact g2) (by omega)
          rw [fv_s_same, fv_s_s, pSn_s] at hp
          exact hp
        have h00 : fv_s (fv_s M1 24 A) 22 (pSn nb t (M1 22) 0) = fv_s M1 24 A := by
          show fv_s (fv_s M1 24 A) 22 (M1 22) = _
          rw [← fv_s_ne M1 A (show 22 ≠ 24 by decide), fv_s_id]
        have hpn : ∀ j, j ≤ 201 → fv_F E (7 + 5) mX7_passesNow [.ref 106, .int (nI k)] (fv_s (fv_s M1 24 A) 22 (pSn nb t (M1 22) j)) (some (.int (bI (pPs (pSn nb t (M 0) j) nb k (pCo (M 0) k))))) (fv_s (fv_s M1 24 A) 22 (pSn nb t (M1 22) j)) := fun j hj => by
          obtain ⟨g1, g2⟩ := pSn_1 hG1 eτ j (by omega)
          refine (hX7_pass1 (E := E) (d := 7) (nb := nb) (nm := nm) (by rw [fv_s_same]; exact g1) hk).v (bI_congr ?_)
          rw [fv_s_same, pCo_cg (pSn_cg (t := t) hE1 j) hk, show pCo (pSn nb t (M 0) j) k = pCo (M 0) k by unfold pCo; rw [pSn_m hb]]
          exact pPs_cg (pSn_cg hE1 j) hk hc.2
        have hpn0 := hpn 0 (by omega)
        rw [h00] at hpn0
        refine fv_P.of (ls := [some (.ref 106), some (.int (nI k)), none, none]) (by decide) (Nat.le_of_ble_eq_true rfl) rfl ?_
        refine x_aload_n (pc := 0) dX7_when_0 rfl rfl ?_
        refine x_iload_n (pc := 1) dX7_when_1 rfl rfl ?_
        refine x_Vi (pc := 2) ks_X7_126 dX7_when_2 (tb_106) rfl rfl (hX7_isMotion (x := nI nm) hM1) rfl rfl rfl (Nat.le_of_ble_eq_true rfl) ?_
        refine x_ifb_ne (pc := 5) dX7_when_5 (tgt := 14) rfl (fun h5 => ?_) (fun h5 => ?_)
        ·
          refine x_aload_n (pc := 14) dX7_when_14 rfl rfl ?_
          refine x_Vv (pc := 15) ks_X7_152 dX7_when_15 (tb_106) rfl rfl (hsa) rfl rfl rfl (Nat.le_of_ble_eq_true rfl) ?_
          refine x_iconst (pc := 18) (v := 0) dX7_when_18 rfl ?_
          refine x_istore_n2 (pc := 19) dX7_when_19 rfl ?_
          refine x_aload_n (pc := 20) dX7_when_20 rfl rfl ?_
          refine x_iload_n (pc := 21) dX7_when_21 rfl rfl ?_
          refine ?_
          refine x_Vi (pc := 22) ks_X7_104 dX7_when_22 (tb_106) rfl rfl (hpn0) rfl rfl rfl (Nat.le_of_ble_eq_true rfl) ?_
          refine x_istore_n3 (pc := 25) dX7_when_25 rfl ?_
          refine x_loop (fun j => [some (.ref 106), some (.int (nI k)), some (.int (nI j)), some (.int (bI (pPs (pSn nb t (M 0) j) nb k (pCo (M 0) k))))]) (fun j => fv_s (fv_s M1 24 A) 22 (pSn nb t (M1 22) j)) T rfl h00 (fun j hj hL => ?_) ?_
          · show fv_X E mX7_when _ _ 26 [some (.ref 106), some (.int (nI k)), some (.int (nI j)), some (.int (bI (pPs (pSn nb t (M 0) j) nb k (pCo (M 0) k))))] [] (fv_s (fv_s M1 24 A) 22 (pSn nb t (M1 22) j))
            replace hL : fv_X E mX7_when _ _ 26 [some (.ref 106), some (.int (nI k)), some (.int (nI (j + 1))), some (.int (bI (pPs (pSn nb t (M 0) (j + 1)) nb k (pCo (M 0) k))))] [] (fv_s (fv_s M1 24 A) 22 (pSn nb t (M1 22) (j + 1))) := hL
            refine x_iload_n (pc := 26) dX7_when_26 rfl rfl ?_
            refine x_sipush (pc := 27) (v := 200) dX7_when_27 rfl ?_
            refine x_icmp_ge (pc := 30) dX7_when_30 (tgt := 53) rfl (fun h30 => ?_) (fun h30 => ?_)
            ·
              exact absurd h30 (nI_ge (b := 200) (by omega) (by omega))
            ·
              refine x_iload_n (pc := 33) dX7_when_33 rfl rfl ?_
              refine x_ifb_ne (pc := 34) dX7_when_34 (tgt := 53) rfl (fun h34 => ?_) (fun h34 => ?_)
              ·
                exact absurd h34 (n2 j (by omega))
              ·
                refine x_aload_n (pc := 37) dX7_when_37 rfl rfl ?_
                refine x_Vv (pc := 38) ks_X7_140 dX7_when_38 (tb_106) rfl rfl (hgs j (by omega)) rfl rfl rfl (Nat.le_of_ble_eq_true rfl) ?_
                refine x_iinc2 (pc := 41) dX7_when_41 (by first | exact fv_inc _ | exact fv_dec _ | rfl) rfl ?_
                refine x_aload_n (pc := 44) dX7_when_44 rfl rfl ?_
                refine x_iload_n (pc := 45) dX7_when_45 rfl rfl ?_
                refine x_Vi (pc := 46) ks_X7_104 dX7_when_46 (tb_106) rfl rfl (hpn (j + 1) (by omega)) rfl rfl rfl (Nat.le_of_ble_eq_true rfl) ?_
                refine x_istore_n3 (pc := 49) dX7_when_49 rfl ?_
                refine x_goto (pc := 50) dX7_when_50 (tgt := 26) rfl ?_
                exact hL
          · show fv_X E mX7_when _ _ 26 [some (.ref 106), some (.int (nI k)), some (.int (nI T)), some (.int (bI (pPs (pSn nb t (M 0) T) nb k (pCo (M 0) k))))] [] (fv_s (fv_s M1 24 A) 22 (pSn nb t (M1 22) T))
            refine x_iload_n (pc := 26) dX7_when_26 rfl rfl ?_
            refine x_sipush (pc := 27) (v := 200) dX7_when_27 rfl ?_
            refine x_icmp_ge (pc := 30) dX7_when_30 (tgt := 53) rfl (fun h30 => ?_) (fun h30 => ?_)
            ·
              refine x_aload_n (pc := 53) dX7_when_53 rfl rfl ?_
              refine x_Vv (pc := 54) ks_X7_155 dX7_when_54 (tb_106) rfl rfl (hX7_laysBack) rfl rfl rfl (Nat.le_of_ble_eq_true rfl) ?_
              refine x_iload_n (pc := 57) dX7_when_57 rfl rfl ?_
              refine x_ifb_eq (pc := 58) dX7_when_58 (tgt := 65) rfl (fun h58 => ?_) (fun h58 => ?_)
              ·
                exact absurd (n3 (by omega)) h58
              ·
                refine x_iload_n (pc := 61) dX7_when_61 rfl rfl ?_
                refine x_goto (pc := 62) dX7_when_62 (tgt := 70) rfl ?_
                refine x_iret (pc := 70) dX7_when_70 rfl (by first | rfl | exact fv_nz _) ?_
                exact ⟨rfl, (((pFr.rfl'.s (by decide)).s (by decide)).s (by decide)), by rw [fv_s_ne _ _ (by decide), fv_s_ne _ _ (by decide), fv_s_ne _ _ (by decide)], by rw [fv_s_ne _ _ (by decide), fv_s_ne _ _ (by decide), fv_s_ne _ _ (by decide)], fun nb nm hi => by rw [fv_s_same]; exact pEq_cpy (fun i hi => by rw [fv_s_ne _ _ (by decide), fv_s_same]; exact hAl i hi) nb nm hi⟩
            ·
              refine x_iload_n (pc := 33) dX7_when_33 rfl rfl ?_
              refine x_ifb_ne (pc := 34) dX7_when_34 (tgt := 53) rfl (fun h34 => ?_) (fun h34 => ?_)
              ·
                refine x_aload_n (pc := 53) dX7_when_53 rfl rfl ?_
                refine x_Vv (pc := 54) ks_X7_155 dX7_when_54 (tb_106) rfl rfl (hX7_laysBack) rfl rfl rfl (Nat.le_of_ble_eq_true rfl) ?_
                refine x_iload_n (pc := 57) dX7_when_57 rfl rfl ?_
                refine x_ifb_eq (pc := 58) dX7_when_58 (tgt := 65) rfl (fun h58 => ?_) (fun h58 => ?_)
                ·
                  exact absurd (n3 (by omega)) h58
                ·
                  refine x_iload_n (pc := 61) dX7_when_61 rfl rfl ?_
                  refine x_goto (pc := 62) dX7_when_62 (tgt := 70) rfl ?_
                  refine x_iret (pc := 70) dX7_when_70 rfl (by first | rfl | exact fv_nz _) ?_
                  exact ⟨rfl, (((pFr.rfl'.s (by decide)).s (by decide)).s (by decide)), by rw [fv_s_ne _ _ (by decide), fv_s_ne _ _ (by decide), fv_s_ne _ _ (by decide)], by rw [fv_s_ne _ _ (by decide), fv_s_ne _ _ (by decide), fv_s_ne _ _ (by decide)], fun nb nm hi => by rw [fv_s_same]; exact pEq_cpy (fun i hi => by rw [fv_s_ne _ _ (by decide), fv_s_same]; exact hAl i hi) nb nm hi⟩
              ·
                exact absurd (n3 (by omega)) h34
        ·
          exact absurd hm h5
    · skip
      refine pOp.badJ (v := -1000004) 3 I ?_ (fun M1 hF => ?_)
      · have hbec := hX4_become (E := E) (d := 10) (s := 1) (t := 0) (nb := nb) (nm := nm) (M := M) hs1 hs0 (by decide) hB hb hM hn
        generalize hρ : pSB (M 1) (M 0) nb nm = ρ at hbec
        have hρe : pEq nb nm ρ (M 0) := by rw [← hρ]; exact pSB_eq hb
        have hGρ : pGd ρ nb nm := hG.cg hρe
        have eρ : ρ 0 = nI t := (hρe.n (by decide)).trans eT
        refine fv_P.of (ls := [some (.ref 0), some (.int (nI k)), none]) (by decide) (Nat.le_of_ble_eq_true rfl) rfl ?_
        refine x_aload_n (pc := 0) dX6_when_0 rfl rfl ?_
        refine x_geta (pc := 1) fl_X6_12 dX6_when_1 (tb_fv) rfl ?_
        refine x_iload_n (pc := 4) dX6_when_4 rfl rfl ?_
        refine x_Vi (pc := 5) ks_X6_94 dX6_when_5 (tb_st (by assumption)) rfl rfl (hHm hM) rfl rfl rfl (Nat.le_of_ble_eq_true rfl) ?_
        refine x_ifb_ne (pc := 8) dX6_when_8 (tgt := 18) rfl (fun h8 => ?_) (fun h8 => ?_)
        ·
          refine x_aload_n (pc := 18) dX6_when_18 rfl rfl ?_
          refine x_geta (pc := 19) fl_X6_16 dX6_when_19 (tb_fv) rfl ?_
          refine x_aload_n (pc := 22) dX6_when_22 rfl rfl ?_
          refine x_geta (pc := 23) fl_X6_12 dX6_when_23 (tb_fv) rfl ?_
          refine x_Vv (pc := 26) ks_X6_150 dX6_when_26 (tb_st (by assumption)) rfl rfl (hbec) rfl rfl rfl (Nat.le_of_ble_eq_true rfl) ?_
          refine x_iconst (pc := 29) (v := 0) dX6_when_29 rfl ?_
          refine x_istore_n2 (pc := 30) dX6_when_30 rfl ?_
          refine x_loop (fun j => [some (.ref 0), some (.int (nI k)), some (.int (nI j))]) (fun j => fv_s M 1 (pSn nb t ρ j)) T rfl rfl (fun j hj hL => ?_) ?_
          · show fv_X E mX6_when _ _ 31 [some (.ref 0), some (.int (nI k)), some (.int (nI j))] [] (fv_s M 1 (pSn nb t ρ j))
            replace hL : fv_X E mX6_when _ _ 31 [some (.ref 0), some (.int (nI k)), some (.int (nI (j + 1)))] [] (fv_s M 1 (pSn nb t ρ (j + 1))) := hL
            obtain ⟨g1, g2⟩ := pSn_1 hGρ eρ j (by omega)
            have ge := pSn_cg (t := t) hρe j
            have hp := hX4_passSeason (E := E) (d := 10) (s := 1) (nb := nb) (t := t + j) (M := fv_s M 1 (pSn nb t ρ j)) hs1 (by rw [fv_s_same]; exact g1.1) hb (by rw [fv_s_same]; exact g2) (by omega)
            rw [fv_s_same, fv_s_s, pSn_s] at hp
            have hw := (hX4_wouldPass (E := E) (d := 8) (s := 1) (nb := nb) (m := k) (c := pCo (M 0) k) (M := fv_s M 1 (pSn nb t ρ j)) hs1 (by rw [fv_s_same]; exact g1.1) hb (by rw [fv_s_same]; exact g1.K) hk8 (by rw [fv_s_same, pSn_m hb]; exact (hρe.m hk (by decide)).trans hc.1) hc.2).v (show _ = bI (pPs (pSn nb t (M 0) j) nb k (pCo (M 0) k)) from bI_congr (by rw [fv_s_same]; exact pPs_cg ge hk hc.2))
            refine x_iload_n (pc := 31) dX6_when_31 rfl rfl ?_
            refine x_sipush (pc := 32) (v := 200) dX6_when_32 rfl ?_
            refine x_icmp_gt (pc := 35) dX6_when_35 (tgt := 72) rfl (fun h35 => ?_) (fun h35 => ?_)
            ·
              exact absurd h35 (nI_nlt (b := j) (a := 200) (by omega) (by omega))
            ·
              refine x_aload_n (pc := 38) dX6_when_38 rfl rfl ?_
              refine x_geta (pc := 39) fl_X6_16 dX6_when_39 (tb_fv) rfl ?_
              refine x_aload_n (pc := 42) dX6_when_42 rfl rfl ?_
              refine x_geta (pc := 43) fl_X6_16 dX6_when_43 (tb_fv) rfl ?_
              refine x_geta (pc := 46) fl_X6_97 dX6_when_46 (tb_st (by assumption)) rfl ?_
              refine x_iload_n (pc := 49) dX6_when_49 rfl rfl ?_
              refine x_motion (pc := 50) dX6_when_50 (by assumption) (rfl) (hk8) ?_
              refine x_Vi (pc := 51) ks_X6_123 dX6_when_51 (tb_st hs1) rfl rfl (hw) rfl rfl rfl (Nat.le_of_ble_eq_true rfl) ?_
              refine x_ifb_eq (pc := 54) dX6_when_54 (tgt := 59) rfl (fun h54 => ?_) (fun h54 => ?_)
              ·
                refine x_aload_n (pc := 59) dX6_when_59 rfl rfl ?_
                refine x_geta (pc := 60) fl_X6_16 dX6_when_60 (tb_fv) rfl ?_
                refine x_Vv (pc := 63) ks_X6_135 dX6_when_63 (tb_st hs1) rfl rfl (hp) rfl rfl rfl (Nat.le_of_ble_eq_true rfl) ?_
                refine x_iinc2 (pc := 66) dX6_when_66 (by first | exact fv_inc _ | exact fv_dec _ | rfl) rfl ?_
                refine x_goto (pc := 69) dX6_when_69 (tgt := 31) rfl ?_
                exact hL
              ·
                exact absurd h54 (n2 j hj)
          · show fv_X E mX6_when _ _ 31 [some (.ref 0), some (.int (nI k)), some (.int (nI T))] [] (fv_s M 1 (pSn nb t ρ T))
            refine x_iload_n (pc := 31) dX6_when_31 rfl rfl ?_
            refine x_sipush (pc := 32) (v := 200) dX6_when_32 rfl ?_
            refine x_icmp_gt (pc := 35) dX6_when_35 (tgt := 72) rfl (fun h35 => ?_) (fun h35 => ?_)
            ·
              refine x_aload_n (pc := 72) dX6_when_72 rfl rfl ?_
              refine x_ldc (pc := 73) kc_X6_154 dX6_when_73 ?_
              refine x_Vi (pc := 75) ks_X6_56 dX6_when_75 (tb_fv) rfl rfl (hX6_fin 3 (-1000004) (by decide +kernel) (by decide)) rfl rfl rfl (Nat.le_of_ble_eq_true rfl) ?_
              refine x_iret (pc := 78) dX6_when_78 rfl (by first | rfl | exact fv_nz _) ?_
              exact ⟨rfl, fv_s M 1 (pSn nb t ρ T), pFr.rfl'.s (by decide), rfl⟩
            ·
              exact absurd (nI_lt (a := 200) (by omega) (by omega)) h35
        ·
          exact absurd hm h8
      · skip
        have e22 : M1 22 = M 22 := hF 22 (by decide)
        have hG1 : pGd (M1 22) nb nm := by rw [e22]; exact hG2
        have hE1 : pEq nb nm (M1 22) (M 0) := by rw [e22]; exact hE
        have hB1 := hG1.1
        have hM1 := hG1.2.2.1
        have eτ : M1 22 0 = nI t := (hE1.n (by decide)).trans eT
        obtain ⟨A, hA⟩ : ∃ A, A = pCpy (M1 24) (M1 22) 114 := ⟨_, rfl⟩
        have hAl : ∀ i, i < 114 → A i = M1 22 i := fun i hi => by rw [hA]; exact pCpy_lt hi
        have hsa := hX7_setsAside (E := E) (d := 12) (M := M1)
        rw [← hA] at hsa
        have hgs : ∀ j, j ≤ 201 → fv_F E (11 + 1) mX7_goesSeason [.ref 106] (fv_s (fv_s M1 24 A) 22 (pSn nb t (M1 22) j)) none (fv_s (fv_s M1 24 A) 22 (pSn nb t (M1 22) (j + 1))) := fun j hj => by
          obtain ⟨g1, g2⟩ := pSn_1 hG1 eτ j (by omega)
          have hp := hX7_goesSeason (E := E) (d := 11) (nb := nb) (t := t + j) (M := fv_s (fv_s M1 24 A) 22 (pSn nb t (M1 22) j)) (by rw [fv_s_same]; exact g1.1) hb (by rw [fv_s_same]; exact g2) (by omega)
          rw [fv_s_same, fv_s_s, pSn_s] at hp
          exact hp
        have h00 : fv_s (fv_s M1 24 A) 22 (pSn nb t (M1 22) 0) = fv_s M1 24 A := by
          show fv_s (fv_s M1 24 A) 22 (M1 22) = _
          rw [← fv_s_ne M1 A (show 22 ≠ 24 by decide), fv_s_id]
        have hpn : ∀ j, j ≤ 201 → fv_F E (7 + 5) mX7_passesNow [.ref 106, .int (nI k)] (fv_s (fv_s M1 24 A) 22 (pSn nb t (M1 22) j)) (some (.int (bI (pPs (pSn nb t (M 0) j) nb k (pCo (M 0) k))))) (fv_s (fv_s M1 24 A) 22 (pSn nb t (M1 22) j)) := fun j hj => by
          obtain ⟨g1, g2⟩ := pSn_1 hG1 eτ j (by omega)
          refine (hX7_pass1 (E := E) (d := 7) (nb := nb) (nm := nm) (by rw [fv_s_same]; exact g1) hk).v (bI_congr ?_)
          rw [fv_s_same, pCo_cg (pSn_cg (t := t) hE1 j) hk, show pCo (pSn nb t (M 0) j) k = pCo (M 0) k by unfold pCo; rw [pSn_m hb]]
          exact pPs_cg (pSn_cg hE1 j) hk hc.2
        have hpn0 := hpn 0 (by omega)
        rw [h00] at hpn0
        refine fv_P.of (ls := [some (.ref 106), some (.int (nI k)), none, none]) (by decide) (Nat.le_of_ble_eq_true rfl) rfl ?_
        refine x_aload_n (pc := 0) dX7_when_0 rfl rfl ?_
        refine x_iload_n (pc := 1) dX7_when_1 rfl rfl ?_
        refine x_Vi (pc := 2) ks_X7_126 dX7_when_2 (tb_106) rfl rfl (hX7_isMotion (x := nI nm) hM1) rfl rfl rfl (Nat.le_of_ble_eq_true rfl) ?_
        refine x_ifb_ne (pc := 5) dX7_when_5 (tgt := 14) rfl (fun h5 => ?_) (fun h5 => ?_)
        ·
          refine x_aload_n (pc := 14) dX7_when_14 rfl rfl ?_
          refine x_Vv (pc := 15) ks_X7_152 dX7_when_15 (tb_106) rfl rfl (hsa) rfl rfl rfl (Nat.le_of_ble_eq_true rfl) ?_
          refine x_iconst (pc := 18) (v := 0) dX7_when_18 rfl ?_
          refine x_istore_n2 (pc := 19) dX7_when_19 rfl ?_
          refine x_aload_n (pc := 20) dX7_when_20 rfl rfl ?_
          refine x_iload_n (pc := 21) dX7_when_21 rfl rfl ?_
          refine ?_
          refine x_Vi (pc := 22) ks_X7_104 dX7_when_22 (tb_106) rfl rfl (hpn0) rfl rfl rfl (Nat.le_of_ble_eq_true rfl) ?_
          refine x_istore_n3 (pc := 25) dX7_when_25 rfl ?_
          refine x_loop (fun j => [some (.ref 106), some (.int (nI k)), some (.int (nI j)), some (.int (bI (pPs (pSn nb t (M 0) j) nb k (pCo (M 0) k))))]) (fun j => fv_s (fv_s M1 24 A) 22 (pSn nb t (M1 22) j)) 200 rfl h00 (fun j hj hL => ?_) ?_
          · show fv_X E mX7_when _ _ 26 [some (.ref 106), some (.int (nI k)), some (.int (nI j)), some (.int (bI (pPs (pSn nb t (M 0) j) nb k (pCo (M 0) k))))] [] (fv_s (fv_s M1 24 A) 22 (pSn nb t (M1 22) j))
            replace hL : fv_X E mX7_when _ _ 26 [some (.ref 106), some (.int (nI k)), some (.int (nI (j + 1))), some (.int (bI (pPs (pSn nb t (M 0) (j + 1)) nb k (pCo (M 0) k))))] [] (fv_s (fv_s M1 24 A) 22 (pSn nb t (M1 22) (j + 1))) := hL
            refine x_iload_n (pc := 26) dX7_when_26 rfl rfl ?_
            refine x_sipush (pc := 27) (v := 200) dX7_when_27 rfl ?_
            refine x_icmp_ge (pc := 30) dX7_when_30 (tgt := 53) rfl (fun h30 => ?_) (fun h30 => ?_)
            ·
              exact absurd h30 (nI_ge (b := 200) (by omega) (by omega))
            ·
              refine x_iload_n (pc := 33) dX7_when_33 rfl rfl ?_
              refine x_ifb_ne (pc := 34) dX7_when_34 (tgt := 53) rfl (fun h34 => ?_) (fun h34 => ?_)
              ·
                exact absurd h34 (n2 j (by omega))
              ·
                refine x_aload_n (pc := 37) dX7_when_37 rfl rfl ?_
                refine x_Vv (pc := 38) ks_X7_140 dX7_when_38 (tb_106) rfl rfl (hgs j (by omega)) rfl rfl rfl (Nat.le_of_ble_eq_true rfl) ?_
                refine x_iinc2 (pc := 41) dX7_when_41 (by first | exact fv_inc _ | exact fv_dec _ | rfl) rfl ?_
                refine x_aload_n (pc := 44) dX7_when_44 rfl rfl ?_
                refine x_iload_n (pc := 45) dX7_when_45 rfl rfl ?_
                refine x_Vi (pc := 46) ks_X7_104 dX7_when_46 (tb_106) rfl rfl (hpn (j + 1) (by omega)) rfl rfl rfl (Nat.le_of_ble_eq_true rfl) ?_
                refine x_istore_n3 (pc := 49) dX7_when_49 rfl ?_
                refine x_goto (pc := 50) dX7_when_50 (tgt := 26) rfl ?_
                exact hL
          · show fv_X E mX7_when _ _ 26 [some (.ref 106), some (.int (nI k)), some (.int (nI 200)), some (.int (bI (pPs (pSn nb t (M 0) 200) nb k (pCo (M 0) k))))] [] (fv_s (fv_s M1 24 A) 22 (pSn nb t (M1 22) 200))
            refine x_iload_n (pc := 26) dX7_when_26 rfl rfl ?_
            refine x_sipush (pc := 27) (v := 200) dX7_when_27 rfl ?_
            refine x_icmp_ge (pc := 30) dX7_when_30 (tgt := 53) rfl (fun h30 => ?_) (fun h30 => ?_)
            ·
              refine x_aload_n (pc := 53) dX7_when_53 rfl rfl ?_
              refine x_Vv (pc := 54) ks_X7_155 dX7_when_54 (tb_106) rfl rfl (hX7_laysBack) rfl rfl rfl (Nat.le_of_ble_eq_true rfl) ?_
              refine x_iload_n (pc := 57) dX7_when_57 rfl rfl ?_
              refine x_ifb_eq (pc := 58) dX7_when_58 (tgt := 65) rfl (fun h58 => ?_) (fun h58 => ?_)
              ·
                refine x_aload_n (pc := 65) dX7_when_65 rfl rfl ?_
                refine x_iconst (pc := 66) (v := 3) dX7_when_66 rfl ?_
                refine x_Vi (pc := 67) ks_X7_114 dX7_when_67 (tb_106) rfl rfl (hX7_noL 3 (-1000004) (by decide) (by decide +kernel)) rfl rfl rfl (Nat.le_of_ble_eq_true rfl) ?_
                refine x_iret (pc := 70) dX7_when_70 rfl (by first | rfl | exact fv_nz _) ?_
                exact ⟨rfl, _, (((pFr.rfl'.s (by decide)).s (by decide)).s (by decide)), fun nb nm hi => by rw [fv_s_same]; exact pEq_cpy (fun i hi => by rw [fv_s_ne _ _ (by decide), fv_s_same]; exact hAl i hi) nb nm hi, rfl⟩
              ·
                exact absurd h58 (n2 200 (by omega))
            ·
              refine x_iload_n (pc := 33) dX7_when_33 rfl rfl ?_
              refine x_ifb_ne (pc := 34) dX7_when_34 (tgt := 53) rfl (fun h34 => ?_) (fun h34 => ?_)
              ·
                refine x_aload_n (pc := 53) dX7_when_53 rfl rfl ?_
                refine x_Vv (pc := 54) ks_X7_155 dX7_when_54 (tb_106) rfl rfl (hX7_laysBack) rfl rfl rfl (Nat.le_of_ble_eq_true rfl) ?_
                refine x_iload_n (pc := 57) dX7_when_57 rfl rfl ?_
                refine x_ifb_eq (pc := 58) dX7_when_58 (tgt := 65) rfl (fun h58 => ?_) (fun h58 => ?_)
                ·
                  refine x_aload_n (pc := 65) dX7_when_65 rfl rfl ?_
                  refine x_iconst (pc := 66) (v := 3) dX7_when_66 rfl ?_
                  refine x_Vi (pc := 67) ks_X7_114 dX7_when_67 (tb_106) rfl rfl (hX7_noL 3 (-1000004) (by decide) (by decide +kernel)) rfl rfl rfl (Nat.le_of_ble_eq_true rfl) ?_
                  refine x_iret (pc := 70) dX7_when_70 rfl (by first | rfl | exact fv_nz _) ?_
                  exact ⟨rfl, _, (((pFr.rfl'.s (by decide)).s (by decide)).s (by decide)), fun nb nm hi => by rw [fv_s_same]; exact pEq_cpy (fun i hi => by rw [fv_s_ne _ _ (by decide), fv_s_same]; exact hAl i hi) nb nm hi, rfl⟩
                ·
                  exact absurd h58 (n2 200 (by omega))
              ·
                exact absurd (nI_le (a := 200) (by omega) (by omega)) h30
        ·
          exact absurd hm h5
  · skip
    refine pOp.bad (v := -1000001) 0 I ?_ (fun M1 hF => ?_)
    · skip
      refine fv_F.of (ls := [some (.ref 0), some (.int m), none]) (by decide) (Nat.le_of_ble_eq_true rfl) rfl ?_
      refine x_aload_n (pc := 0) dX6_when_0 rfl rfl ?_
      refine x_geta (pc := 1) fl_X6_12 dX6_when_1 (tb_fv) rfl ?_
      refine x_iload_n (pc := 4) dX6_when_4 rfl rfl ?_
      refine x_Vi (pc := 5) ks_X6_94 dX6_when_5 (tb_st (by assumption)) rfl rfl (hHm hM) rfl rfl rfl (Nat.le_of_ble_eq_true rfl) ?_
      refine x_ifb_ne (pc := 8) dX6_when_8 (tgt := 18) rfl (fun h8 => ?_) (fun h8 => ?_)
      ·
        contradiction
      ·
        refine x_aload_n (pc := 11) dX6_when_11 rfl rfl ?_
        refine x_ldc (pc := 12) kc_X6_55 dX6_when_12 ?_
        refine x_Vi (pc := 14) ks_X6_56 dX6_when_14 (tb_fv) rfl rfl (hX6_fin 0 (-1000001) (by decide +kernel) (by decide)) rfl rfl rfl (Nat.le_of_ble_eq_true rfl) ?_
        refine x_iret (pc := 17) dX6_when_17 rfl (by first | rfl | exact fv_nz _) ?_
        exact ⟨rfl, rfl⟩
    · skip
      have e22 : M1 22 = M 22 := hF 22 (by decide)
      have hG1 : pGd (M1 22) nb nm := by rw [e22]; exact hG2
      have hE1 : pEq nb nm (M1 22) (M 0) := by rw [e22]; exact hE
      have hB1 := hG1.1
      have hM1 := hG1.2.2.1
      refine fv_F.of (ls := [some (.ref 106), some (.int m), none, none]) (by decide) (Nat.le_of_ble_eq_true rfl) rfl ?_
      refine x_aload_n (pc := 0) dX7_when_0 rfl rfl ?_
      refine x_iload_n (pc := 1) dX7_when_1 rfl rfl ?_
      refine x_Vi (pc := 2) ks_X7_126 dX7_when_2 (tb_106) rfl rfl (hX7_isMotion (x := nI nm) hM1) rfl rfl rfl (Nat.le_of_ble_eq_true rfl) ?_
      refine x_ifb_ne (pc := 5) dX7_when_5 (tgt := 14) rfl (fun h5 => ?_) (fun h5 => ?_)
      ·
        contradiction
      ·
        refine x_aload_n (pc := 8) dX7_when_8 rfl rfl ?_
        refine x_iconst (pc := 9) (v := 0) dX7_when_9 rfl ?_
        refine x_Vi (pc := 10) ks_X7_114 dX7_when_10 (tb_106) rfl rfl (hX7_noL 0 (-1000001) (by decide) (by decide +kernel)) rfl rfl rfl (Nat.le_of_ble_eq_true rfl) ?_
        refine x_iret (pc := 13) dX7_when_13 rfl (by first | rfl | exact fv_nz _) ?_
        exact ⟨rfl, rfl⟩
theorem op_flies {E : fv_E} {m : Int32} {M : fv_M} (I : pInv M) : pOp E mX6_flies mX7_flies [.int m] M := by
  obtain ⟨nb, nm, hG, hE, t, ht, eT⟩ := I.1
  have hs0 : 0 < 3 := by decide
  have hs1 : 1 < 3 := by decide
  have hB := hG.1
  have hb := hG.2.1
  have hM := hG.2.2.1
  have hn := hG.2.2.2.1
  have hK := hG.K
  have hC := hG.C
  have hG2 : pGd (M 22) nb nm := hG.cg hE
  by_cases hm : 0 ≤ m ∧ m ≤ nI nb - 1
  · obtain ⟨k, hk, rfl⟩ := pUx (by omega) hm
    have hk8 : k < 8 := by omega
    obtain ⟨t1, t2, t3⟩ := wT_all (fun j => !decide (((pSn nb t (M 0) j) (fB k 1) ≤ pFe (pSn nb t (M 0) j) k))) 201
    generalize hT : wT (fun j => !decide (((pSn nb t (M 0) j) (fB k 1) ≤ pFe (pSn nb t (M 0) j) k))) 201 = T at *
    have n2 : ∀ j, j < T → ¬ ((pSn nb t (M 0) j) (fB k 1) ≤ pFe (pSn nb t (M 0) j) k) := fun j hj => by
      have h := t2 j hj
      rw [Bool.not_eq_true', decide_eq_false_iff_not] at h
      exact h
    have n3 : T < 201 → ((pSn nb t (M 0) T) (fB k 1) ≤ pFe (pSn nb t (M 0) T) k) := fun hj => by
      have h := t3 hj
      rw [Bool.not_eq_false'] at h
      exact of_decide_eq_true h
    by_cases hle : T ≤ 200
    · skip
      refine pOp.qry (v := nI T) I ?_ (fun M1 hF => ?_)
      · have hbec := hX4_become (E := E) (d := 10) (s := 1) (t := 0) (nb := nb) (nm := nm) (M := M) hs1 hs0 (by decide) hB hb hM hn
        generalize hρ : pSB (M 1) (M 0) nb nm = ρ at hbec
        have hρe : pEq nb nm ρ (M 0) := by rw [← hρ]; exact pSB_eq hb
        have hGρ : pGd ρ nb nm := hG.cg hρe
        have eρ : ρ 0 = nI t := (hρe.n (by decide)).trans eT
        refine fv_P.of (ls := [some (.ref 0), some (.int (nI k)), none]) (by decide) (Nat.le_of_ble_eq_true rfl) rfl ?_
        refine x_aload_n (pc := 0) dX6_flies_0 rfl rfl ?_
        refine x_geta (pc := 1) fl_X6_12 dX6_flies_1 (tb_fv) rfl ?_
        refine x_iload_n (pc := 4) dX6_flies_4 rfl rfl ?_
        refine x_Vi (pc := 5) ks_X6_68 dX6_flies_5 (tb_st (by assumption)) rfl rfl (hHb hB) rfl rfl rfl (Nat.le_of_ble_eq_true rfl) ?_
        refine x_ifb_ne (pc := 8) dX6_flies_8 (tgt := 18) rfl (fun h8 => ?_) (fun h8 => ?_)
        ·
          refine x_aload_n (pc := 18) dX6_flies_18 rfl rfl ?_
          refine x_geta (pc := 19) fl_X6_16 dX6_flies_19 (tb_fv) rfl ?_
          refine x_aload_n (pc := 22) dX6_flies_22 rfl rfl ?_
          refine x_geta (pc := 23) fl_X6_12 dX6_flies_23 (tb_fv) rfl ?_
          refine x_Vv (pc := 26) ks_X6_150 dX6_flies_26 (tb_st (by assumption)) rfl rfl (hbec) rfl rfl rfl (Nat.le_of_ble_eq_true rfl) ?_
          refine x_iconst (pc := 29) (v := 0) dX6_flies_29 rfl ?_
          refine x_istore_n2 (pc := 30) dX6_flies_30 rfl ?_
          refine x_loop (fun j => [some (.ref 0), some (.int (nI k)), some (.int (nI j))]) (fun j => fv_s M 1 (pSn nb t ρ j)) T rfl rfl (fun j hj hL => ?_) ?_
          · show fv_X E mX6_flies _ _ 31 [some (.ref 0), some (.int (nI k)), some (.int (nI j))] [] (fv_s M 1 (pSn nb t ρ j))
            replace hL : fv_X E mX6_flies _ _ 31 [some (.ref 0), some (.int (nI k)), some (.int (nI (j + 1)))] [] (fv_s M 1 (pSn nb t ρ (j + 1))) := hL
            obtain ⟨g1, g2⟩ := pSn_1 hGρ eρ j (by omega)
            have ge := pSn_cg (t := t) hρe j
            have hp := hX4_passSeason (E := E) (d := 10) (s := 1) (nb := nb) (t := t + j) (M := fv_s M 1 (pSn nb t ρ j)) hs1 (by rw [fv_s_same]; exact g1.1) hb (by rw [fv_s_same]; exact g2) (by omega)
            rw [fv_s_same, fv_s_s, pSn_s] at hp
            have hw := (hX0_canFly (E := E) (d := 11) (s := 1) (i := k) (M := fv_s M 1 (pSn nb t ρ j)) hs1 hk8).v (show _ = bI (pSn nb t (M 0) j (fB k 1) ≤ pFe (pSn nb t (M 0) j) k) from bI_congr (by rw [fv_s_same, ge.b hk (by decide), pFe_cg ge hk]))
            refine x_iload_n (pc := 31) dX6_flies_31 rfl rfl ?_
            refine x_sipush (pc := 32) (v := 200) dX6_flies_32 rfl ?_
            refine x_icmp_gt (pc := 35) dX6_flies_35 (tgt := 68) rfl (fun h35 => ?_) (fun h35 => ?_)
            ·
              exact absurd h35 (nI_nlt (b := j) (a := 200) (by omega) (by omega))
            ·
              refine x_aload_n (pc := 38) dX6_flies_38 rfl rfl ?_
              refine x_geta (pc := 39) fl_X6_16 dX6_flies_39 (tb_fv) rfl ?_
              refine x_geta (pc := 42) fl_X6_72 dX6_flies_42 (tb_st (by assumption)) rfl ?_
              refine x_iload_n (pc := 45) dX6_flies_45 rfl rfl ?_
              refine x_bird (pc := 46) dX6_flies_46 (by assumption) (rfl) (hk8) ?_
              refine x_Vi (pc := 47) ks_X6_155 dX6_flies_47 (tb_b hs1 hk8) rfl rfl (hw) rfl rfl rfl (Nat.le_of_ble_eq_true rfl) ?_
              refine x_ifb_eq (pc := 50) dX6_flies_50 (tgt := 55) rfl (fun h50 => ?_) (fun h50 => ?_)
              ·
                refine x_aload_n (pc := 55) dX6_flies_55 rfl rfl ?_
                refine x_geta (pc := 56) fl_X6_16 dX6_flies_56 (tb_fv) rfl ?_
                refine x_Vv (pc := 59) ks_X6_135 dX6_flies_59 (tb_st hs1) rfl rfl (hp) rfl rfl rfl (Nat.le_of_ble_eq_true rfl) ?_
                refine x_iinc2 (pc := 62) dX6_flies_62 (by first | exact fv_inc _ | exact fv_dec _ | rfl) rfl ?_
                refine x_goto (pc := 65) dX6_flies_65 (tgt := 31) rfl ?_
                exact hL
              ·
                exact absurd h50 (n2 j hj)
          · show fv_X E mX6_flies _ _ 31 [some (.ref 0), some (.int (nI k)), some (.int (nI T))] [] (fv_s M 1 (pSn nb t ρ T))
            have g := pSn_1 hGρ eρ T (by omega)
            obtain ⟨g1, g2⟩ := g
            have ge := pSn_cg (t := t) hρe T
            have hw := (hX0_canFly (E := E) (d := 11) (s := 1) (i := k) (M := fv_s M 1 (pSn nb t ρ T)) hs1 hk8).v (show _ = bI (pSn nb t (M 0) T (fB k 1) ≤ pFe (pSn nb t (M 0) T) k) from bI_congr (by rw [fv_s_same, ge.b hk (by decide), pFe_cg ge hk]))
            refine x_iload_n (pc := 31) dX6_flies_31 rfl rfl ?_
            refine x_sipush (pc := 32) (v := 200) dX6_flies_32 rfl ?_
            refine x_icmp_gt (pc := 35) dX6_flies_35 (tgt := 68) rfl (fun h35 => ?_) (fun h35 => ?_)
            ·
              exact absurd h35 (nI_nlt (b := T) (a := 200) (by omega) (by omega))
            ·
              refine x_aload_n (pc := 38) dX6_flies_38 rfl rfl ?_
              refine x_geta (pc := 39) fl_X6_16 dX6_flies_39 (tb_fv) rfl ?_
              refine x_geta (pc := 42) fl_X6_72 dX6_flies_42 (tb_st (by assumption)) rfl ?_
              refine x_iload_n (pc := 45) dX6_flies_45 rfl rfl ?_
              refine x_bird (pc := 46) dX6_flies_46 (by assumption) (rfl) (hk8) ?_
              refine x_Vi (pc := 47) ks_X6_155 dX6_flies_47 (tb_b hs1 hk8) rfl rfl (hw) rfl rfl rfl (Nat.le_of_ble_eq_true rfl) ?_
              refine x_ifb_eq (pc := 50) dX6_flies_50 (tgt := 55) rfl (fun h50 => ?_) (fun h50 => ?_)
              ·
                exact absurd (n3 (by omega)) h50
              ·
                refine x_iload_n (pc := 53) dX6_flies_53 rfl rfl ?_
                refine x_iret (pc := 54) dX6_flies_54 rfl (by first | rfl | exact fv_nz _) ?_
                exact ⟨rfl, pFr.rfl'.s (by decide)⟩
        ·
          exact absurd hm h8
      · skip
        have e22 : M1 22 = M 22 := hF 22 (by decide)
        have hG1 : pGd (M1 22) nb nm := by rw [e22]; exact hG2
        have hE1 : pEq nb nm (M1 22) (M 0) := by rw [e22]; exact hE
        have hB1 := hG1.1
        have hM1 := hG1.2.2.1
        have eτ : M1 22 0 = nI t := (hE1.n (by decide)).trans eT
        obtain ⟨A, hA⟩ : ∃ A, A = pCpy (M1 24) (M1 22) 114 := ⟨_, rfl⟩
        have hAl : ∀ i, i < 114 → A i = M1 22 i := fun i hi => by rw [hA]; exact pCpy_lt hi
        have hsa := hX7_setsAside (E := E) (d := 12) (M := M1)
        rw [← hA] at hsa
        have hgs : ∀ j, j ≤ 201 → fv_F E (11 + 1) mX7_goesSeason [.ref 106] (fv_s (fv_s M1 24 A) 22 (pSn nb t (M1 22) j)) none (fv_s (fv_s M1 24 A) 22 (pSn nb t (M1 22) (j + 1))) := fun j hj => by
          obtain ⟨g1, g2⟩ := pSn_1 hG1 eτ j (by omega)
          have hp := hX7_goesSeason (E := E) (d := 11) (nb := nb) (t := t + j) (M := fv_s (fv_s M1 24 A) 22 (pSn nb t (M1 22) j)) (by rw [fv_s_same]; exact g1.1) hb (by rw [fv_s_same]; exact g2) (by omega)
          rw [fv_s_same, fv_s_s, pSn_s] at hp
          exact hp
        have h00 : fv_s (fv_s M1 24 A) 22 (pSn nb t (M1 22) 0) = fv_s M1 24 A := by
          show fv_s (fv_s M1 24 A) 22 (M1 22) = _
          rw [← fv_s_ne M1 A (show 22 ≠ 24 by decide), fv_s_id]
        have hpn : ∀ j, j ≤ 201 → fv_F E (10 + 2) mX7_doesFly [.ref 106, .int (nI k)] (fv_s (fv_s M1 24 A) 22 (pSn nb t (M1 22) j)) (some (.int (bI (pSn nb t (M 0) j (fB k 1) ≤ pFe (pSn nb t (M 0) j) k)))) (fv_s (fv_s M1 24 A) 22 (pSn nb t (M1 22) j)) := fun j hj => by
          refine (hX7_doesFly (E := E) (d := 10) hk8).v (bI_congr ?_)
          have ge := pSn_cg (t := t) hE1 j
          rw [fv_s_same, ge.b hk (by decide), pFe_cg ge hk]
        refine fv_P.of (ls := [some (.ref 106), some (.int (nI k)), none, none]) (by decide) (Nat.le_of_ble_eq_true rfl) rfl ?_
        refine x_aload_n (pc := 0) dX7_flies_0 rfl rfl ?_
        refine x_iload_n (pc := 1) dX7_flies_1 rfl rfl ?_
        refine x_Vi (pc := 2) ks_X7_120 dX7_flies_2 (tb_106) rfl rfl (hX7_isBird (x := nI nb) hB1) rfl rfl rfl (Nat.le_of_ble_eq_true rfl) ?_
        refine x_ifb_ne (pc := 5) dX7_flies_5 (tgt := 14) rfl (fun h5 => ?_) (fun h5 => ?_)
        ·
          refine x_aload_n (pc := 14) dX7_flies_14 rfl rfl ?_
          refine x_Vv (pc := 15) ks_X7_152 dX7_flies_15 (tb_106) rfl rfl (hsa) rfl rfl rfl (Nat.le_of_ble_eq_true rfl) ?_
          refine x_iconst (pc := 18) (v := 0) dX7_flies_18 rfl ?_
          refine x_istore_n2 (pc := 19) dX7_flies_19 rfl ?_
          refine x_loop (fun j => [some (.ref 106), some (.int (nI k)), some (.int (nI j)), none]) (fun j => fv_s (fv_s M1 24 A) 22 (pSn nb t (M1 22) j)) T rfl h00 (fun j hj hL => ?_) ?_
          · show fv_X E mX7_flies _ _ 20 [some (.ref 106), some (.int (nI k)), some (.int (nI j)), none] [] (fv_s (fv_s M1 24 A) 22 (pSn nb t (M1 22) j))
            replace hL : fv_X E mX7_flies _ _ 20 [some (.ref 106), some (.int (nI k)), some (.int (nI (j + 1))), none] [] (fv_s (fv_s M1 24 A) 22 (pSn nb t (M1 22) (j + 1))) := hL
            refine x_iload_n (pc := 20) dX7_flies_20 rfl rfl ?_
            refine x_sipush (pc := 21) (v := 200) dX7_flies_21 rfl ?_
            refine x_icmp_ge (pc := 24) dX7_flies_24 (tgt := 45) rfl (fun h24 => ?_) (fun h24 => ?_)
            ·
              exact absurd h24 (nI_ge (b := 200) (by omega) (by omega))
            ·
              refine x_aload_n (pc := 27) dX7_flies_27 rfl rfl ?_
              refine x_iload_n (pc := 28) dX7_flies_28 rfl rfl ?_
              refine x_Vi (pc := 29) ks_X7_72 dX7_flies_29 (tb_106) rfl rfl (hpn j (by omega)) rfl rfl rfl (Nat.le_of_ble_eq_true rfl) ?_
              refine x_ifb_ne (pc := 32) dX7_flies_32 (tgt := 45) rfl (fun h32 => ?_) (fun h32 => ?_)
              ·
                exact absurd h32 (n2 j (by omega))
              ·
                refine x_aload_n (pc := 35) dX7_flies_35 rfl rfl ?_
                refine x_Vv (pc := 36) ks_X7_140 dX7_flies_36 (tb_106) rfl rfl (hgs j (by omega)) rfl rfl rfl (Nat.le_of_ble_eq_true rfl) ?_
                refine x_iinc2 (pc := 39) dX7_flies_39 (by first | exact fv_inc _ | exact fv_dec _ | rfl) rfl ?_
                refine x_goto (pc := 42) dX7_flies_42 (tgt := 20) rfl ?_
                exact hL
          · show fv_X E mX7_flies _ _ 20 [some (.ref 106), some (.int (nI k)), some (.int (nI T)), none] [] (fv_s (fv_s M1 24 A) 22 (pSn nb t (M1 22) T))
            refine x_iload_n (pc := 20) dX7_flies_20 rfl rfl ?_
            refine x_sipush (pc := 21) (v := 200) dX7_flies_21 rfl ?_
            refine x_icmp_ge (pc := 24) dX7_flies_24 (tgt := 45) rfl (fun h24 => ?_) (fun h24 => ?_)
            ·
              refine x_aload_n (pc := 45) dX7_flies_45 rfl rfl ?_
              refine x_iload_n (pc := 46) dX7_flies_46 rfl rfl ?_
              refine x_Vi (pc := 47) ks_X7_72 dX7_flies_47 (tb_106) rfl rfl (hpn _ (by omega)) rfl rfl rfl (Nat.le_of_ble_eq_true rfl) ?_
              refine x_istore_n3 (pc := 50) dX7_flies_50 rfl ?_
              refine x_aload_n (pc := 51) dX7_flies_51 rfl rfl ?_
              refine x_Vv (pc := 52) ks_X7_155 dX7_flies_52 (tb_106) rfl rfl (hX7_laysBack) rfl rfl rfl (Nat.le_of_ble_eq_true rfl) ?_
              refine x_iload_n (pc := 55) dX7_flies_55 rfl rfl ?_
              refine x_ifb_eq (pc := 56) dX7_flies_56 (tgt := 63) rfl (fun h56 => ?_) (fun h56 => ?_)
              ·
                exact absurd (n3 (by omega)) h56
              ·
                refine x_iload_n (pc := 59) dX7_flies_59 rfl rfl ?_
                refine x_goto (pc := 60) dX7_flies_60 (tgt := 68) rfl ?_
                refine x_iret (pc := 68) dX7_flies_68 rfl (by first | rfl | exact fv_nz _) ?_
                exact ⟨rfl, (((pFr.rfl'.s (by decide)).s (by decide)).s (by decide)), by rw [fv_s_ne _ _ (by decide), fv_s_ne _ _ (by decide), fv_s_ne _ _ (by decide)], by rw [fv_s_ne _ _ (by decide), fv_s_ne _ _ (by decide), fv_s_ne _ _ (by decide)], fun nb nm hi => by rw [fv_s_same]; exact pEq_cpy (fun i hi => by rw [fv_s_ne _ _ (by decide), fv_s_same]; exact hAl i hi) nb nm hi⟩
            ·
              refine x_aload_n (pc := 27) dX7_flies_27 rfl rfl ?_
              refine x_iload_n (pc := 28) dX7_flies_28 rfl rfl ?_
              refine x_Vi (pc := 29) ks_X7_72 dX7_flies_29 (tb_106) rfl rfl (hpn _ (by omega)) rfl rfl rfl (Nat.le_of_ble_eq_true rfl) ?_
              refine x_ifb_ne (pc := 32) dX7_flies_32 (tgt := 45) rfl (fun h32 => ?_) (fun h32 => ?_)
              ·
                refine x_aload_n (pc := 45) dX7_flies_45 rfl rfl ?_
                refine x_iload_n (pc := 46) dX7_flies_46 rfl rfl ?_
                refine x_Vi (pc := 47) ks_X7_72 dX7_flies_47 (tb_106) rfl rfl (hpn _ (by omega)) rfl rfl rfl (Nat.le_of_ble_eq_true rfl) ?_
                refine x_istore_n3 (pc := 50) dX7_flies_50 rfl ?_
                refine x_aload_n (pc := 51) dX7_flies_51 rfl rfl ?_
                refine x_Vv (pc := 52) ks_X7_155 dX7_flies_52 (tb_106) rfl rfl (hX7_laysBack) rfl rfl rfl (Nat.le_of_ble_eq_true rfl) ?_
                refine x_iload_n (pc := 55) dX7_flies_55 rfl rfl ?_
                refine x_ifb_eq (pc := 56) dX7_flies_56 (tgt := 63) rfl (fun h56 => ?_) (fun h56 => ?_)
                ·
                  exact absurd (n3 (by omega)) h56
                ·
                  refine x_iload_n (pc := 59) dX7_flies_59 rfl rfl ?_
                  refine x_goto (pc := 60) dX7_flies_60 (tgt := 68) rfl ?_
                  refine x_iret (pc := 68) dX7_flies_68 rfl (by first | rfl | exact fv_nz _) ?_
                  exact ⟨rfl, (((pFr.rfl'.s (by decide)).s (by decide)).s (by decide)), by rw [fv_s_ne _ _ (by decide), fv_s_ne _ _ (by decide), fv_s_ne _ _ (by decide)], by rw [fv_s_ne _ _ (by decide), fv_s_ne _ _ (by decide), fv_s_ne _ _ (by decide)], fun nb nm hi => by rw [fv_s_same]; exact pEq_cpy (fun i hi => by rw [fv_s_ne _ _ (by decide), fv_s_same]; exact hAl i hi) nb nm hi⟩
              ·
                exact absurd (n3 (by omega)) h32
        ·
          exact absurd hm h5
    · skip
      refine pOp.badJ (v := -1000004) 3 I ?_ (fun M1 hF => ?_)
      · have hbec := hX4_become (E := E) (d := 10) (s := 1) (t := 0) (nb := nb) (nm := nm) (M := M) hs1 hs0 (by decide) hB hb hM hn
        generalize hρ : pSB (M 1) (M 0) nb nm = ρ at hbec
        have hρe : pEq nb nm ρ (M 0) := by rw [← hρ]; exact pSB_eq hb
        have hGρ : pGd ρ nb nm := hG.cg hρe
        have eρ : ρ 0 = nI t := (hρe.n (by decide)).trans eT
        refine fv_P.of (ls := [some (.ref 0), some (.int (nI k)), none]) (by decide) (Nat.le_of_ble_eq_true rfl) rfl ?_
        refine x_aload_n (pc := 0) dX6_flies_0 rfl rfl ?_
        refine x_geta (pc := 1) fl_X6_12 dX6_flies_1 (tb_fv) rfl ?_
        refine x_iload_n (pc := 4) dX6_flies_4 rfl rfl ?_
        refine x_Vi (pc := 5) ks_X6_68 dX6_flies_5 (tb_st (by assumption)) rfl rfl (hHb hB) rfl rfl rfl (Nat.le_of_ble_eq_true rfl) ?_
        refine x_ifb_ne (pc := 8) dX6_flies_8 (tgt := 18) rfl (fun h8 => ?_) (fun h8 => ?_)
        ·
          refine x_aload_n (pc := 18) dX6_flies_18 rfl rfl ?_
          refine x_geta (pc := 19) fl_X6_16 dX6_flies_19 (tb_fv) rfl ?_
          refine x_aload_n (pc := 22) dX6_flies_22 rfl rfl ?_
          refine x_geta (pc := 23) fl_X6_12 dX6_flies_23 (tb_fv) rfl ?_
          refine x_Vv (pc := 26) ks_X6_150 dX6_flies_26 (tb_st (by assumption)) rfl rfl (hbec) rfl rfl rfl (Nat.le_of_ble_eq_true rfl) ?_
          refine x_iconst (pc := 29) (v := 0) dX6_flies_29 rfl ?_
          refine x_istore_n2 (pc := 30) dX6_flies_30 rfl ?_
          refine x_loop (fun j => [some (.ref 0), some (.int (nI k)), some (.int (nI j))]) (fun j => fv_s M 1 (pSn nb t ρ j)) T rfl rfl (fun j hj hL => ?_) ?_
          · show fv_X E mX6_flies _ _ 31 [some (.ref 0), some (.int (nI k)), some (.int (nI j))] [] (fv_s M 1 (pSn nb t ρ j))
            replace hL : fv_X E mX6_flies _ _ 31 [some (.ref 0), some (.int (nI k)), some (.int (nI (j + 1)))] [] (fv_s M 1 (pSn nb t ρ (j + 1))) := hL
            obtain ⟨g1, g2⟩ := pSn_1 hGρ eρ j (by omega)
            have ge := pSn_cg (t := t) hρe j
            have hp := hX4_passSeason (E := E) (d := 10) (s := 1) (nb := nb) (t := t + j) (M := fv_s M 1 (pSn nb t ρ j)) hs1 (by rw [fv_s_same]; exact g1.1) hb (by rw [fv_s_same]; exact g2) (by omega)
            rw [fv_s_same, fv_s_s, pSn_s] at hp
            have hw := (hX0_canFly (E := E) (d := 11) (s := 1) (i := k) (M := fv_s M 1 (pSn nb t ρ j)) hs1 hk8).v (show _ = bI (pSn nb t (M 0) j (fB k 1) ≤ pFe (pSn nb t (M 0) j) k) from bI_congr (by rw [fv_s_same, ge.b hk (by decide), pFe_cg ge hk]))
            refine x_iload_n (pc := 31) dX6_flies_31 rfl rfl ?_
            refine x_sipush (pc := 32) (v := 200) dX6_flies_32 rfl ?_
            refine x_icmp_gt (pc := 35) dX6_flies_35 (tgt := 68) rfl (fun h35 => ?_) (fun h35 => ?_)
            ·
              exact absurd h35 (nI_nlt (b := j) (a := 200) (by omega) (by omega))
            ·
              refine x_aload_n (pc := 38) dX6_flies_38 rfl rfl ?_
              refine x_geta (pc := 39) fl_X6_16 dX6_flies_39 (tb_fv) rfl ?_
              refine x_geta (pc := 42) fl_X6_72 dX6_flies_42 (tb_st (by assumption)) rfl ?_
              refine x_iload_n (pc := 45) dX6_flies_45 rfl rfl ?_
              refine x_bird (pc := 46) dX6_flies_46 (by assumption) (rfl) (hk8) ?_
              refine x_Vi (pc := 47) ks_X6_155 dX6_flies_47 (tb_b hs1 hk8) rfl rfl (hw) rfl rfl rfl (Nat.le_of_ble_eq_true rfl) ?_
              refine x_ifb_eq (pc := 50) dX6_flies_50 (tgt := 55) rfl (fun h50 => ?_) (fun h50 => ?_)
              ·
                refine x_aload_n (pc := 55) dX6_flies_55 rfl rfl ?_
                refine x_geta (pc := 56) fl_X6_16 dX6_flies_56 (tb_fv) rfl ?_
                refine x_Vv (pc := 59) ks_X6_135 dX6_flies_59 (tb_st hs1) rfl rfl (hp) rfl rfl rfl (Nat.le_of_ble_eq_true rfl) ?_
                refine x_iinc2 (pc := 62) dX6_flies_62 (by first | exact fv_inc _ | exact fv_dec _ | rfl) rfl ?_
                refine x_goto (pc := 65) dX6_flies_65 (tgt := 31) rfl ?_
                exact hL
              ·
                exact absurd h50 (n2 j hj)
          · show fv_X E mX6_flies _ _ 31 [some (.ref 0), some (.int (nI k)), some (.int (nI T))] [] (fv_s M 1 (pSn nb t ρ T))
            refine x_iload_n (pc := 31) dX6_flies_31 rfl rfl ?_
            refine x_sipush (pc := 32) (v := 200) dX6_flies_32 rfl ?_
            refine x_icmp_gt (pc := 35) dX6_flies_35 (tgt := 68) rfl (fun h35 => ?_) (fun h35 => ?_)
            ·
              refine x_aload_n (pc := 68) dX6_flies_68 rfl rfl ?_
              refine x_ldc (pc := 69) kc_X6_154 dX6_flies_69 ?_
              refine x_Vi (pc := 71) ks_X6_56 dX6_flies_71 (tb_fv) rfl rfl (hX6_fin 3 (-1000004) (by decide +kernel) (by decide)) rfl rfl rfl (Nat.le_of_ble_eq_true rfl) ?_
              refine x_iret (pc := 74) dX6_flies_74 rfl (by first | rfl | exact fv_nz _) ?_
              exact ⟨rfl, fv_s M 1 (pSn nb t ρ T), pFr.rfl'.s (by decide), rfl⟩
            ·
              exact absurd (nI_lt (a := 200) (by omega) (by omega)) h35
        ·
          exact absurd hm h8
      · skip
        have e22 : M1 22 = M 22 := hF 22 (by decide)
        have hG1 : pGd (M1 22) nb nm := by rw [e22]; exact hG2
        have hE1 : pEq nb nm (M1 22) (M 0) := by rw [e22]; exact hE
        have hB1 := hG1.1
        have hM1 := hG1.2.2.1
        have eτ : M1 22 0 = nI t := (hE1.n (by decide)).trans eT
        obtain ⟨A, hA⟩ : ∃ A, A = pCpy (M1 24) (M1 22) 114 := ⟨_, rfl⟩
        have hAl : ∀ i, i < 114 → A i = M1 22 i := fun i hi => by rw [hA]; exact pCpy_lt hi
        have hsa := hX7_setsAside (E := E) (d := 12) (M := M1)
        rw [← hA] at hsa
        have hgs : ∀ j, j ≤ 201 → fv_F E (11 + 1) mX7_goesSeason [.ref 106] (fv_s (fv_s M1 24 A) 22 (pSn nb t (M1 22) j)) none (fv_s (fv_s M1 24 A) 22 (pSn nb t (M1 22) (j + 1))) := fun j hj => by
          obtain ⟨g1, g2⟩ := pSn_1 hG1 eτ j (by omega)
          have hp := hX7_goesSeason (E := E) (d := 11) (nb := nb) (t := t + j) (M := fv_s (fv_s M1 24 A) 22 (pSn nb t (M1 22) j)) (by rw [fv_s_same]; exact g1.1) hb (by rw [fv_s_same]; exact g2) (by omega)
          rw [fv_s_same, fv_s_s, pSn_s] at hp
          exact hp
        have h00 : fv_s (fv_s M1 24 A) 22 (pSn nb t (M1 22) 0) = fv_s M1 24 A := by
          show fv_s (fv_s M1 24 A) 22 (M1 22) = _
          rw [← fv_s_ne M1 A (show 22 ≠ 24 by decide), fv_s_id]
        have hpn : ∀ j, j ≤ 201 → fv_F E (10 + 2) mX7_doesFly [.ref 106, .int (nI k)] (fv_s (fv_s M1 24 A) 22 (pSn nb t (M1 22) j)) (some (.int (bI (pSn nb t (M 0) j (fB k 1) ≤ pFe (pSn nb t (M 0) j) k)))) (fv_s (fv_s M1 24 A) 22 (pSn nb t (M1 22) j)) := fun j hj => by
          refine (hX7_doesFly (E := E) (d := 10) hk8).v (bI_congr ?_)
          have ge := pSn_cg (t := t) hE1 j
          rw [fv_s_same, ge.b hk (by decide), pFe_cg ge hk]
        refine fv_P.of (ls := [some (.ref 106), some (.int (nI k)), none, none]) (by decide) (Nat.le_of_ble_eq_true rfl) rfl ?_
        refine x_aload_n (pc := 0) dX7_flies_0 rfl rfl ?_
        refine x_iload_n (pc := 1) dX7_flies_1 rfl rfl ?_
        refine x_Vi (pc := 2) ks_X7_120 dX7_flies_2 (tb_106) rfl rfl (hX7_isBird (x := nI nb) hB1) rfl rfl rfl (Nat.le_of_ble_eq_true rfl) ?_
        refine x_ifb_ne (pc := 5) dX7_flies_5 (tgt := 14) rfl (fun h5 => ?_) (fun h5 => ?_)
        ·
          refine x_aload_n (pc := 14) dX7_flies_14 rfl rfl ?_
          refine x_Vv (pc := 15) ks_X7_152 dX7_flies_15 (tb_106) rfl rfl (hsa) rfl rfl rfl (Nat.le_of_ble_eq_true rfl) ?_
          refine x_iconst (pc := 18) (v := 0) dX7_flies_18 rfl ?_
          refine x_istore_n2 (pc := 19) dX7_flies_19 rfl ?_
          refine x_loop (fun j => [some (.ref 106), some (.int (nI k)), some (.int (nI j)), none]) (fun j => fv_s (fv_s M1 24 A) 22 (pSn nb t (M1 22) j)) 200 rfl h00 (fun j hj hL => ?_) ?_
          · show fv_X E mX7_flies _ _ 20 [some (.ref 106), some (.int (nI k)), some (.int (nI j)), none] [] (fv_s (fv_s M1 24 A) 22 (pSn nb t (M1 22) j))
            replace hL : fv_X E mX7_flies _ _ 20 [some (.ref 106), some (.int (nI k)), some (.int (nI (j + 1))), none] [] (fv_s (fv_s M1 24 A) 22 (pSn nb t (M1 22) (j + 1))) := hL
            refine x_iload_n (pc := 20) dX7_flies_20 rfl rfl ?_
            refine x_sipush (pc := 21) (v := 200) dX7_flies_21 rfl ?_
            refine x_icmp_ge (pc := 24) dX7_flies_24 (tgt := 45) rfl (fun h24 => ?_) (fun h24 => ?_)
            ·
              exact absurd h24 (nI_ge (b := 200) (by omega) (by omega))
            ·
              refine x_aload_n (pc := 27) dX7_flies_27 rfl rfl ?_
              refine x_iload_n (pc := 28) dX7_flies_28 rfl rfl ?_
              refine x_Vi (pc := 29) ks_X7_72 dX7_flies_29 (tb_106) rfl rfl (hpn j (by omega)) rfl rfl rfl (Nat.le_of_ble_eq_true rfl) ?_
              refine x_ifb_ne (pc := 32) dX7_flies_32 (tgt := 45) rfl (fun h32 => ?_) (fun h32 => ?_)
              ·
                exact absurd h32 (n2 j (by omega))
              ·
                refine x_aload_n (pc := 35) dX7_flies_35 rfl rfl ?_
                refine x_Vv (pc := 36) ks_X7_140 dX7_flies_36 (tb_106) rfl rfl (hgs j (by omega)) rfl rfl rfl (Nat.le_of_ble_eq_true rfl) ?_
                refine x_iinc2 (pc := 39) dX7_flies_39 (by first | exact fv_inc _ | exact fv_dec _ | rfl) rfl ?_
                refine x_goto (pc := 42) dX7_flies_42 (tgt := 20) rfl ?_
                exact hL
          · show fv_X E mX7_flies _ _ 20 [some (.ref 106), some (.int (nI k)), some (.int (nI 200)), none] [] (fv_s (fv_s M1 24 A) 22 (pSn nb t (M1 22) 200))
            refine x_iload_n (pc := 20) dX7_flies_20 rfl rfl ?_
            refine x_sipush (pc := 21) (v := 200) dX7_flies_21 rfl ?_
            refine x_icmp_ge (pc := 24) dX7_flies_24 (tgt := 45) rfl (fun h24 => ?_) (fun h24 => ?_)
            ·
              refine x_aload_n (pc := 45) dX7_flies_45 rfl rfl ?_
              refine x_iload_n (pc := 46) dX7_flies_46 rfl rfl ?_
              refine x_Vi (pc := 47) ks_X7_72 dX7_flies_47 (tb_106) rfl rfl (hpn _ (by omega)) rfl rfl rfl (Nat.le_of_ble_eq_true rfl) ?_
              refine x_istore_n3 (pc := 50) dX7_flies_50 rfl ?_
              refine x_aload_n (pc := 51) dX7_flies_51 rfl rfl ?_
              refine x_Vv (pc := 52) ks_X7_155 dX7_flies_52 (tb_106) rfl rfl (hX7_laysBack) rfl rfl rfl (Nat.le_of_ble_eq_true rfl) ?_
              refine x_iload_n (pc := 55) dX7_flies_55 rfl rfl ?_
              refine x_ifb_eq (pc := 56) dX7_flies_56 (tgt := 63) rfl (fun h56 => ?_) (fun h56 => ?_)
              ·
                refine x_aload_n (pc := 63) dX7_flies_63 rfl rfl ?_
                refine x_iconst (pc := 64) (v := 3) dX7_flies_64 rfl ?_
                refine x_Vi (pc := 65) ks_X7_114 dX7_flies_65 (tb_106) rfl rfl (hX7_noL 3 (-1000004) (by decide) (by decide +kernel)) rfl rfl rfl (Nat.le_of_ble_eq_true rfl) ?_
                refine x_iret (pc := 68) dX7_flies_68 rfl (by first | rfl | exact fv_nz _) ?_
                exact ⟨rfl, _, (((pFr.rfl'.s (by decide)).s (by decide)).s (by decide)), fun nb nm hi => by rw [fv_s_same]; exact pEq_cpy (fun i hi => by rw [fv_s_ne _ _ (by decide), fv_s_same]; exact hAl i hi) nb nm hi, rfl⟩
              ·
                exact absurd h56 (n2 200 (by omega))
            ·
              refine x_aload_n (pc := 27) dX7_flies_27 rfl rfl ?_
              refine x_iload_n (pc := 28) dX7_flies_28 rfl rfl ?_
              refine x_Vi (pc := 29) ks_X7_72 dX7_flies_29 (tb_106) rfl rfl (hpn _ (by omega)) rfl rfl rfl (Nat.le_of_ble_eq_true rfl) ?_
              refine x_ifb_ne (pc := 32) dX7_flies_32 (tgt := 45) rfl (fun h32 => ?_) (fun h32 => ?_)
              ·
                refine x_aload_n (pc := 45) dX7_flies_45 rfl rfl ?_
                refine x_iload_n (pc := 46) dX7_flies_46 rfl rfl ?_
                refine x_Vi (pc := 47) ks_X7_72 dX7_flies_47 (tb_106) rfl rfl (hpn _ (by omega)) rfl rfl rfl (Nat.le_of_ble_eq_true rfl) ?_
                refine x_istore_n3 (pc := 50) dX7_flies_50 rfl ?_
                refine x_aload_n (pc := 51) dX7_flies_51 rfl rfl ?_
                refine x_Vv (pc := 52) ks_X7_155 dX7_flies_52 (tb_106) rfl rfl (hX7_laysBack) rfl rfl rfl (Nat.le_of_ble_eq_true rfl) ?_
                refine x_iload_n (pc := 55) dX7_flies_55 rfl rfl ?_
                refine x_ifb_eq (pc := 56) dX7_flies_56 (tgt := 63) rfl (fun h56 => ?_) (fun h56 => ?_)
                ·
                  refine x_aload_n (pc := 63) dX7_flies_63 rfl rfl ?_
                  refine x_iconst (pc := 64) (v := 3) dX7_flies_64 rfl ?_
                  refine x_Vi (pc := 65) ks_X7_114 dX7_flies_65 (tb_106) rfl rfl (hX7_noL 3 (-1000004) (by decide) (by decide +kernel)) rfl rfl rfl (Nat.le_of_ble_eq_true rfl) ?_
                  refine x_iret (pc := 68) dX7_flies_68 rfl (by first | rfl | exact fv_nz _) ?_
                  exact ⟨rfl, _, (((pFr.rfl'.s (by decide)).s (by decide)).s (by decide)), fun nb nm hi => by rw [fv_s_same]; exact pEq_cpy (fun i hi => by rw [fv_s_ne _ _ (by decide), fv_s_same]; exact hAl i hi) nb nm hi, rfl⟩
                ·
                  exact absurd h56 (n2 200 (by omega))
              ·
                exact absurd (nI_le (a := 200) (by omega) (by omega)) h24
        ·
          exact absurd hm h5
  · skip
    refine pOp.bad (v := -1000001) 0 I ?_ (fun M1 hF => ?_)
    · skip
      refine fv_F.of (ls := [some (.ref 0), some (.int m), none]) (by decide) (Nat.le_of_ble_eq_true rfl) rfl ?_
      refine x_aload_n (pc := 0) dX6_flies_0 rfl rfl ?_
      refine x_geta (pc := 1) fl_X6_12 dX6_flies_1 (tb_fv) rfl ?_
      refine x_iload_n (pc := 4) dX6_flies_4 rfl rfl ?_
      refine x_Vi (pc := 5) ks_X6_68 dX6_flies_5 (tb_st (by assumption)) rfl rfl (hHb hB) rfl rfl rfl (Nat.le_of_ble_eq_true rfl) ?_
      refine x_ifb_ne (pc := 8) dX6_flies_8 (tgt := 18) rfl (fun h8 => ?_) (fun h8 => ?_)
      ·
        contradiction
      ·
        refine x_aload_n (pc := 11) dX6_flies_11 rfl rfl ?_
        refine x_ldc (pc := 12) kc_X6_55 dX6_flies_12 ?_
        refine x_Vi (pc := 14) ks_X6_56 dX6_flies_14 (tb_fv) rfl rfl (hX6_fin 0 (-1000001) (by decide +kernel) (by decide)) rfl rfl rfl (Nat.le_of_ble_eq_true rfl) ?_
        refine x_iret (pc := 17) dX6_flies_17 rfl (by first | rfl | exact fv_nz _) ?_
        exact ⟨rfl, rfl⟩
    · skip
      have e22 : M1 22 = M 22 := hF 22 (by decide)
      have hG1 : pGd (M1 22) nb nm := by rw [e22]; exact hG2
      have hE1 : pEq nb nm (M1 22) (M 0) := by rw [e22]; exact hE
      have hB1 := hG1.1
      have hM1 := hG1.2.2.1
      refine fv_F.of (ls := [some (.ref 106), some (.int m), none, none]) (by decide) (Nat.le_of_ble_eq_true rfl) rfl ?_
      refine x_aload_n (pc := 0) dX7_flies_0 rfl rfl ?_
      refine x_iload_n (pc := 1) dX7_flies_1 rfl rfl ?_
      refine x_Vi (pc := 2) ks_X7_120 dX7_flies_2 (tb_106) rfl rfl (hX7_isBird (x := nI nb) hB1) rfl rfl rfl (Nat.le_of_ble_eq_true rfl) ?_
      refine x_ifb_ne (pc := 5) dX7_flies_5 (tgt := 14) rfl (fun h5 => ?_) (fun h5 => ?_)
      ·
        contradiction
      ·
        refine x_aload_n (pc := 8) dX7_flies_8 rfl rfl ?_
        refine x_iconst (pc := 9) (v := 0) dX7_flies_9 rfl ?_
        refine x_Vi (pc := 10) ks_X7_114 dX7_flies_10 (tb_106) rfl rfl (hX7_noL 0 (-1000001) (by decide) (by decide +kernel)) rfl rfl rfl (Nat.le_of_ble_eq_true rfl) ?_
        refine x_iret (pc := 13) dX7_flies_13 rfl (by first | rfl | exact fv_nz _) ?_
        exact ⟨rfl, rfl⟩
