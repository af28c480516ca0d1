theorem dA_eq {nb nm k c : Nat} {σ τ : Nat → Int32} (h : pEq nb nm τ σ) (hk : k < nm) (hc : c < 4) : pSd τ nb k c (τ (fM k 2)) + pSd τ nb k c (pWa τ nb k) = pSd σ nb k c (σ (fM k 2)) + pSd σ nb k c (pWa σ nb k) := by
  rw [h.m hk (by decide), pWa_cg h hk, pSd_cg h hk hc, pSd_cg h hk hc]
theorem pEq_cpy {σ τ X a : Nat → Int32} (h : ∀ i, i < 114 → a i = τ i) : ∀ nb nm, pI1 σ τ nb nm → pEq nb nm (pCpy X a 114) τ := fun nb nm hi j hj => by
  have hlt := pLv_lt hi.1.2.1 hi.1.2.2.2.1 hj
  unfold pCpy
  rw [if_pos hlt]
  exact h j hlt
theorem pCpy_lt {X a : Nat → Int32} {i : Nat} (h : i < 114) : pCpy X a 114 i = a i := if_pos h
/-- a query of the model that sets all aside and lays it back -/
theorem pBack {M1 M2 : fv_M} {X a : Nat → Int32} (h : M2 = fv_s M1 22 (pCpy X a 114)) {τ : Nat → Int32} (ha : ∀ i, i < 114 → a i = τ i) : ∀ σ nb nm, pI1 σ τ nb nm → pEq nb nm (M2 22) τ := fun σ nb nm hi => by
  rw [h, fv_s_same]
  exact pEq_cpy ha nb nm hi
theorem op_seasons {E : fv_E} {n : Int32} {M : fv_M} (I : pInv M) : pOp E mX6_seasons mX7_seasons [.int n] M := by
  obtain ⟨nb, nm, hG, hE, t, ht, eT⟩ := I.1
  have hs0 : 0 < 3 := by decide
  have hs1 : 1 < 3 := by decide
  have hB := hG.1
  have hb := hG.2.1
  have hM := hG.2.2.1
  have hn := hG.2.2.2.1
  have hK := hG.K
  have hC := hG.C
  have hG2 : pGd (M 22) nb nm := hG.cg hE
  by_cases hx1 : 1 ≤ n ∧ n ≤ 40
  · obtain ⟨k, hk, rfl⟩ := pUm (n := 40) (v := n) (by decide) ⟨Int32.le_trans (by decide) hx1.1, hx1.2⟩
    have hsum : nI t + nI k = nI (t + k) := nI_add t k
    by_cases hx2 : t + k ≤ 99999
    · obtain ⟨hS1, hS2⟩ := pSn_1 hG eT k (by omega)
      refine pOp.mut (v := pAf (pSn nb t (M 0) k) nb) (pSn nb t (M 0) k) I ?_ (fun M1 hF h0 => ?_)
      · skip
        refine fv_P.of (ls := [some (.ref 0), some (.int (nI k)), none]) (by decide) (Nat.le_of_ble_eq_true rfl) rfl ?_
        refine x_iload_n (pc := 0) dX6_seasons_0 rfl rfl ?_
        refine x_iconst (pc := 1) (v := 1) dX6_seasons_1 rfl ?_
        refine x_icmp_lt (pc := 2) dX6_seasons_2 (tgt := 11) rfl (fun h2 => ?_) (fun h2 => ?_)
        ·
          exact absurd hx1.1 (Int32.not_le.mpr h2)
        ·
          refine x_iload_n (pc := 5) dX6_seasons_5 rfl rfl ?_
          refine x_bipush (pc := 6) (v := 40) dX6_seasons_6 rfl ?_
          refine x_icmp_le (pc := 8) dX6_seasons_8 (tgt := 18) rfl (fun h8 => ?_) (fun h8 => ?_)
          ·
            refine x_aload_n (pc := 18) dX6_seasons_18 rfl rfl ?_
            refine x_geta (pc := 19) fl_X6_12 dX6_seasons_19 (tb_fv) rfl ?_
            refine x_geti (pc := 22) fl_X6_130 dX6_seasons_22 (tb_st (by assumption)) rfl (eT) ?_
            refine x_iload_n (pc := 25) dX6_seasons_25 rfl rfl ?_
            refine x_iadd (pc := 26) dX6_seasons_26 ?_
            rw [hsum]
            refine x_ldc (pc := 27) kc_X6_133 dX6_seasons_27 ?_
            refine x_icmp_le (pc := 29) dX6_seasons_29 (tgt := 39) rfl (fun h29 => ?_) (fun h29 => ?_)
            ·
              refine x_iconst (pc := 39) (v := 0) dX6_seasons_39 rfl ?_
              refine x_istore_n2 (pc := 40) dX6_seasons_40 rfl ?_
              refine x_loop (fun i => [some (.ref 0), some (.int (nI k)), some (.int (nI i))]) (fun i => fv_s M 0 (pSn nb t (M 0) i)) k rfl (fv_s_id M 0) (fun i hi hL => ?_) ?_
              · show fv_X E mX6_seasons _ _ 41 [some (.ref 0), some (.int (nI k)), some (.int (nI i))] [] (fv_s M 0 (pSn nb t (M 0) i))
                replace hL : fv_X E mX6_seasons _ _ 41 [some (.ref 0), some (.int (nI k)), some (.int (nI (i + 1)))] [] (fv_s M 0 (pSn nb t (M 0) (i + 1))) := hL
                obtain ⟨g1, g2⟩ := pSn_1 hG eT i (by omega)
                have hp := hX4_passSeason (E := E) (d := 10) (s := 0) (nb := nb) (t := t + i) (M := fv_s M 0 (pSn nb t (M 0) i)) hs0 (by rw [fv_s_same]; exact g1.1) hb (by rw [fv_s_same]; exact g2) (by omega)
                rw [fv_s_same, fv_s_s, pSn_s] at hp
                refine x_iload_n (pc := 41) dX6_seasons_41 rfl rfl ?_
                refine x_iload_n (pc := 42) dX6_seasons_42 rfl rfl ?_
                refine x_icmp_ge (pc := 43) dX6_seasons_43 (tgt := 59) rfl (fun h43 => ?_) (fun h43 => ?_)
                ·
                  exact absurd h43 (nI_ge hi (by omega))
                ·
                  refine x_aload_n (pc := 46) dX6_seasons_46 rfl rfl ?_
                  refine x_geta (pc := 47) fl_X6_12 dX6_seasons_47 (tb_fv) rfl ?_
                  refine x_Vv (pc := 50) ks_X6_135 dX6_seasons_50 (tb_st (by assumption)) rfl rfl (hp) rfl rfl rfl (Nat.le_of_ble_eq_true rfl) ?_
                  refine x_iinc2 (pc := 53) dX6_seasons_53 (by first | exact fv_inc _ | exact fv_dec _ | rfl) rfl ?_
                  refine x_goto (pc := 56) dX6_seasons_56 (tgt := 41) rfl ?_
                  exact hL
              · show fv_X E mX6_seasons _ _ 41 [some (.ref 0), some (.int (nI k)), some (.int (nI k))] [] (fv_s M 0 (pSn nb t (M 0) k))
                refine x_iload_n (pc := 41) dX6_seasons_41 rfl rfl ?_
                refine x_iload_n (pc := 42) dX6_seasons_42 rfl rfl ?_
                refine x_icmp_ge (pc := 43) dX6_seasons_43 (tgt := 59) rfl (fun h43 => ?_) (fun h43 => ?_)
                ·
                  refine x_aload_n (pc := 59) dX6_seasons_59 rfl rfl ?_
                  refine x_geta (pc := 60) fl_X6_12 dX6_seasons_60 (tb_fv) rfl ?_
                  refine x_Vi (pc := 63) ks_X6_138 dX6_seasons_63 (tb_st (by assumption)) rfl rfl ((hX4_allFeathers hs0 (by rw [fv_s_same]; exact hS1.1) hb).v (by rw [fv_s_same])) rfl rfl rfl (Nat.le_of_ble_eq_true rfl) ?_
                  refine x_iret (pc := 66) dX6_seasons_66 rfl (by first | rfl | exact fv_nz _) ?_
                  exact ⟨rfl, pFr.rfl'.s (by decide), fv_s_same _ _ _⟩
                ·
                  exact absurd (Int32.le_refl _) h43
            ·
              exact absurd (nI_le (b := 99999) hx2 (by omega)) h29
          ·
            exact absurd hx1.2 h8
      · skip
        have e22 : M1 22 = M 22 := hF 22 (by decide)
        have hG1 : pGd (M1 22) nb nm := by rw [e22]; exact hG2
        have hE1 : pEq nb nm (M1 22) (M 0) := by rw [e22]; exact hE
        have hB1 := hG1.1
        have hM1 := hG1.2.2.1
        have eT1 : M1 22 0 = nI t := (hE1.n (by decide)).trans eT
        obtain ⟨hQ1, hQ2⟩ := pSn_1 hG1 eT1 k (by omega)
        refine fv_P.of (ls := [some (.ref 106), some (.int (nI k)), none]) (by decide) (Nat.le_of_ble_eq_true rfl) rfl ?_
        refine x_iload_n (pc := 0) dX7_seasons_0 rfl rfl ?_
        refine x_iconst (pc := 1) (v := 1) dX7_seasons_1 rfl ?_
        refine x_bipush (pc := 2) (v := 40) dX7_seasons_2 rfl ?_
        refine x_Si (pc := 4) ks_X7_60 dX7_seasons_4 (hX7_in1) rfl rfl rfl (Nat.le_of_ble_eq_true rfl) ?_
        refine x_ifb_ne (pc := 7) dX7_seasons_7 (tgt := 16) rfl (fun h7 => ?_) (fun h7 => ?_)
        ·
          refine x_aload_n (pc := 16) dX7_seasons_16 rfl rfl ?_
          refine x_geta (pc := 17) fl_X7_9 dX7_seasons_17 (tb_106) rfl ?_
          refine x_iconst (pc := 20) (v := 0) dX7_seasons_20 rfl ?_
          refine x_iale (pc := 21) dX7_seasons_21 (tb_107) ((rfl : (0 : Int32) = nI 0)) (by decide) (by first | decide | assumption) (eT1) ?_
          refine x_iload_n (pc := 22) dX7_seasons_22 rfl rfl ?_
          refine x_iadd (pc := 23) dX7_seasons_23 ?_
          rw [hsum]
          refine x_ldc (pc := 24) kc_X7_139 dX7_seasons_24 ?_
          refine x_icmp_le (pc := 26) dX7_seasons_26 (tgt := 35) rfl (fun h26 => ?_) (fun h26 => ?_)
          ·
            refine x_iconst (pc := 35) (v := 0) dX7_seasons_35 rfl ?_
            refine x_istore_n2 (pc := 36) dX7_seasons_36 rfl ?_
            refine x_loop (fun i => [some (.ref 106), some (.int (nI k)), some (.int (nI i))]) (fun i => fv_s M1 22 (pSn nb t (M1 22) i)) k rfl (fv_s_id M1 22) (fun i hi hL => ?_) ?_
            · show fv_X E mX7_seasons _ _ 37 [some (.ref 106), some (.int (nI k)), some (.int (nI i))] [] (fv_s M1 22 (pSn nb t (M1 22) i))
              replace hL : fv_X E mX7_seasons _ _ 37 [some (.ref 106), some (.int (nI k)), some (.int (nI (i + 1)))] [] (fv_s M1 22 (pSn nb t (M1 22) (i + 1))) := hL
              obtain ⟨g1, g2⟩ := pSn_1 hG1 eT1 i (by omega)
              have hp := hX7_goesSeason (E := E) (d := 11) (nb := nb) (t := t + i) (M := fv_s M1 22 (pSn nb t (M1 22) i)) (by rw [fv_s_same]; exact g1.1) hb (by rw [fv_s_same]; exact g2) (by omega)
              rw [fv_s_same, fv_s_s, pSn_s] at hp
              refine x_iload_n (pc := 37) dX7_seasons_37 rfl rfl ?_
              refine x_iload_n (pc := 38) dX7_seasons_38 rfl rfl ?_
              refine x_icmp_ge (pc := 39) dX7_seasons_39 (tgt := 52) rfl (fun h39 => ?_) (fun h39 => ?_)
              ·
                exact absurd h39 (nI_ge hi (by omega))
              ·
                refine x_aload_n (pc := 42) dX7_seasons_42 rfl rfl ?_
                refine x_Vv (pc := 43) ks_X7_140 dX7_seasons_43 (tb_106) rfl rfl (hp) rfl rfl rfl (Nat.le_of_ble_eq_true rfl) ?_
                refine x_iinc2 (pc := 46) dX7_seasons_46 (by first | exact fv_inc _ | exact fv_dec _ | rfl) rfl ?_
                refine x_goto (pc := 49) dX7_seasons_49 (tgt := 37) rfl ?_
                exact hL
            · show fv_X E mX7_seasons _ _ 37 [some (.ref 106), some (.int (nI k)), some (.int (nI k))] [] (fv_s M1 22 (pSn nb t (M1 22) k))
              refine x_iload_n (pc := 37) dX7_seasons_37 rfl rfl ?_
              refine x_iload_n (pc := 38) dX7_seasons_38 rfl rfl ?_
              refine x_icmp_ge (pc := 39) dX7_seasons_39 (tgt := 52) rfl (fun h39 => ?_) (fun h39 => ?_)
              ·
                refine x_aload_n (pc := 52) dX7_seasons_52 rfl rfl ?_
                refine x_Vi (pc := 53) ks_X7_143 dX7_seasons_53 (tb_106) rfl rfl ((hX7_allFeathers (by rw [fv_s_same]; exact hQ1.1) hb).v (show _ = pAf (pSn nb t (M 0) k) nb from by rw [fv_s_same]; exact pAf_cg (pSn_cg hE1 k))) rfl rfl rfl (Nat.le_of_ble_eq_true rfl) ?_
                refine x_iret (pc := 56) dX7_seasons_56 rfl (by first | rfl | exact fv_nz _) ?_
                exact ⟨rfl, pFr.rfl'.s (by decide), nb, nm, by rw [fv_s_same]; exact ⟨hS1, pSn_cg hE1 k, t + k, by omega, hS2⟩⟩
              ·
                exact absurd (Int32.le_refl _) h39
          ·
            exact absurd (nI_le (b := 99999) hx2 (by omega)) h26
        ·
          contradiction
    · skip
      refine pOp.bad (v := -1000005) 4 I ?_ (fun M1 hF => ?_)
      · skip
        refine fv_F.of (ls := [some (.ref 0), some (.int (nI k)), none]) (by decide) (Nat.le_of_ble_eq_true rfl) rfl ?_
        refine x_iload_n (pc := 0) dX6_seasons_0 rfl rfl ?_
        refine x_iconst (pc := 1) (v := 1) dX6_seasons_1 rfl ?_
        refine x_icmp_lt (pc := 2) dX6_seasons_2 (tgt := 11) rfl (fun h2 => ?_) (fun h2 => ?_)
        ·
          exact absurd h2 (Int32.not_lt.mpr hx1.1)
        ·
          refine x_iload_n (pc := 5) dX6_seasons_5 rfl rfl ?_
          refine x_bipush (pc := 6) (v := 40) dX6_seasons_6 rfl ?_
          refine x_icmp_le (pc := 8) dX6_seasons_8 (tgt := 18) rfl (fun h8 => ?_) (fun h8 => ?_)
          ·
            refine x_aload_n (pc := 18) dX6_seasons_18 rfl rfl ?_
            refine x_geta (pc := 19) fl_X6_12 dX6_seasons_19 (tb_fv) rfl ?_
            refine x_geti (pc := 22) fl_X6_130 dX6_seasons_22 (tb_st (by assumption)) rfl (eT) ?_
            refine x_iload_n (pc := 25) dX6_seasons_25 rfl rfl ?_
            refine x_iadd (pc := 26) dX6_seasons_26 ?_
            rw [hsum]
            refine x_ldc (pc := 27) kc_X6_133 dX6_seasons_27 ?_
            refine x_icmp_le (pc := 29) dX6_seasons_29 (tgt := 39) rfl (fun h29 => ?_) (fun h29 => ?_)
            ·
              exact absurd ((nI_leI (b := 99999) (by omega) (by omega)).mp h29) hx2
            ·
              refine x_aload_n (pc := 32) dX6_seasons_32 rfl rfl ?_
              refine x_ldc (pc := 33) kc_X6_134 dX6_seasons_33 ?_
              refine x_Vi (pc := 35) ks_X6_56 dX6_seasons_35 (tb_fv) rfl rfl (hX6_fin 4 (-1000005) (by decide +kernel) (by decide)) rfl rfl rfl (Nat.le_of_ble_eq_true rfl) ?_
              refine x_iret (pc := 38) dX6_seasons_38 rfl (by first | rfl | exact fv_nz _) ?_
              exact ⟨rfl, rfl⟩
          ·
            exact absurd hx1.2 h8
      · skip
        have e22 : M1 22 = M 22 := hF 22 (by decide)
        have hG1 : pGd (M1 22) nb nm := by rw [e22]; exact hG2
        have hE1 : pEq nb nm (M1 22) (M 0) := by rw [e22]; exact hE
        have hB1 := hG1.1
        have hM1 := hG1.2.2.1
        refine fv_F.of (ls := [some (.ref 106), some (.int (nI k)), none]) (by decide) (Nat.le_of_ble_eq_true rfl) rfl ?_
        refine x_iload_n (pc := 0) dX7_seasons_0 rfl rfl ?_
        refine x_iconst (pc := 1) (v := 1) dX7_seasons_1 rfl ?_
        refine x_bipush (pc := 2) (v := 40) dX7_seasons_2 rfl ?_
        refine x_Si (pc := 4) ks_X7_60 dX7_seasons_4 (hX7_in1) rfl rfl rfl (Nat.le_of_ble_eq_true rfl) ?_
        refine x_ifb_ne (pc := 7) dX7_seasons_7 (tgt := 16) rfl (fun h7 => ?_) (fun h7 => ?_)
        ·
          refine x_aload_n (pc := 16) dX7_seasons_16 rfl rfl ?_
          refine x_geta (pc := 17) fl_X7_9 dX7_seasons_17 (tb_106) rfl ?_
          refine x_iconst (pc := 20) (v := 0) dX7_seasons_20 rfl ?_
          refine x_iale (pc := 21) dX7_seasons_21 (tb_107) ((rfl : (0 : Int32) = nI 0)) (by decide) (by first | decide | assumption) ((hE1.n (by decide)).trans eT) ?_
          refine x_iload_n (pc := 22) dX7_seasons_22 rfl rfl ?_
          refine x_iadd (pc := 23) dX7_seasons_23 ?_
          rw [hsum]
          refine x_ldc (pc := 24) kc_X7_139 dX7_seasons_24 ?_
          refine x_icmp_le (pc := 26) dX7_seasons_26 (tgt := 35) rfl (fun h26 => ?_) (fun h26 => ?_)
          ·
            exact absurd ((nI_leI (b := 99999) (by omega) (by omega)).mp h26) hx2
          ·
            refine x_aload_n (pc := 29) dX7_seasons_29 rfl rfl ?_
            refine x_iconst (pc := 30) (v := 4) dX7_seasons_30 rfl ?_
            refine x_Vi (pc := 31) ks_X7_114 dX7_seasons_31 (tb_106) rfl rfl (hX7_noL 4 (-1000005) (by decide) (by decide +kernel)) rfl rfl rfl (Nat.le_of_ble_eq_true rfl) ?_
            refine x_iret (pc := 34) dX7_seasons_34 rfl (by first | rfl | exact fv_nz _) ?_
            exact ⟨rfl, rfl⟩
        ·
          contradiction
  · skip
    refine pOp.bad (v := -1000001) 0 I ?_ (fun M1 hF => ?_)
    · skip
      refine fv_F.of (ls := [some (.ref 0), some (.int n), none]) (by decide) (Nat.le_of_ble_eq_true rfl) rfl ?_
      refine x_iload_n (pc := 0) dX6_seasons_0 rfl rfl ?_
      refine x_iconst (pc := 1) (v := 1) dX6_seasons_1 rfl ?_
      refine x_icmp_lt (pc := 2) dX6_seasons_2 (tgt := 11) rfl (fun h2 => ?_) (fun h2 => ?_)
      ·
        refine x_aload_n (pc := 11) dX6_seasons_11 rfl rfl ?_
        refine x_ldc (pc := 12) kc_X6_55 dX6_seasons_12 ?_
        refine x_Vi (pc := 14) ks_X6_56 dX6_seasons_14 (tb_fv) rfl rfl (hX6_fin 0 (-1000001) (by decide +kernel) (by decide)) rfl rfl rfl (Nat.le_of_ble_eq_true rfl) ?_
        refine x_iret (pc := 17) dX6_seasons_17 rfl (by first | rfl | exact fv_nz _) ?_
        exact ⟨rfl, rfl⟩
      ·
        refine x_iload_n (pc := 5) dX6_seasons_5 rfl rfl ?_
        refine x_bipush (pc := 6) (v := 40) dX6_seasons_6 rfl ?_
        refine x_icmp_le (pc := 8) dX6_seasons_8 (tgt := 18) rfl (fun h8 => ?_) (fun h8 => ?_)
        ·
          exact absurd ⟨Int32.not_lt.mp h2, h8⟩ hx1
        ·
          refine x_aload_n (pc := 11) dX6_seasons_11 rfl rfl ?_
          refine x_ldc (pc := 12) kc_X6_55 dX6_seasons_12 ?_
          refine x_Vi (pc := 14) ks_X6_56 dX6_seasons_14 (tb_fv) rfl rfl (hX6_fin 0 (-1000001) (by decide +kernel) (by decide)) rfl rfl rfl (Nat.le_of_ble_eq_true rfl) ?_
          refine x_iret (pc := 17) dX6_seasons_17 rfl (by first | rfl | exact fv_nz _) ?_
          exact ⟨rfl, rfl⟩
    · skip
      have e22 : M1 22 = M 22 := hF 22 (by decide)
      have hG1 : pGd (M1 22) nb nm := by rw [e22]; exact hG2
      have hE1 : pEq nb nm (M1 22) (M 0) := by rw [e22]; exact hE
      have hB1 := hG1.1
      have hM1 := hG1.2.2.1
      refine fv_F.of (ls := [some (.ref 106), some (.int n), none]) (by decide) (Nat.le_of_ble_eq_true rfl) rfl ?_
      refine x_iload_n (pc := 0) dX7_seasons_0 rfl rfl ?_
      refine x_iconst (pc := 1) (v := 1) dX7_seasons_1 rfl ?_
      refine x_bipush (pc := 2) (v := 40) dX7_seasons_2 rfl ?_
      refine x_Si (pc := 4) ks_X7_60 dX7_seasons_4 (hX7_in1) rfl rfl rfl (Nat.le_of_ble_eq_true rfl) ?_
      refine x_ifb_ne (pc := 7) dX7_seasons_7 (tgt := 16) rfl (fun h7 => ?_) (fun h7 => ?_)
      ·
        contradiction
      ·
        refine x_aload_n (pc := 10) dX7_seasons_10 rfl rfl ?_
        refine x_iconst (pc := 11) (v := 0) dX7_seasons_11 rfl ?_
        refine x_Vi (pc := 12) ks_X7_114 dX7_seasons_12 (tb_106) rfl rfl (hX7_noL 0 (-1000001) (by decide) (by decide +kernel)) rfl rfl rfl (Nat.le_of_ble_eq_true rfl) ?_
        refine x_iret (pc := 15) dX7_seasons_15 rfl (by first | rfl | exact fv_nz _) ?_
        exact ⟨rfl, rfl⟩
theorem op_now {E : fv_E} {q : Int32} {M : fv_M} (I : pInv M) : pOp E mX6_now mX7_now [.int q] M := by
  obtain ⟨nb, nm, hG, hE, t, ht, eT⟩ := I.1
  have hs0 : 0 < 3 := by decide
  have hs1 : 1 < 3 := by decide
  have hB := hG.1
  have hb := hG.2.1
  have hM := hG.2.2.1
  have hn := hG.2.2.2.1
  have hK := hG.K
  have hC := hG.C
  have hG2 : pGd (M 22) nb nm := hG.cg hE
  by_cases hq : 0 ≤ q ∧ q ≤ 7
  · obtain ⟨z, hz, rfl⟩ := pUm (n := 7) (by decide) hq
    by_cases hz4 : z < 4
    · rcases (show z = 0 ∨ z = 1 ∨ z = 2 ∨ z = 3 by omega) with rfl | rfl | rfl | rfl
      · skip
        refine pOp.qry (v := M 0 0) I ?_ (fun M1 hF => ?_)
        · skip
          refine fv_P.of (ls := [some (.ref 0), some (.int (nI 0))]) (by decide) (Nat.le_of_ble_eq_true rfl) rfl ?_
          refine x_iload_n (pc := 0) dX6_now_0 rfl rfl ?_
          refine x_bipush (pc := 1) (v := 7) dX6_now_1 rfl ?_
          refine x_Si (pc := 3) ks_X6_51 dX6_now_3 (hX6_isUpTo) rfl rfl rfl (Nat.le_of_ble_eq_true rfl) ?_
          refine x_ifb_ne (pc := 6) dX6_now_6 (tgt := 16) rfl (fun h6 => ?_) (fun h6 => ?_)
          ·
            refine x_iload_n (pc := 16) dX6_now_16 rfl rfl ?_
            refine x_tableIn (pc := 17) dX6_now_17 (by decide) (by decide) rfl (tgt := 48) rfl ?_
            refine x_aload_n (pc := 48) dX6_now_48 rfl rfl ?_
            refine x_geta (pc := 49) fl_X6_12 dX6_now_49 (tb_fv) rfl ?_
            refine x_geti (pc := 52) fl_X6_130 dX6_now_52 (tb_st (by assumption)) rfl (rfl) ?_
            refine x_iret (pc := 55) dX6_now_55 rfl (by first | rfl | exact fv_nz _) ?_
            exact ⟨rfl, pFr.rfl'⟩
          ·
            contradiction
        · skip
          have e22 : M1 22 = M 22 := hF 22 (by decide)
          have hG1 : pGd (M1 22) nb nm := by rw [e22]; exact hG2
          have hE1 : pEq nb nm (M1 22) (M 0) := by rw [e22]; exact hE
          have hB1 := hG1.1
          have hM1 := hG1.2.2.1
          refine fv_P.of (ls := [some (.ref 106), some (.int (nI 0))]) (by decide) (Nat.le_of_ble_eq_true rfl) rfl ?_
          refine x_iload_n (pc := 0) dX7_now_0 rfl rfl ?_
          refine x_tableIn (pc := 1) dX7_now_1 (by decide) (by decide) rfl (tgt := 32) rfl ?_
          refine x_aload_n (pc := 32) dX7_now_32 rfl rfl ?_
          refine x_geta (pc := 33) fl_X7_9 dX7_now_33 (tb_106) rfl ?_
          refine x_iconst (pc := 36) (v := 0) dX7_now_36 rfl ?_
          refine x_iale (pc := 37) dX7_now_37 (tb_107) ((rfl : (0 : Int32) = nI 0)) (by decide) (by first | decide | assumption) (hE1.n (j := 0) (by decide)) ?_
          refine x_iret (pc := 38) dX7_now_38 rfl (by first | rfl | exact fv_nz _) ?_
          exact ⟨rfl, pFr.rfl', rfl, rfl, fun _ _ _ => pEq.rfl'⟩
      · skip
        refine pOp.qry (v := pAf (M 0) nb) I ?_ (fun M1 hF => ?_)
        · skip
          refine fv_P.of (ls := [some (.ref 0), some (.int (nI 1))]) (by decide) (Nat.le_of_ble_eq_true rfl) rfl ?_
          refine x_iload_n (pc := 0) dX6_now_0 rfl rfl ?_
          refine x_bipush (pc := 1) (v := 7) dX6_now_1 rfl ?_
          refine x_Si (pc := 3) ks_X6_51 dX6_now_3 (hX6_isUpTo) rfl rfl rfl (Nat.le_of_ble_eq_true rfl) ?_
          refine x_ifb_ne (pc := 6) dX6_now_6 (tgt := 16) rfl (fun h6 => ?_) (fun h6 => ?_)
          ·
            refine x_iload_n (pc := 16) dX6_now_16 rfl rfl ?_
            refine x_tableIn (pc := 17) dX6_now_17 (by decide) (by decide) rfl (tgt := 56) rfl ?_
            refine x_aload_n (pc := 56) dX6_now_56 rfl rfl ?_
            refine x_geta (pc := 57) fl_X6_12 dX6_now_57 (tb_fv) rfl ?_
            refine x_Vi (pc := 60) ks_X6_138 dX6_now_60 (tb_st (by assumption)) rfl rfl (hX4_allFeathers hs0 hB hb) rfl rfl rfl (Nat.le_of_ble_eq_true rfl) ?_
            refine x_iret (pc := 63) dX6_now_63 rfl (by first | rfl | exact fv_nz _) ?_
            exact ⟨rfl, pFr.rfl'⟩
          ·
            contradiction
        · skip
          have e22 : M1 22 = M 22 := hF 22 (by decide)
          have hG1 : pGd (M1 22) nb nm := by rw [e22]; exact hG2
          have hE1 : pEq nb nm (M1 22) (M 0) := by rw [e22]; exact hE
          have hB1 := hG1.1
          have hM1 := hG1.2.2.1
          refine fv_P.of (ls := [some (.ref 106), some (.int (nI 1))]) (by decide) (Nat.le_of_ble_eq_true rfl) rfl ?_
          refine x_iload_n (pc := 0) dX7_now_0 rfl rfl ?_
          refine x_tableIn (pc := 1) dX7_now_1 (by decide) (by decide) rfl (tgt := 39) rfl ?_
          refine x_aload_n (pc := 39) dX7_now_39 rfl rfl ?_
          refine x_Vi (pc := 40) ks_X7_143 dX7_now_40 (tb_106) rfl rfl ((hX7_allFeathers hB1 hb).v (pAf_cg hE1)) rfl rfl rfl (Nat.le_of_ble_eq_true rfl) ?_
          refine x_iret (pc := 43) dX7_now_43 rfl (by first | rfl | exact fv_nz _) ?_
          exact ⟨rfl, pFr.rfl', rfl, rfl, fun _ _ _ => pEq.rfl'⟩
      · skip
        refine pOp.qry (v := pLw (M 0) nm) I ?_ (fun M1 hF => ?_)
        · skip
          refine fv_P.of (ls := [some (.ref 0), some (.int (nI 2))]) (by decide) (Nat.le_of_ble_eq_true rfl) rfl ?_
          refine x_iload_n (pc := 0) dX6_now_0 rfl rfl ?_
          refine x_bipush (pc := 1) (v := 7) dX6_now_1 rfl ?_
          refine x_Si (pc := 3) ks_X6_51 dX6_now_3 (hX6_isUpTo) rfl rfl rfl (Nat.le_of_ble_eq_true rfl) ?_
          refine x_ifb_ne (pc := 6) dX6_now_6 (tgt := 16) rfl (fun h6 => ?_) (fun h6 => ?_)
          ·
            refine x_iload_n (pc := 16) dX6_now_16 rfl rfl ?_
            refine x_tableIn (pc := 17) dX6_now_17 (by decide) (by decide) rfl (tgt := 64) rfl ?_
            refine x_aload_n (pc := 64) dX6_now_64 rfl rfl ?_
            refine x_geta (pc := 65) fl_X6_12 dX6_now_65 (tb_fv) rfl ?_
            refine x_Vi (pc := 68) ks_X6_141 dX6_now_68 (tb_st (by assumption)) rfl rfl (hX4_laws hs0 hM hn) rfl rfl rfl (Nat.le_of_ble_eq_true rfl) ?_
            refine x_iret (pc := 71) dX6_now_71 rfl (by first | rfl | exact fv_nz _) ?_
            exact ⟨rfl, pFr.rfl'⟩
          ·
            contradiction
        · skip
          have e22 : M1 22 = M 22 := hF 22 (by decide)
          have hG1 : pGd (M1 22) nb nm := by rw [e22]; exact hG2
          have hE1 : pEq nb nm (M1 22) (M 0) := by rw [e22]; exact hE
          have hB1 := hG1.1
          have hM1 := hG1.2.2.1
          refine fv_P.of (ls := [some (.ref 106), some (.int (nI 2))]) (by decide) (Nat.le_of_ble_eq_true rfl) rfl ?_
          refine x_iload_n (pc := 0) dX7_now_0 rfl rfl ?_
          refine x_tableIn (pc := 1) dX7_now_1 (by decide) (by decide) rfl (tgt := 44) rfl ?_
          refine x_aload_n (pc := 44) dX7_now_44 rfl rfl ?_
          refine x_Vi (pc := 45) ks_X7_146 dX7_now_45 (tb_106) rfl rfl ((hX7_laws hM1 hn).v (pLw_cg hE1)) rfl rfl rfl (Nat.le_of_ble_eq_true rfl) ?_
          refine x_iret (pc := 48) dX7_now_48 rfl (by first | rfl | exact fv_nz _) ?_
          exact ⟨rfl, pFr.rfl', rfl, rfl, fun _ _ _ => pEq.rfl'⟩
      · skip
        refine pOp.qry (v := pFy (M 0) nb) I ?_ (fun M1 hF => ?_)
        · skip
          refine fv_P.of (ls := [some (.ref 0), some (.int (nI 3))]) (by decide) (Nat.le_of_ble_eq_true rfl) rfl ?_
          refine x_iload_n (pc := 0) dX6_now_0 rfl rfl ?_
          refine x_bipush (pc := 1) (v := 7) dX6_now_1 rfl ?_
          refine x_Si (pc := 3) ks_X6_51 dX6_now_3 (hX6_isUpTo) rfl rfl rfl (Nat.le_of_ble_eq_true rfl) ?_
          refine x_ifb_ne (pc := 6) dX6_now_6 (tgt := 16) rfl (fun h6 => ?_) (fun h6 => ?_)
          ·
            refine x_iload_n (pc := 16) dX6_now_16 rfl rfl ?_
            refine x_tableIn (pc := 17) dX6_now_17 (by decide) (by decide) rfl (tgt := 72) rfl ?_
            refine x_aload_n (pc := 72) dX6_now_72 rfl rfl ?_
            refine x_geta (pc := 73) fl_X6_12 dX6_now_73 (tb_fv) rfl ?_
            refine x_Vi (pc := 76) ks_X6_144 dX6_now_76 (tb_st (by assumption)) rfl rfl (hX4_flyers hs0 hB hb) rfl rfl rfl (Nat.le_of_ble_eq_true rfl) ?_
            refine x_iret (pc := 79) dX6_now_79 rfl (by first | rfl | exact fv_nz _) ?_
            exact ⟨rfl, pFr.rfl'⟩
          ·
            contradiction
        · skip
          have e22 : M1 22 = M 22 := hF 22 (by decide)
          have hG1 : pGd (M1 22) nb nm := by rw [e22]; exact hG2
          have hE1 : pEq nb nm (M1 22) (M 0) := by rw [e22]; exact hE
          have hB1 := hG1.1
          have hM1 := hG1.2.2.1
          refine fv_P.of (ls := [some (.ref 106), some (.int (nI 3))]) (by decide) (Nat.le_of_ble_eq_true rfl) rfl ?_
          refine x_iload_n (pc := 0) dX7_now_0 rfl rfl ?_
          refine x_tableIn (pc := 1) dX7_now_1 (by decide) (by decide) rfl (tgt := 49) rfl ?_
          refine x_aload_n (pc := 49) dX7_now_49 rfl rfl ?_
          refine x_Vi (pc := 50) ks_X7_149 dX7_now_50 (tb_106) rfl rfl ((hX7_flying hB1 hb).v (pFy_cg hE1)) rfl rfl rfl (Nat.le_of_ble_eq_true rfl) ?_
          refine x_iret (pc := 53) dX7_now_53 rfl (by first | rfl | exact fv_nz _) ?_
          exact ⟨rfl, pFr.rfl', rfl, rfl, fun _ _ _ => pEq.rfl'⟩
    · obtain ⟨c, rfl⟩ : ∃ c, z = 4 + c := ⟨z - 4, by omega⟩
      have hc : c < 4 := by omega
      have e4 : nI (4 + c) - 4 = nI c := by rw [show (4 : Int32) = nI 4 from rfl, pk_sub (by omega)]; congr 1; omega
      have e5 : (4 : Int32) + nI (4 + c) - 4 = nI (4 + c) := by rw [show (4 : Int32) = nI 4 from rfl, nI_add, pk_sub (by omega)]; congr 1; omega
      have hn4 : ∀ z : Nat, z < 4 → ¬ nI (4 + c) = nI z := fun z hz q => absurd ((nI_eq (by omega) (by omega)).mp q) (by omega)
      refine pOp.qry (v := M 0 (4 + c)) I ?_ (fun M1 hF => ?_)
      · skip
        refine fv_P.of (ls := [some (.ref 0), some (.int (nI (4 + c)))]) (by decide) (Nat.le_of_ble_eq_true rfl) rfl ?_
        refine x_iload_n (pc := 0) dX6_now_0 rfl rfl ?_
        refine x_bipush (pc := 1) (v := 7) dX6_now_1 rfl ?_
        refine x_Si (pc := 3) ks_X6_51 dX6_now_3 (hX6_isUpTo) rfl rfl rfl (Nat.le_of_ble_eq_true rfl) ?_
        refine x_ifb_ne (pc := 6) dX6_now_6 (tgt := 16) rfl (fun h6 => ?_) (fun h6 => ?_)
        ·
          refine x_iload_n (pc := 16) dX6_now_16 rfl rfl ?_
          refine x_swc (pc := 17) 0 dX6_now_17 (by decide) (by decide) rfl (tgt := 48) rfl (fun h17_0 => ?_) (fun n17_0 => ?_)
          ·
            exact absurd h17_0 (hn4 0 (by decide))
          refine x_swc (pc := 17) 1 dX6_now_17 (by decide) (by decide) rfl (tgt := 56) rfl (fun h17_1 => ?_) (fun n17_1 => ?_)
          ·
            exact absurd h17_1 (hn4 1 (by decide))
          refine x_swc (pc := 17) 2 dX6_now_17 (by decide) (by decide) rfl (tgt := 64) rfl (fun h17_2 => ?_) (fun n17_2 => ?_)
          ·
            exact absurd h17_2 (hn4 2 (by decide))
          refine x_swc (pc := 17) 3 dX6_now_17 (by decide) (by decide) rfl (tgt := 72) rfl (fun h17_3 => ?_) (fun n17_3 => ?_)
          ·
            exact absurd h17_3 (hn4 3 (by decide))
          refine x_swd (pc := 17) dX6_now_17 (fun c hl hh => by rcases (show c = 0 ∨ c = 1 ∨ c = 2 ∨ c = 3 by omega) with rfl | rfl | rfl | rfl <;> assumption) (tgt := 80) rfl ?_
          refine x_aload_n (pc := 80) dX6_now_80 rfl rfl ?_
          refine x_geta (pc := 81) fl_X6_12 dX6_now_81 (tb_fv) rfl ?_
          refine x_geta (pc := 84) fl_X6_147 dX6_now_84 (tb_st (by assumption)) rfl ?_
          refine x_iload_n (pc := 87) dX6_now_87 rfl rfl ?_
          refine x_iconst (pc := 88) (v := 4) dX6_now_88 rfl ?_
          refine x_isub (pc := 89) dX6_now_89 ?_
          refine x_iald (pc := 90) dX6_now_90 (tb_ft (by assumption)) (e4) (hc) (by first | decide | assumption) ?_
          refine x_iret (pc := 91) dX6_now_91 rfl (by first | rfl | exact fv_nz _) ?_
          exact ⟨rfl, pFr.rfl'⟩
        ·
          contradiction
      · skip
        have e22 : M1 22 = M 22 := hF 22 (by decide)
        have hG1 : pGd (M1 22) nb nm := by rw [e22]; exact hG2
        have hE1 : pEq nb nm (M1 22) (M 0) := by rw [e22]; exact hE
        have hB1 := hG1.1
        have hM1 := hG1.2.2.1
        refine fv_P.of (ls := [some (.ref 106), some (.int (nI (4 + c)))]) (by decide) (Nat.le_of_ble_eq_true rfl) rfl ?_
        refine x_iload_n (pc := 0) dX7_now_0 rfl rfl ?_
        refine x_swc (pc := 1) 0 dX7_now_1 (by decide) (by decide) rfl (tgt := 32) rfl (fun h1_0 => ?_) (fun n1_0 => ?_)
        ·
          exact absurd h1_0 (hn4 0 (by decide))
        refine x_swc (pc := 1) 1 dX7_now_1 (by decide) (by decide) rfl (tgt := 39) rfl (fun h1_1 => ?_) (fun n1_1 => ?_)
        ·
          exact absurd h1_1 (hn4 1 (by decide))
        refine x_swc (pc := 1) 2 dX7_now_1 (by decide) (by decide) rfl (tgt := 44) rfl (fun h1_2 => ?_) (fun n1_2 => ?_)
        ·
          exact absurd h1_2 (hn4 2 (by decide))
        refine x_swc (pc := 1) 3 dX7_now_1 (by decide) (by decide) rfl (tgt := 49) rfl (fun h1_3 => ?_) (fun n1_3 => ?_)
        ·
          exact absurd h1_3 (hn4 3 (by decide))
        refine x_swd (pc := 1) dX7_now_1 (fun c hl hh => by rcases (show c = 0 ∨ c = 1 ∨ c = 2 ∨ c = 3 by omega) with rfl | rfl | rfl | rfl <;> assumption) (tgt := 54) rfl ?_
        refine x_iload_n (pc := 54) dX7_now_54 rfl rfl ?_
        refine x_iconst (pc := 55) (v := 4) dX7_now_55 rfl ?_
        refine x_bipush (pc := 56) (v := 7) dX7_now_56 rfl ?_
        refine x_Si (pc := 58) ks_X7_60 dX7_now_58 (hX7_in1) rfl rfl rfl (Nat.le_of_ble_eq_true rfl) ?_
        refine x_ifb_eq (pc := 61) dX7_now_61 (tgt := 77) rfl (fun h61 => ?_) (fun h61 => ?_)
        ·
          exact absurd ⟨nI_le (a := 4) (by omega) (by omega), hq.2⟩ h61
        ·
          refine x_aload_n (pc := 64) dX7_now_64 rfl rfl ?_
          refine x_geta (pc := 65) fl_X7_9 dX7_now_65 (tb_106) rfl ?_
          refine x_iconst (pc := 68) (v := 4) dX7_now_68 rfl ?_
          refine x_iload_n (pc := 69) dX7_now_69 rfl rfl ?_
          refine x_iadd (pc := 70) dX7_now_70 ?_
          refine x_iconst (pc := 71) (v := 4) dX7_now_71 rfl ?_
          refine x_isub (pc := 72) dX7_now_72 ?_
          refine x_iale (pc := 73) dX7_now_73 (tb_107) (e5) (by omega) (by first | decide | assumption) (show _ = M 0 (4 + c) from by rw [Nat.zero_add]; exact hE1.n (by omega)) ?_
          refine x_goto (pc := 74) dX7_now_74 (tgt := 82) rfl ?_
          refine x_iret (pc := 82) dX7_now_82 rfl (by first | rfl | exact fv_nz _) ?_
          exact ⟨rfl, pFr.rfl', rfl, rfl, fun _ _ _ => pEq.rfl'⟩
  · have hlt : ∀ z : Nat, z < 8 → ¬ q = nI z := fun z hz e => hq (by rw [e]; exact ⟨nI_pos' (by omega), nI_le (b := 7) (by omega) (by omega)⟩)
    refine pOp.bad (v := -1000001) 0 I ?_ (fun M1 hF => ?_)
    · skip
      refine fv_F.of (ls := [some (.ref 0), some (.int q)]) (by decide) (Nat.le_of_ble_eq_true rfl) rfl ?_
      refine x_iload_n (pc := 0) dX6_now_0 rfl rfl ?_
      refine x_bipush (pc := 1) (v := 7) dX6_now_1 rfl ?_
      refine x_Si (pc := 3) ks_X6_51 dX6_now_3 (hX6_isUpTo) rfl rfl rfl (Nat.le_of_ble_eq_true rfl) ?_
      refine x_ifb_ne (pc := 6) dX6_now_6 (tgt := 16) rfl (fun h6 => ?_) (fun h6 => ?_)
      ·
        contradiction
      ·
        refine x_aload_n (pc := 9) dX6_now_9 rfl rfl ?_
        refine x_ldc (pc := 10) kc_X6_55 dX6_now_10 ?_
        refine x_Vi (pc := 12) ks_X6_56 dX6_now_12 (tb_fv) rfl rfl (hX6_fin 0 (-1000001) (by decide +kernel) (by decide)) rfl rfl rfl (Nat.le_of_ble_eq_true rfl) ?_
        refine x_iret (pc := 15) dX6_now_15 rfl (by first | rfl | exact fv_nz _) ?_
        exact ⟨rfl, rfl⟩
    · skip
      have e22 : M1 22 = M 22 := hF 22 (by decide)
      have hG1 : pGd (M1 22) nb nm := by rw [e22]; exact hG2
      have hE1 : pEq nb nm (M1 22) (M 0) := by rw [e22]; exact hE
      have hB1 := hG1.1
      have hM1 := hG1.2.2.1
      refine fv_F.of (ls := [some (.ref 106), some (.int q)]) (by decide) (Nat.le_of_ble_eq_true rfl) rfl ?_
      refine x_iload_n (pc := 0) dX7_now_0 rfl rfl ?_
      refine x_swc (pc := 1) 0 dX7_now_1 (by decide) (by decide) rfl (tgt := 32) rfl (fun h1_0 => ?_) (fun n1_0 => ?_)
      ·
        exact absurd h1_0 (hlt 0 (by decide))
      refine x_swc (pc := 1) 1 dX7_now_1 (by decide) (by decide) rfl (tgt := 39) rfl (fun h1_1 => ?_) (fun n1_1 => ?_)
      ·
        exact absurd h1_1 (hlt 1 (by decide))
      refine x_swc (pc := 1) 2 dX7_now_1 (by decide) (by decide) rfl (tgt := 44) rfl (fun h1_2 => ?_) (fun n1_2 => ?_)
      ·
        exact absurd h1_2 (hlt 2 (by decide))
      refine x_swc (pc := 1) 3 dX7_now_1 (by decide) (by decide) rfl (tgt := 49) rfl (fun h1_3 => ?_) (fun n1_3 => ?_)
      ·
        exact absurd h1_3 (hlt 3 (by decide))
      refine x_swd (pc := 1) dX7_now_1 (fun c hl hh => by rcases (show c = 0 ∨ c = 1 ∨ c = 2 ∨ c = 3 by omega) with rfl | rfl | rfl | rfl <;> assumption) (tgt := 54) rfl ?_
      refine x_iload_n (pc := 54) dX7_now_54 rfl rfl ?_
      refine x_iconst (pc := 55) (v := 4) dX7_now_55 rfl ?_
      refine x_bipush (pc := 56) (v := 7) dX7_now_56 rfl ?_
      refine x_Si (pc := 58) ks_X7_60 dX7_now_58 (hX7_in1) rfl rfl rfl (Nat.le_of_ble_eq_true rfl) ?_
      refine x_ifb_eq (pc := 61) dX7_now_61 (tgt := 77) rfl (fun h61 => ?_) (fun h61 => ?_)
      ·
        refine x_aload_n (pc := 77) dX7_now_77 rfl rfl ?_
        refine x_iconst (pc := 78) (v := 0) dX7_now_78 rfl ?_
        refine x_Vi (pc := 79) ks_X7_114 dX7_now_79 (tb_106) rfl rfl (hX7_noL 0 (-1000001) (by decide) (by decide +kernel)) rfl rfl rfl (Nat.le_of_ble_eq_true rfl) ?_
        refine x_iret (pc := 82) dX7_now_82 rfl (by first | rfl | exact fv_nz _) ?_
        exact ⟨rfl, rfl⟩
      ·
        exact absurd ⟨Int32.le_trans (by decide) h61.1, h61.2⟩ hq
theorem op_clears {E : fv_E} {M : fv_M} (I : pInv M) : pOp E mX6_clears mX7_clears [] M := by
  obtain ⟨nb, nm, hG, hE, t, ht, eT⟩ := I.1
  have hs0 : 0 < 3 := by decide
  have hs1 : 1 < 3 := by decide
  have hB := hG.1
  have hb := hG.2.1
  have hM := hG.2.2.1
  have hn := hG.2.2.2.1
  have hK := hG.K
  have hC := hG.C
  have hG2 : pGd (M 22) nb nm := hG.cg hE
  have hG3 : pGd (pFill (M 0) 4 4 0) nb nm := by
    have key : ∀ j, ¬ (4 ≤ j ∧ j < 4 + 4) → pFill (M 0) 4 4 0 j = M 0 j := fun j h => if_neg h
    refine ⟨(key 1 (by decide)).trans hG.1, hb, (key 2 (by decide)).trans hG.2.2.1, hn, fun b hb' => pG1_of (fun j j1 j2 => by unfold fB at j1; exact key j (by omega)) (hG.2.2.2.2.1 b hb'), fun m hm => pG2_of (fun j j1 j2 => by unfold fM at j1; exact key j (by omega)) (hG.2.2.2.2.2.1 m hm), fun c hc => ⟨0, by decide, if_pos (by omega)⟩, fun i hi => by rw [key _ (by omega)]; exact hG.2.2.2.2.2.2.2.1 i hi, by rw [key _ (by decide)]; exact hG.2.2.2.2.2.2.2.2⟩
  have hcgf : ∀ τ, pEq nb nm τ (M 0) → pEq nb nm (pFill τ 4 4 0) (pFill (M 0) 4 4 0) := fun τ h j hj => by
    unfold pFill
    by_cases e : 4 ≤ j ∧ j < 4 + 4
    · rw [if_pos e, if_pos e]
    · rw [if_neg e, if_neg e]; exact h j hj
  have hfx : ∀ (τ : Nat → Int32) c, pFill τ 4 c 0 (4 + c) = τ (4 + c) := fun τ c => if_neg (by omega)
  refine pOp.mut (v := sN (fun z => M 0 (4 + z)) 4) (pFill (M 0) 4 4 0) I ?_ (fun M1 hF h0 => ?_)
  · skip
    refine fv_P.of (ls := [some (.ref 0), none, none]) (by decide) (Nat.le_of_ble_eq_true rfl) rfl ?_
    refine x_iconst (pc := 0) (v := 0) dX6_clears_0 rfl ?_
    refine x_istore_n1 (pc := 1) dX6_clears_1 rfl ?_
    refine x_iconst (pc := 2) (v := 0) dX6_clears_2 rfl ?_
    refine x_istore_n2 (pc := 3) dX6_clears_3 rfl ?_
    refine x_loop (fun c => [some (.ref 0), some (.int (sN (fun z => M 0 (4 + z)) c)), some (.int (nI c))]) (fun c => fv_s M 0 (pFill (M 0) 4 c 0)) 4 rfl (by show fv_s M 0 (pFill (M 0) 4 0 0) = M; rw [pFill_0, fv_s_id]) (fun c hc hL => ?_) ?_
    · show fv_X E mX6_clears _ _ 4 [some (.ref 0), some (.int (sN (fun z => M 0 (4 + z)) c)), some (.int (nI c))] [] (fv_s M 0 (pFill (M 0) 4 c 0))
      replace hL : fv_X E mX6_clears _ _ 4 [some (.ref 0), some (.int (sN (fun z => M 0 (4 + z)) c + M 0 (4 + c))), some (.int (nI (c + 1)))] [] (fv_s M 0 (pFill (M 0) 4 (c + 1) 0)) := hL
      refine x_iload_n (pc := 4) dX6_clears_4 rfl rfl ?_
      refine x_iconst (pc := 5) (v := 4) dX6_clears_5 rfl ?_
      refine x_icmp_ge (pc := 6) dX6_clears_6 (tgt := 37) rfl (fun h6 => ?_) (fun h6 => ?_)
      ·
        exact absurd h6 (nI_ge (b := 4) hc (by omega))
      ·
        refine x_iload_n (pc := 9) dX6_clears_9 rfl rfl ?_
        refine x_aload_n (pc := 10) dX6_clears_10 rfl rfl ?_
        refine x_geta (pc := 11) fl_X6_12 dX6_clears_11 (tb_fv) rfl ?_
        refine x_geta (pc := 14) fl_X6_147 dX6_clears_14 (tb_st (by assumption)) rfl ?_
        refine x_iload_n (pc := 17) dX6_clears_17 rfl rfl ?_
        refine x_iale (pc := 18) dX6_clears_18 (tb_ft (by assumption)) (rfl) (by first | assumption | decide | omega) (by first | decide | assumption) (show _ = M 0 (4 + c) from by rw [fv_s_same]; exact hfx _ c) ?_
        refine x_iadd (pc := 19) dX6_clears_19 ?_
        refine x_istore_n1 (pc := 20) dX6_clears_20 rfl ?_
        refine x_aload_n (pc := 21) dX6_clears_21 rfl rfl ?_
        refine x_geta (pc := 22) fl_X6_12 dX6_clears_22 (tb_fv) rfl ?_
        refine x_geta (pc := 25) fl_X6_147 dX6_clears_25 (tb_st (by assumption)) rfl ?_
        refine x_iload_n (pc := 28) dX6_clears_28 rfl rfl ?_
        refine x_iconst (pc := 29) (v := 0) dX6_clears_29 rfl ?_
        refine x_iast (pc := 30) dX6_clears_30 (tb_ft (by assumption)) (rfl) (by first | assumption | decide | omega) (by first | decide | assumption) ?_
        rw [fv_s_same, fv_s_s, pFill_s]
        refine x_iinc2 (pc := 31) dX6_clears_31 (by first | exact fv_inc _ | exact fv_dec _ | rfl) rfl ?_
        refine x_goto (pc := 34) dX6_clears_34 (tgt := 4) rfl ?_
        exact hL
    · show fv_X E mX6_clears _ _ 4 [some (.ref 0), some (.int (sN (fun z => M 0 (4 + z)) 4)), some (.int (nI 4))] [] (fv_s M 0 (pFill (M 0) 4 4 0))
      refine x_iload_n (pc := 4) dX6_clears_4 rfl rfl ?_
      refine x_iconst (pc := 5) (v := 4) dX6_clears_5 rfl ?_
      refine x_icmp_ge (pc := 6) dX6_clears_6 (tgt := 37) rfl (fun h6 => ?_) (fun h6 => ?_)
      ·
        refine x_iload_n (pc := 37) dX6_clears_37 rfl rfl ?_
        refine x_iret (pc := 38) dX6_clears_38 rfl (by first | rfl | exact fv_nz _) ?_
        exact ⟨rfl, pFr.rfl'.s (by decide), fv_s_same _ _ _⟩
      ·
        exact absurd (Int32.le_refl _) h6
  · skip
    have e22 : M1 22 = M 22 := hF 22 (by decide)
    have hG1 : pGd (M1 22) nb nm := by rw [e22]; exact hG2
    have hE1 : pEq nb nm (M1 22) (M 0) := by rw [e22]; exact hE
    have hB1 := hG1.1
    have hM1 := hG1.2.2.1
    skip
    refine fv_P.of (ls := [some (.ref 106), none, none]) (by decide) (Nat.le_of_ble_eq_true rfl) rfl ?_
    refine x_iconst (pc := 0) (v := 0) dX7_clears_0 rfl ?_
    refine x_istore_n1 (pc := 1) dX7_clears_1 rfl ?_
    refine x_iconst (pc := 2) (v := 0) dX7_clears_2 rfl ?_
    refine x_istore_n2 (pc := 3) dX7_clears_3 rfl ?_
    refine x_loop (fun c => [some (.ref 106), some (.int (sN (fun z => M1 22 (4 + z)) c)), some (.int (nI c))]) (fun c => fv_s M1 22 (pFill (M1 22) 4 c 0)) 4 rfl (by show fv_s M1 22 (pFill (M1 22) 4 0 0) = M1; rw [pFill_0, fv_s_id]) (fun c hc hL => ?_) ?_
    · show fv_X E mX7_clears _ _ 4 [some (.ref 106), some (.int (sN (fun z => M1 22 (4 + z)) c)), some (.int (nI c))] [] (fv_s M1 22 (pFill (M1 22) 4 c 0))
      replace hL : fv_X E mX7_clears _ _ 4 [some (.ref 106), some (.int (sN (fun z => M1 22 (4 + z)) c + M1 22 (4 + c))), some (.int (nI (c + 1)))] [] (fv_s M1 22 (pFill (M1 22) 4 (c + 1) 0)) := hL
      refine x_iload_n (pc := 4) dX7_clears_4 rfl rfl ?_
      refine x_iconst (pc := 5) (v := 4) dX7_clears_5 rfl ?_
      refine x_icmp_ge (pc := 6) dX7_clears_6 (tgt := 35) rfl (fun h6 => ?_) (fun h6 => ?_)
      ·
        exact absurd h6 (nI_ge (b := 4) hc (by omega))
      ·
        refine x_iload_n (pc := 9) dX7_clears_9 rfl rfl ?_
        refine x_aload_n (pc := 10) dX7_clears_10 rfl rfl ?_
        refine x_geta (pc := 11) fl_X7_9 dX7_clears_11 (tb_106) rfl ?_
        refine x_iconst (pc := 14) (v := 4) dX7_clears_14 rfl ?_
        refine x_iload_n (pc := 15) dX7_clears_15 rfl rfl ?_
        refine x_iadd (pc := 16) dX7_clears_16 ?_
        refine x_iale (pc := 17) dX7_clears_17 (tb_107) (nI_add 4 c) (by omega) (by first | decide | assumption) (show _ = M1 22 (4 + c) from by rw [fv_s_same, Nat.zero_add]; exact hfx _ c) ?_
        refine x_iadd (pc := 18) dX7_clears_18 ?_
        refine x_istore_n1 (pc := 19) dX7_clears_19 rfl ?_
        refine x_aload_n (pc := 20) dX7_clears_20 rfl rfl ?_
        refine x_geta (pc := 21) fl_X7_9 dX7_clears_21 (tb_106) rfl ?_
        refine x_iconst (pc := 24) (v := 4) dX7_clears_24 rfl ?_
        refine x_iload_n (pc := 25) dX7_clears_25 rfl rfl ?_
        refine x_iadd (pc := 26) dX7_clears_26 ?_
        refine x_iconst (pc := 27) (v := 0) dX7_clears_27 rfl ?_
        refine x_iast (pc := 28) dX7_clears_28 (tb_107) (nI_add 4 c) (by omega) (by first | decide | assumption) ?_
        rw [fv_s_same, fv_s_s, Nat.zero_add, pFill_s]
        refine x_iinc2 (pc := 29) dX7_clears_29 (by first | exact fv_inc _ | exact fv_dec _ | rfl) rfl ?_
        refine x_goto (pc := 32) dX7_clears_32 (tgt := 4) rfl ?_
        exact hL
    · show fv_X E mX7_clears _ _ 4 [some (.ref 106), some (.int (sN (fun z => M1 22 (4 + z)) 4)), some (.int (nI 4))] [] (fv_s M1 22 (pFill (M1 22) 4 4 0))
      refine x_iload_n (pc := 4) dX7_clears_4 rfl rfl ?_
      refine x_iconst (pc := 5) (v := 4) dX7_clears_5 rfl ?_
      refine x_icmp_ge (pc := 6) dX7_clears_6 (tgt := 35) rfl (fun h6 => ?_) (fun h6 => ?_)
      ·
        refine x_iload_n (pc := 35) dX7_clears_35 rfl rfl ?_
        refine x_iret (pc := 36) dX7_clears_36 rfl (by first | rfl | exact fv_nz _) ?_
        exact ⟨congrArg (fun z => some (Value.int z)) (sN_congr (fun z hz => hE1.n (by omega))), pFr.rfl'.s (by decide), nb, nm, by rw [fv_s_same]; exact ⟨hG3, hcgf _ hE1, t, ht, by rw [show pFill (M 0) 4 4 0 0 = M 0 0 from if_neg (by decide)]; exact eT⟩⟩
      ·
        exact absurd (Int32.le_refl _) h6
theorem op_quorum {E : fv_E} {m : Int32} {M : fv_M} (I : pInv M) : pOp E mX6_quorum mX7_quorum [.int m] M := by
  obtain ⟨nb, nm, hG, hE, t, ht, eT⟩ := I.1
  have hs0 : 0 < 3 := by decide
  have hs1 : 1 < 3 := by decide
  have hB := hG.1
  have hb := hG.2.1
  have hM := hG.2.2.1
  have hn := hG.2.2.2.1
  have hK := hG.K
  have hC := hG.C
  have hG2 : pGd (M 22) nb nm := hG.cg hE
  by_cases hm : 0 ≤ m ∧ m ≤ nI nm - 1
  · obtain ⟨k, hk, rfl⟩ := pUx (by omega) hm
    have hc := pCo_of hC hk
    have hm8 : k < 8 := by omega
    obtain ⟨u, hu, eu⟩ := (pG2.at hG hk).2.2.2
    by_cases hp : pSd (M 0) nb k (pCo (M 0) k) (pWa (M 0) nb k) < pSd (M 0) nb k (pCo (M 0) k) (M 0 (fM k 2))
    · skip
      refine pOp.qry (v := pMin 99 (pSd (M 0) nb k (pCo (M 0) k) (M 0 (fM k 2)) + pSd (M 0) nb k (pCo (M 0) k) (pWa (M 0) nb k))) I ?_ (fun M1 hF => ?_)
      · skip
        refine fv_P.of (ls := [some (.ref 0), some (.int (nI k)), none]) (by decide) (Nat.le_of_ble_eq_true rfl) rfl ?_
        refine x_aload_n (pc := 0) dX6_quorum_0 rfl rfl ?_
        refine x_geta (pc := 1) fl_X6_12 dX6_quorum_1 (tb_fv) rfl ?_
        refine x_iload_n (pc := 4) dX6_quorum_4 rfl rfl ?_
        refine x_Vi (pc := 5) ks_X6_94 dX6_quorum_5 (tb_st (by assumption)) rfl rfl (hHm hM) rfl rfl rfl (Nat.le_of_ble_eq_true rfl) ?_
        refine x_ifb_ne (pc := 8) dX6_quorum_8 (tgt := 18) rfl (fun h8 => ?_) (fun h8 => ?_)
        ·
          refine x_aload_n (pc := 18) dX6_quorum_18 rfl rfl ?_
          refine x_geta (pc := 19) fl_X6_12 dX6_quorum_19 (tb_fv) rfl ?_
          refine x_geta (pc := 22) fl_X6_97 dX6_quorum_22 (tb_st (by assumption)) rfl ?_
          refine x_iload_n (pc := 25) dX6_quorum_25 rfl rfl ?_
          refine x_motion (pc := 26) dX6_quorum_26 (by assumption) (rfl) (hm8) ?_
          refine x_astore_n2 (pc := 27) dX6_quorum_27 rfl ?_
          refine x_aload_n (pc := 28) dX6_quorum_28 rfl rfl ?_
          refine x_geta (pc := 29) fl_X6_12 dX6_quorum_29 (tb_fv) rfl ?_
          refine x_aload_n (pc := 32) dX6_quorum_32 rfl rfl ?_
          refine x_Vi (pc := 33) ks_X6_116 dX6_quorum_33 (tb_st (by assumption)) rfl rfl (hX4_droppedFor hs0 hB hb hK hm8 hc.1 hc.2) rfl rfl rfl (Nat.le_of_ble_eq_true rfl) ?_
          refine x_aload_n (pc := 36) dX6_quorum_36 rfl rfl ?_
          refine x_geta (pc := 37) fl_X6_12 dX6_quorum_37 (tb_fv) rfl ?_
          refine x_aload_n (pc := 40) dX6_quorum_40 rfl rfl ?_
          refine x_Vi (pc := 41) ks_X6_120 dX6_quorum_41 (tb_st (by assumption)) rfl rfl (hX4_droppedAgainst hs0 hB hb hK hm8 hc.1 hc.2) rfl rfl rfl (Nat.le_of_ble_eq_true rfl) ?_
          refine x_icmp_gt (pc := 44) dX6_quorum_44 (tgt := 54) rfl (fun h44 => ?_) (fun h44 => ?_)
          ·
            refine x_bipush (pc := 54) (v := 99) dX6_quorum_54 rfl ?_
            refine x_aload_n (pc := 56) dX6_quorum_56 rfl rfl ?_
            refine x_geta (pc := 57) fl_X6_12 dX6_quorum_57 (tb_fv) rfl ?_
            refine x_aload_n (pc := 60) dX6_quorum_60 rfl rfl ?_
            refine x_Vi (pc := 61) ks_X6_173 dX6_quorum_61 (tb_st (by assumption)) rfl rfl (hX4_droppedInAll hs0 hB hb hK hm8 hc.1 hc.2) rfl rfl rfl (Nat.le_of_ble_eq_true rfl) ?_
            refine x_min (pc := 64) ks_X6_182 dX6_quorum_64 rfl (Nat.le_of_ble_eq_true rfl) ?_
            refine x_iret (pc := 67) dX6_quorum_67 rfl (by first | rfl | exact fv_nz _) ?_
            exact ⟨rfl, pFr.rfl'⟩
          ·
            exact absurd hp h44
        ·
          contradiction
      · skip
        have e22 : M1 22 = M 22 := hF 22 (by decide)
        have hG1 : pGd (M1 22) nb nm := by rw [e22]; exact hG2
        have hE1 : pEq nb nm (M1 22) (M 0) := by rw [e22]; exact hE
        have hB1 := hG1.1
        have hM1 := hG1.2.2.1
        refine fv_P.of (ls := [some (.ref 106), some (.int (nI k)), none, none]) (by decide) (Nat.le_of_ble_eq_true rfl) rfl ?_
        refine x_aload_n (pc := 0) dX7_quorum_0 rfl rfl ?_
        refine x_iload_n (pc := 1) dX7_quorum_1 rfl rfl ?_
        refine x_Vi (pc := 2) ks_X7_126 dX7_quorum_2 (tb_106) rfl rfl (hX7_isMotion (x := nI nm) hM1) rfl rfl rfl (Nat.le_of_ble_eq_true rfl) ?_
        refine x_ifb_ne (pc := 5) dX7_quorum_5 (tgt := 14) rfl (fun h5 => ?_) (fun h5 => ?_)
        ·
          refine x_aload_n (pc := 14) dX7_quorum_14 rfl rfl ?_
          refine x_iload_n (pc := 15) dX7_quorum_15 rfl rfl ?_
          refine x_iconst (pc := 16) (v := 2) dX7_quorum_16 rfl ?_
          refine x_Vi (pc := 17) ks_X7_80 dX7_quorum_17 (tb_106) rfl rfl (((hX7_of1 (f := 2) hm8 (by decide)).v (hE1.m hk (by decide))).v eu) rfl rfl rfl (Nat.le_of_ble_eq_true rfl) ?_
          refine x_istore_n2 (pc := 20) dX7_quorum_20 rfl ?_
          refine x_aload_n (pc := 21) dX7_quorum_21 rfl rfl ?_
          refine x_iload_n (pc := 22) dX7_quorum_22 rfl rfl ?_
          refine x_iload_n (pc := 23) dX7_quorum_23 rfl rfl ?_
          refine x_iconst (pc := 24) (v := 1) dX7_quorum_24 rfl ?_
          refine x_Vi (pc := 25) ks_X7_93 dX7_quorum_25 (tb_106) rfl rfl ((hX7_sideT hG1.gb hm8 ((hE1.m hk (by decide)).trans hc.1) hc.2).v (sT_eq hE1 hk hc.2 eu)) rfl rfl rfl (Nat.le_of_ble_eq_true rfl) ?_
          refine x_aload_n (pc := 28) dX7_quorum_28 rfl rfl ?_
          refine x_iload_n (pc := 29) dX7_quorum_29 rfl rfl ?_
          refine x_iload_n (pc := 30) dX7_quorum_30 rfl rfl ?_
          refine x_iconst (pc := 31) (v := 0) dX7_quorum_31 rfl ?_
          refine x_Vi (pc := 32) ks_X7_93 dX7_quorum_32 (tb_106) rfl rfl ((hX7_sideF hG1.gb hm8 ((hE1.m hk (by decide)).trans hc.1) hc.2 hu).v (sF_eq hE1 hk hc.2 eu)) rfl rfl rfl (Nat.le_of_ble_eq_true rfl) ?_
          refine x_icmp_le (pc := 35) dX7_quorum_35 (tgt := 42) rfl (fun h35 => ?_) (fun h35 => ?_)
          ·
            exact absurd hp (Int32.not_lt.mpr h35)
          ·
            refine x_iconst (pc := 38) (v := 1) dX7_quorum_38 rfl ?_
            refine x_goto (pc := 39) dX7_quorum_39 (tgt := 43) rfl ?_
            refine x_istore_n3 (pc := 43) dX7_quorum_43 rfl ?_
            refine x_iload_n (pc := 44) dX7_quorum_44 rfl rfl ?_
            refine x_if_eq (pc := 45) dX7_quorum_45 (tgt := 61) rfl (fun h45 => ?_) (fun h45 => ?_)
            ·
              exact absurd h45 (by decide)
            ·
              refine x_bipush (pc := 48) (v := 99) dX7_quorum_48 rfl ?_
              refine x_aload_n (pc := 50) dX7_quorum_50 rfl rfl ?_
              refine x_iload_n (pc := 51) dX7_quorum_51 rfl rfl ?_
              refine x_Vi (pc := 52) ks_X7_161 dX7_quorum_52 (tb_106) rfl rfl ((hX7_droppedAll hG1.gb hm8 ((hE1.m hk (by decide)).trans hc.1) hc.2 (pG2.at hG1 hk).2.2.2).v (dA_eq hE1 hk hc.2)) rfl rfl rfl (Nat.le_of_ble_eq_true rfl) ?_
              refine x_Si (pc := 55) ks_X7_86 dX7_quorum_55 (hX7_less) rfl rfl rfl (Nat.le_of_ble_eq_true rfl) ?_
              refine x_goto (pc := 58) dX7_quorum_58 (tgt := 66) rfl ?_
              refine x_iret (pc := 66) dX7_quorum_66 rfl (by first | rfl | exact fv_nz _) ?_
              exact ⟨congrArg (fun z => some (Value.int z)) (pMin_comm _ _), pFr.rfl', rfl, rfl, fun _ _ _ => pEq.rfl'⟩
        ·
          contradiction
    · skip
      refine pOp.bad (v := -1000004) 3 I ?_ (fun M1 hF => ?_)
      · skip
        refine fv_F.of (ls := [some (.ref 0), some (.int (nI k)), none]) (by decide) (Nat.le_of_ble_eq_true rfl) rfl ?_
        refine x_aload_n (pc := 0) dX6_quorum_0 rfl rfl ?_
        refine x_geta (pc := 1) fl_X6_12 dX6_quorum_1 (tb_fv) rfl ?_
        refine x_iload_n (pc := 4) dX6_quorum_4 rfl rfl ?_
        refine x_Vi (pc := 5) ks_X6_94 dX6_quorum_5 (tb_st (by assumption)) rfl rfl (hHm hM) rfl rfl rfl (Nat.le_of_ble_eq_true rfl) ?_
        refine x_ifb_ne (pc := 8) dX6_quorum_8 (tgt := 18) rfl (fun h8 => ?_) (fun h8 => ?_)
        ·
          refine x_aload_n (pc := 18) dX6_quorum_18 rfl rfl ?_
          refine x_geta (pc := 19) fl_X6_12 dX6_quorum_19 (tb_fv) rfl ?_
          refine x_geta (pc := 22) fl_X6_97 dX6_quorum_22 (tb_st (by assumption)) rfl ?_
          refine x_iload_n (pc := 25) dX6_quorum_25 rfl rfl ?_
          refine x_motion (pc := 26) dX6_quorum_26 (by assumption) (rfl) (hm8) ?_
          refine x_astore_n2 (pc := 27) dX6_quorum_27 rfl ?_
          refine x_aload_n (pc := 28) dX6_quorum_28 rfl rfl ?_
          refine x_geta (pc := 29) fl_X6_12 dX6_quorum_29 (tb_fv) rfl ?_
          refine x_aload_n (pc := 32) dX6_quorum_32 rfl rfl ?_
          refine x_Vi (pc := 33) ks_X6_116 dX6_quorum_33 (tb_st (by assumption)) rfl rfl (hX4_droppedFor hs0 hB hb hK hm8 hc.1 hc.2) rfl rfl rfl (Nat.le_of_ble_eq_true rfl) ?_
          refine x_aload_n (pc := 36) dX6_quorum_36 rfl rfl ?_
          refine x_geta (pc := 37) fl_X6_12 dX6_quorum_37 (tb_fv) rfl ?_
          refine x_aload_n (pc := 40) dX6_quorum_40 rfl rfl ?_
          refine x_Vi (pc := 41) ks_X6_120 dX6_quorum_41 (tb_st (by assumption)) rfl rfl (hX4_droppedAgainst hs0 hB hb hK hm8 hc.1 hc.2) rfl rfl rfl (Nat.le_of_ble_eq_true rfl) ?_
          refine x_icmp_gt (pc := 44) dX6_quorum_44 (tgt := 54) rfl (fun h44 => ?_) (fun h44 => ?_)
          ·
            exact absurd h44 hp
          ·
            refine x_aload_n (pc := 47) dX6_quorum_47 rfl rfl ?_
            refine x_ldc (pc := 48) kc_X6_154 dX6_quorum_48 ?_
            refine x_Vi (pc := 50) ks_X6_56 dX6_quorum_50 (tb_fv) rfl rfl (hX6_fin 3 (-1000004) (by decide +kernel) (by decide)) rfl rfl rfl (Nat.le_of_ble_eq_true rfl) ?_
            refine x_iret (pc := 53) dX6_quorum_53 rfl (by first | rfl | exact fv_nz _) ?_
            exact ⟨rfl, rfl⟩
        ·
          contradiction
      · skip
        have e22 : M1 22 = M 22 := hF 22 (by decide)
        have hG1 : pGd (M1 22) nb nm := by rw [e22]; exact hG2
        have hE1 : pEq nb nm (M1 22) (M 0) := by rw [e22]; exact hE
        have hB1 := hG1.1
        have hM1 := hG1.2.2.1
        refine fv_F.of (ls := [some (.ref 106), some (.int (nI k)), none, none]) (by decide) (Nat.le_of_ble_eq_true rfl) rfl ?_
        refine x_aload_n (pc := 0) dX7_quorum_0 rfl rfl ?_
        refine x_iload_n (pc := 1) dX7_quorum_1 rfl rfl ?_
        refine x_Vi (pc := 2) ks_X7_126 dX7_quorum_2 (tb_106) rfl rfl (hX7_isMotion (x := nI nm) hM1) rfl rfl rfl (Nat.le_of_ble_eq_true rfl) ?_
        refine x_ifb_ne (pc := 5) dX7_quorum_5 (tgt := 14) rfl (fun h5 => ?_) (fun h5 => ?_)
        ·
          refine x_aload_n (pc := 14) dX7_quorum_14 rfl rfl ?_
          refine x_iload_n (pc := 15) dX7_quorum_15 rfl rfl ?_
          refine x_iconst (pc := 16) (v := 2) dX7_quorum_16 rfl ?_
          refine x_Vi (pc := 17) ks_X7_80 dX7_quorum_17 (tb_106) rfl rfl (((hX7_of1 (f := 2) hm8 (by decide)).v (hE1.m hk (by decide))).v eu) rfl rfl rfl (Nat.le_of_ble_eq_true rfl) ?_
          refine x_istore_n2 (pc := 20) dX7_quorum_20 rfl ?_
          refine x_aload_n (pc := 21) dX7_quorum_21 rfl rfl ?_
          refine x_iload_n (pc := 22) dX7_quorum_22 rfl rfl ?_
          refine x_iload_n (pc := 23) dX7_quorum_23 rfl rfl ?_
          refine x_iconst (pc := 24) (v := 1) dX7_quorum_24 rfl ?_
          refine x_Vi (pc := 25) ks_X7_93 dX7_quorum_25 (tb_106) rfl rfl ((hX7_sideT hG1.gb hm8 ((hE1.m hk (by decide)).trans hc.1) hc.2).v (sT_eq hE1 hk hc.2 eu)) rfl rfl rfl (Nat.le_of_ble_eq_true rfl) ?_
          refine x_aload_n (pc := 28) dX7_quorum_28 rfl rfl ?_
          refine x_iload_n (pc := 29) dX7_quorum_29 rfl rfl ?_
          refine x_iload_n (pc := 30) dX7_quorum_30 rfl rfl ?_
          refine x_iconst (pc := 31) (v := 0) dX7_quorum_31 rfl ?_
          refine x_Vi (pc := 32) ks_X7_93 dX7_quorum_32 (tb_106) rfl rfl ((hX7_sideF hG1.gb hm8 ((hE1.m hk (by decide)).trans hc.1) hc.2 hu).v (sF_eq hE1 hk hc.2 eu)) rfl rfl rfl (Nat.le_of_ble_eq_true rfl) ?_
          refine x_icmp_le (pc := 35) dX7_quorum_35 (tgt := 42) rfl (fun h35 => ?_) (fun h35 => ?_)
          ·
            refine x_iconst (pc := 42) (v := 0) dX7_quorum_42 rfl ?_
            refine x_istore_n3 (pc := 43) dX7_quorum_43 rfl ?_
            refine x_iload_n (pc := 44) dX7_quorum_44 rfl rfl ?_
            refine x_if_eq (pc := 45) dX7_quorum_45 (tgt := 61) rfl (fun h45 => ?_) (fun h45 => ?_)
            ·
              refine x_aload_n (pc := 61) dX7_quorum_61 rfl rfl ?_
              refine x_iconst (pc := 62) (v := 3) dX7_quorum_62 rfl ?_
              refine x_Vi (pc := 63) ks_X7_114 dX7_quorum_63 (tb_106) rfl rfl (hX7_noL 3 (-1000004) (by decide) (by decide +kernel)) rfl rfl rfl (Nat.le_of_ble_eq_true rfl) ?_
              refine x_iret (pc := 66) dX7_quorum_66 rfl (by first | rfl | exact fv_nz _) ?_
              exact ⟨rfl, rfl⟩
            ·
              exact absurd rfl h45
          ·
            exact absurd (Int32.not_le.mp h35) hp
        ·
          contradiction
  · skip
    refine pOp.bad (v := -1000001) 0 I ?_ (fun M1 hF => ?_)
    · skip
      refine fv_F.of (ls := [some (.ref 0), some (.int m), none]) (by decide) (Nat.le_of_ble_eq_true rfl) rfl ?_
      refine x_aload_n (pc := 0) dX6_quorum_0 rfl rfl ?_
      refine x_geta (pc := 1) fl_X6_12 dX6_quorum_1 (tb_fv) rfl ?_
      refine x_iload_n (pc := 4) dX6_quorum_4 rfl rfl ?_
      refine x_Vi (pc := 5) ks_X6_94 dX6_quorum_5 (tb_st (by assumption)) rfl rfl (hHm hM) rfl rfl rfl (Nat.le_of_ble_eq_true rfl) ?_
      refine x_ifb_ne (pc := 8) dX6_quorum_8 (tgt := 18) rfl (fun h8 => ?_) (fun h8 => ?_)
      ·
        contradiction
      ·
        refine x_aload_n (pc := 11) dX6_quorum_11 rfl rfl ?_
        refine x_ldc (pc := 12) kc_X6_55 dX6_quorum_12 ?_
        refine x_Vi (pc := 14) ks_X6_56 dX6_quorum_14 (tb_fv) rfl rfl (hX6_fin 0 (-1000001) (by decide +kernel) (by decide)) rfl rfl rfl (Nat.le_of_ble_eq_true rfl) ?_
        refine x_iret (pc := 17) dX6_quorum_17 rfl (by first | rfl | exact fv_nz _) ?_
        exact ⟨rfl, rfl⟩
    · skip
      have e22 : M1 22 = M 22 := hF 22 (by decide)
      have hG1 : pGd (M1 22) nb nm := by rw [e22]; exact hG2
      have hE1 : pEq nb nm (M1 22) (M 0) := by rw [e22]; exact hE
      have hB1 := hG1.1
      have hM1 := hG1.2.2.1
      refine fv_F.of (ls := [some (.ref 106), some (.int m), none, none]) (by decide) (Nat.le_of_ble_eq_true rfl) rfl ?_
      refine x_aload_n (pc := 0) dX7_quorum_0 rfl rfl ?_
      refine x_iload_n (pc := 1) dX7_quorum_1 rfl rfl ?_
      refine x_Vi (pc := 2) ks_X7_126 dX7_quorum_2 (tb_106) rfl rfl (hX7_isMotion (x := nI nm) hM1) rfl rfl rfl (Nat.le_of_ble_eq_true rfl) ?_
      refine x_ifb_ne (pc := 5) dX7_quorum_5 (tgt := 14) rfl (fun h5 => ?_) (fun h5 => ?_)
      ·
        contradiction
      ·
        refine x_aload_n (pc := 8) dX7_quorum_8 rfl rfl ?_
        refine x_iconst (pc := 9) (v := 0) dX7_quorum_9 rfl ?_
        refine x_Vi (pc := 10) ks_X7_114 dX7_quorum_10 (tb_106) rfl rfl (hX7_noL 0 (-1000001) (by decide) (by decide +kernel)) rfl rfl rfl (Nat.le_of_ble_eq_true rfl) ?_
        refine x_iret (pc := 13) dX7_quorum_13 rfl (by first | rfl | exact fv_nz _) ?_
        exact ⟨rfl, rfl⟩
theorem op_plucked {E : fv_E} {m : Int32} {M : fv_M} (I : pInv M) : pOp E mX6_plucked mX7_plucked [.int m] M := by
  obtain ⟨nb, nm, hG, hE, t, ht, eT⟩ := I.1
  have hs0 : 0 < 3 := by decide
  have hs1 : 1 < 3 := by decide
  have hB := hG.1
  have hb := hG.2.1
  have hM := hG.2.2.1
  have hn := hG.2.2.2.1
  have hK := hG.K
  have hC := hG.C
  have hG2 : pGd (M 22) nb nm := hG.cg hE
  by_cases hm : 0 ≤ m ∧ m ≤ nI nm - 1
  · obtain ⟨k, hk, rfl⟩ := pUx (by omega) hm
    have hc := pCo_of hC hk
    refine pOp.qry (v := pFy (M 0) nb &&& (pFy (pVo nb k (M 0)) nb ^^^ -1)) I ?_ (fun M1 hF => ?_)
    · have hbec := hX4_become (E := E) (d := 10) (s := 1) (t := 0) (nb := nb) (nm := nm) (M := M) hs1 hs0 (by decide) hB hb hM hn
      generalize hρ : pSB (M 1) (M 0) nb nm = ρ at hbec
      have hρe : pEq nb nm ρ (M 0) := by rw [← hρ]; exact pSB_eq hb
      have hGρ : pGd ρ nb nm := hG.cg hρe
      have hcv := hX4_castVote (E := E) (d := 9) (s := 1) (nb := nb) (m := k) (c := pCo (M 0) k) (M := fv_s M 1 ρ) hs1 (by rw [fv_s_same]; exact hGρ.1) hb (by rw [fv_s_same]; exact hGρ.K) (by omega) (by rw [fv_s_same]; exact (hρe.m hk (by decide)).trans hc.1) hc.2
      rw [fv_s_same, fv_s_s] at hcv
      have hve : pEq nb nm (pVote ρ k (pCo (M 0) k) nb) (pVo nb k (M 0)) := pVote_cg hρe hk hc.2
      have hv1 : pVote ρ k (pCo (M 0) k) nb 1 = nI nb := (hve.n (by decide)).trans (pGd_vote hG hk).1
      refine fv_P.of (ls := [some (.ref 0), some (.int (nI k))]) (by decide) (Nat.le_of_ble_eq_true rfl) rfl ?_
      refine x_aload_n (pc := 0) dX6_plucked_0 rfl rfl ?_
      refine x_geta (pc := 1) fl_X6_12 dX6_plucked_1 (tb_fv) rfl ?_
      refine x_iload_n (pc := 4) dX6_plucked_4 rfl rfl ?_
      refine x_Vi (pc := 5) ks_X6_94 dX6_plucked_5 (tb_st (by assumption)) rfl rfl (hHm hM) rfl rfl rfl (Nat.le_of_ble_eq_true rfl) ?_
      refine x_ifb_ne (pc := 8) dX6_plucked_8 (tgt := 18) rfl (fun h8 => ?_) (fun h8 => ?_)
      ·
        refine x_aload_n (pc := 18) dX6_plucked_18 rfl rfl ?_
        refine x_geta (pc := 19) fl_X6_16 dX6_plucked_19 (tb_fv) rfl ?_
        refine x_aload_n (pc := 22) dX6_plucked_22 rfl rfl ?_
        refine x_geta (pc := 23) fl_X6_12 dX6_plucked_23 (tb_fv) rfl ?_
        refine x_Vv (pc := 26) ks_X6_150 dX6_plucked_26 (tb_st (by assumption)) rfl rfl (hbec) rfl rfl rfl (Nat.le_of_ble_eq_true rfl) ?_
        refine x_aload_n (pc := 29) dX6_plucked_29 rfl rfl ?_
        refine x_geta (pc := 30) fl_X6_16 dX6_plucked_30 (tb_fv) rfl ?_
        refine x_aload_n (pc := 33) dX6_plucked_33 rfl rfl ?_
        refine x_geta (pc := 34) fl_X6_16 dX6_plucked_34 (tb_fv) rfl ?_
        refine x_geta (pc := 37) fl_X6_97 dX6_plucked_37 (tb_st (by assumption)) rfl ?_
        refine x_iload_n (pc := 40) dX6_plucked_40 rfl rfl ?_
        refine x_motion (pc := 41) dX6_plucked_41 (by assumption) (rfl) (by omega) ?_
        refine x_Vi (pc := 42) ks_X6_127 dX6_plucked_42 (tb_st hs1) rfl rfl (hcv) rfl rfl rfl (Nat.le_of_ble_eq_true rfl) ?_
        refine x_popi (pc := 45) dX6_plucked_45 ?_
        refine x_aload_n (pc := 46) dX6_plucked_46 rfl rfl ?_
        refine x_geta (pc := 47) fl_X6_12 dX6_plucked_47 (tb_fv) rfl ?_
        refine x_Vi (pc := 50) ks_X6_144 dX6_plucked_50 (tb_st (by assumption)) rfl rfl ((hX4_flyers hs0 (by rw [fv_s_ne _ _ (by decide)]; exact hB) hb).v (show _ = pFy (M 0) nb from by rw [fv_s_ne _ _ (by decide)])) rfl rfl rfl (Nat.le_of_ble_eq_true rfl) ?_
        refine x_aload_n (pc := 53) dX6_plucked_53 rfl rfl ?_
        refine x_geta (pc := 54) fl_X6_16 dX6_plucked_54 (tb_fv) rfl ?_
        refine x_Vi (pc := 57) ks_X6_144 dX6_plucked_57 (tb_st hs1) rfl rfl ((hX4_flyers hs1 (by rw [fv_s_same]; exact hv1) hb).v (show _ = pFy (pVo nb k (M 0)) nb from by rw [fv_s_same]; exact pFy_cg hve)) rfl rfl rfl (Nat.le_of_ble_eq_true rfl) ?_
        refine x_iconst (pc := 60) (v := (-1)) dX6_plucked_60 fv_m1 ?_
        refine x_ixor (pc := 61) dX6_plucked_61 ?_
        refine x_iand (pc := 62) dX6_plucked_62 ?_
        refine x_iret (pc := 63) dX6_plucked_63 rfl (by first | rfl | exact fv_nz _) ?_
        exact ⟨rfl, pFr.rfl'.s (by decide)⟩
      ·
        contradiction
    · skip
      have e22 : M1 22 = M 22 := hF 22 (by decide)
      have hG1 : pGd (M1 22) nb nm := by rw [e22]; exact hG2
      have hE1 : pEq nb nm (M1 22) (M 0) := by rw [e22]; exact hE
      have hB1 := hG1.1
      have hM1 := hG1.2.2.1
      have hG3 : pGd ((fv_s M1 24 (pCpy (M1 24) (M1 22) 114)) 22) nb nm := by rw [fv_s_ne _ _ (by decide)]; exact hG1
      have hv := hX7_vote1 (E := E) (d := 6) hG3 hk
      rw [fv_s_ne _ _ (show 22 ≠ 24 by decide)] at hv
      refine fv_P.of (ls := [some (.ref 106), some (.int (nI k)), none, none, none]) (by decide) (Nat.le_of_ble_eq_true rfl) rfl ?_
      refine x_aload_n (pc := 0) dX7_plucked_0 rfl rfl ?_
      refine x_iload_n (pc := 1) dX7_plucked_1 rfl rfl ?_
      refine x_Vi (pc := 2) ks_X7_126 dX7_plucked_2 (tb_106) rfl rfl (hX7_isMotion (x := nI nm) hM1) rfl rfl rfl (Nat.le_of_ble_eq_true rfl) ?_
      refine x_ifb_ne (pc := 5) dX7_plucked_5 (tgt := 14) rfl (fun h5 => ?_) (fun h5 => ?_)
      ·
        refine x_aload_n (pc := 14) dX7_plucked_14 rfl rfl ?_
        refine x_Vi (pc := 15) ks_X7_149 dX7_plucked_15 (tb_106) rfl rfl ((hX7_flying hB1 hb).v (pFy_cg hE1)) rfl rfl rfl (Nat.le_of_ble_eq_true rfl) ?_
        refine x_istore_n2 (pc := 18) dX7_plucked_18 rfl ?_
        refine x_aload_n (pc := 19) dX7_plucked_19 rfl rfl ?_
        refine x_Vv (pc := 20) ks_X7_152 dX7_plucked_20 (tb_106) rfl rfl (hX7_setsAside) rfl rfl rfl (Nat.le_of_ble_eq_true rfl) ?_
        refine x_aload_n (pc := 23) dX7_plucked_23 rfl rfl ?_
        refine x_iload_n (pc := 24) dX7_plucked_24 rfl rfl ?_
        refine x_Vip (pc := 25) ks_X7_136 dX7_plucked_25 (tb_106) rfl rfl (hv) rfl rfl rfl (Nat.le_of_ble_eq_true rfl) (fun M2 h2 => ?_)
        refine x_istore_n3 (pc := 28) dX7_plucked_28 rfl ?_
        refine x_iload_n (pc := 29) dX7_plucked_29 rfl rfl ?_
        refine x_if_ne (pc := 30) dX7_plucked_30 (tgt := 37) rfl (fun h30 => ?_) (fun h30 => ?_)
        ·
          refine x_aload_n (pc := 37) dX7_plucked_37 rfl rfl ?_
          refine x_Vi (pc := 38) ks_X7_149 dX7_plucked_38 (tb_106) rfl rfl ((hX7_flying (by rw [h2.2]; exact (pGd_vote hG1 hk).1) hb).v (show _ = pFy (pVo nb k (M 0)) nb from by rw [h2.2]; exact pFy_cg (pVo_cg hE1 hk hC))) rfl rfl rfl (Nat.le_of_ble_eq_true rfl) ?_
          refine x_goto (pc := 41) dX7_plucked_41 (tgt := 45) rfl ?_
          refine x_istore4 (pc := 45) dX7_plucked_45 rfl ?_
          refine x_aload_n (pc := 47) dX7_plucked_47 rfl rfl ?_
          refine x_Vv (pc := 48) ks_X7_155 dX7_plucked_48 (tb_106) rfl rfl (hX7_laysBack) rfl rfl rfl (Nat.le_of_ble_eq_true rfl) ?_
          refine x_iload_n (pc := 51) dX7_plucked_51 rfl rfl ?_
          refine x_iload (pc := 52) dX7_plucked_52 rfl ?_
          refine x_iconst (pc := 54) (v := (-1)) dX7_plucked_54 fv_m1 ?_
          refine x_ixor (pc := 55) dX7_plucked_55 ?_
          refine x_iand (pc := 56) dX7_plucked_56 ?_
          refine x_iret (pc := 57) dX7_plucked_57 rfl (by first | rfl | exact fv_nz _) ?_
          first | (exfalso; exact absurd h34 (by first | exact h30 | (rw [h30]; decide))) | exact ⟨rfl, (((pFr.rfl'.s (by decide)).tr (h2.1.mono (by decide))).s (by decide)), by rw [fv_s_ne _ _ (by decide), h2.1 21 (by decide), fv_s_ne _ _ (by decide)], by rw [fv_s_ne _ _ (by decide), h2.1 21 (by decide), fv_s_ne _ _ (by decide)], fun nb nm hi => by rw [fv_s_same]; exact pEq_cpy (fun i hi => by rw [h2.1 24 (by decide), fv_s_same]; exact pCpy_lt hi) nb nm hi⟩
        ·
          refine x_iload_n (pc := 33) dX7_plucked_33 rfl rfl ?_
          refine x_if_ne (pc := 34) dX7_plucked_34 (tgt := 44) rfl (fun h34 => ?_) (fun h34 => ?_)
          ·
            refine x_iconst (pc := 44) (v := 0) dX7_plucked_44 rfl ?_
            refine x_istore4 (pc := 45) dX7_plucked_45 rfl ?_
            refine x_aload_n (pc := 47) dX7_plucked_47 rfl rfl ?_
            refine x_Vv (pc := 48) ks_X7_155 dX7_plucked_48 (tb_106) rfl rfl (hX7_laysBack) rfl rfl rfl (Nat.le_of_ble_eq_true rfl) ?_
            refine x_iload_n (pc := 51) dX7_plucked_51 rfl rfl ?_
            refine x_iload (pc := 52) dX7_plucked_52 rfl ?_
            refine x_iconst (pc := 54) (v := (-1)) dX7_plucked_54 fv_m1 ?_
            refine x_ixor (pc := 55) dX7_plucked_55 ?_
            refine x_iand (pc := 56) dX7_plucked_56 ?_
            refine x_iret (pc := 57) dX7_plucked_57 rfl (by first | rfl | exact fv_nz _) ?_
            first | (exfalso; exact absurd h34 (by first | exact h30 | (rw [h30]; decide))) | exact ⟨rfl, (((pFr.rfl'.s (by decide)).tr (h2.1.mono (by decide))).s (by decide)), by rw [fv_s_ne _ _ (by decide), h2.1 21 (by decide), fv_s_ne _ _ (by decide)], by rw [fv_s_ne _ _ (by decide), h2.1 21 (by decide), fv_s_ne _ _ (by decide)], fun nb nm hi => by rw [fv_s_same]; exact pEq_cpy (fun i hi => by rw [h2.1 24 (by decide), fv_s_same]; exact pCpy_lt hi) nb nm hi⟩
          ·
            refine x_aload_n (pc := 37) dX7_plucked_37 rfl rfl ?_
            refine x_Vi (pc := 38) ks_X7_149 dX7_plucked_38 (tb_106) rfl rfl ((hX7_flying (by rw [h2.2]; exact (pGd_vote hG1 hk).1) hb).v (show _ = pFy (pVo nb k (M 0)) nb from by rw [h2.2]; exact pFy_cg (pVo_cg hE1 hk hC))) rfl rfl rfl (Nat.le_of_ble_eq_true rfl) ?_
            refine x_goto (pc := 41) dX7_plucked_41 (tgt := 45) rfl ?_
            refine x_istore4 (pc := 45) dX7_plucked_45 rfl ?_
            refine x_aload_n (pc := 47) dX7_plucked_47 rfl rfl ?_
            refine x_Vv (pc := 48) ks_X7_155 dX7_plucked_48 (tb_106) rfl rfl (hX7_laysBack) rfl rfl rfl (Nat.le_of_ble_eq_true rfl) ?_
            refine x_iload_n (pc := 51) dX7_plucked_51 rfl rfl ?_
            refine x_iload (pc := 52) dX7_plucked_52 rfl ?_
            refine x_iconst (pc := 54) (v := (-1)) dX7_plucked_54 fv_m1 ?_
            refine x_ixor (pc := 55) dX7_plucked_55 ?_
            refine x_iand (pc := 56) dX7_plucked_56 ?_
            refine x_iret (pc := 57) dX7_plucked_57 rfl (by first | rfl | exact fv_nz _) ?_
            first | (exfalso; exact absurd h34 (by first | exact h30 | (rw [h30]; decide))) | exact ⟨rfl, (((pFr.rfl'.s (by decide)).tr (h2.1.mono (by decide))).s (by decide)), by rw [fv_s_ne _ _ (by decide), h2.1 21 (by decide), fv_s_ne _ _ (by decide)], by rw [fv_s_ne _ _ (by decide), h2.1 21 (by decide), fv_s_ne _ _ (by decide)], fun nb nm hi => by rw [fv_s_same]; exact pEq_cpy (fun i hi => by rw [h2.1 24 (by decide), fv_s_same]; exact pCpy_lt hi) nb nm hi⟩
      ·
        contradiction
  · skip
    refine pOp.bad (v := -1000001) 0 I ?_ (fun M1 hF => ?_)
    · skip
      refine fv_F.of (ls := [some (.ref 0), some (.int m)]) (by decide) (Nat.le_of_ble_eq_true rfl) rfl ?_
      refine x_aload_n (pc := 0) dX6_plucked_0 rfl rfl ?_
      refine x_geta (pc := 1) fl_X6_12 dX6_plucked_1 (tb_fv) rfl ?_
      refine x_iload_n (pc := 4) dX6_plucked_4 rfl rfl ?_
      refine x_Vi (pc := 5) ks_X6_94 dX6_plucked_5 (tb_st (by assumption)) rfl rfl (hHm hM) rfl rfl rfl (Nat.le_of_ble_eq_true rfl) ?_
      refine x_ifb_ne (pc := 8) dX6_plucked_8 (tgt := 18) rfl (fun h8 => ?_) (fun h8 => ?_)
      ·
        contradiction
      ·
        refine x_aload_n (pc := 11) dX6_plucked_11 rfl rfl ?_
        refine x_ldc (pc := 12) kc_X6_55 dX6_plucked_12 ?_
        refine x_Vi (pc := 14) ks_X6_56 dX6_plucked_14 (tb_fv) rfl rfl (hX6_fin 0 (-1000001) (by decide +kernel) (by decide)) rfl rfl rfl (Nat.le_of_ble_eq_true rfl) ?_
        refine x_iret (pc := 17) dX6_plucked_17 rfl (by first | rfl | exact fv_nz _) ?_
        exact ⟨rfl, rfl⟩
    · skip
      have e22 : M1 22 = M 22 := hF 22 (by decide)
      have hG1 : pGd (M1 22) nb nm := by rw [e22]; exact hG2
      have hE1 : pEq nb nm (M1 22) (M 0) := by rw [e22]; exact hE
      have hB1 := hG1.1
      have hM1 := hG1.2.2.1
      refine fv_F.of (ls := [some (.ref 106), some (.int m), none, none, none]) (by decide) (Nat.le_of_ble_eq_true rfl) rfl ?_
      refine x_aload_n (pc := 0) dX7_plucked_0 rfl rfl ?_
      refine x_iload_n (pc := 1) dX7_plucked_1 rfl rfl ?_
      refine x_Vi (pc := 2) ks_X7_126 dX7_plucked_2 (tb_106) rfl rfl (hX7_isMotion (x := nI nm) hM1) rfl rfl rfl (Nat.le_of_ble_eq_true rfl) ?_
      refine x_ifb_ne (pc := 5) dX7_plucked_5 (tgt := 14) rfl (fun h5 => ?_) (fun h5 => ?_)
      ·
        contradiction
      ·
        refine x_aload_n (pc := 8) dX7_plucked_8 rfl rfl ?_
        refine x_iconst (pc := 9) (v := 0) dX7_plucked_9 rfl ?_
        refine x_Vi (pc := 10) ks_X7_114 dX7_plucked_10 (tb_106) rfl rfl (hX7_noL 0 (-1000001) (by decide) (by decide +kernel)) rfl rfl rfl (Nat.le_of_ble_eq_true rfl) ?_
        refine x_iret (pc := 13) dX7_plucked_13 rfl (by first | rfl | exact fv_nz _) ?_
        exact ⟨rfl, rfl⟩
