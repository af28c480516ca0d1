theorem pFeat_cg {nb nm b z : Nat} {σ τ : Nat → Int32} (h : pEq nb nm σ τ) (hb : b < nb) : pFeat σ b z = pFeat τ b z := by
  unfold pFeat
  rw [pFe_cg h hb, show σ (fB b 1) = τ (fB b 1) from h.b hb (by decide)]
  by_cases hz : z < 7
  · rw [if_pos hz, if_pos hz]; exact h.b hb hz
  · rw [if_neg hz, if_neg hz]
theorem sT_eq {nb nm k c u : Nat} {σ τ : Nat → Int32} (h : pEq nb nm τ σ) (hk : k < nm) (hc : c < 4) (eu : σ (fM k 2) = nI u) : pSd (pTw τ k (nI u)) nb k c (nI u) = pSd σ nb k c (σ (fM k 2)) := by
  have e : pTw τ k (nI u) = τ := by rw [← eu, ← h.m hk (by decide)]; exact pTw_id _ _
  rw [e, ← eu]
  exact pSd_cg h hk hc
theorem sF_eq {nb nm k c u : Nat} {σ τ : Nat → Int32} (h : pEq nb nm τ σ) (hk : k < nm) (hc : c < 4) (eu : σ (fM k 2) = nI u) : pSd (pTw τ k (nI u)) nb k c (pAll nb &&& (nI u ^^^ -1)) = pSd σ nb k c (pWa σ nb k) := by
  have e : pTw τ k (nI u) = τ := by rw [← eu, ← h.m hk (by decide)]; exact pTw_id _ _
  unfold pWa
  rw [e, ← eu]
  exact pSd_cg h hk hc
theorem pCb_cg {nb nm : Nat} {σ τ : Nat → Int32} (h : pEq nb nm σ τ) (w : Int32) (k : Nat) : pCb σ w k nb = pCb τ w k nb := sN_congr (fun i hi => bI_congr (by unfold pCrow; rw [h.b hi (by decide)]))
theorem pDm_cg {nb nm b c : Nat} {w : Int32} {σ τ : Nat → Int32} (h : pEq nb nm σ τ) (hb : b < nb) (hc : c < 4) : pDm σ b c w nb = pDm τ b c w nb := by
  unfold pDm
  rw [h.f hb hc, h.b hb (by decide), h.b hb (by decide), pFe_cg h hb, pCb_cg h]
theorem pDo_eq {σ : Nat → Int32} {nb nm m b : Nat} (h : pGd σ nb nm) (hm : m < nm) (hb : b < nb) : pDr σ b m (pCo σ m) (pCr σ (if pIn (σ (fM m 2)) b then σ (fM m 2) else pWa σ nb m) nb) = pDn σ m (pCo σ m) nb b := by
  obtain ⟨h8, hcol, hc, u, hu, eu⟩ := pG2.at h hm
  by_cases hi : pIn (σ (fM m 2)) b
  · rw [if_pos hi]; exact pDn_t h.2.1 hcol hc hb hi
  · rw [if_neg hi]; exact pDn_f h.2.1 hu eu hcol hc hb hi
theorem op_passes {E : fv_E} {m : Int32} {M : fv_M} (I : pInv M) : pOp E mX6_passes mX7_passes [.int m] M := by
  obtain ⟨nb, nm, hG, hE, t, ht, eT⟩ := I.1
  have hs0 : 0 < 3 := by decide
  have hs1 : 1 < 3 := by decide
  have hB := hG.1
  have hb := hG.2.1
  have hM := hG.2.2.1
  have hn := hG.2.2.2.1
  have hK := hG.K
  have hC := hG.C
  have hG2 : pGd (M 22) nb nm := hG.cg hE
  by_cases hm : 0 ≤ m ∧ m ≤ nI nm - 1
  · obtain ⟨k, hk, rfl⟩ := pUx (by omega) hm
    have hc := pCo_of hC hk
    refine pOp.qry (v := bI (pPs (M 0) nb k (pCo (M 0) k))) I ?_ (fun M1 hF => ?_)
    · skip
      refine fv_P.of (ls := [some (.ref 0), some (.int (nI k))]) (by decide) (Nat.le_of_ble_eq_true rfl) rfl ?_
      refine x_aload_n (pc := 0) dX6_passes_0 rfl rfl ?_
      refine x_geta (pc := 1) fl_X6_12 dX6_passes_1 (tb_fv) rfl ?_
      refine x_iload_n (pc := 4) dX6_passes_4 rfl rfl ?_
      refine x_Vi (pc := 5) ks_X6_94 dX6_passes_5 (tb_st (by assumption)) rfl rfl (hHm hM) rfl rfl rfl (Nat.le_of_ble_eq_true rfl) ?_
      refine x_ifb_ne (pc := 8) dX6_passes_8 (tgt := 18) rfl (fun h8 => ?_) (fun h8 => ?_)
      ·
        refine x_aload_n (pc := 18) dX6_passes_18 rfl rfl ?_
        refine x_geta (pc := 19) fl_X6_12 dX6_passes_19 (tb_fv) rfl ?_
        refine x_aload_n (pc := 22) dX6_passes_22 rfl rfl ?_
        refine x_geta (pc := 23) fl_X6_12 dX6_passes_23 (tb_fv) rfl ?_
        refine x_geta (pc := 26) fl_X6_97 dX6_passes_26 (tb_st (by assumption)) rfl ?_
        refine x_iload_n (pc := 29) dX6_passes_29 rfl rfl ?_
        refine x_motion (pc := 30) dX6_passes_30 (by assumption) (rfl) (by first | assumption | decide | omega) ?_
        refine x_Vi (pc := 31) ks_X6_123 dX6_passes_31 (tb_st (by assumption)) rfl rfl (hX4_wouldPass hs0 hB hb hK (by omega) hc.1 hc.2) rfl rfl rfl (Nat.le_of_ble_eq_true rfl) ?_
        refine x_ifb_eq (pc := 34) dX6_passes_34 (tgt := 41) rfl (fun h34 => ?_) (fun h34 => ?_)
        ·
          refine x_iconst (pc := 41) (v := 0) dX6_passes_41 rfl ?_
          refine x_iret (pc := 42) dX6_passes_42 rfl (by first | rfl | exact fv_nz _) ?_
          first | exact ⟨fv_rt h34, pFr.rfl'⟩ | exact ⟨fv_rf h34, pFr.rfl'⟩
        ·
          refine x_iconst (pc := 37) (v := 1) dX6_passes_37 rfl ?_
          refine x_goto (pc := 38) dX6_passes_38 (tgt := 42) rfl ?_
          refine x_iret (pc := 42) dX6_passes_42 rfl (by first | rfl | exact fv_nz _) ?_
          first | exact ⟨fv_rt h34, pFr.rfl'⟩ | exact ⟨fv_rf h34, pFr.rfl'⟩
      ·
        contradiction
    · skip
      have e22 : M1 22 = M 22 := hF 22 (by decide)
      have hG1 : pGd (M1 22) nb nm := by rw [e22]; exact hG2
      have hE1 : pEq nb nm (M1 22) (M 0) := by rw [e22]; exact hE
      have hB1 := hG1.1
      have hM1 := hG1.2.2.1
      refine fv_P.of (ls := [some (.ref 106), some (.int (nI k))]) (by decide) (Nat.le_of_ble_eq_true rfl) rfl ?_
      refine x_aload_n (pc := 0) dX7_passes_0 rfl rfl ?_
      refine x_iload_n (pc := 1) dX7_passes_1 rfl rfl ?_
      refine x_Vi (pc := 2) ks_X7_126 dX7_passes_2 (tb_106) rfl rfl (hX7_isMotion (x := nI nm) hM1) rfl rfl rfl (Nat.le_of_ble_eq_true rfl) ?_
      refine x_ifb_eq (pc := 5) dX7_passes_5 (tgt := 24) rfl (fun h5 => ?_) (fun h5 => ?_)
      ·
        contradiction
      ·
        refine x_aload_n (pc := 8) dX7_passes_8 rfl rfl ?_
        refine x_iload_n (pc := 9) dX7_passes_9 rfl rfl ?_
        refine x_Vi (pc := 10) ks_X7_104 dX7_passes_10 (tb_106) rfl rfl ((hX7_passesNow hG1.gb (by omega) ((hE1.m hk (by decide)).trans hc.1) hc.2 (pG2.at hG1 hk).2.2.2).v (bI_congr (pPs_cg hE1 hk hc.2))) rfl rfl rfl (Nat.le_of_ble_eq_true rfl) ?_
        refine x_ifb_eq (pc := 13) dX7_passes_13 (tgt := 20) rfl (fun h13 => ?_) (fun h13 => ?_)
        ·
          refine x_iconst (pc := 20) (v := 0) dX7_passes_20 rfl ?_
          refine x_goto (pc := 21) dX7_passes_21 (tgt := 29) rfl ?_
          refine x_iret (pc := 29) dX7_passes_29 rfl (by first | rfl | exact fv_nz _) ?_
          first | exact ⟨fv_rt h13, pFr.rfl', rfl, rfl, fun _ _ _ => pEq.rfl'⟩ | exact ⟨fv_rf h13, pFr.rfl', rfl, rfl, fun _ _ _ => pEq.rfl'⟩
        ·
          refine x_iconst (pc := 16) (v := 1) dX7_passes_16 rfl ?_
          refine x_goto (pc := 17) dX7_passes_17 (tgt := 29) rfl ?_
          refine x_iret (pc := 29) dX7_passes_29 rfl (by first | rfl | exact fv_nz _) ?_
          first | exact ⟨fv_rt h13, pFr.rfl', rfl, rfl, fun _ _ _ => pEq.rfl'⟩ | exact ⟨fv_rf h13, pFr.rfl', rfl, rfl, fun _ _ _ => pEq.rfl'⟩
  · skip
    refine pOp.bad (v := -1000001) 0 I ?_ (fun M1 hF => ?_)
    · skip
      refine fv_F.of (ls := [some (.ref 0), some (.int m)]) (by decide) (Nat.le_of_ble_eq_true rfl) rfl ?_
      refine x_aload_n (pc := 0) dX6_passes_0 rfl rfl ?_
      refine x_geta (pc := 1) fl_X6_12 dX6_passes_1 (tb_fv) rfl ?_
      refine x_iload_n (pc := 4) dX6_passes_4 rfl rfl ?_
      refine x_Vi (pc := 5) ks_X6_94 dX6_passes_5 (tb_st (by assumption)) rfl rfl (hHm hM) rfl rfl rfl (Nat.le_of_ble_eq_true rfl) ?_
      refine x_ifb_ne (pc := 8) dX6_passes_8 (tgt := 18) rfl (fun h8 => ?_) (fun h8 => ?_)
      ·
        contradiction
      ·
        refine x_aload_n (pc := 11) dX6_passes_11 rfl rfl ?_
        refine x_ldc (pc := 12) kc_X6_55 dX6_passes_12 ?_
        refine x_Vi (pc := 14) ks_X6_56 dX6_passes_14 (tb_fv) rfl rfl (hX6_fin 0 (-1000001) (by decide +kernel) (by decide)) rfl rfl rfl (Nat.le_of_ble_eq_true rfl) ?_
        refine x_iret (pc := 17) dX6_passes_17 rfl (by first | rfl | exact fv_nz _) ?_
        exact ⟨rfl, rfl⟩
    · skip
      have e22 : M1 22 = M 22 := hF 22 (by decide)
      have hG1 : pGd (M1 22) nb nm := by rw [e22]; exact hG2
      have hE1 : pEq nb nm (M1 22) (M 0) := by rw [e22]; exact hE
      have hB1 := hG1.1
      have hM1 := hG1.2.2.1
      refine fv_F.of (ls := [some (.ref 106), some (.int m)]) (by decide) (Nat.le_of_ble_eq_true rfl) rfl ?_
      refine x_aload_n (pc := 0) dX7_passes_0 rfl rfl ?_
      refine x_iload_n (pc := 1) dX7_passes_1 rfl rfl ?_
      refine x_Vi (pc := 2) ks_X7_126 dX7_passes_2 (tb_106) rfl rfl (hX7_isMotion (x := nI nm) hM1) rfl rfl rfl (Nat.le_of_ble_eq_true rfl) ?_
      refine x_ifb_eq (pc := 5) dX7_passes_5 (tgt := 24) rfl (fun h5 => ?_) (fun h5 => ?_)
      ·
        refine x_aload_n (pc := 24) dX7_passes_24 rfl rfl ?_
        refine x_iconst (pc := 25) (v := 0) dX7_passes_25 rfl ?_
        refine x_Vi (pc := 26) ks_X7_114 dX7_passes_26 (tb_106) rfl rfl (hX7_noL 0 (-1000001) (by decide) (by decide +kernel)) rfl rfl rfl (Nat.le_of_ble_eq_true rfl) ?_
        refine x_iret (pc := 29) dX7_passes_29 rfl (by first | rfl | exact fv_nz _) ?_
        exact ⟨rfl, rfl⟩
      ·
        contradiction
theorem op_drops {E : fv_E} {b m : Int32} {M : fv_M} (I : pInv M) : pOp E mX6_drops mX7_drops [.int b, .int m] M := by
  obtain ⟨nb, nm, hG, hE, t, ht, eT⟩ := I.1
  have hs0 : 0 < 3 := by decide
  have hs1 : 1 < 3 := by decide
  have hB := hG.1
  have hb := hG.2.1
  have hM := hG.2.2.1
  have hn := hG.2.2.2.1
  have hK := hG.K
  have hC := hG.C
  have hG2 : pGd (M 22) nb nm := hG.cg hE
  by_cases hbb : 0 ≤ b ∧ b ≤ nI nb - 1
  · by_cases hm : 0 ≤ m ∧ m ≤ nI nm - 1
    · obtain ⟨k, hk, rfl⟩ := pUx (by omega) hm
      obtain ⟨z, hz, rfl⟩ := pUx (by omega) hbb
      have hc := pCo_of hC hk
      refine pOp.qry (v := pDn (M 0) k (pCo (M 0) k) nb z) I ?_ (fun M1 hF => ?_)
      · skip
        refine fv_P.of (ls := [some (.ref 0), some (.int (nI z)), some (.int (nI k))]) (by decide) (Nat.le_of_ble_eq_true rfl) rfl ?_
        refine x_aload_n (pc := 0) dX6_drops_0 rfl rfl ?_
        refine x_geta (pc := 1) fl_X6_12 dX6_drops_1 (tb_fv) rfl ?_
        refine x_iload_n (pc := 4) dX6_drops_4 rfl rfl ?_
        refine x_Vi (pc := 5) ks_X6_68 dX6_drops_5 (tb_st (by assumption)) rfl rfl (hHb hB) rfl rfl rfl (Nat.le_of_ble_eq_true rfl) ?_
        refine x_ifb_eq (pc := 8) dX6_drops_8 (tgt := 22) rfl (fun h8 => ?_) (fun h8 => ?_)
        ·
          contradiction
        ·
          refine x_aload_n (pc := 11) dX6_drops_11 rfl rfl ?_
          refine x_geta (pc := 12) fl_X6_12 dX6_drops_12 (tb_fv) rfl ?_
          refine x_iload_n (pc := 15) dX6_drops_15 rfl rfl ?_
          refine x_Vi (pc := 16) ks_X6_94 dX6_drops_16 (tb_st (by assumption)) rfl rfl (hHm hM) rfl rfl rfl (Nat.le_of_ble_eq_true rfl) ?_
          refine x_ifb_ne (pc := 19) dX6_drops_19 (tgt := 29) rfl (fun h19 => ?_) (fun h19 => ?_)
          ·
            refine x_aload_n (pc := 29) dX6_drops_29 rfl rfl ?_
            refine x_geta (pc := 30) fl_X6_12 dX6_drops_30 (tb_fv) rfl ?_
            refine x_iload_n (pc := 33) dX6_drops_33 rfl rfl ?_
            refine x_aload_n (pc := 34) dX6_drops_34 rfl rfl ?_
            refine x_geta (pc := 35) fl_X6_12 dX6_drops_35 (tb_fv) rfl ?_
            refine x_geta (pc := 38) fl_X6_97 dX6_drops_38 (tb_st (by assumption)) rfl ?_
            refine x_iload_n (pc := 41) dX6_drops_41 rfl rfl ?_
            refine x_motion (pc := 42) dX6_drops_42 (by assumption) (rfl) (by omega) ?_
            refine x_Vi (pc := 43) ks_X6_112 dX6_drops_43 (tb_st (by assumption)) rfl rfl ((hX4_dropOf hs0 hB hb hK (by omega) hc.1 hc.2 hz).v (pDo_eq hG hk hz)) rfl rfl rfl (Nat.le_of_ble_eq_true rfl) ?_
            refine x_iret (pc := 46) dX6_drops_46 rfl (by first | rfl | exact fv_nz _) ?_
            exact ⟨rfl, pFr.rfl'⟩
          ·
            contradiction
      · skip
        have e22 : M1 22 = M 22 := hF 22 (by decide)
        have hG1 : pGd (M1 22) nb nm := by rw [e22]; exact hG2
        have hE1 : pEq nb nm (M1 22) (M 0) := by rw [e22]; exact hE
        have hB1 := hG1.1
        have hM1 := hG1.2.2.1
        refine fv_P.of (ls := [some (.ref 106), some (.int (nI z)), some (.int (nI k))]) (by decide) (Nat.le_of_ble_eq_true rfl) rfl ?_
        refine x_aload_n (pc := 0) dX7_drops_0 rfl rfl ?_
        refine x_iload_n (pc := 1) dX7_drops_1 rfl rfl ?_
        refine x_Vi (pc := 2) ks_X7_120 dX7_drops_2 (tb_106) rfl rfl (hX7_isBird (x := nI nb) hB1) rfl rfl rfl (Nat.le_of_ble_eq_true rfl) ?_
        refine x_ifb_eq (pc := 5) dX7_drops_5 (tgt := 31) rfl (fun h5 => ?_) (fun h5 => ?_)
        ·
          contradiction
        ·
          refine x_aload_n (pc := 8) dX7_drops_8 rfl rfl ?_
          refine x_iload_n (pc := 9) dX7_drops_9 rfl rfl ?_
          refine x_Vi (pc := 10) ks_X7_126 dX7_drops_10 (tb_106) rfl rfl (hX7_isMotion (x := nI nm) hM1) rfl rfl rfl (Nat.le_of_ble_eq_true rfl) ?_
          refine x_ifb_eq (pc := 13) dX7_drops_13 (tgt := 31) rfl (fun h13 => ?_) (fun h13 => ?_)
          ·
            contradiction
          ·
            refine x_aload_n (pc := 16) dX7_drops_16 rfl rfl ?_
            refine x_iload_n (pc := 17) dX7_drops_17 rfl rfl ?_
            refine x_iload_n (pc := 18) dX7_drops_18 rfl rfl ?_
            refine x_aload_n (pc := 19) dX7_drops_19 rfl rfl ?_
            refine x_iload_n (pc := 20) dX7_drops_20 rfl rfl ?_
            refine x_iconst (pc := 21) (v := 2) dX7_drops_21 rfl ?_
            refine x_Vi (pc := 22) ks_X7_80 dX7_drops_22 (tb_106) rfl rfl ((hX7_of1 (f := 2) (by omega) (by decide)).v (hE1.m hk (by decide))) rfl rfl rfl (Nat.le_of_ble_eq_true rfl) ?_
            refine x_Vi (pc := 25) ks_X7_89 dX7_drops_25 (tb_106) rfl rfl ((hX7_dropsBy hB1 hb hG1.K (hG1.2.2.2.2.1 z hz) hz (by omega) ((hE1.m hk (by decide)).trans hc.1) hc.2).v (pDm_cg hE1 hz hc.2)) rfl rfl rfl (Nat.le_of_ble_eq_true rfl) ?_
            refine x_goto (pc := 28) dX7_drops_28 (tgt := 36) rfl ?_
            refine x_iret (pc := 36) dX7_drops_36 rfl (by first | rfl | exact fv_nz _) ?_
            exact ⟨rfl, pFr.rfl', rfl, rfl, fun _ _ _ => pEq.rfl'⟩
    · skip
      refine pOp.bad (v := -1000001) 0 I ?_ (fun M1 hF => ?_)
      · skip
        refine fv_F.of (ls := [some (.ref 0), some (.int b), some (.int m)]) (by decide) (Nat.le_of_ble_eq_true rfl) rfl ?_
        refine x_aload_n (pc := 0) dX6_drops_0 rfl rfl ?_
        refine x_geta (pc := 1) fl_X6_12 dX6_drops_1 (tb_fv) rfl ?_
        refine x_iload_n (pc := 4) dX6_drops_4 rfl rfl ?_
        refine x_Vi (pc := 5) ks_X6_68 dX6_drops_5 (tb_st (by assumption)) rfl rfl (hHb hB) rfl rfl rfl (Nat.le_of_ble_eq_true rfl) ?_
        refine x_ifb_eq (pc := 8) dX6_drops_8 (tgt := 22) rfl (fun h8 => ?_) (fun h8 => ?_)
        ·
          contradiction
        ·
          refine x_aload_n (pc := 11) dX6_drops_11 rfl rfl ?_
          refine x_geta (pc := 12) fl_X6_12 dX6_drops_12 (tb_fv) rfl ?_
          refine x_iload_n (pc := 15) dX6_drops_15 rfl rfl ?_
          refine x_Vi (pc := 16) ks_X6_94 dX6_drops_16 (tb_st (by assumption)) rfl rfl (hHm hM) rfl rfl rfl (Nat.le_of_ble_eq_true rfl) ?_
          refine x_ifb_ne (pc := 19) dX6_drops_19 (tgt := 29) rfl (fun h19 => ?_) (fun h19 => ?_)
          ·
            contradiction
          ·
            refine x_aload_n (pc := 22) dX6_drops_22 rfl rfl ?_
            refine x_ldc (pc := 23) kc_X6_55 dX6_drops_23 ?_
            refine x_Vi (pc := 25) ks_X6_56 dX6_drops_25 (tb_fv) rfl rfl (hX6_fin 0 (-1000001) (by decide +kernel) (by decide)) rfl rfl rfl (Nat.le_of_ble_eq_true rfl) ?_
            refine x_iret (pc := 28) dX6_drops_28 rfl (by first | rfl | exact fv_nz _) ?_
            exact ⟨rfl, rfl⟩
      · skip
        have e22 : M1 22 = M 22 := hF 22 (by decide)
        have hG1 : pGd (M1 22) nb nm := by rw [e22]; exact hG2
        have hE1 : pEq nb nm (M1 22) (M 0) := by rw [e22]; exact hE
        have hB1 := hG1.1
        have hM1 := hG1.2.2.1
        refine fv_F.of (ls := [some (.ref 106), some (.int b), some (.int m)]) (by decide) (Nat.le_of_ble_eq_true rfl) rfl ?_
        refine x_aload_n (pc := 0) dX7_drops_0 rfl rfl ?_
        refine x_iload_n (pc := 1) dX7_drops_1 rfl rfl ?_
        refine x_Vi (pc := 2) ks_X7_120 dX7_drops_2 (tb_106) rfl rfl (hX7_isBird (x := nI nb) hB1) rfl rfl rfl (Nat.le_of_ble_eq_true rfl) ?_
        refine x_ifb_eq (pc := 5) dX7_drops_5 (tgt := 31) rfl (fun h5 => ?_) (fun h5 => ?_)
        ·
          contradiction
        ·
          refine x_aload_n (pc := 8) dX7_drops_8 rfl rfl ?_
          refine x_iload_n (pc := 9) dX7_drops_9 rfl rfl ?_
          refine x_Vi (pc := 10) ks_X7_126 dX7_drops_10 (tb_106) rfl rfl (hX7_isMotion (x := nI nm) hM1) rfl rfl rfl (Nat.le_of_ble_eq_true rfl) ?_
          refine x_ifb_eq (pc := 13) dX7_drops_13 (tgt := 31) rfl (fun h13 => ?_) (fun h13 => ?_)
          ·
            refine x_aload_n (pc := 31) dX7_drops_31 rfl rfl ?_
            refine x_iconst (pc := 32) (v := 0) dX7_drops_32 rfl ?_
            refine x_Vi (pc := 33) ks_X7_114 dX7_drops_33 (tb_106) rfl rfl (hX7_noL 0 (-1000001) (by decide) (by decide +kernel)) rfl rfl rfl (Nat.le_of_ble_eq_true rfl) ?_
            refine x_iret (pc := 36) dX7_drops_36 rfl (by first | rfl | exact fv_nz _) ?_
            exact ⟨rfl, rfl⟩
          ·
            contradiction
  · skip
    refine pOp.bad (v := -1000001) 0 I ?_ (fun M1 hF => ?_)
    · skip
      refine fv_F.of (ls := [some (.ref 0), some (.int b), some (.int m)]) (by decide) (Nat.le_of_ble_eq_true rfl) rfl ?_
      refine x_aload_n (pc := 0) dX6_drops_0 rfl rfl ?_
      refine x_geta (pc := 1) fl_X6_12 dX6_drops_1 (tb_fv) rfl ?_
      refine x_iload_n (pc := 4) dX6_drops_4 rfl rfl ?_
      refine x_Vi (pc := 5) ks_X6_68 dX6_drops_5 (tb_st (by assumption)) rfl rfl (hHb hB) rfl rfl rfl (Nat.le_of_ble_eq_true rfl) ?_
      refine x_ifb_eq (pc := 8) dX6_drops_8 (tgt := 22) rfl (fun h8 => ?_) (fun h8 => ?_)
      ·
        refine x_aload_n (pc := 22) dX6_drops_22 rfl rfl ?_
        refine x_ldc (pc := 23) kc_X6_55 dX6_drops_23 ?_
        refine x_Vi (pc := 25) ks_X6_56 dX6_drops_25 (tb_fv) rfl rfl (hX6_fin 0 (-1000001) (by decide +kernel) (by decide)) rfl rfl rfl (Nat.le_of_ble_eq_true rfl) ?_
        refine x_iret (pc := 28) dX6_drops_28 rfl (by first | rfl | exact fv_nz _) ?_
        exact ⟨rfl, rfl⟩
      ·
        contradiction
    · skip
      have e22 : M1 22 = M 22 := hF 22 (by decide)
      have hG1 : pGd (M1 22) nb nm := by rw [e22]; exact hG2
      have hE1 : pEq nb nm (M1 22) (M 0) := by rw [e22]; exact hE
      have hB1 := hG1.1
      have hM1 := hG1.2.2.1
      refine fv_F.of (ls := [some (.ref 106), some (.int b), some (.int m)]) (by decide) (Nat.le_of_ble_eq_true rfl) rfl ?_
      refine x_aload_n (pc := 0) dX7_drops_0 rfl rfl ?_
      refine x_iload_n (pc := 1) dX7_drops_1 rfl rfl ?_
      refine x_Vi (pc := 2) ks_X7_120 dX7_drops_2 (tb_106) rfl rfl (hX7_isBird (x := nI nb) hB1) rfl rfl rfl (Nat.le_of_ble_eq_true rfl) ?_
      refine x_ifb_eq (pc := 5) dX7_drops_5 (tgt := 31) rfl (fun h5 => ?_) (fun h5 => ?_)
      ·
        refine x_aload_n (pc := 31) dX7_drops_31 rfl rfl ?_
        refine x_iconst (pc := 32) (v := 0) dX7_drops_32 rfl ?_
        refine x_Vi (pc := 33) ks_X7_114 dX7_drops_33 (tb_106) rfl rfl (hX7_noL 0 (-1000001) (by decide) (by decide +kernel)) rfl rfl rfl (Nat.le_of_ble_eq_true rfl) ?_
        refine x_iret (pc := 36) dX7_drops_36 rfl (by first | rfl | exact fv_nz _) ?_
        exact ⟨rfl, rfl⟩
      ·
        contradiction
theorem op_side {E : fv_E} {m s : Int32} {M : fv_M} (I : pInv M) : pOp E mX6_side mX7_side [.int m, .int s] M := by
  obtain ⟨nb, nm, hG, hE, t, ht, eT⟩ := I.1
  have hs0 : 0 < 3 := by decide
  have hs1 : 1 < 3 := by decide
  have hB := hG.1
  have hb := hG.2.1
  have hM := hG.2.2.1
  have hn := hG.2.2.2.1
  have hK := hG.K
  have hC := hG.C
  have hG2 : pGd (M 22) nb nm := hG.cg hE
  by_cases hm : 0 ≤ m ∧ m ≤ nI nm - 1
  · by_cases hs : 0 ≤ s ∧ s ≤ 1
    · obtain ⟨k, hk, rfl⟩ := pUx (by omega) hm
      have hc := pCo_of hC hk
      have hm8 : k < 8 := by omega
      obtain ⟨u, hu, eu⟩ := (pG2.at hG hk).2.2.2
      obtain ⟨z, hz, rfl⟩ := pUm (n := 1) (by decide) hs
      rcases (show z = 0 ∨ z = 1 by omega) with rfl | rfl
      · skip
        refine pOp.qry (v := pSd (M 0) nb k (pCo (M 0) k) (pWa (M 0) nb k)) I ?_ (fun M1 hF => ?_)
        · skip
          refine fv_P.of (ls := [some (.ref 0), some (.int (nI k)), some (.int (nI 0))]) (by decide) (Nat.le_of_ble_eq_true rfl) rfl ?_
          refine x_aload_n (pc := 0) dX6_side_0 rfl rfl ?_
          refine x_geta (pc := 1) fl_X6_12 dX6_side_1 (tb_fv) rfl ?_
          refine x_iload_n (pc := 4) dX6_side_4 rfl rfl ?_
          refine x_Vi (pc := 5) ks_X6_94 dX6_side_5 (tb_st (by assumption)) rfl rfl (hHm hM) rfl rfl rfl (Nat.le_of_ble_eq_true rfl) ?_
          refine x_ifb_eq (pc := 8) dX6_side_8 (tgt := 19) rfl (fun h8 => ?_) (fun h8 => ?_)
          ·
            contradiction
          ·
            refine x_iload_n (pc := 11) dX6_side_11 rfl rfl ?_
            refine x_iconst (pc := 12) (v := 1) dX6_side_12 rfl ?_
            refine x_Si (pc := 13) ks_X6_51 dX6_side_13 (hX6_isUpTo) rfl rfl rfl (Nat.le_of_ble_eq_true rfl) ?_
            refine x_ifb_ne (pc := 16) dX6_side_16 (tgt := 26) rfl (fun h16 => ?_) (fun h16 => ?_)
            ·
              refine x_iload_n (pc := 26) dX6_side_26 rfl rfl ?_
              refine x_iconst (pc := 27) (v := 1) dX6_side_27 rfl ?_
              refine x_icmp_ne (pc := 28) dX6_side_28 (tgt := 50) rfl (fun h28 => ?_) (fun h28 => ?_)
              ·
                refine x_aload_n (pc := 50) dX6_side_50 rfl rfl ?_
                refine x_geta (pc := 51) fl_X6_12 dX6_side_51 (tb_fv) rfl ?_
                refine x_aload_n (pc := 54) dX6_side_54 rfl rfl ?_
                refine x_geta (pc := 55) fl_X6_12 dX6_side_55 (tb_fv) rfl ?_
                refine x_geta (pc := 58) fl_X6_97 dX6_side_58 (tb_st (by assumption)) rfl ?_
                refine x_iload_n (pc := 61) dX6_side_61 rfl rfl ?_
                refine x_motion (pc := 62) dX6_side_62 (by assumption) (rfl) (by first | assumption | decide | omega) ?_
                refine x_Vi (pc := 63) ks_X6_120 dX6_side_63 (tb_st (by assumption)) rfl rfl (hX4_droppedAgainst hs0 hB hb hK hm8 hc.1 hc.2) rfl rfl rfl (Nat.le_of_ble_eq_true rfl) ?_
                refine x_iret (pc := 66) dX6_side_66 rfl (by first | rfl | exact fv_nz _) ?_
                exact ⟨rfl, pFr.rfl'⟩
              ·
                exact absurd h28 (by decide)
            ·
              contradiction
        · skip
          have e22 : M1 22 = M 22 := hF 22 (by decide)
          have hG1 : pGd (M1 22) nb nm := by rw [e22]; exact hG2
          have hE1 : pEq nb nm (M1 22) (M 0) := by rw [e22]; exact hE
          have hB1 := hG1.1
          have hM1 := hG1.2.2.1
          refine fv_P.of (ls := [some (.ref 106), some (.int (nI k)), some (.int (nI 0))]) (by decide) (Nat.le_of_ble_eq_true rfl) rfl ?_
          refine x_aload_n (pc := 0) dX7_side_0 rfl rfl ?_
          refine x_iload_n (pc := 1) dX7_side_1 rfl rfl ?_
          refine x_Vi (pc := 2) ks_X7_126 dX7_side_2 (tb_106) rfl rfl (hX7_isMotion (x := nI nm) hM1) rfl rfl rfl (Nat.le_of_ble_eq_true rfl) ?_
          refine x_ifb_eq (pc := 5) dX7_side_5 (tgt := 41) rfl (fun h5 => ?_) (fun h5 => ?_)
          ·
            contradiction
          ·
            refine x_iload_n (pc := 8) dX7_side_8 rfl rfl ?_
            refine x_iconst (pc := 9) (v := 0) dX7_side_9 rfl ?_
            refine x_iconst (pc := 10) (v := 1) dX7_side_10 rfl ?_
            refine x_Si (pc := 11) ks_X7_60 dX7_side_11 (hX7_in1) rfl rfl rfl (Nat.le_of_ble_eq_true rfl) ?_
            refine x_ifb_eq (pc := 14) dX7_side_14 (tgt := 41) rfl (fun h14 => ?_) (fun h14 => ?_)
            ·
              contradiction
            ·
              refine x_aload_n (pc := 17) dX7_side_17 rfl rfl ?_
              refine x_iload_n (pc := 18) dX7_side_18 rfl rfl ?_
              refine x_aload_n (pc := 19) dX7_side_19 rfl rfl ?_
              refine x_iload_n (pc := 20) dX7_side_20 rfl rfl ?_
              refine x_iconst (pc := 21) (v := 2) dX7_side_21 rfl ?_
              refine x_Vi (pc := 22) ks_X7_80 dX7_side_22 (tb_106) rfl rfl (((hX7_of1 (f := 2) hm8 (by decide)).v (hE1.m hk (by decide))).v eu) rfl rfl rfl (Nat.le_of_ble_eq_true rfl) ?_
              refine x_iload_n (pc := 25) dX7_side_25 rfl rfl ?_
              refine x_iconst (pc := 26) (v := 1) dX7_side_26 rfl ?_
              refine x_icmp_ne (pc := 27) dX7_side_27 (tgt := 34) rfl (fun h27 => ?_) (fun h27 => ?_)
              ·
                refine x_iconst (pc := 34) (v := 0) dX7_side_34 rfl ?_
                refine x_Vi (pc := 35) ks_X7_93 dX7_side_35 (tb_106) rfl rfl ((hX7_sideF hG1.gb hm8 ((hE1.m hk (by decide)).trans hc.1) hc.2 hu).v (sF_eq hE1 hk hc.2 eu)) rfl rfl rfl (Nat.le_of_ble_eq_true rfl) ?_
                refine x_goto (pc := 38) dX7_side_38 (tgt := 46) rfl ?_
                refine x_iret (pc := 46) dX7_side_46 rfl (by first | rfl | exact fv_nz _) ?_
                exact ⟨rfl, pFr.rfl', rfl, rfl, fun _ _ _ => pEq.rfl'⟩
              ·
                exact absurd h27 (by decide)
      · skip
        refine pOp.qry (v := pSd (M 0) nb k (pCo (M 0) k) (M 0 (fM k 2))) I ?_ (fun M1 hF => ?_)
        · skip
          refine fv_P.of (ls := [some (.ref 0), some (.int (nI k)), some (.int (nI 1))]) (by decide) (Nat.le_of_ble_eq_true rfl) rfl ?_
          refine x_aload_n (pc := 0) dX6_side_0 rfl rfl ?_
          refine x_geta (pc := 1) fl_X6_12 dX6_side_1 (tb_fv) rfl ?_
          refine x_iload_n (pc := 4) dX6_side_4 rfl rfl ?_
          refine x_Vi (pc := 5) ks_X6_94 dX6_side_5 (tb_st (by assumption)) rfl rfl (hHm hM) rfl rfl rfl (Nat.le_of_ble_eq_true rfl) ?_
          refine x_ifb_eq (pc := 8) dX6_side_8 (tgt := 19) rfl (fun h8 => ?_) (fun h8 => ?_)
          ·
            contradiction
          ·
            refine x_iload_n (pc := 11) dX6_side_11 rfl rfl ?_
            refine x_iconst (pc := 12) (v := 1) dX6_side_12 rfl ?_
            refine x_Si (pc := 13) ks_X6_51 dX6_side_13 (hX6_isUpTo) rfl rfl rfl (Nat.le_of_ble_eq_true rfl) ?_
            refine x_ifb_ne (pc := 16) dX6_side_16 (tgt := 26) rfl (fun h16 => ?_) (fun h16 => ?_)
            ·
              refine x_iload_n (pc := 26) dX6_side_26 rfl rfl ?_
              refine x_iconst (pc := 27) (v := 1) dX6_side_27 rfl ?_
              refine x_icmp_ne (pc := 28) dX6_side_28 (tgt := 50) rfl (fun h28 => ?_) (fun h28 => ?_)
              ·
                exact absurd rfl h28
              ·
                refine x_aload_n (pc := 31) dX6_side_31 rfl rfl ?_
                refine x_geta (pc := 32) fl_X6_12 dX6_side_32 (tb_fv) rfl ?_
                refine x_aload_n (pc := 35) dX6_side_35 rfl rfl ?_
                refine x_geta (pc := 36) fl_X6_12 dX6_side_36 (tb_fv) rfl ?_
                refine x_geta (pc := 39) fl_X6_97 dX6_side_39 (tb_st (by assumption)) rfl ?_
                refine x_iload_n (pc := 42) dX6_side_42 rfl rfl ?_
                refine x_motion (pc := 43) dX6_side_43 (by assumption) (rfl) (by first | assumption | decide | omega) ?_
                refine x_Vi (pc := 44) ks_X6_116 dX6_side_44 (tb_st (by assumption)) rfl rfl (hX4_droppedFor hs0 hB hb hK hm8 hc.1 hc.2) rfl rfl rfl (Nat.le_of_ble_eq_true rfl) ?_
                refine x_goto (pc := 47) dX6_side_47 (tgt := 66) rfl ?_
                refine x_iret (pc := 66) dX6_side_66 rfl (by first | rfl | exact fv_nz _) ?_
                exact ⟨rfl, pFr.rfl'⟩
            ·
              contradiction
        · skip
          have e22 : M1 22 = M 22 := hF 22 (by decide)
          have hG1 : pGd (M1 22) nb nm := by rw [e22]; exact hG2
          have hE1 : pEq nb nm (M1 22) (M 0) := by rw [e22]; exact hE
          have hB1 := hG1.1
          have hM1 := hG1.2.2.1
          refine fv_P.of (ls := [some (.ref 106), some (.int (nI k)), some (.int (nI 1))]) (by decide) (Nat.le_of_ble_eq_true rfl) rfl ?_
          refine x_aload_n (pc := 0) dX7_side_0 rfl rfl ?_
          refine x_iload_n (pc := 1) dX7_side_1 rfl rfl ?_
          refine x_Vi (pc := 2) ks_X7_126 dX7_side_2 (tb_106) rfl rfl (hX7_isMotion (x := nI nm) hM1) rfl rfl rfl (Nat.le_of_ble_eq_true rfl) ?_
          refine x_ifb_eq (pc := 5) dX7_side_5 (tgt := 41) rfl (fun h5 => ?_) (fun h5 => ?_)
          ·
            contradiction
          ·
            refine x_iload_n (pc := 8) dX7_side_8 rfl rfl ?_
            refine x_iconst (pc := 9) (v := 0) dX7_side_9 rfl ?_
            refine x_iconst (pc := 10) (v := 1) dX7_side_10 rfl ?_
            refine x_Si (pc := 11) ks_X7_60 dX7_side_11 (hX7_in1) rfl rfl rfl (Nat.le_of_ble_eq_true rfl) ?_
            refine x_ifb_eq (pc := 14) dX7_side_14 (tgt := 41) rfl (fun h14 => ?_) (fun h14 => ?_)
            ·
              contradiction
            ·
              refine x_aload_n (pc := 17) dX7_side_17 rfl rfl ?_
              refine x_iload_n (pc := 18) dX7_side_18 rfl rfl ?_
              refine x_aload_n (pc := 19) dX7_side_19 rfl rfl ?_
              refine x_iload_n (pc := 20) dX7_side_20 rfl rfl ?_
              refine x_iconst (pc := 21) (v := 2) dX7_side_21 rfl ?_
              refine x_Vi (pc := 22) ks_X7_80 dX7_side_22 (tb_106) rfl rfl (((hX7_of1 (f := 2) hm8 (by decide)).v (hE1.m hk (by decide))).v eu) rfl rfl rfl (Nat.le_of_ble_eq_true rfl) ?_
              refine x_iload_n (pc := 25) dX7_side_25 rfl rfl ?_
              refine x_iconst (pc := 26) (v := 1) dX7_side_26 rfl ?_
              refine x_icmp_ne (pc := 27) dX7_side_27 (tgt := 34) rfl (fun h27 => ?_) (fun h27 => ?_)
              ·
                exact absurd rfl h27
              ·
                refine x_iconst (pc := 30) (v := 1) dX7_side_30 rfl ?_
                refine x_goto (pc := 31) dX7_side_31 (tgt := 35) rfl ?_
                refine x_Vi (pc := 35) ks_X7_93 dX7_side_35 (tb_106) rfl rfl ((hX7_sideT hG1.gb hm8 ((hE1.m hk (by decide)).trans hc.1) hc.2).v (sT_eq hE1 hk hc.2 eu)) rfl rfl rfl (Nat.le_of_ble_eq_true rfl) ?_
                refine x_goto (pc := 38) dX7_side_38 (tgt := 46) rfl ?_
                refine x_iret (pc := 46) dX7_side_46 rfl (by first | rfl | exact fv_nz _) ?_
                exact ⟨rfl, pFr.rfl', rfl, rfl, fun _ _ _ => pEq.rfl'⟩
    · skip
      refine pOp.bad (v := -1000001) 0 I ?_ (fun M1 hF => ?_)
      · skip
        refine fv_F.of (ls := [some (.ref 0), some (.int m), some (.int s)]) (by decide) (Nat.le_of_ble_eq_true rfl) rfl ?_
        refine x_aload_n (pc := 0) dX6_side_0 rfl rfl ?_
        refine x_geta (pc := 1) fl_X6_12 dX6_side_1 (tb_fv) rfl ?_
        refine x_iload_n (pc := 4) dX6_side_4 rfl rfl ?_
        refine x_Vi (pc := 5) ks_X6_94 dX6_side_5 (tb_st (by assumption)) rfl rfl (hHm hM) rfl rfl rfl (Nat.le_of_ble_eq_true rfl) ?_
        refine x_ifb_eq (pc := 8) dX6_side_8 (tgt := 19) rfl (fun h8 => ?_) (fun h8 => ?_)
        ·
          contradiction
        ·
          refine x_iload_n (pc := 11) dX6_side_11 rfl rfl ?_
          refine x_iconst (pc := 12) (v := 1) dX6_side_12 rfl ?_
          refine x_Si (pc := 13) ks_X6_51 dX6_side_13 (hX6_isUpTo) rfl rfl rfl (Nat.le_of_ble_eq_true rfl) ?_
          refine x_ifb_ne (pc := 16) dX6_side_16 (tgt := 26) rfl (fun h16 => ?_) (fun h16 => ?_)
          ·
            contradiction
          ·
            refine x_aload_n (pc := 19) dX6_side_19 rfl rfl ?_
            refine x_ldc (pc := 20) kc_X6_55 dX6_side_20 ?_
            refine x_Vi (pc := 22) ks_X6_56 dX6_side_22 (tb_fv) rfl rfl (hX6_fin 0 (-1000001) (by decide +kernel) (by decide)) rfl rfl rfl (Nat.le_of_ble_eq_true rfl) ?_
            refine x_iret (pc := 25) dX6_side_25 rfl (by first | rfl | exact fv_nz _) ?_
            exact ⟨rfl, rfl⟩
      · skip
        have e22 : M1 22 = M 22 := hF 22 (by decide)
        have hG1 : pGd (M1 22) nb nm := by rw [e22]; exact hG2
        have hE1 : pEq nb nm (M1 22) (M 0) := by rw [e22]; exact hE
        have hB1 := hG1.1
        have hM1 := hG1.2.2.1
        refine fv_F.of (ls := [some (.ref 106), some (.int m), some (.int s)]) (by decide) (Nat.le_of_ble_eq_true rfl) rfl ?_
        refine x_aload_n (pc := 0) dX7_side_0 rfl rfl ?_
        refine x_iload_n (pc := 1) dX7_side_1 rfl rfl ?_
        refine x_Vi (pc := 2) ks_X7_126 dX7_side_2 (tb_106) rfl rfl (hX7_isMotion (x := nI nm) hM1) rfl rfl rfl (Nat.le_of_ble_eq_true rfl) ?_
        refine x_ifb_eq (pc := 5) dX7_side_5 (tgt := 41) rfl (fun h5 => ?_) (fun h5 => ?_)
        ·
          contradiction
        ·
          refine x_iload_n (pc := 8) dX7_side_8 rfl rfl ?_
          refine x_iconst (pc := 9) (v := 0) dX7_side_9 rfl ?_
          refine x_iconst (pc := 10) (v := 1) dX7_side_10 rfl ?_
          refine x_Si (pc := 11) ks_X7_60 dX7_side_11 (hX7_in1) rfl rfl rfl (Nat.le_of_ble_eq_true rfl) ?_
          refine x_ifb_eq (pc := 14) dX7_side_14 (tgt := 41) rfl (fun h14 => ?_) (fun h14 => ?_)
          ·
            refine x_aload_n (pc := 41) dX7_side_41 rfl rfl ?_
            refine x_iconst (pc := 42) (v := 0) dX7_side_42 rfl ?_
            refine x_Vi (pc := 43) ks_X7_114 dX7_side_43 (tb_106) rfl rfl (hX7_noL 0 (-1000001) (by decide) (by decide +kernel)) rfl rfl rfl (Nat.le_of_ble_eq_true rfl) ?_
            refine x_iret (pc := 46) dX7_side_46 rfl (by first | rfl | exact fv_nz _) ?_
            exact ⟨rfl, rfl⟩
          ·
            contradiction
  · skip
    refine pOp.bad (v := -1000001) 0 I ?_ (fun M1 hF => ?_)
    · skip
      refine fv_F.of (ls := [some (.ref 0), some (.int m), some (.int s)]) (by decide) (Nat.le_of_ble_eq_true rfl) rfl ?_
      refine x_aload_n (pc := 0) dX6_side_0 rfl rfl ?_
      refine x_geta (pc := 1) fl_X6_12 dX6_side_1 (tb_fv) rfl ?_
      refine x_iload_n (pc := 4) dX6_side_4 rfl rfl ?_
      refine x_Vi (pc := 5) ks_X6_94 dX6_side_5 (tb_st (by assumption)) rfl rfl (hHm hM) rfl rfl rfl (Nat.le_of_ble_eq_true rfl) ?_
      refine x_ifb_eq (pc := 8) dX6_side_8 (tgt := 19) rfl (fun h8 => ?_) (fun h8 => ?_)
      ·
        refine x_aload_n (pc := 19) dX6_side_19 rfl rfl ?_
        refine x_ldc (pc := 20) kc_X6_55 dX6_side_20 ?_
        refine x_Vi (pc := 22) ks_X6_56 dX6_side_22 (tb_fv) rfl rfl (hX6_fin 0 (-1000001) (by decide +kernel) (by decide)) rfl rfl rfl (Nat.le_of_ble_eq_true rfl) ?_
        refine x_iret (pc := 25) dX6_side_25 rfl (by first | rfl | exact fv_nz _) ?_
        exact ⟨rfl, rfl⟩
      ·
        contradiction
    · skip
      have e22 : M1 22 = M 22 := hF 22 (by decide)
      have hG1 : pGd (M1 22) nb nm := by rw [e22]; exact hG2
      have hE1 : pEq nb nm (M1 22) (M 0) := by rw [e22]; exact hE
      have hB1 := hG1.1
      have hM1 := hG1.2.2.1
      refine fv_F.of (ls := [some (.ref 106), some (.int m), some (.int s)]) (by decide) (Nat.le_of_ble_eq_true rfl) rfl ?_
      refine x_aload_n (pc := 0) dX7_side_0 rfl rfl ?_
      refine x_iload_n (pc := 1) dX7_side_1 rfl rfl ?_
      refine x_Vi (pc := 2) ks_X7_126 dX7_side_2 (tb_106) rfl rfl (hX7_isMotion (x := nI nm) hM1) rfl rfl rfl (Nat.le_of_ble_eq_true rfl) ?_
      refine x_ifb_eq (pc := 5) dX7_side_5 (tgt := 41) rfl (fun h5 => ?_) (fun h5 => ?_)
      ·
        refine x_aload_n (pc := 41) dX7_side_41 rfl rfl ?_
        refine x_iconst (pc := 42) (v := 0) dX7_side_42 rfl ?_
        refine x_Vi (pc := 43) ks_X7_114 dX7_side_43 (tb_106) rfl rfl (hX7_noL 0 (-1000001) (by decide) (by decide +kernel)) rfl rfl rfl (Nat.le_of_ble_eq_true rfl) ?_
        refine x_iret (pc := 46) dX7_side_46 rfl (by first | rfl | exact fv_nz _) ?_
        exact ⟨rfl, rfl⟩
      ·
        contradiction
theorem op_told {E : fv_E} {m q : Int32} {M : fv_M} (I : pInv M) : pOp E mX6_told mX7_told [.int m, .int q] M := by
  obtain ⟨nb, nm, hG, hE, t, ht, eT⟩ := I.1
  have hs0 : 0 < 3 := by decide
  have hs1 : 1 < 3 := by decide
  have hB := hG.1
  have hb := hG.2.1
  have hM := hG.2.2.1
  have hn := hG.2.2.2.1
  have hK := hG.K
  have hC := hG.C
  have hG2 : pGd (M 22) nb nm := hG.cg hE
  by_cases hm : 0 ≤ m ∧ m ≤ nI nm - 1
  · by_cases hq : 0 ≤ q ∧ q ≤ 4
    · obtain ⟨k, hk, rfl⟩ := pUx (by omega) hm
      obtain ⟨z, hz, rfl⟩ := pUm (n := 4) (by decide) hq
      have hm8 : k < 8 := by omega
      refine pOp.qry (v := M 0 (fM k z)) I ?_ (fun M1 hF => ?_)
      · skip
        refine fv_P.of (ls := [some (.ref 0), some (.int (nI k)), some (.int (nI z))]) (by decide) (Nat.le_of_ble_eq_true rfl) rfl ?_
        refine x_aload_n (pc := 0) dX6_told_0 rfl rfl ?_
        refine x_geta (pc := 1) fl_X6_12 dX6_told_1 (tb_fv) rfl ?_
        refine x_iload_n (pc := 4) dX6_told_4 rfl rfl ?_
        refine x_Vi (pc := 5) ks_X6_94 dX6_told_5 (tb_st (by assumption)) rfl rfl (hHm hM) rfl rfl rfl (Nat.le_of_ble_eq_true rfl) ?_
        refine x_ifb_eq (pc := 8) dX6_told_8 (tgt := 19) rfl (fun h8 => ?_) (fun h8 => ?_)
        ·
          contradiction
        ·
          refine x_iload_n (pc := 11) dX6_told_11 rfl rfl ?_
          refine x_iconst (pc := 12) (v := 4) dX6_told_12 rfl ?_
          refine x_Si (pc := 13) ks_X6_51 dX6_told_13 (hX6_isUpTo) rfl rfl rfl (Nat.le_of_ble_eq_true rfl) ?_
          refine x_ifb_ne (pc := 16) dX6_told_16 (tgt := 26) rfl (fun h16 => ?_) (fun h16 => ?_)
          ·
            refine x_aload_n (pc := 26) dX6_told_26 rfl rfl ?_
            refine x_geta (pc := 27) fl_X6_12 dX6_told_27 (tb_fv) rfl ?_
            refine x_geta (pc := 30) fl_X6_97 dX6_told_30 (tb_st (by assumption)) rfl ?_
            refine x_iload_n (pc := 33) dX6_told_33 rfl rfl ?_
            refine x_motion (pc := 34) dX6_told_34 (by assumption) (rfl) (by first | assumption | decide | omega) ?_
            refine x_iload_n (pc := 35) dX6_told_35 rfl rfl ?_
            refine x_Vi (pc := 36) ks_X6_101 dX6_told_36 (tb_m (by assumption) (by assumption)) rfl rfl (hX1_feature hs0 hm8 (by omega)) rfl rfl rfl (Nat.le_of_ble_eq_true rfl) ?_
            refine x_iret (pc := 39) dX6_told_39 rfl (by first | rfl | exact fv_nz _) ?_
            exact ⟨rfl, pFr.rfl'⟩
          ·
            contradiction
      · skip
        have e22 : M1 22 = M 22 := hF 22 (by decide)
        have hG1 : pGd (M1 22) nb nm := by rw [e22]; exact hG2
        have hE1 : pEq nb nm (M1 22) (M 0) := by rw [e22]; exact hE
        have hB1 := hG1.1
        have hM1 := hG1.2.2.1
        refine fv_P.of (ls := [some (.ref 106), some (.int (nI k)), some (.int (nI z))]) (by decide) (Nat.le_of_ble_eq_true rfl) rfl ?_
        refine x_aload_n (pc := 0) dX7_told_0 rfl rfl ?_
        refine x_iload_n (pc := 1) dX7_told_1 rfl rfl ?_
        refine x_Vi (pc := 2) ks_X7_126 dX7_told_2 (tb_106) rfl rfl (hX7_isMotion (x := nI nm) hM1) rfl rfl rfl (Nat.le_of_ble_eq_true rfl) ?_
        refine x_ifb_eq (pc := 5) dX7_told_5 (tgt := 26) rfl (fun h5 => ?_) (fun h5 => ?_)
        ·
          contradiction
        ·
          refine x_iload_n (pc := 8) dX7_told_8 rfl rfl ?_
          refine x_iconst (pc := 9) (v := 0) dX7_told_9 rfl ?_
          refine x_iconst (pc := 10) (v := 4) dX7_told_10 rfl ?_
          refine x_Si (pc := 11) ks_X7_60 dX7_told_11 (hX7_in1) rfl rfl rfl (Nat.le_of_ble_eq_true rfl) ?_
          refine x_ifb_eq (pc := 14) dX7_told_14 (tgt := 26) rfl (fun h14 => ?_) (fun h14 => ?_)
          ·
            contradiction
          ·
            refine x_aload_n (pc := 17) dX7_told_17 rfl rfl ?_
            refine x_iload_n (pc := 18) dX7_told_18 rfl rfl ?_
            refine x_iload_n (pc := 19) dX7_told_19 rfl rfl ?_
            refine x_Vi (pc := 20) ks_X7_80 dX7_told_20 (tb_106) rfl rfl ((hX7_of1 hm8 (by omega)).v (hE1.m hk (by omega))) rfl rfl rfl (Nat.le_of_ble_eq_true rfl) ?_
            refine x_goto (pc := 23) dX7_told_23 (tgt := 31) rfl ?_
            refine x_iret (pc := 31) dX7_told_31 rfl (by first | rfl | exact fv_nz _) ?_
            exact ⟨rfl, pFr.rfl', rfl, rfl, fun _ _ _ => pEq.rfl'⟩
    · skip
      refine pOp.bad (v := -1000001) 0 I ?_ (fun M1 hF => ?_)
      · skip
        refine fv_F.of (ls := [some (.ref 0), some (.int m), some (.int q)]) (by decide) (Nat.le_of_ble_eq_true rfl) rfl ?_
        refine x_aload_n (pc := 0) dX6_told_0 rfl rfl ?_
        refine x_geta (pc := 1) fl_X6_12 dX6_told_1 (tb_fv) rfl ?_
        refine x_iload_n (pc := 4) dX6_told_4 rfl rfl ?_
        refine x_Vi (pc := 5) ks_X6_94 dX6_told_5 (tb_st (by assumption)) rfl rfl (hHm hM) rfl rfl rfl (Nat.le_of_ble_eq_true rfl) ?_
        refine x_ifb_eq (pc := 8) dX6_told_8 (tgt := 19) rfl (fun h8 => ?_) (fun h8 => ?_)
        ·
          contradiction
        ·
          refine x_iload_n (pc := 11) dX6_told_11 rfl rfl ?_
          refine x_iconst (pc := 12) (v := 4) dX6_told_12 rfl ?_
          refine x_Si (pc := 13) ks_X6_51 dX6_told_13 (hX6_isUpTo) rfl rfl rfl (Nat.le_of_ble_eq_true rfl) ?_
          refine x_ifb_ne (pc := 16) dX6_told_16 (tgt := 26) rfl (fun h16 => ?_) (fun h16 => ?_)
          ·
            contradiction
          ·
            refine x_aload_n (pc := 19) dX6_told_19 rfl rfl ?_
            refine x_ldc (pc := 20) kc_X6_55 dX6_told_20 ?_
            refine x_Vi (pc := 22) ks_X6_56 dX6_told_22 (tb_fv) rfl rfl (hX6_fin 0 (-1000001) (by decide +kernel) (by decide)) rfl rfl rfl (Nat.le_of_ble_eq_true rfl) ?_
            refine x_iret (pc := 25) dX6_told_25 rfl (by first | rfl | exact fv_nz _) ?_
            exact ⟨rfl, rfl⟩
      · skip
        have e22 : M1 22 = M 22 := hF 22 (by decide)
        have hG1 : pGd (M1 22) nb nm := by rw [e22]; exact hG2
        have hE1 : pEq nb nm (M1 22) (M 0) := by rw [e22]; exact hE
        have hB1 := hG1.1
        have hM1 := hG1.2.2.1
        refine fv_F.of (ls := [some (.ref 106), some (.int m), some (.int q)]) (by decide) (Nat.le_of_ble_eq_true rfl) rfl ?_
        refine x_aload_n (pc := 0) dX7_told_0 rfl rfl ?_
        refine x_iload_n (pc := 1) dX7_told_1 rfl rfl ?_
        refine x_Vi (pc := 2) ks_X7_126 dX7_told_2 (tb_106) rfl rfl (hX7_isMotion (x := nI nm) hM1) rfl rfl rfl (Nat.le_of_ble_eq_true rfl) ?_
        refine x_ifb_eq (pc := 5) dX7_told_5 (tgt := 26) rfl (fun h5 => ?_) (fun h5 => ?_)
        ·
          contradiction
        ·
          refine x_iload_n (pc := 8) dX7_told_8 rfl rfl ?_
          refine x_iconst (pc := 9) (v := 0) dX7_told_9 rfl ?_
          refine x_iconst (pc := 10) (v := 4) dX7_told_10 rfl ?_
          refine x_Si (pc := 11) ks_X7_60 dX7_told_11 (hX7_in1) rfl rfl rfl (Nat.le_of_ble_eq_true rfl) ?_
          refine x_ifb_eq (pc := 14) dX7_told_14 (tgt := 26) rfl (fun h14 => ?_) (fun h14 => ?_)
          ·
            refine x_aload_n (pc := 26) dX7_told_26 rfl rfl ?_
            refine x_iconst (pc := 27) (v := 0) dX7_told_27 rfl ?_
            refine x_Vi (pc := 28) ks_X7_114 dX7_told_28 (tb_106) rfl rfl (hX7_noL 0 (-1000001) (by decide) (by decide +kernel)) rfl rfl rfl (Nat.le_of_ble_eq_true rfl) ?_
            refine x_iret (pc := 31) dX7_told_31 rfl (by first | rfl | exact fv_nz _) ?_
            exact ⟨rfl, rfl⟩
          ·
            contradiction
  · skip
    refine pOp.bad (v := -1000001) 0 I ?_ (fun M1 hF => ?_)
    · skip
      refine fv_F.of (ls := [some (.ref 0), some (.int m), some (.int q)]) (by decide) (Nat.le_of_ble_eq_true rfl) rfl ?_
      refine x_aload_n (pc := 0) dX6_told_0 rfl rfl ?_
      refine x_geta (pc := 1) fl_X6_12 dX6_told_1 (tb_fv) rfl ?_
      refine x_iload_n (pc := 4) dX6_told_4 rfl rfl ?_
      refine x_Vi (pc := 5) ks_X6_94 dX6_told_5 (tb_st (by assumption)) rfl rfl (hHm hM) rfl rfl rfl (Nat.le_of_ble_eq_true rfl) ?_
      refine x_ifb_eq (pc := 8) dX6_told_8 (tgt := 19) rfl (fun h8 => ?_) (fun h8 => ?_)
      ·
        refine x_aload_n (pc := 19) dX6_told_19 rfl rfl ?_
        refine x_ldc (pc := 20) kc_X6_55 dX6_told_20 ?_
        refine x_Vi (pc := 22) ks_X6_56 dX6_told_22 (tb_fv) rfl rfl (hX6_fin 0 (-1000001) (by decide +kernel) (by decide)) rfl rfl rfl (Nat.le_of_ble_eq_true rfl) ?_
        refine x_iret (pc := 25) dX6_told_25 rfl (by first | rfl | exact fv_nz _) ?_
        exact ⟨rfl, rfl⟩
      ·
        contradiction
    · skip
      have e22 : M1 22 = M 22 := hF 22 (by decide)
      have hG1 : pGd (M1 22) nb nm := by rw [e22]; exact hG2
      have hE1 : pEq nb nm (M1 22) (M 0) := by rw [e22]; exact hE
      have hB1 := hG1.1
      have hM1 := hG1.2.2.1
      refine fv_F.of (ls := [some (.ref 106), some (.int m), some (.int q)]) (by decide) (Nat.le_of_ble_eq_true rfl) rfl ?_
      refine x_aload_n (pc := 0) dX7_told_0 rfl rfl ?_
      refine x_iload_n (pc := 1) dX7_told_1 rfl rfl ?_
      refine x_Vi (pc := 2) ks_X7_126 dX7_told_2 (tb_106) rfl rfl (hX7_isMotion (x := nI nm) hM1) rfl rfl rfl (Nat.le_of_ble_eq_true rfl) ?_
      refine x_ifb_eq (pc := 5) dX7_told_5 (tgt := 26) rfl (fun h5 => ?_) (fun h5 => ?_)
      ·
        refine x_aload_n (pc := 26) dX7_told_26 rfl rfl ?_
        refine x_iconst (pc := 27) (v := 0) dX7_told_27 rfl ?_
        refine x_Vi (pc := 28) ks_X7_114 dX7_told_28 (tb_106) rfl rfl (hX7_noL 0 (-1000001) (by decide) (by decide +kernel)) rfl rfl rfl (Nat.le_of_ble_eq_true rfl) ?_
        refine x_iret (pc := 31) dX7_told_31 rfl (by first | rfl | exact fv_nz _) ?_
        exact ⟨rfl, rfl⟩
      ·
        contradiction
theorem op_of {E : fv_E} {b q : Int32} {M : fv_M} (I : pInv M) : pOp E mX6_of mX7_of [.int b, .int q] M := by
  obtain ⟨nb, nm, hG, hE, t, ht, eT⟩ := I.1
  have hs0 : 0 < 3 := by decide
  have hs1 : 1 < 3 := by decide
  have hB := hG.1
  have hb := hG.2.1
  have hM := hG.2.2.1
  have hn := hG.2.2.2.1
  have hK := hG.K
  have hC := hG.C
  have hG2 : pGd (M 22) nb nm := hG.cg hE
  by_cases hbb : 0 ≤ b ∧ b ≤ nI nb - 1
  · by_cases hq : 0 ≤ q ∧ q ≤ 8
    · obtain ⟨k, hk, rfl⟩ := pUx (by omega) hbb
      obtain ⟨z, hz, rfl⟩ := pUm (n := 8) (by decide) hq
      have hb8 : k < 8 := by omega
      have hv : pFeat (M 22) k z = pFeat (M 0) k z := pFeat_cg hE hk
      refine pOp.qry (v := pFeat (M 0) k z) I ?_ (fun M1 hF => ?_)
      · skip
        refine fv_P.of (ls := [some (.ref 0), some (.int (nI k)), some (.int (nI z))]) (by decide) (Nat.le_of_ble_eq_true rfl) rfl ?_
        refine x_aload_n (pc := 0) dX6_of_0 rfl rfl ?_
        refine x_geta (pc := 1) fl_X6_12 dX6_of_1 (tb_fv) rfl ?_
        refine x_iload_n (pc := 4) dX6_of_4 rfl rfl ?_
        refine x_Vi (pc := 5) ks_X6_68 dX6_of_5 (tb_st (by assumption)) rfl rfl (hHb hB) rfl rfl rfl (Nat.le_of_ble_eq_true rfl) ?_
        refine x_ifb_eq (pc := 8) dX6_of_8 (tgt := 20) rfl (fun h8 => ?_) (fun h8 => ?_)
        ·
          contradiction
        ·
          refine x_iload_n (pc := 11) dX6_of_11 rfl rfl ?_
          refine x_bipush (pc := 12) (v := 8) dX6_of_12 rfl ?_
          refine x_Si (pc := 14) ks_X6_51 dX6_of_14 (hX6_isUpTo) rfl rfl rfl (Nat.le_of_ble_eq_true rfl) ?_
          refine x_ifb_ne (pc := 17) dX6_of_17 (tgt := 27) rfl (fun h17 => ?_) (fun h17 => ?_)
          ·
            refine x_aload_n (pc := 27) dX6_of_27 rfl rfl ?_
            refine x_geta (pc := 28) fl_X6_12 dX6_of_28 (tb_fv) rfl ?_
            refine x_geta (pc := 31) fl_X6_72 dX6_of_31 (tb_st (by assumption)) rfl ?_
            refine x_iload_n (pc := 34) dX6_of_34 rfl rfl ?_
            refine x_bird (pc := 35) dX6_of_35 (by assumption) (rfl) (by first | assumption | decide | omega) ?_
            refine x_iload_n (pc := 36) dX6_of_36 rfl rfl ?_
            refine x_Vi (pc := 37) ks_X6_76 dX6_of_37 (tb_b (by assumption) (by assumption)) rfl rfl (hX0_feature hs0 hb8 (by omega)) rfl rfl rfl (Nat.le_of_ble_eq_true rfl) ?_
            refine x_iret (pc := 40) dX6_of_40 rfl (by first | rfl | exact fv_nz _) ?_
            exact ⟨rfl, pFr.rfl'⟩
          ·
            contradiction
      · skip
        have e22 : M1 22 = M 22 := hF 22 (by decide)
        have hG1 : pGd (M1 22) nb nm := by rw [e22]; exact hG2
        have hE1 : pEq nb nm (M1 22) (M 0) := by rw [e22]; exact hE
        have hB1 := hG1.1
        have hM1 := hG1.2.2.1
        refine fv_P.of (ls := [some (.ref 106), some (.int (nI k)), some (.int (nI z))]) (by decide) (Nat.le_of_ble_eq_true rfl) rfl ?_
        refine x_aload_n (pc := 0) dX7_of_0 rfl rfl ?_
        refine x_iload_n (pc := 1) dX7_of_1 rfl rfl ?_
        refine x_Vi (pc := 2) ks_X7_120 dX7_of_2 (tb_106) rfl rfl (hX7_isBird (x := nI nb) hB1) rfl rfl rfl (Nat.le_of_ble_eq_true rfl) ?_
        refine x_ifb_eq (pc := 5) dX7_of_5 (tgt := 18) rfl (fun h5 => ?_) (fun h5 => ?_)
        ·
          contradiction
        ·
          refine x_iload_n (pc := 8) dX7_of_8 rfl rfl ?_
          refine x_iconst (pc := 9) (v := 0) dX7_of_9 rfl ?_
          refine x_bipush (pc := 10) (v := 8) dX7_of_10 rfl ?_
          refine x_Si (pc := 12) ks_X7_60 dX7_of_12 (hX7_in1) rfl rfl rfl (Nat.le_of_ble_eq_true rfl) ?_
          refine x_ifb_ne (pc := 15) dX7_of_15 (tgt := 24) rfl (fun h15 => ?_) (fun h15 => ?_)
          ·
            refine x_iload_n (pc := 24) dX7_of_24 rfl rfl ?_
            refine x_bipush (pc := 25) (v := 7) dX7_of_25 rfl ?_
            refine x_icmp_ge (pc := 27) dX7_of_27 (tgt := 39) rfl (fun h27 => ?_) (fun h27 => ?_)
            ·
              have hz7 : ¬ z < 7 := fun q => absurd h27 (nI_ge (b := 7) q (by omega))
              refine x_iload_n (pc := 39) dX7_of_39 rfl rfl ?_
              refine x_bipush (pc := 40) (v := 7) dX7_of_40 rfl ?_
              refine x_icmp_ne (pc := 42) dX7_of_42 (tgt := 53) rfl (fun h42 => ?_) (fun h42 => ?_)
              ·
                have n7 : ¬ z = 7 := fun q => h42 (congrArg nI q)
                refine x_aload_n (pc := 53) dX7_of_53 rfl rfl ?_
                refine x_iload_n (pc := 54) dX7_of_54 rfl rfl ?_
                refine x_Vi (pc := 55) ks_X7_72 dX7_of_55 (tb_106) rfl rfl (hX7_doesFly hb8) rfl rfl rfl (Nat.le_of_ble_eq_true rfl) ?_
                refine x_ifb_eq (pc := 58) dX7_of_58 (tgt := 65) rfl (fun h58 => ?_) (fun h58 => ?_)
                ·
                  refine x_iconst (pc := 65) (v := 0) dX7_of_65 rfl ?_
                  refine x_iret (pc := 66) dX7_of_66 rfl (by first | rfl | exact fv_nz _) ?_
                  refine ⟨?_, pFr.rfl', rfl, rfl, fun _ _ _ => pEq.rfl'⟩
                  rw [← hv, ← e22]
                  unfold pFeat
                  first | (rw [if_pos hz7]; done) | (rw [if_neg hz7, if_pos e7]; done) | (rw [if_neg hz7, if_neg n7]; first | exact fv_rt h58 | exact fv_rf h58)
                ·
                  refine x_iconst (pc := 61) (v := 1) dX7_of_61 rfl ?_
                  refine x_goto (pc := 62) dX7_of_62 (tgt := 66) rfl ?_
                  refine x_iret (pc := 66) dX7_of_66 rfl (by first | rfl | exact fv_nz _) ?_
                  refine ⟨?_, pFr.rfl', rfl, rfl, fun _ _ _ => pEq.rfl'⟩
                  rw [← hv, ← e22]
                  unfold pFeat
                  first | (rw [if_pos hz7]; done) | (rw [if_neg hz7, if_pos e7]; done) | (rw [if_neg hz7, if_neg n7]; first | exact fv_rt h58 | exact fv_rf h58)
              ·
                have e7 : z = 7 := (nI_eq (b := 7) (by omega) (by omega)).mp h42
                refine x_aload_n (pc := 45) dX7_of_45 rfl rfl ?_
                refine x_iload_n (pc := 46) dX7_of_46 rfl rfl ?_
                refine x_Vi (pc := 47) ks_X7_68 dX7_of_47 (tb_106) rfl rfl (hX7_feathers hb8) rfl rfl rfl (Nat.le_of_ble_eq_true rfl) ?_
                refine x_goto (pc := 50) dX7_of_50 (tgt := 66) rfl ?_
                refine x_iret (pc := 66) dX7_of_66 rfl (by first | rfl | exact fv_nz _) ?_
                refine ⟨?_, pFr.rfl', rfl, rfl, fun _ _ _ => pEq.rfl'⟩
                rw [← hv, ← e22]
                unfold pFeat
                first | (rw [if_pos hz7]; done) | (rw [if_neg hz7, if_pos e7]; done) | (rw [if_neg hz7, if_neg n7]; first | exact fv_rt h58 | exact fv_rf h58)
            ·
              have hz7 : z < 7 := Nat.lt_of_not_le (fun q => h27 (nI_le (a := 7) q (by omega)))
              refine x_aload_n (pc := 30) dX7_of_30 rfl rfl ?_
              refine x_iload_n (pc := 31) dX7_of_31 rfl rfl ?_
              refine x_iload_n (pc := 32) dX7_of_32 rfl rfl ?_
              refine x_Vi (pc := 33) ks_X7_64 dX7_of_33 (tb_106) rfl rfl (hX7_get hb8 hz7) rfl rfl rfl (Nat.le_of_ble_eq_true rfl) ?_
              refine x_goto (pc := 36) dX7_of_36 (tgt := 66) rfl ?_
              refine x_iret (pc := 66) dX7_of_66 rfl (by first | rfl | exact fv_nz _) ?_
              refine ⟨?_, pFr.rfl', rfl, rfl, fun _ _ _ => pEq.rfl'⟩
              rw [← hv, ← e22]
              unfold pFeat
              first | (rw [if_pos hz7]; done) | (rw [if_neg hz7, if_pos e7]; done) | (rw [if_neg hz7, if_neg n7]; first | exact fv_rt h58 | exact fv_rf h58)
          ·
            contradiction
    · skip
      refine pOp.bad (v := -1000001) 0 I ?_ (fun M1 hF => ?_)
      · skip
        refine fv_F.of (ls := [some (.ref 0), some (.int b), some (.int q)]) (by decide) (Nat.le_of_ble_eq_true rfl) rfl ?_
        refine x_aload_n (pc := 0) dX6_of_0 rfl rfl ?_
        refine x_geta (pc := 1) fl_X6_12 dX6_of_1 (tb_fv) rfl ?_
        refine x_iload_n (pc := 4) dX6_of_4 rfl rfl ?_
        refine x_Vi (pc := 5) ks_X6_68 dX6_of_5 (tb_st (by assumption)) rfl rfl (hHb hB) rfl rfl rfl (Nat.le_of_ble_eq_true rfl) ?_
        refine x_ifb_eq (pc := 8) dX6_of_8 (tgt := 20) rfl (fun h8 => ?_) (fun h8 => ?_)
        ·
          contradiction
        ·
          refine x_iload_n (pc := 11) dX6_of_11 rfl rfl ?_
          refine x_bipush (pc := 12) (v := 8) dX6_of_12 rfl ?_
          refine x_Si (pc := 14) ks_X6_51 dX6_of_14 (hX6_isUpTo) rfl rfl rfl (Nat.le_of_ble_eq_true rfl) ?_
          refine x_ifb_ne (pc := 17) dX6_of_17 (tgt := 27) rfl (fun h17 => ?_) (fun h17 => ?_)
          ·
            contradiction
          ·
            refine x_aload_n (pc := 20) dX6_of_20 rfl rfl ?_
            refine x_ldc (pc := 21) kc_X6_55 dX6_of_21 ?_
            refine x_Vi (pc := 23) ks_X6_56 dX6_of_23 (tb_fv) rfl rfl (hX6_fin 0 (-1000001) (by decide +kernel) (by decide)) rfl rfl rfl (Nat.le_of_ble_eq_true rfl) ?_
            refine x_iret (pc := 26) dX6_of_26 rfl (by first | rfl | exact fv_nz _) ?_
            exact ⟨rfl, rfl⟩
      · skip
        have e22 : M1 22 = M 22 := hF 22 (by decide)
        have hG1 : pGd (M1 22) nb nm := by rw [e22]; exact hG2
        have hE1 : pEq nb nm (M1 22) (M 0) := by rw [e22]; exact hE
        have hB1 := hG1.1
        have hM1 := hG1.2.2.1
        refine fv_F.of (ls := [some (.ref 106), some (.int b), some (.int q)]) (by decide) (Nat.le_of_ble_eq_true rfl) rfl ?_
        refine x_aload_n (pc := 0) dX7_of_0 rfl rfl ?_
        refine x_iload_n (pc := 1) dX7_of_1 rfl rfl ?_
        refine x_Vi (pc := 2) ks_X7_120 dX7_of_2 (tb_106) rfl rfl (hX7_isBird (x := nI nb) hB1) rfl rfl rfl (Nat.le_of_ble_eq_true rfl) ?_
        refine x_ifb_eq (pc := 5) dX7_of_5 (tgt := 18) rfl (fun h5 => ?_) (fun h5 => ?_)
        ·
          contradiction
        ·
          refine x_iload_n (pc := 8) dX7_of_8 rfl rfl ?_
          refine x_iconst (pc := 9) (v := 0) dX7_of_9 rfl ?_
          refine x_bipush (pc := 10) (v := 8) dX7_of_10 rfl ?_
          refine x_Si (pc := 12) ks_X7_60 dX7_of_12 (hX7_in1) rfl rfl rfl (Nat.le_of_ble_eq_true rfl) ?_
          refine x_ifb_ne (pc := 15) dX7_of_15 (tgt := 24) rfl (fun h15 => ?_) (fun h15 => ?_)
          ·
            contradiction
          ·
            refine x_aload_n (pc := 18) dX7_of_18 rfl rfl ?_
            refine x_iconst (pc := 19) (v := 0) dX7_of_19 rfl ?_
            refine x_Vi (pc := 20) ks_X7_114 dX7_of_20 (tb_106) rfl rfl (hX7_noL 0 (-1000001) (by decide) (by decide +kernel)) rfl rfl rfl (Nat.le_of_ble_eq_true rfl) ?_
            refine x_iret (pc := 23) dX7_of_23 rfl (by first | rfl | exact fv_nz _) ?_
            exact ⟨rfl, rfl⟩
  · skip
    refine pOp.bad (v := -1000001) 0 I ?_ (fun M1 hF => ?_)
    · skip
      refine fv_F.of (ls := [some (.ref 0), some (.int b), some (.int q)]) (by decide) (Nat.le_of_ble_eq_true rfl) rfl ?_
      refine x_aload_n (pc := 0) dX6_of_0 rfl rfl ?_
      refine x_geta (pc := 1) fl_X6_12 dX6_of_1 (tb_fv) rfl ?_
      refine x_iload_n (pc := 4) dX6_of_4 rfl rfl ?_
      refine x_Vi (pc := 5) ks_X6_68 dX6_of_5 (tb_st (by assumption)) rfl rfl (hHb hB) rfl rfl rfl (Nat.le_of_ble_eq_true rfl) ?_
      refine x_ifb_eq (pc := 8) dX6_of_8 (tgt := 20) rfl (fun h8 => ?_) (fun h8 => ?_)
      ·
        refine x_aload_n (pc := 20) dX6_of_20 rfl rfl ?_
        refine x_ldc (pc := 21) kc_X6_55 dX6_of_21 ?_
        refine x_Vi (pc := 23) ks_X6_56 dX6_of_23 (tb_fv) rfl rfl (hX6_fin 0 (-1000001) (by decide +kernel) (by decide)) rfl rfl rfl (Nat.le_of_ble_eq_true rfl) ?_
        refine x_iret (pc := 26) dX6_of_26 rfl (by first | rfl | exact fv_nz _) ?_
        exact ⟨rfl, rfl⟩
      ·
        contradiction
    · skip
      have e22 : M1 22 = M 22 := hF 22 (by decide)
      have hG1 : pGd (M1 22) nb nm := by rw [e22]; exact hG2
      have hE1 : pEq nb nm (M1 22) (M 0) := by rw [e22]; exact hE
      have hB1 := hG1.1
      have hM1 := hG1.2.2.1
      refine fv_F.of (ls := [some (.ref 106), some (.int b), some (.int q)]) (by decide) (Nat.le_of_ble_eq_true rfl) rfl ?_
      refine x_aload_n (pc := 0) dX7_of_0 rfl rfl ?_
      refine x_iload_n (pc := 1) dX7_of_1 rfl rfl ?_
      refine x_Vi (pc := 2) ks_X7_120 dX7_of_2 (tb_106) rfl rfl (hX7_isBird (x := nI nb) hB1) rfl rfl rfl (Nat.le_of_ble_eq_true rfl) ?_
      refine x_ifb_eq (pc := 5) dX7_of_5 (tgt := 18) rfl (fun h5 => ?_) (fun h5 => ?_)
      ·
        refine x_aload_n (pc := 18) dX7_of_18 rfl rfl ?_
        refine x_iconst (pc := 19) (v := 0) dX7_of_19 rfl ?_
        refine x_Vi (pc := 20) ks_X7_114 dX7_of_20 (tb_106) rfl rfl (hX7_noL 0 (-1000001) (by decide) (by decide +kernel)) rfl rfl rfl (Nat.le_of_ble_eq_true rfl) ?_
        refine x_iret (pc := 23) dX7_of_23 rfl (by first | rfl | exact fv_nz _) ?_
        exact ⟨rfl, rfl⟩
      ·
        contradiction
