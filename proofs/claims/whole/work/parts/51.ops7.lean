theorem op_agenda {E : fv_E} {q : Int32} {M : fv_M} (I : pInv M) : pOp E mX6_agenda mX7_agenda [.int q] M := by
  obtain ⟨nb, nm, hG, hE, t, ht, eT⟩ := I.1
  have hs0 : 0 < 3 := by decide
  have hs1 : 1 < 3 := by decide
  have hB := hG.1
  have hb := hG.2.1
  have hM := hG.2.2.1
  have hn := hG.2.2.2.1
  have hK := hG.K
  have hC := hG.C
  have hG2 : pGd (M 22) nb nm := hG.cg hE
  by_cases hq : 0 ≤ q ∧ q ≤ pAll nm
  · obtain ⟨k, hk, rfl⟩ := pAllx hn hq
    have hk8 : k < 256 := Nat.lt_of_lt_of_le hk (pAll_of hn).2.1
    by_cases h5 : pBc k ≤ 5
    · skip
      have hbi : ∀ c0 l0 c1 l1, pBs (M 0) nb (pBc k) (pO k) c0 l0 (pJ k + 1) = pBs (M 0) nb (pBc k) (pO k) c1 l1 (pJ k + 1) := fun c0 l0 c1 l1 => pBs_ind (by omega) c0 l0 c1 l1 _
      have hsk := hX2_seek (E := E) (d := 7) (M := M) hG hk h5
      rw [hbi _ _ 0 0] at hsk
      refine pOp.qry (v := (pBs (M 0) nb (pBc k) (pO k) 0 0 (pJ k + 1)).1) I ?_ (fun M1 hF => ?_)
      · skip
        refine fv_P.of (ls := [some (.ref 0), some (.int (nI k))]) (by decide) (Nat.le_of_ble_eq_true rfl) rfl ?_
        refine x_aload_n (pc := 0) dX6_agenda_0 rfl rfl ?_
        refine x_iload_n (pc := 1) dX6_agenda_1 rfl rfl ?_
        refine x_Vi (pc := 2) ks_X6_187 dX6_agenda_2 (tb_fv) rfl rfl (hX6_isAgenda hM hn hk) rfl rfl rfl (Nat.le_of_ble_eq_true rfl) ?_
        refine x_ifb_ne (pc := 5) dX6_agenda_5 (tgt := 15) rfl (fun h5 => ?_) (fun h5 => ?_)
        ·
          refine x_aload_n (pc := 15) dX6_agenda_15 rfl rfl ?_
          refine x_geta (pc := 16) fl_X6_42 dX6_agenda_16 (tb_fv) rfl ?_
          refine x_aload_n (pc := 19) dX6_agenda_19 rfl rfl ?_
          refine x_geta (pc := 20) fl_X6_12 dX6_agenda_20 (tb_fv) rfl ?_
          refine x_aload_n (pc := 23) dX6_agenda_23 rfl rfl ?_
          refine x_geta (pc := 24) fl_X6_16 dX6_agenda_24 (tb_fv) rfl ?_
          refine x_iload_n (pc := 27) dX6_agenda_27 rfl rfl ?_
          refine x_Vvp (pc := 28) ks_X6_190 dX6_agenda_28 (tb_94) rfl rfl (hsk) rfl rfl rfl (Nat.le_of_ble_eq_true rfl) (fun M2 h2 => ?_)
          refine x_aload_n (pc := 31) dX6_agenda_31 rfl rfl ?_
          refine x_geta (pc := 32) fl_X6_42 dX6_agenda_32 (tb_fv) rfl ?_
          refine x_geti (pc := 35) fl_X6_194 dX6_agenda_35 (tb_94) rfl (h2.2.1) ?_
          refine x_iret (pc := 38) dX6_agenda_38 rfl (by first | rfl | exact fv_nz _) ?_
          exact ⟨rfl, h2.1.mono (by decide)⟩
        ·
          contradiction
      · skip
        have e22 : M1 22 = M 22 := hF 22 (by decide)
        have hG1 : pGd (M1 22) nb nm := by rw [e22]; exact hG2
        have hE1 : pEq nb nm (M1 22) (M 0) := by rw [e22]; exact hE
        have hB1 := hG1.1
        have hM1 := hG1.2.2.1
        have hfi := hX7_findsOrder (E := E) (d := 5) (M := M1) hG1 hk h5
        rw [show pBs (M1 22) nb (pBc k) (pO k) 0 (M1 21 10) (pJ k + 1) = (pBs (M 0) nb (pBc k) (pO k) 0 0 (pJ k + 1)) from (pBs_cg hE1 hb hn hK hC (pO_ib hn hk) _ _ _).trans (hbi _ _ 0 0)] at hfi
        refine fv_P.of (ls := [some (.ref 106), some (.int (nI k))]) (by decide) (Nat.le_of_ble_eq_true rfl) rfl ?_
        refine x_aload_n (pc := 0) dX7_agenda_0 rfl rfl ?_
        refine x_iload_n (pc := 1) dX7_agenda_1 rfl rfl ?_
        refine x_Vi (pc := 2) ks_X7_184 dX7_agenda_2 (tb_106) rfl rfl (hX7_isSet hM1 hn hk) rfl rfl rfl (Nat.le_of_ble_eq_true rfl) ?_
        refine x_ifb_ne (pc := 5) dX7_agenda_5 (tgt := 14) rfl (fun h5 => ?_) (fun h5 => ?_)
        ·
          refine x_aload_n (pc := 14) dX7_agenda_14 rfl rfl ?_
          refine x_iload_n (pc := 15) dX7_agenda_15 rfl rfl ?_
          refine x_Vvp (pc := 16) ks_X7_187 dX7_agenda_16 (tb_106) rfl rfl (hfi) rfl rfl rfl (Nat.le_of_ble_eq_true rfl) (fun M2 h2 => ?_)
          refine x_aload_n (pc := 19) dX7_agenda_19 rfl rfl ?_
          refine x_geti (pc := 20) fl_X7_168 dX7_agenda_20 (tb_106) rfl (h2.2.2.2.1) ?_
          refine x_iret (pc := 23) dX7_agenda_23 rfl (by first | rfl | exact fv_nz _) ?_
          exact ⟨rfl, h2.1.mono (by decide), h2.2.1 3 (by decide) (by decide) (by decide), h2.2.1 12 (by decide) (by decide) (by decide), fun nb' nm' hi => by
              have e1 : nb' = nb := (nI_eq (by have := hi.1.2.1; omega) (by omega)).mp (hi.1.1.symm.trans (by rw [hF 0 (by decide)]; exact hB))
              have e2 : nm' = nm := (nI_eq (by have := hi.1.2.2.2.1; omega) (by omega)).mp (hi.1.2.2.1.symm.trans (by rw [hF 0 (by decide)]; exact hM))
              subst e1; subst e2; exact h2.2.2.1⟩
        ·
          contradiction
    · skip
      refine pOp.bad (v := -1000001) 0 I ?_ (fun M1 hF => ?_)
      · skip
        refine fv_F.of (ls := [some (.ref 0), some (.int (nI k))]) (by decide) (Nat.le_of_ble_eq_true rfl) rfl ?_
        refine x_aload_n (pc := 0) dX6_agenda_0 rfl rfl ?_
        refine x_iload_n (pc := 1) dX6_agenda_1 rfl rfl ?_
        refine x_Vi (pc := 2) ks_X6_187 dX6_agenda_2 (tb_fv) rfl rfl (hX6_isAgenda hM hn hk) rfl rfl rfl (Nat.le_of_ble_eq_true rfl) ?_
        refine x_ifb_ne (pc := 5) dX6_agenda_5 (tgt := 15) rfl (fun h5 => ?_) (fun h5 => ?_)
        ·
          contradiction
        ·
          refine x_aload_n (pc := 8) dX6_agenda_8 rfl rfl ?_
          refine x_ldc (pc := 9) kc_X6_55 dX6_agenda_9 ?_
          refine x_Vi (pc := 11) ks_X6_56 dX6_agenda_11 (tb_fv) rfl rfl (hX6_fin 0 (-1000001) (by decide +kernel) (by decide)) rfl rfl rfl (Nat.le_of_ble_eq_true rfl) ?_
          refine x_iret (pc := 14) dX6_agenda_14 rfl (by first | rfl | exact fv_nz _) ?_
          exact ⟨rfl, rfl⟩
      · skip
        have e22 : M1 22 = M 22 := hF 22 (by decide)
        have hG1 : pGd (M1 22) nb nm := by rw [e22]; exact hG2
        have hE1 : pEq nb nm (M1 22) (M 0) := by rw [e22]; exact hE
        have hB1 := hG1.1
        have hM1 := hG1.2.2.1
        refine fv_F.of (ls := [some (.ref 106), some (.int (nI k))]) (by decide) (Nat.le_of_ble_eq_true rfl) rfl ?_
        refine x_aload_n (pc := 0) dX7_agenda_0 rfl rfl ?_
        refine x_iload_n (pc := 1) dX7_agenda_1 rfl rfl ?_
        refine x_Vi (pc := 2) ks_X7_184 dX7_agenda_2 (tb_106) rfl rfl (hX7_isSet hM1 hn hk) rfl rfl rfl (Nat.le_of_ble_eq_true rfl) ?_
        refine x_ifb_ne (pc := 5) dX7_agenda_5 (tgt := 14) rfl (fun h5 => ?_) (fun h5 => ?_)
        ·
          contradiction
        ·
          refine x_aload_n (pc := 8) dX7_agenda_8 rfl rfl ?_
          refine x_iconst (pc := 9) (v := 0) dX7_agenda_9 rfl ?_
          refine x_Vi (pc := 10) ks_X7_114 dX7_agenda_10 (tb_106) rfl rfl (hX7_noL 0 (-1000001) (by decide) (by decide +kernel)) rfl rfl rfl (Nat.le_of_ble_eq_true rfl) ?_
          refine x_iret (pc := 13) dX7_agenda_13 rfl (by first | rfl | exact fv_nz _) ?_
          exact ⟨rfl, rfl⟩
  · skip
    refine pOp.bad (v := -1000001) 0 I ?_ (fun M1 hF => ?_)
    · skip
      refine fv_F.of (ls := [some (.ref 0), some (.int q)]) (by decide) (Nat.le_of_ble_eq_true rfl) rfl ?_
      refine x_aload_n (pc := 0) dX6_agenda_0 rfl rfl ?_
      refine x_iload_n (pc := 1) dX6_agenda_1 rfl rfl ?_
      refine x_Vi (pc := 2) ks_X6_187 dX6_agenda_2 (tb_fv) rfl rfl (fv_F.v (b := bI False) (hX6_isAgendaF hM hq) (bI_f (fun q => q)).symm) rfl rfl rfl (Nat.le_of_ble_eq_true rfl) ?_
      refine x_ifb_ne (pc := 5) dX6_agenda_5 (tgt := 15) rfl (fun h5 => ?_) (fun h5 => ?_)
      ·
        exact h5.elim
      ·
        refine x_aload_n (pc := 8) dX6_agenda_8 rfl rfl ?_
        refine x_ldc (pc := 9) kc_X6_55 dX6_agenda_9 ?_
        refine x_Vi (pc := 11) ks_X6_56 dX6_agenda_11 (tb_fv) rfl rfl (hX6_fin 0 (-1000001) (by decide +kernel) (by decide)) rfl rfl rfl (Nat.le_of_ble_eq_true rfl) ?_
        refine x_iret (pc := 14) dX6_agenda_14 rfl (by first | rfl | exact fv_nz _) ?_
        exact ⟨rfl, rfl⟩
    · skip
      have e22 : M1 22 = M 22 := hF 22 (by decide)
      have hG1 : pGd (M1 22) nb nm := by rw [e22]; exact hG2
      have hE1 : pEq nb nm (M1 22) (M 0) := by rw [e22]; exact hE
      have hB1 := hG1.1
      have hM1 := hG1.2.2.1
      refine fv_F.of (ls := [some (.ref 106), some (.int q)]) (by decide) (Nat.le_of_ble_eq_true rfl) rfl ?_
      refine x_aload_n (pc := 0) dX7_agenda_0 rfl rfl ?_
      refine x_iload_n (pc := 1) dX7_agenda_1 rfl rfl ?_
      refine x_Vi (pc := 2) ks_X7_184 dX7_agenda_2 (tb_106) rfl rfl (fv_F.v (b := bI False) (hX7_isSetF hM1 hq) (bI_f (fun q => q)).symm) rfl rfl rfl (Nat.le_of_ble_eq_true rfl) ?_
      refine x_ifb_ne (pc := 5) dX7_agenda_5 (tgt := 14) rfl (fun h5 => ?_) (fun h5 => ?_)
      ·
        exact h5.elim
      ·
        refine x_aload_n (pc := 8) dX7_agenda_8 rfl rfl ?_
        refine x_iconst (pc := 9) (v := 0) dX7_agenda_9 rfl ?_
        refine x_Vi (pc := 10) ks_X7_114 dX7_agenda_10 (tb_106) rfl rfl (hX7_noL 0 (-1000001) (by decide) (by decide +kernel)) rfl rfl rfl (Nat.le_of_ble_eq_true rfl) ?_
        refine x_iret (pc := 13) dX7_agenda_13 rfl (by first | rfl | exact fv_nz _) ?_
        exact ⟨rfl, rfl⟩
theorem op_ways {E : fv_E} {q : Int32} {M : fv_M} (I : pInv M) : pOp E mX6_ways mX7_ways [.int q] M := by
  obtain ⟨nb, nm, hG, hE, t, ht, eT⟩ := I.1
  have hs0 : 0 < 3 := by decide
  have hs1 : 1 < 3 := by decide
  have hB := hG.1
  have hb := hG.2.1
  have hM := hG.2.2.1
  have hn := hG.2.2.2.1
  have hK := hG.K
  have hC := hG.C
  have hG2 : pGd (M 22) nb nm := hG.cg hE
  by_cases hq : 0 ≤ q ∧ q ≤ pAll nm
  · obtain ⟨k, hk, rfl⟩ := pAllx hn hq
    have hk8 : k < 256 := Nat.lt_of_lt_of_le hk (pAll_of hn).2.1
    by_cases h5 : pBc k ≤ 5
    · skip
      have hbi : ∀ c0 l0 c1 l1, pBs (M 0) nb (pBc k) (pO k) c0 l0 (pJ k + 1) = pBs (M 0) nb (pBc k) (pO k) c1 l1 (pJ k + 1) := fun c0 l0 c1 l1 => pBs_ind (by omega) c0 l0 c1 l1 _
      have hsk := hX2_seek (E := E) (d := 7) (M := M) hG hk h5
      rw [hbi _ _ 0 0] at hsk
      refine pOp.qry (v := (pBs (M 0) nb (pBc k) (pO k) 0 0 (pJ k + 1)).2.1) I ?_ (fun M1 hF => ?_)
      · skip
        refine fv_P.of (ls := [some (.ref 0), some (.int (nI k))]) (by decide) (Nat.le_of_ble_eq_true rfl) rfl ?_
        refine x_aload_n (pc := 0) dX6_ways_0 rfl rfl ?_
        refine x_iload_n (pc := 1) dX6_ways_1 rfl rfl ?_
        refine x_Vi (pc := 2) ks_X6_187 dX6_ways_2 (tb_fv) rfl rfl (hX6_isAgenda hM hn hk) rfl rfl rfl (Nat.le_of_ble_eq_true rfl) ?_
        refine x_ifb_ne (pc := 5) dX6_ways_5 (tgt := 15) rfl (fun h5 => ?_) (fun h5 => ?_)
        ·
          refine x_aload_n (pc := 15) dX6_ways_15 rfl rfl ?_
          refine x_geta (pc := 16) fl_X6_42 dX6_ways_16 (tb_fv) rfl ?_
          refine x_aload_n (pc := 19) dX6_ways_19 rfl rfl ?_
          refine x_geta (pc := 20) fl_X6_12 dX6_ways_20 (tb_fv) rfl ?_
          refine x_aload_n (pc := 23) dX6_ways_23 rfl rfl ?_
          refine x_geta (pc := 24) fl_X6_16 dX6_ways_24 (tb_fv) rfl ?_
          refine x_iload_n (pc := 27) dX6_ways_27 rfl rfl ?_
          refine x_Vvp (pc := 28) ks_X6_190 dX6_ways_28 (tb_94) rfl rfl (hsk) rfl rfl rfl (Nat.le_of_ble_eq_true rfl) (fun M2 h2 => ?_)
          refine x_aload_n (pc := 31) dX6_ways_31 rfl rfl ?_
          refine x_geta (pc := 32) fl_X6_42 dX6_ways_32 (tb_fv) rfl ?_
          refine x_geti (pc := 35) fl_X6_200 dX6_ways_35 (tb_94) rfl (h2.2.2.1) ?_
          refine x_iret (pc := 38) dX6_ways_38 rfl (by first | rfl | exact fv_nz _) ?_
          exact ⟨rfl, h2.1.mono (by decide)⟩
        ·
          contradiction
      · skip
        have e22 : M1 22 = M 22 := hF 22 (by decide)
        have hG1 : pGd (M1 22) nb nm := by rw [e22]; exact hG2
        have hE1 : pEq nb nm (M1 22) (M 0) := by rw [e22]; exact hE
        have hB1 := hG1.1
        have hM1 := hG1.2.2.1
        have hfi := hX7_findsOrder (E := E) (d := 5) (M := M1) hG1 hk h5
        rw [show pBs (M1 22) nb (pBc k) (pO k) 0 (M1 21 10) (pJ k + 1) = (pBs (M 0) nb (pBc k) (pO k) 0 0 (pJ k + 1)) from (pBs_cg hE1 hb hn hK hC (pO_ib hn hk) _ _ _).trans (hbi _ _ 0 0)] at hfi
        refine fv_P.of (ls := [some (.ref 106), some (.int (nI k))]) (by decide) (Nat.le_of_ble_eq_true rfl) rfl ?_
        refine x_aload_n (pc := 0) dX7_ways_0 rfl rfl ?_
        refine x_iload_n (pc := 1) dX7_ways_1 rfl rfl ?_
        refine x_Vi (pc := 2) ks_X7_184 dX7_ways_2 (tb_106) rfl rfl (hX7_isSet hM1 hn hk) rfl rfl rfl (Nat.le_of_ble_eq_true rfl) ?_
        refine x_ifb_ne (pc := 5) dX7_ways_5 (tgt := 14) rfl (fun h5 => ?_) (fun h5 => ?_)
        ·
          refine x_aload_n (pc := 14) dX7_ways_14 rfl rfl ?_
          refine x_iload_n (pc := 15) dX7_ways_15 rfl rfl ?_
          refine x_Vvp (pc := 16) ks_X7_187 dX7_ways_16 (tb_106) rfl rfl (hfi) rfl rfl rfl (Nat.le_of_ble_eq_true rfl) (fun M2 h2 => ?_)
          refine x_aload_n (pc := 19) dX7_ways_19 rfl rfl ?_
          refine x_geti (pc := 20) fl_X7_172 dX7_ways_20 (tb_106) rfl (h2.2.2.2.2.1) ?_
          refine x_iret (pc := 23) dX7_ways_23 rfl (by first | rfl | exact fv_nz _) ?_
          exact ⟨rfl, h2.1.mono (by decide), h2.2.1 3 (by decide) (by decide) (by decide), h2.2.1 12 (by decide) (by decide) (by decide), fun nb' nm' hi => by
              have e1 : nb' = nb := (nI_eq (by have := hi.1.2.1; omega) (by omega)).mp (hi.1.1.symm.trans (by rw [hF 0 (by decide)]; exact hB))
              have e2 : nm' = nm := (nI_eq (by have := hi.1.2.2.2.1; omega) (by omega)).mp (hi.1.2.2.1.symm.trans (by rw [hF 0 (by decide)]; exact hM))
              subst e1; subst e2; exact h2.2.2.1⟩
        ·
          contradiction
    · skip
      refine pOp.bad (v := -1000001) 0 I ?_ (fun M1 hF => ?_)
      · skip
        refine fv_F.of (ls := [some (.ref 0), some (.int (nI k))]) (by decide) (Nat.le_of_ble_eq_true rfl) rfl ?_
        refine x_aload_n (pc := 0) dX6_ways_0 rfl rfl ?_
        refine x_iload_n (pc := 1) dX6_ways_1 rfl rfl ?_
        refine x_Vi (pc := 2) ks_X6_187 dX6_ways_2 (tb_fv) rfl rfl (hX6_isAgenda hM hn hk) rfl rfl rfl (Nat.le_of_ble_eq_true rfl) ?_
        refine x_ifb_ne (pc := 5) dX6_ways_5 (tgt := 15) rfl (fun h5 => ?_) (fun h5 => ?_)
        ·
          contradiction
        ·
          refine x_aload_n (pc := 8) dX6_ways_8 rfl rfl ?_
          refine x_ldc (pc := 9) kc_X6_55 dX6_ways_9 ?_
          refine x_Vi (pc := 11) ks_X6_56 dX6_ways_11 (tb_fv) rfl rfl (hX6_fin 0 (-1000001) (by decide +kernel) (by decide)) rfl rfl rfl (Nat.le_of_ble_eq_true rfl) ?_
          refine x_iret (pc := 14) dX6_ways_14 rfl (by first | rfl | exact fv_nz _) ?_
          exact ⟨rfl, rfl⟩
      · skip
        have e22 : M1 22 = M 22 := hF 22 (by decide)
        have hG1 : pGd (M1 22) nb nm := by rw [e22]; exact hG2
        have hE1 : pEq nb nm (M1 22) (M 0) := by rw [e22]; exact hE
        have hB1 := hG1.1
        have hM1 := hG1.2.2.1
        refine fv_F.of (ls := [some (.ref 106), some (.int (nI k))]) (by decide) (Nat.le_of_ble_eq_true rfl) rfl ?_
        refine x_aload_n (pc := 0) dX7_ways_0 rfl rfl ?_
        refine x_iload_n (pc := 1) dX7_ways_1 rfl rfl ?_
        refine x_Vi (pc := 2) ks_X7_184 dX7_ways_2 (tb_106) rfl rfl (hX7_isSet hM1 hn hk) rfl rfl rfl (Nat.le_of_ble_eq_true rfl) ?_
        refine x_ifb_ne (pc := 5) dX7_ways_5 (tgt := 14) rfl (fun h5 => ?_) (fun h5 => ?_)
        ·
          contradiction
        ·
          refine x_aload_n (pc := 8) dX7_ways_8 rfl rfl ?_
          refine x_iconst (pc := 9) (v := 0) dX7_ways_9 rfl ?_
          refine x_Vi (pc := 10) ks_X7_114 dX7_ways_10 (tb_106) rfl rfl (hX7_noL 0 (-1000001) (by decide) (by decide +kernel)) rfl rfl rfl (Nat.le_of_ble_eq_true rfl) ?_
          refine x_iret (pc := 13) dX7_ways_13 rfl (by first | rfl | exact fv_nz _) ?_
          exact ⟨rfl, rfl⟩
  · skip
    refine pOp.bad (v := -1000001) 0 I ?_ (fun M1 hF => ?_)
    · skip
      refine fv_F.of (ls := [some (.ref 0), some (.int q)]) (by decide) (Nat.le_of_ble_eq_true rfl) rfl ?_
      refine x_aload_n (pc := 0) dX6_ways_0 rfl rfl ?_
      refine x_iload_n (pc := 1) dX6_ways_1 rfl rfl ?_
      refine x_Vi (pc := 2) ks_X6_187 dX6_ways_2 (tb_fv) rfl rfl (fv_F.v (b := bI False) (hX6_isAgendaF hM hq) (bI_f (fun q => q)).symm) rfl rfl rfl (Nat.le_of_ble_eq_true rfl) ?_
      refine x_ifb_ne (pc := 5) dX6_ways_5 (tgt := 15) rfl (fun h5 => ?_) (fun h5 => ?_)
      ·
        exact h5.elim
      ·
        refine x_aload_n (pc := 8) dX6_ways_8 rfl rfl ?_
        refine x_ldc (pc := 9) kc_X6_55 dX6_ways_9 ?_
        refine x_Vi (pc := 11) ks_X6_56 dX6_ways_11 (tb_fv) rfl rfl (hX6_fin 0 (-1000001) (by decide +kernel) (by decide)) rfl rfl rfl (Nat.le_of_ble_eq_true rfl) ?_
        refine x_iret (pc := 14) dX6_ways_14 rfl (by first | rfl | exact fv_nz _) ?_
        exact ⟨rfl, rfl⟩
    · skip
      have e22 : M1 22 = M 22 := hF 22 (by decide)
      have hG1 : pGd (M1 22) nb nm := by rw [e22]; exact hG2
      have hE1 : pEq nb nm (M1 22) (M 0) := by rw [e22]; exact hE
      have hB1 := hG1.1
      have hM1 := hG1.2.2.1
      refine fv_F.of (ls := [some (.ref 106), some (.int q)]) (by decide) (Nat.le_of_ble_eq_true rfl) rfl ?_
      refine x_aload_n (pc := 0) dX7_ways_0 rfl rfl ?_
      refine x_iload_n (pc := 1) dX7_ways_1 rfl rfl ?_
      refine x_Vi (pc := 2) ks_X7_184 dX7_ways_2 (tb_106) rfl rfl (fv_F.v (b := bI False) (hX7_isSetF hM1 hq) (bI_f (fun q => q)).symm) rfl rfl rfl (Nat.le_of_ble_eq_true rfl) ?_
      refine x_ifb_ne (pc := 5) dX7_ways_5 (tgt := 14) rfl (fun h5 => ?_) (fun h5 => ?_)
      ·
        exact h5.elim
      ·
        refine x_aload_n (pc := 8) dX7_ways_8 rfl rfl ?_
        refine x_iconst (pc := 9) (v := 0) dX7_ways_9 rfl ?_
        refine x_Vi (pc := 10) ks_X7_114 dX7_ways_10 (tb_106) rfl rfl (hX7_noL 0 (-1000001) (by decide) (by decide +kernel)) rfl rfl rfl (Nat.le_of_ble_eq_true rfl) ?_
        refine x_iret (pc := 13) dX7_ways_13 rfl (by first | rfl | exact fv_nz _) ?_
        exact ⟨rfl, rfl⟩
theorem op_left {E : fv_E} {q : Int32} {M : fv_M} (I : pInv M) : pOp E mX6_left mX7_left [.int q] M := by
  obtain ⟨nb, nm, hG, hE, t, ht, eT⟩ := I.1
  have hs0 : 0 < 3 := by decide
  have hs1 : 1 < 3 := by decide
  have hB := hG.1
  have hb := hG.2.1
  have hM := hG.2.2.1
  have hn := hG.2.2.2.1
  have hK := hG.K
  have hC := hG.C
  have hG2 : pGd (M 22) nb nm := hG.cg hE
  by_cases hq : 0 ≤ q ∧ q ≤ pAll nm
  · obtain ⟨k, hk, rfl⟩ := pAllx hn hq
    have hk8 : k < 256 := Nat.lt_of_lt_of_le hk (pAll_of hn).2.1
    by_cases h5 : pBc k ≤ 5
    · skip
      have hbi : ∀ c0 l0 c1 l1, pBs (M 0) nb (pBc k) (pO k) c0 l0 (pJ k + 1) = pBs (M 0) nb (pBc k) (pO k) c1 l1 (pJ k + 1) := fun c0 l0 c1 l1 => pBs_ind (by omega) c0 l0 c1 l1 _
      have hsk := hX2_seek (E := E) (d := 7) (M := M) hG hk h5
      rw [hbi _ _ 0 0] at hsk
      refine pOp.qry (v := (pBs (M 0) nb (pBc k) (pO k) 0 0 (pJ k + 1)).2.2.1) I ?_ (fun M1 hF => ?_)
      · skip
        refine fv_P.of (ls := [some (.ref 0), some (.int (nI k))]) (by decide) (Nat.le_of_ble_eq_true rfl) rfl ?_
        refine x_aload_n (pc := 0) dX6_left_0 rfl rfl ?_
        refine x_iload_n (pc := 1) dX6_left_1 rfl rfl ?_
        refine x_Vi (pc := 2) ks_X6_187 dX6_left_2 (tb_fv) rfl rfl (hX6_isAgenda hM hn hk) rfl rfl rfl (Nat.le_of_ble_eq_true rfl) ?_
        refine x_ifb_ne (pc := 5) dX6_left_5 (tgt := 15) rfl (fun h5 => ?_) (fun h5 => ?_)
        ·
          refine x_aload_n (pc := 15) dX6_left_15 rfl rfl ?_
          refine x_geta (pc := 16) fl_X6_42 dX6_left_16 (tb_fv) rfl ?_
          refine x_aload_n (pc := 19) dX6_left_19 rfl rfl ?_
          refine x_geta (pc := 20) fl_X6_12 dX6_left_20 (tb_fv) rfl ?_
          refine x_aload_n (pc := 23) dX6_left_23 rfl rfl ?_
          refine x_geta (pc := 24) fl_X6_16 dX6_left_24 (tb_fv) rfl ?_
          refine x_iload_n (pc := 27) dX6_left_27 rfl rfl ?_
          refine x_Vvp (pc := 28) ks_X6_190 dX6_left_28 (tb_94) rfl rfl (hsk) rfl rfl rfl (Nat.le_of_ble_eq_true rfl) (fun M2 h2 => ?_)
          refine x_aload_n (pc := 31) dX6_left_31 rfl rfl ?_
          refine x_geta (pc := 32) fl_X6_42 dX6_left_32 (tb_fv) rfl ?_
          refine x_geti (pc := 35) fl_X6_203 dX6_left_35 (tb_94) rfl (h2.2.2.2.1) ?_
          refine x_iret (pc := 38) dX6_left_38 rfl (by first | rfl | exact fv_nz _) ?_
          exact ⟨rfl, h2.1.mono (by decide)⟩
        ·
          contradiction
      · skip
        have e22 : M1 22 = M 22 := hF 22 (by decide)
        have hG1 : pGd (M1 22) nb nm := by rw [e22]; exact hG2
        have hE1 : pEq nb nm (M1 22) (M 0) := by rw [e22]; exact hE
        have hB1 := hG1.1
        have hM1 := hG1.2.2.1
        have hfi := hX7_findsOrder (E := E) (d := 5) (M := M1) hG1 hk h5
        rw [show pBs (M1 22) nb (pBc k) (pO k) 0 (M1 21 10) (pJ k + 1) = (pBs (M 0) nb (pBc k) (pO k) 0 0 (pJ k + 1)) from (pBs_cg hE1 hb hn hK hC (pO_ib hn hk) _ _ _).trans (hbi _ _ 0 0)] at hfi
        refine fv_P.of (ls := [some (.ref 106), some (.int (nI k))]) (by decide) (Nat.le_of_ble_eq_true rfl) rfl ?_
        refine x_aload_n (pc := 0) dX7_left_0 rfl rfl ?_
        refine x_iload_n (pc := 1) dX7_left_1 rfl rfl ?_
        refine x_Vi (pc := 2) ks_X7_184 dX7_left_2 (tb_106) rfl rfl (hX7_isSet hM1 hn hk) rfl rfl rfl (Nat.le_of_ble_eq_true rfl) ?_
        refine x_ifb_ne (pc := 5) dX7_left_5 (tgt := 14) rfl (fun h5 => ?_) (fun h5 => ?_)
        ·
          refine x_aload_n (pc := 14) dX7_left_14 rfl rfl ?_
          refine x_iload_n (pc := 15) dX7_left_15 rfl rfl ?_
          refine x_Vvp (pc := 16) ks_X7_187 dX7_left_16 (tb_106) rfl rfl (hfi) rfl rfl rfl (Nat.le_of_ble_eq_true rfl) (fun M2 h2 => ?_)
          refine x_aload_n (pc := 19) dX7_left_19 rfl rfl ?_
          refine x_geti (pc := 20) fl_X7_178 dX7_left_20 (tb_106) rfl (h2.2.2.2.2.2.1) ?_
          refine x_iret (pc := 23) dX7_left_23 rfl (by first | rfl | exact fv_nz _) ?_
          exact ⟨rfl, h2.1.mono (by decide), h2.2.1 3 (by decide) (by decide) (by decide), h2.2.1 12 (by decide) (by decide) (by decide), fun nb' nm' hi => by
              have e1 : nb' = nb := (nI_eq (by have := hi.1.2.1; omega) (by omega)).mp (hi.1.1.symm.trans (by rw [hF 0 (by decide)]; exact hB))
              have e2 : nm' = nm := (nI_eq (by have := hi.1.2.2.2.1; omega) (by omega)).mp (hi.1.2.2.1.symm.trans (by rw [hF 0 (by decide)]; exact hM))
              subst e1; subst e2; exact h2.2.2.1⟩
        ·
          contradiction
    · skip
      refine pOp.bad (v := -1000001) 0 I ?_ (fun M1 hF => ?_)
      · skip
        refine fv_F.of (ls := [some (.ref 0), some (.int (nI k))]) (by decide) (Nat.le_of_ble_eq_true rfl) rfl ?_
        refine x_aload_n (pc := 0) dX6_left_0 rfl rfl ?_
        refine x_iload_n (pc := 1) dX6_left_1 rfl rfl ?_
        refine x_Vi (pc := 2) ks_X6_187 dX6_left_2 (tb_fv) rfl rfl (hX6_isAgenda hM hn hk) rfl rfl rfl (Nat.le_of_ble_eq_true rfl) ?_
        refine x_ifb_ne (pc := 5) dX6_left_5 (tgt := 15) rfl (fun h5 => ?_) (fun h5 => ?_)
        ·
          contradiction
        ·
          refine x_aload_n (pc := 8) dX6_left_8 rfl rfl ?_
          refine x_ldc (pc := 9) kc_X6_55 dX6_left_9 ?_
          refine x_Vi (pc := 11) ks_X6_56 dX6_left_11 (tb_fv) rfl rfl (hX6_fin 0 (-1000001) (by decide +kernel) (by decide)) rfl rfl rfl (Nat.le_of_ble_eq_true rfl) ?_
          refine x_iret (pc := 14) dX6_left_14 rfl (by first | rfl | exact fv_nz _) ?_
          exact ⟨rfl, rfl⟩
      · skip
        have e22 : M1 22 = M 22 := hF 22 (by decide)
        have hG1 : pGd (M1 22) nb nm := by rw [e22]; exact hG2
        have hE1 : pEq nb nm (M1 22) (M 0) := by rw [e22]; exact hE
        have hB1 := hG1.1
        have hM1 := hG1.2.2.1
        refine fv_F.of (ls := [some (.ref 106), some (.int (nI k))]) (by decide) (Nat.le_of_ble_eq_true rfl) rfl ?_
        refine x_aload_n (pc := 0) dX7_left_0 rfl rfl ?_
        refine x_iload_n (pc := 1) dX7_left_1 rfl rfl ?_
        refine x_Vi (pc := 2) ks_X7_184 dX7_left_2 (tb_106) rfl rfl (hX7_isSet hM1 hn hk) rfl rfl rfl (Nat.le_of_ble_eq_true rfl) ?_
        refine x_ifb_ne (pc := 5) dX7_left_5 (tgt := 14) rfl (fun h5 => ?_) (fun h5 => ?_)
        ·
          contradiction
        ·
          refine x_aload_n (pc := 8) dX7_left_8 rfl rfl ?_
          refine x_iconst (pc := 9) (v := 0) dX7_left_9 rfl ?_
          refine x_Vi (pc := 10) ks_X7_114 dX7_left_10 (tb_106) rfl rfl (hX7_noL 0 (-1000001) (by decide) (by decide +kernel)) rfl rfl rfl (Nat.le_of_ble_eq_true rfl) ?_
          refine x_iret (pc := 13) dX7_left_13 rfl (by first | rfl | exact fv_nz _) ?_
          exact ⟨rfl, rfl⟩
  · skip
    refine pOp.bad (v := -1000001) 0 I ?_ (fun M1 hF => ?_)
    · skip
      refine fv_F.of (ls := [some (.ref 0), some (.int q)]) (by decide) (Nat.le_of_ble_eq_true rfl) rfl ?_
      refine x_aload_n (pc := 0) dX6_left_0 rfl rfl ?_
      refine x_iload_n (pc := 1) dX6_left_1 rfl rfl ?_
      refine x_Vi (pc := 2) ks_X6_187 dX6_left_2 (tb_fv) rfl rfl (fv_F.v (b := bI False) (hX6_isAgendaF hM hq) (bI_f (fun q => q)).symm) rfl rfl rfl (Nat.le_of_ble_eq_true rfl) ?_
      refine x_ifb_ne (pc := 5) dX6_left_5 (tgt := 15) rfl (fun h5 => ?_) (fun h5 => ?_)
      ·
        exact h5.elim
      ·
        refine x_aload_n (pc := 8) dX6_left_8 rfl rfl ?_
        refine x_ldc (pc := 9) kc_X6_55 dX6_left_9 ?_
        refine x_Vi (pc := 11) ks_X6_56 dX6_left_11 (tb_fv) rfl rfl (hX6_fin 0 (-1000001) (by decide +kernel) (by decide)) rfl rfl rfl (Nat.le_of_ble_eq_true rfl) ?_
        refine x_iret (pc := 14) dX6_left_14 rfl (by first | rfl | exact fv_nz _) ?_
        exact ⟨rfl, rfl⟩
    · skip
      have e22 : M1 22 = M 22 := hF 22 (by decide)
      have hG1 : pGd (M1 22) nb nm := by rw [e22]; exact hG2
      have hE1 : pEq nb nm (M1 22) (M 0) := by rw [e22]; exact hE
      have hB1 := hG1.1
      have hM1 := hG1.2.2.1
      refine fv_F.of (ls := [some (.ref 106), some (.int q)]) (by decide) (Nat.le_of_ble_eq_true rfl) rfl ?_
      refine x_aload_n (pc := 0) dX7_left_0 rfl rfl ?_
      refine x_iload_n (pc := 1) dX7_left_1 rfl rfl ?_
      refine x_Vi (pc := 2) ks_X7_184 dX7_left_2 (tb_106) rfl rfl (fv_F.v (b := bI False) (hX7_isSetF hM1 hq) (bI_f (fun q => q)).symm) rfl rfl rfl (Nat.le_of_ble_eq_true rfl) ?_
      refine x_ifb_ne (pc := 5) dX7_left_5 (tgt := 14) rfl (fun h5 => ?_) (fun h5 => ?_)
      ·
        exact h5.elim
      ·
        refine x_aload_n (pc := 8) dX7_left_8 rfl rfl ?_
        refine x_iconst (pc := 9) (v := 0) dX7_left_9 rfl ?_
        refine x_Vi (pc := 10) ks_X7_114 dX7_left_10 (tb_106) rfl rfl (hX7_noL 0 (-1000001) (by decide) (by decide +kernel)) rfl rfl rfl (Nat.le_of_ble_eq_true rfl) ?_
        refine x_iret (pc := 13) dX7_left_13 rfl (by first | rfl | exact fv_nz _) ?_
        exact ⟨rfl, rfl⟩
theorem op_ith {E : fv_E} {q i : Int32} {M : fv_M} (I : pInv M) : pOp E mX6_ith mX7_ith [.int q, .int i] M := by
  obtain ⟨nb, nm, hG, hE, t, ht, eT⟩ := I.1
  have hs0 : 0 < 3 := by decide
  have hs1 : 1 < 3 := by decide
  have hB := hG.1
  have hb := hG.2.1
  have hM := hG.2.2.1
  have hn := hG.2.2.2.1
  have hK := hG.K
  have hC := hG.C
  have hG2 : pGd (M 22) nb nm := hG.cg hE
  by_cases hq : 0 ≤ q ∧ q ≤ pAll nm
  · obtain ⟨k, hk, rfl⟩ := pAllx hn hq
    have hk8 : k < 256 := Nat.lt_of_lt_of_le hk (pAll_of hn).2.1
    by_cases h5 : pBc k ≤ 5
    · skip
      by_cases hi : 0 ≤ i ∧ i ≤ nI (pBc k) - 1
      · obtain ⟨z, hz, rfl⟩ := pUx (by omega) hi
        have hbi : ∀ c0 l0 c1 l1, pBs (M 0) nb (pBc k) (pO k) c0 l0 (pJ k + 1) = pBs (M 0) nb (pBc k) (pO k) c1 l1 (pJ k + 1) := fun c0 l0 c1 l1 => pBs_ind (by omega) c0 l0 c1 l1 _
        have hsk := hX2_seek (E := E) (d := 7) (M := M) hG hk h5
        rw [hbi _ _ 0 0] at hsk
        refine pOp.qry (v := nI ((pBs (M 0) nb (pBc k) (pO k) 0 0 (pJ k + 1)).2.2.2.getD z 0)) I ?_ (fun M1 hF => ?_)
        · skip
          refine fv_P.of (ls := [some (.ref 0), some (.int (nI k)), some (.int (nI z))]) (by decide) (Nat.le_of_ble_eq_true rfl) rfl ?_
          refine x_aload_n (pc := 0) dX6_ith_0 rfl rfl ?_
          refine x_iload_n (pc := 1) dX6_ith_1 rfl rfl ?_
          refine x_Vi (pc := 2) ks_X6_187 dX6_ith_2 (tb_fv) rfl rfl (hX6_isAgenda hM hn hk) rfl rfl rfl (Nat.le_of_ble_eq_true rfl) ?_
          refine x_ifb_eq (pc := 5) dX6_ith_5 (tgt := 21) rfl (fun h5 => ?_) (fun h5 => ?_)
          ·
            contradiction
          ·
            refine x_iload_n (pc := 8) dX6_ith_8 rfl rfl ?_
            refine x_iload_n (pc := 9) dX6_ith_9 rfl rfl ?_
            refine x_Si (pc := 10) ks_X6_165 dX6_ith_10 (hJ6_bitCount_0f7a4 hk8) rfl rfl rfl (Nat.le_of_ble_eq_true rfl) ?_
            refine x_iconst (pc := 13) (v := 1) dX6_ith_13 rfl ?_
            refine x_isub (pc := 14) dX6_ith_14 ?_
            refine x_Si (pc := 15) ks_X6_51 dX6_ith_15 (hX6_isUpTo) rfl rfl rfl (Nat.le_of_ble_eq_true rfl) ?_
            refine x_ifb_ne (pc := 18) dX6_ith_18 (tgt := 28) rfl (fun h18 => ?_) (fun h18 => ?_)
            ·
              refine x_aload_n (pc := 28) dX6_ith_28 rfl rfl ?_
              refine x_geta (pc := 29) fl_X6_42 dX6_ith_29 (tb_fv) rfl ?_
              refine x_aload_n (pc := 32) dX6_ith_32 rfl rfl ?_
              refine x_geta (pc := 33) fl_X6_12 dX6_ith_33 (tb_fv) rfl ?_
              refine x_aload_n (pc := 36) dX6_ith_36 rfl rfl ?_
              refine x_geta (pc := 37) fl_X6_16 dX6_ith_37 (tb_fv) rfl ?_
              refine x_iload_n (pc := 40) dX6_ith_40 rfl rfl ?_
              refine x_Vvp (pc := 41) ks_X6_190 dX6_ith_41 (tb_94) rfl rfl (hsk) rfl rfl rfl (Nat.le_of_ble_eq_true rfl) (fun M2 h2 => ?_)
              refine x_aload_n (pc := 44) dX6_ith_44 rfl rfl ?_
              refine x_geta (pc := 45) fl_X6_42 dX6_ith_45 (tb_fv) rfl ?_
              refine x_geta (pc := 48) fl_X6_197 dX6_ith_48 (tb_94) rfl ?_
              refine x_iload_n (pc := 51) dX6_ith_51 rfl rfl ?_
              refine x_iale (pc := 52) dX6_ith_52 (tb_95) (rfl) (by omega) (by first | decide | assumption) (show _ = nI ((pBs (M 0) nb (pBc k) (pO k) 0 0 (pJ k + 1)).2.2.2.getD z 0) from by rw [Nat.zero_add]; exact h2.2.2.2.2 z hz) ?_
              refine x_iret (pc := 53) dX6_ith_53 rfl (by first | rfl | exact fv_nz _) ?_
              exact ⟨rfl, h2.1.mono (by decide)⟩
            ·
              contradiction
        · skip
          have e22 : M1 22 = M 22 := hF 22 (by decide)
          have hG1 : pGd (M1 22) nb nm := by rw [e22]; exact hG2
          have hE1 : pEq nb nm (M1 22) (M 0) := by rw [e22]; exact hE
          have hB1 := hG1.1
          have hM1 := hG1.2.2.1
          have hfi := hX7_findsOrder (E := E) (d := 5) (M := M1) hG1 hk h5
          rw [show pBs (M1 22) nb (pBc k) (pO k) 0 (M1 21 10) (pJ k + 1) = (pBs (M 0) nb (pBc k) (pO k) 0 0 (pJ k + 1)) from (pBs_cg hE1 hb hn hK hC (pO_ib hn hk) _ _ _).trans (hbi _ _ 0 0)] at hfi
          refine fv_P.of (ls := [some (.ref 106), some (.int (nI k)), some (.int (nI z))]) (by decide) (Nat.le_of_ble_eq_true rfl) rfl ?_
          refine x_aload_n (pc := 0) dX7_ith_0 rfl rfl ?_
          refine x_iload_n (pc := 1) dX7_ith_1 rfl rfl ?_
          refine x_Vi (pc := 2) ks_X7_184 dX7_ith_2 (tb_106) rfl rfl (hX7_isSet hM1 hn hk) rfl rfl rfl (Nat.le_of_ble_eq_true rfl) ?_
          refine x_ifb_eq (pc := 5) dX7_ith_5 (tgt := 22) rfl (fun h5 => ?_) (fun h5 => ?_)
          ·
            contradiction
          ·
            refine x_iload_n (pc := 8) dX7_ith_8 rfl rfl ?_
            refine x_iconst (pc := 9) (v := 0) dX7_ith_9 rfl ?_
            refine x_iload_n (pc := 10) dX7_ith_10 rfl rfl ?_
            refine x_Si (pc := 11) ks_X7_158 dX7_ith_11 (hX7_bits hk8) rfl rfl rfl (Nat.le_of_ble_eq_true rfl) ?_
            refine x_iconst (pc := 14) (v := 1) dX7_ith_14 rfl ?_
            refine x_isub (pc := 15) dX7_ith_15 ?_
            refine x_Si (pc := 16) ks_X7_60 dX7_ith_16 (hX7_in1) rfl rfl rfl (Nat.le_of_ble_eq_true rfl) ?_
            refine x_ifb_ne (pc := 19) dX7_ith_19 (tgt := 28) rfl (fun h19 => ?_) (fun h19 => ?_)
            ·
              refine x_aload_n (pc := 28) dX7_ith_28 rfl rfl ?_
              refine x_iload_n (pc := 29) dX7_ith_29 rfl rfl ?_
              refine x_Vvp (pc := 30) ks_X7_187 dX7_ith_30 (tb_106) rfl rfl (hfi) rfl rfl rfl (Nat.le_of_ble_eq_true rfl) (fun M2 h2 => ?_)
              refine x_aload_n (pc := 33) dX7_ith_33 rfl rfl ?_
              refine x_geta (pc := 34) fl_X7_28 dX7_ith_34 (tb_106) rfl ?_
              refine x_iload_n (pc := 37) dX7_ith_37 rfl rfl ?_
              refine x_iale (pc := 38) dX7_ith_38 (tb_113) (rfl) (by omega) (by first | decide | assumption) (show _ = nI ((pBs (M 0) nb (pBc k) (pO k) 0 0 (pJ k + 1)).2.2.2.getD z 0) from by rw [Nat.zero_add]; exact h2.2.2.2.2.2.2 z hz) ?_
              refine x_iret (pc := 39) dX7_ith_39 rfl (by first | rfl | exact fv_nz _) ?_
              exact ⟨rfl, h2.1.mono (by decide), h2.2.1 3 (by decide) (by decide) (by decide), h2.2.1 12 (by decide) (by decide) (by decide), fun nb' nm' hi => by
                  have e1 : nb' = nb := (nI_eq (by have := hi.1.2.1; omega) (by omega)).mp (hi.1.1.symm.trans (by rw [hF 0 (by decide)]; exact hB))
                  have e2 : nm' = nm := (nI_eq (by have := hi.1.2.2.2.1; omega) (by omega)).mp (hi.1.2.2.1.symm.trans (by rw [hF 0 (by decide)]; exact hM))
                  subst e1; subst e2; exact h2.2.2.1⟩
            ·
              contradiction
      · skip
        refine pOp.bad (v := -1000001) 0 I ?_ (fun M1 hF => ?_)
        · skip
          refine fv_F.of (ls := [some (.ref 0), some (.int (nI k)), some (.int i)]) (by decide) (Nat.le_of_ble_eq_true rfl) rfl ?_
          refine x_aload_n (pc := 0) dX6_ith_0 rfl rfl ?_
          refine x_iload_n (pc := 1) dX6_ith_1 rfl rfl ?_
          refine x_Vi (pc := 2) ks_X6_187 dX6_ith_2 (tb_fv) rfl rfl (hX6_isAgenda hM hn hk) rfl rfl rfl (Nat.le_of_ble_eq_true rfl) ?_
          refine x_ifb_eq (pc := 5) dX6_ith_5 (tgt := 21) rfl (fun h5 => ?_) (fun h5 => ?_)
          ·
            contradiction
          ·
            refine x_iload_n (pc := 8) dX6_ith_8 rfl rfl ?_
            refine x_iload_n (pc := 9) dX6_ith_9 rfl rfl ?_
            refine x_Si (pc := 10) ks_X6_165 dX6_ith_10 (hJ6_bitCount_0f7a4 hk8) rfl rfl rfl (Nat.le_of_ble_eq_true rfl) ?_
            refine x_iconst (pc := 13) (v := 1) dX6_ith_13 rfl ?_
            refine x_isub (pc := 14) dX6_ith_14 ?_
            refine x_Si (pc := 15) ks_X6_51 dX6_ith_15 (hX6_isUpTo) rfl rfl rfl (Nat.le_of_ble_eq_true rfl) ?_
            refine x_ifb_ne (pc := 18) dX6_ith_18 (tgt := 28) rfl (fun h18 => ?_) (fun h18 => ?_)
            ·
              contradiction
            ·
              refine x_aload_n (pc := 21) dX6_ith_21 rfl rfl ?_
              refine x_ldc (pc := 22) kc_X6_55 dX6_ith_22 ?_
              refine x_Vi (pc := 24) ks_X6_56 dX6_ith_24 (tb_fv) rfl rfl (hX6_fin 0 (-1000001) (by decide +kernel) (by decide)) rfl rfl rfl (Nat.le_of_ble_eq_true rfl) ?_
              refine x_iret (pc := 27) dX6_ith_27 rfl (by first | rfl | exact fv_nz _) ?_
              exact ⟨rfl, rfl⟩
        · skip
          have e22 : M1 22 = M 22 := hF 22 (by decide)
          have hG1 : pGd (M1 22) nb nm := by rw [e22]; exact hG2
          have hE1 : pEq nb nm (M1 22) (M 0) := by rw [e22]; exact hE
          have hB1 := hG1.1
          have hM1 := hG1.2.2.1
          refine fv_F.of (ls := [some (.ref 106), some (.int (nI k)), some (.int i)]) (by decide) (Nat.le_of_ble_eq_true rfl) rfl ?_
          refine x_aload_n (pc := 0) dX7_ith_0 rfl rfl ?_
          refine x_iload_n (pc := 1) dX7_ith_1 rfl rfl ?_
          refine x_Vi (pc := 2) ks_X7_184 dX7_ith_2 (tb_106) rfl rfl (hX7_isSet hM1 hn hk) rfl rfl rfl (Nat.le_of_ble_eq_true rfl) ?_
          refine x_ifb_eq (pc := 5) dX7_ith_5 (tgt := 22) rfl (fun h5 => ?_) (fun h5 => ?_)
          ·
            contradiction
          ·
            refine x_iload_n (pc := 8) dX7_ith_8 rfl rfl ?_
            refine x_iconst (pc := 9) (v := 0) dX7_ith_9 rfl ?_
            refine x_iload_n (pc := 10) dX7_ith_10 rfl rfl ?_
            refine x_Si (pc := 11) ks_X7_158 dX7_ith_11 (hX7_bits hk8) rfl rfl rfl (Nat.le_of_ble_eq_true rfl) ?_
            refine x_iconst (pc := 14) (v := 1) dX7_ith_14 rfl ?_
            refine x_isub (pc := 15) dX7_ith_15 ?_
            refine x_Si (pc := 16) ks_X7_60 dX7_ith_16 (hX7_in1) rfl rfl rfl (Nat.le_of_ble_eq_true rfl) ?_
            refine x_ifb_ne (pc := 19) dX7_ith_19 (tgt := 28) rfl (fun h19 => ?_) (fun h19 => ?_)
            ·
              contradiction
            ·
              refine x_aload_n (pc := 22) dX7_ith_22 rfl rfl ?_
              refine x_iconst (pc := 23) (v := 0) dX7_ith_23 rfl ?_
              refine x_Vi (pc := 24) ks_X7_114 dX7_ith_24 (tb_106) rfl rfl (hX7_noL 0 (-1000001) (by decide) (by decide +kernel)) rfl rfl rfl (Nat.le_of_ble_eq_true rfl) ?_
              refine x_iret (pc := 27) dX7_ith_27 rfl (by first | rfl | exact fv_nz _) ?_
              exact ⟨rfl, rfl⟩
    · skip
      refine pOp.bad (v := -1000001) 0 I ?_ (fun M1 hF => ?_)
      · skip
        refine fv_F.of (ls := [some (.ref 0), some (.int (nI k)), some (.int i)]) (by decide) (Nat.le_of_ble_eq_true rfl) rfl ?_
        refine x_aload_n (pc := 0) dX6_ith_0 rfl rfl ?_
        refine x_iload_n (pc := 1) dX6_ith_1 rfl rfl ?_
        refine x_Vi (pc := 2) ks_X6_187 dX6_ith_2 (tb_fv) rfl rfl (hX6_isAgenda hM hn hk) rfl rfl rfl (Nat.le_of_ble_eq_true rfl) ?_
        refine x_ifb_eq (pc := 5) dX6_ith_5 (tgt := 21) rfl (fun h5 => ?_) (fun h5 => ?_)
        ·
          refine x_aload_n (pc := 21) dX6_ith_21 rfl rfl ?_
          refine x_ldc (pc := 22) kc_X6_55 dX6_ith_22 ?_
          refine x_Vi (pc := 24) ks_X6_56 dX6_ith_24 (tb_fv) rfl rfl (hX6_fin 0 (-1000001) (by decide +kernel) (by decide)) rfl rfl rfl (Nat.le_of_ble_eq_true rfl) ?_
          refine x_iret (pc := 27) dX6_ith_27 rfl (by first | rfl | exact fv_nz _) ?_
          exact ⟨rfl, rfl⟩
        ·
          contradiction
      · skip
        have e22 : M1 22 = M 22 := hF 22 (by decide)
        have hG1 : pGd (M1 22) nb nm := by rw [e22]; exact hG2
        have hE1 : pEq nb nm (M1 22) (M 0) := by rw [e22]; exact hE
        have hB1 := hG1.1
        have hM1 := hG1.2.2.1
        refine fv_F.of (ls := [some (.ref 106), some (.int (nI k)), some (.int i)]) (by decide) (Nat.le_of_ble_eq_true rfl) rfl ?_
        refine x_aload_n (pc := 0) dX7_ith_0 rfl rfl ?_
        refine x_iload_n (pc := 1) dX7_ith_1 rfl rfl ?_
        refine x_Vi (pc := 2) ks_X7_184 dX7_ith_2 (tb_106) rfl rfl (hX7_isSet hM1 hn hk) rfl rfl rfl (Nat.le_of_ble_eq_true rfl) ?_
        refine x_ifb_eq (pc := 5) dX7_ith_5 (tgt := 22) rfl (fun h5 => ?_) (fun h5 => ?_)
        ·
          refine x_aload_n (pc := 22) dX7_ith_22 rfl rfl ?_
          refine x_iconst (pc := 23) (v := 0) dX7_ith_23 rfl ?_
          refine x_Vi (pc := 24) ks_X7_114 dX7_ith_24 (tb_106) rfl rfl (hX7_noL 0 (-1000001) (by decide) (by decide +kernel)) rfl rfl rfl (Nat.le_of_ble_eq_true rfl) ?_
          refine x_iret (pc := 27) dX7_ith_27 rfl (by first | rfl | exact fv_nz _) ?_
          exact ⟨rfl, rfl⟩
        ·
          contradiction
  · skip
    refine pOp.bad (v := -1000001) 0 I ?_ (fun M1 hF => ?_)
    · skip
      refine fv_F.of (ls := [some (.ref 0), some (.int q), some (.int i)]) (by decide) (Nat.le_of_ble_eq_true rfl) rfl ?_
      refine x_aload_n (pc := 0) dX6_ith_0 rfl rfl ?_
      refine x_iload_n (pc := 1) dX6_ith_1 rfl rfl ?_
      refine x_Vi (pc := 2) ks_X6_187 dX6_ith_2 (tb_fv) rfl rfl (fv_F.v (b := bI False) (hX6_isAgendaF hM hq) (bI_f (fun q => q)).symm) rfl rfl rfl (Nat.le_of_ble_eq_true rfl) ?_
      refine x_ifb_eq (pc := 5) dX6_ith_5 (tgt := 21) rfl (fun h5 => ?_) (fun h5 => ?_)
      ·
        refine x_aload_n (pc := 21) dX6_ith_21 rfl rfl ?_
        refine x_ldc (pc := 22) kc_X6_55 dX6_ith_22 ?_
        refine x_Vi (pc := 24) ks_X6_56 dX6_ith_24 (tb_fv) rfl rfl (hX6_fin 0 (-1000001) (by decide +kernel) (by decide)) rfl rfl rfl (Nat.le_of_ble_eq_true rfl) ?_
        refine x_iret (pc := 27) dX6_ith_27 rfl (by first | rfl | exact fv_nz _) ?_
        exact ⟨rfl, rfl⟩
      ·
        exact h5.elim
    · skip
      have e22 : M1 22 = M 22 := hF 22 (by decide)
      have hG1 : pGd (M1 22) nb nm := by rw [e22]; exact hG2
      have hE1 : pEq nb nm (M1 22) (M 0) := by rw [e22]; exact hE
      have hB1 := hG1.1
      have hM1 := hG1.2.2.1
      refine fv_F.of (ls := [some (.ref 106), some (.int q), some (.int i)]) (by decide) (Nat.le_of_ble_eq_true rfl) rfl ?_
      refine x_aload_n (pc := 0) dX7_ith_0 rfl rfl ?_
      refine x_iload_n (pc := 1) dX7_ith_1 rfl rfl ?_
      refine x_Vi (pc := 2) ks_X7_184 dX7_ith_2 (tb_106) rfl rfl (fv_F.v (b := bI False) (hX7_isSetF hM1 hq) (bI_f (fun q => q)).symm) rfl rfl rfl (Nat.le_of_ble_eq_true rfl) ?_
      refine x_ifb_eq (pc := 5) dX7_ith_5 (tgt := 22) rfl (fun h5 => ?_) (fun h5 => ?_)
      ·
        refine x_aload_n (pc := 22) dX7_ith_22 rfl rfl ?_
        refine x_iconst (pc := 23) (v := 0) dX7_ith_23 rfl ?_
        refine x_Vi (pc := 24) ks_X7_114 dX7_ith_24 (tb_106) rfl rfl (hX7_noL 0 (-1000001) (by decide) (by decide +kernel)) rfl rfl rfl (Nat.le_of_ble_eq_true rfl) ?_
        refine x_iret (pc := 27) dX7_ith_27 rfl (by first | rfl | exact fv_nz _) ?_
        exact ⟨rfl, rfl⟩
      ·
        exact h5.elim
