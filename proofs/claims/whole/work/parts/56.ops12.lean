theorem op_sheet {E : fv_E} {s b n : Int32} {M : fv_M} (I : pInv M) : pOp E mX6_sheet mX7_sheet [.int s, .int b, .int n] M := by
  obtain ⟨nb, nm, hG, hE, t, ht, eT⟩ := I.1
  have hs0 : 0 < 3 := by decide
  have hs1 : 1 < 3 := by decide
  have hB := hG.1
  have hb := hG.2.1
  have hM := hG.2.2.1
  have hn := hG.2.2.2.1
  have hK := hG.K
  have hC := hG.C
  have hG2 : pGd (M 22) nb nm := hG.cg hE
  by_cases hs : 0 ≤ s ∧ s ≤ 3
  · by_cases hb4 : b = 0 ∨ b = 8 ∨ b = 16 ∨ b = 32
    · by_cases hn0 : n < 0
      · skip
        refine pOp.bad (v := -1000007) 6 I ?_ (fun M1 hF => ?_)
        · skip
          refine fv_F.of (ls := [some (.ref 0), some (.int s), some (.int b), some (.int n)]) (by decide) (Nat.le_of_ble_eq_true rfl) rfl ?_
          refine x_iload_n (pc := 0) dX6_sheet_0 rfl rfl ?_
          refine x_iconst (pc := 1) (v := 3) dX6_sheet_1 rfl ?_
          refine x_Si (pc := 2) ks_X6_51 dX6_sheet_2 (hX6_isUpTo) rfl rfl rfl (Nat.le_of_ble_eq_true rfl) ?_
          refine x_ifb_eq (pc := 5) dX6_sheet_5 (tgt := 15) rfl (fun h5 => ?_) (fun h5 => ?_)
          ·
            exact absurd hs h5
          ·
            refine x_iload_n (pc := 8) dX6_sheet_8 rfl rfl ?_
            refine x_Si (pc := 9) ks_X6_249 dX6_sheet_9 (hX3_hasBits) rfl rfl rfl (Nat.le_of_ble_eq_true rfl) ?_
            refine x_ifb_ne (pc := 12) dX6_sheet_12 (tgt := 22) rfl (fun h12 => ?_) (fun h12 => ?_)
            ·
              refine x_iload_n (pc := 22) dX6_sheet_22 rfl rfl ?_
              refine x_if_ge (pc := 23) dX6_sheet_23 (tgt := 33) rfl (fun h23 => ?_) (fun h23 => ?_)
              ·
                exact absurd hn0 (Int32.not_lt.mpr h23)
              ·
                refine x_aload_n (pc := 26) dX6_sheet_26 rfl rfl ?_
                refine x_ldc (pc := 27) kc_X6_206 dX6_sheet_27 ?_
                refine x_Vi (pc := 29) ks_X6_56 dX6_sheet_29 (tb_fv) rfl rfl (hX6_fin 6 (-1000007) (by decide +kernel) (by decide)) rfl rfl rfl (Nat.le_of_ble_eq_true rfl) ?_
                refine x_iret (pc := 32) dX6_sheet_32 rfl (by first | rfl | exact fv_nz _) ?_
                exact ⟨rfl, rfl⟩
            ·
              exact absurd hb4 h12
        · skip
          have e22 : M1 22 = M 22 := hF 22 (by decide)
          have hG1 : pGd (M1 22) nb nm := by rw [e22]; exact hG2
          have hE1 : pEq nb nm (M1 22) (M 0) := by rw [e22]; exact hE
          have hB1 := hG1.1
          have hM1 := hG1.2.2.1
          refine fv_F.of (ls := [some (.ref 106), some (.int s), some (.int b), some (.int n), none]) (by decide) (Nat.le_of_ble_eq_true rfl) rfl ?_
          refine x_iload_n (pc := 0) dX7_sheet_0 rfl rfl ?_
          refine x_Si (pc := 1) ks_X7_196 dX7_sheet_1 (hX7_isSheet) rfl rfl rfl (Nat.le_of_ble_eq_true rfl) ?_
          refine x_ifb_eq (pc := 4) dX7_sheet_4 (tgt := 29) rfl (fun h4 => ?_) (fun h4 => ?_)
          ·
            exact absurd hs h4
          ·
            refine x_iload_n (pc := 7) dX7_sheet_7 rfl rfl ?_
            refine x_if_eq (pc := 8) dX7_sheet_8 (tgt := 35) rfl (fun h8 => ?_) (fun h8 => ?_)
            ·
              refine x_iload_n (pc := 35) dX7_sheet_35 rfl rfl ?_
              refine x_if_ge (pc := 36) dX7_sheet_36 (tgt := 46) rfl (fun h36 => ?_) (fun h36 => ?_)
              ·
                exact absurd hn0 (Int32.not_lt.mpr h36)
              ·
                refine x_aload_n (pc := 39) dX7_sheet_39 rfl rfl ?_
                refine x_bipush (pc := 40) (v := 6) dX7_sheet_40 rfl ?_
                refine x_Vi (pc := 42) ks_X7_114 dX7_sheet_42 (tb_106) rfl rfl (hX7_noL 6 (-1000007) (by decide) (by decide +kernel)) rfl rfl rfl (Nat.le_of_ble_eq_true rfl) ?_
                refine x_iret (pc := 45) dX7_sheet_45 rfl (by first | rfl | exact fv_nz _) ?_
                exact ⟨rfl, rfl⟩
            ·
              refine x_iload_n (pc := 11) dX7_sheet_11 rfl rfl ?_
              refine x_bipush (pc := 12) (v := 8) dX7_sheet_12 rfl ?_
              refine x_icmp_eq (pc := 14) dX7_sheet_14 (tgt := 35) rfl (fun h14 => ?_) (fun h14 => ?_)
              ·
                refine x_iload_n (pc := 35) dX7_sheet_35 rfl rfl ?_
                refine x_if_ge (pc := 36) dX7_sheet_36 (tgt := 46) rfl (fun h36 => ?_) (fun h36 => ?_)
                ·
                  exact absurd hn0 (Int32.not_lt.mpr h36)
                ·
                  refine x_aload_n (pc := 39) dX7_sheet_39 rfl rfl ?_
                  refine x_bipush (pc := 40) (v := 6) dX7_sheet_40 rfl ?_
                  refine x_Vi (pc := 42) ks_X7_114 dX7_sheet_42 (tb_106) rfl rfl (hX7_noL 6 (-1000007) (by decide) (by decide +kernel)) rfl rfl rfl (Nat.le_of_ble_eq_true rfl) ?_
                  refine x_iret (pc := 45) dX7_sheet_45 rfl (by first | rfl | exact fv_nz _) ?_
                  exact ⟨rfl, rfl⟩
              ·
                refine x_iload_n (pc := 17) dX7_sheet_17 rfl rfl ?_
                refine x_bipush (pc := 18) (v := 16) dX7_sheet_18 rfl ?_
                refine x_icmp_eq (pc := 20) dX7_sheet_20 (tgt := 35) rfl (fun h20 => ?_) (fun h20 => ?_)
                ·
                  refine x_iload_n (pc := 35) dX7_sheet_35 rfl rfl ?_
                  refine x_if_ge (pc := 36) dX7_sheet_36 (tgt := 46) rfl (fun h36 => ?_) (fun h36 => ?_)
                  ·
                    exact absurd hn0 (Int32.not_lt.mpr h36)
                  ·
                    refine x_aload_n (pc := 39) dX7_sheet_39 rfl rfl ?_
                    refine x_bipush (pc := 40) (v := 6) dX7_sheet_40 rfl ?_
                    refine x_Vi (pc := 42) ks_X7_114 dX7_sheet_42 (tb_106) rfl rfl (hX7_noL 6 (-1000007) (by decide) (by decide +kernel)) rfl rfl rfl (Nat.le_of_ble_eq_true rfl) ?_
                    refine x_iret (pc := 45) dX7_sheet_45 rfl (by first | rfl | exact fv_nz _) ?_
                    exact ⟨rfl, rfl⟩
                ·
                  refine x_iload_n (pc := 23) dX7_sheet_23 rfl rfl ?_
                  refine x_bipush (pc := 24) (v := 32) dX7_sheet_24 rfl ?_
                  refine x_icmp_eq (pc := 26) dX7_sheet_26 (tgt := 35) rfl (fun h26 => ?_) (fun h26 => ?_)
                  ·
                    refine x_iload_n (pc := 35) dX7_sheet_35 rfl rfl ?_
                    refine x_if_ge (pc := 36) dX7_sheet_36 (tgt := 46) rfl (fun h36 => ?_) (fun h36 => ?_)
                    ·
                      exact absurd hn0 (Int32.not_lt.mpr h36)
                    ·
                      refine x_aload_n (pc := 39) dX7_sheet_39 rfl rfl ?_
                      refine x_bipush (pc := 40) (v := 6) dX7_sheet_40 rfl ?_
                      refine x_Vi (pc := 42) ks_X7_114 dX7_sheet_42 (tb_106) rfl rfl (hX7_noL 6 (-1000007) (by decide) (by decide +kernel)) rfl rfl rfl (Nat.le_of_ble_eq_true rfl) ?_
                      refine x_iret (pc := 45) dX7_sheet_45 rfl (by first | rfl | exact fv_nz _) ?_
                      exact ⟨rfl, rfl⟩
                  ·
                    exact absurd hb4 (fun q => q.elim h8 (fun q => q.elim h14 (fun q => q.elim h20 h26)))
      · by_cases hn4 : n ≤ 40
        · obtain ⟨x, hx, rfl⟩ := pUm (n := 40) (by decide) ⟨Int32.not_lt.mp hn0, hn4⟩
          obtain ⟨z, hz3, rfl⟩ := pUm (n := 3) (by decide) hs
          have hz : z < 4 := by omega
          have hA : 13 + 2 * z ≠ 14 + 2 * z := by omega
          have hA2 : 14 + 2 * z ≠ 13 + 2 * z := by omega
          obtain ⟨y, hy, ey⟩ : ∃ y, y ≤ 40 ∧ (if b = 0 then 0 else nI x : Int32) = nI y := by
            by_cases h : b = 0
            · exact ⟨0, by decide, by rw [if_pos h]; rfl⟩
            · exact ⟨x, hx, by rw [if_neg h]⟩
          refine pOp.of (v := nI y) (P := fun M1 => M1 = pSh M z b (nI x)) ?_ (fun M1 hM1 => ?_)
          · skip
            refine fv_P.of (ls := [some (.ref 0), some (.int (nI z)), some (.int b), some (.int (nI x))]) (by decide) (Nat.le_of_ble_eq_true rfl) rfl ?_
            refine x_iload_n (pc := 0) dX6_sheet_0 rfl rfl ?_
            refine x_iconst (pc := 1) (v := 3) dX6_sheet_1 rfl ?_
            refine x_Si (pc := 2) ks_X6_51 dX6_sheet_2 (hX6_isUpTo) rfl rfl rfl (Nat.le_of_ble_eq_true rfl) ?_
            refine x_ifb_eq (pc := 5) dX6_sheet_5 (tgt := 15) rfl (fun h5 => ?_) (fun h5 => ?_)
            ·
              exact absurd hs h5
            ·
              refine x_iload_n (pc := 8) dX6_sheet_8 rfl rfl ?_
              refine x_Si (pc := 9) ks_X6_249 dX6_sheet_9 (hX3_hasBits) rfl rfl rfl (Nat.le_of_ble_eq_true rfl) ?_
              refine x_ifb_ne (pc := 12) dX6_sheet_12 (tgt := 22) rfl (fun h12 => ?_) (fun h12 => ?_)
              ·
                refine x_iload_n (pc := 22) dX6_sheet_22 rfl rfl ?_
                refine x_if_ge (pc := 23) dX6_sheet_23 (tgt := 33) rfl (fun h23 => ?_) (fun h23 => ?_)
                ·
                  refine x_iload_n (pc := 33) dX6_sheet_33 rfl rfl ?_
                  refine x_bipush (pc := 34) (v := 40) dX6_sheet_34 rfl ?_
                  refine x_icmp_le (pc := 36) dX6_sheet_36 (tgt := 46) rfl (fun h36 => ?_) (fun h36 => ?_)
                  ·
                    refine x_aload_n (pc := 46) dX6_sheet_46 rfl rfl ?_
                    refine x_geta (pc := 47) fl_X6_35 dX6_sheet_47 (tb_fv) rfl ?_
                    refine x_iload_n (pc := 50) dX6_sheet_50 rfl rfl ?_
                    refine x_sheet (pc := 51) dX6_sheet_51 (rfl) (by first | assumption | decide | omega) ?_
                    refine x_iload_n (pc := 52) dX6_sheet_52 rfl rfl ?_
                    refine x_iload_n (pc := 53) dX6_sheet_53 rfl rfl ?_
                    refine x_Vv (pc := 54) ks_X6_252 dX6_sheet_54 (tb_sh (by assumption)) rfl rfl (hX3_begin hz) rfl rfl rfl (Nat.le_of_ble_eq_true rfl) ?_
                    refine x_aload_n (pc := 57) dX6_sheet_57 rfl rfl ?_
                    refine x_geta (pc := 58) fl_X6_35 dX6_sheet_58 (tb_fv) rfl ?_
                    refine x_iload_n (pc := 61) dX6_sheet_61 rfl rfl ?_
                    refine x_sheet (pc := 62) dX6_sheet_62 (rfl) (by first | assumption | decide | omega) ?_
                    refine x_geti (pc := 63) fl_X6_255 dX6_sheet_63 (tb_sh (by assumption)) rfl (show _ = nI y from by unfold pSh; rw [fv_s_ne _ _ hA, fv_s_same, fv_u_same]; exact ey) ?_
                    refine x_iret (pc := 66) dX6_sheet_66 rfl (by first | rfl | exact fv_nz _) ?_
                    exact ⟨rfl, rfl⟩
                  ·
                    exact absurd hn4 h36
                ·
                  exact absurd (nI_pos' (by omega)) h23
              ·
                exact absurd hb4 h12
          · have hM1q : ∀ q, q ≠ 13 + 2 * z → q ≠ 14 + 2 * z → M1 q = M q := fun q h1 h2 => by rw [hM1]; unfold pSh; rw [fv_s_ne _ _ h2, fv_s_ne _ _ h1]
            have hend : ∀ M2 : fv_M, (∀ q, q ∉ [34, 35, 36] → M2 q = M1 q) → M2 34 = fv_u (M1 34) z b → M2 35 = fv_u (M1 35) z (nI y) → M2 36 = pFill (M1 36) (40 * z) 40 0 → pInv M2 := fun M2 F e34 e35 e36 => by
              have l34 : M1 34 = M 34 := hM1q 34 (by omega) (by omega)
              have l35 : M1 35 = M 35 := hM1q 35 (by omega) (by omega)
              have l36 : M1 36 = M 36 := hM1q 36 (by omega) (by omega)
              have hh : 13 + 2 * z ∉ [34, 35, 36] ∧ 14 + 2 * z ∉ [34, 35, 36] := by
                match z, hz with
                | 0, _ => decide
                | 1, _ => decide
                | 2, _ => decide
                | 3, _ => decide
                | n + 4, h => omega
              refine I.sh hz (fun q h1 h2 h3 => ?_) (fun t ht hne => ?_) (fun t ht hne => ?_) (fun t ht hne i hi => ?_) ⟨y, hy, ?_, ?_, ?_, fun i hi => ?_⟩
              · rw [F q (fun hm => h3 ((show ∀ q, q ∈ [34, 35, 36] → q ∈ [34, 35, 36, 37] by decide) q hm))]; exact hM1q q h1 h2
              · rw [e34, fv_u_ne _ _ hne, l34]
              · rw [e35, fv_u_ne _ _ hne, l35]
              · rw [e36]; unfold pFill; rw [if_neg (by omega), l36]
              · rw [F _ hh.1, hM1]; unfold pSh; rw [fv_s_ne _ _ hA, fv_s_same, fv_u_same]; exact ey
              · rw [e35, fv_u_same]
              · rw [e34, fv_u_same, F _ hh.1, hM1]; unfold pSh; rw [fv_s_ne _ _ hA, fv_s_same, fv_u_ne _ _ (by decide), fv_u_same]
              · rw [e36, F _ hh.2, hM1]; unfold pSh pFill; rw [fv_s_same, if_pos (by omega), if_pos (by omega)]
            refine fv_P.of (ls := [some (.ref 106), some (.int (nI z)), some (.int b), some (.int (nI x)), none]) (by decide) (Nat.le_of_ble_eq_true rfl) rfl ?_
            refine x_iload_n (pc := 0) dX7_sheet_0 rfl rfl ?_
            refine x_Si (pc := 1) ks_X7_196 dX7_sheet_1 (hX7_isSheet) rfl rfl rfl (Nat.le_of_ble_eq_true rfl) ?_
            refine x_ifb_eq (pc := 4) dX7_sheet_4 (tgt := 29) rfl (fun h4 => ?_) (fun h4 => ?_)
            ·
              exact absurd hs h4
            ·
              refine x_iload_n (pc := 7) dX7_sheet_7 rfl rfl ?_
              refine x_if_eq (pc := 8) dX7_sheet_8 (tgt := 35) rfl (fun h8 => ?_) (fun h8 => ?_)
              ·
                refine x_iload_n (pc := 35) dX7_sheet_35 rfl rfl ?_
                refine x_if_ge (pc := 36) dX7_sheet_36 (tgt := 46) rfl (fun h36 => ?_) (fun h36 => ?_)
                ·
                  refine x_iload_n (pc := 46) dX7_sheet_46 rfl rfl ?_
                  refine x_bipush (pc := 47) (v := 40) dX7_sheet_47 rfl ?_
                  refine x_icmp_le (pc := 49) dX7_sheet_49 (tgt := 58) rfl (fun h49 => ?_) (fun h49 => ?_)
                  ·
                    refine x_aload_n (pc := 58) dX7_sheet_58 rfl rfl ?_
                    refine x_geta (pc := 59) fl_X7_47 dX7_sheet_59 (tb_106) rfl ?_
                    refine x_iload_n (pc := 62) dX7_sheet_62 rfl rfl ?_
                    refine x_iload_n (pc := 63) dX7_sheet_63 rfl rfl ?_
                    refine x_iast (pc := 64) dX7_sheet_64 (tb_119) (rfl) (hz) (by first | decide | assumption) ?_
                    refine x_aload_n (pc := 65) dX7_sheet_65 rfl rfl ?_
                    refine x_geta (pc := 66) fl_X7_50 dX7_sheet_66 (tb_106) rfl ?_
                    refine x_iload_n (pc := 69) dX7_sheet_69 rfl rfl ?_
                    refine x_iload_n (pc := 70) dX7_sheet_70 rfl rfl ?_
                    refine x_if_ne (pc := 71) dX7_sheet_71 (tgt := 78) rfl (fun h71 => ?_) (fun h71 => ?_)
                    ·
                      have ey2 : nI x = nI y := by rw [← ey, if_neg h71]
                      refine x_iload_n (pc := 78) dX7_sheet_78 rfl rfl ?_
                      refine x_iast (pc := 79) dX7_sheet_79 (tb_120) (rfl) (hz) (by first | decide | assumption) ?_
                      rw [Nat.zero_add, fv_s_ne _ _ (show 35 ≠ 34 by decide)]
                      first | rw [show fv_u (M1 35) z (nI x) = fv_u (M1 35) z (nI y) from by rw [ey2]] | rw [show fv_u (M1 35) z 0 = fv_u (M1 35) z (nI y) from by rw [← ey2]; rfl]
                      refine x_iconst (pc := 80) (v := 0) dX7_sheet_80 rfl ?_
                      refine x_istore4 (pc := 81) dX7_sheet_81 rfl ?_
                      refine x_loop (fun j => [some (.ref 106), some (.int (nI z)), some (.int b), some (.int (nI x)), some (.int (nI j))]) (fun j => fv_s (fv_s (fv_s M1 34 (fv_u (M1 34) z b)) 35 (fv_u (M1 35) z (nI y))) 36 (pFill (M1 36) (40 * z) j 0)) 40 rfl (by show fv_s _ 36 (pFill (M1 36) (40 * z) 0 0) = _; rw [pFill_0, ← fv_s_ne M1 (fv_u (M1 34) z b) (show 36 ≠ 34 by decide), ← fv_s_ne (fv_s M1 34 (fv_u (M1 34) z b)) (fv_u (M1 35) z (nI y)) (show 36 ≠ 35 by decide), fv_s_id]) (fun j hj hL => ?_) ?_
                      · show fv_X E mX7_sheet _ _ 83 [some (.ref 106), some (.int (nI z)), some (.int b), some (.int (nI x)), some (.int (nI j))] [] (fv_s (fv_s (fv_s M1 34 (fv_u (M1 34) z b)) 35 (fv_u (M1 35) z (nI y))) 36 (pFill (M1 36) (40 * z) j 0))
                        replace hL : fv_X E mX7_sheet _ _ 83 [some (.ref 106), some (.int (nI z)), some (.int b), some (.int (nI x)), some (.int (nI (j + 1)))] [] (fv_s (fv_s (fv_s M1 34 (fv_u (M1 34) z b)) 35 (fv_u (M1 35) z (nI y))) 36 (pFill (M1 36) (40 * z) (j + 1) 0)) := hL
                        refine x_iload (pc := 83) dX7_sheet_83 rfl ?_
                        refine x_bipush (pc := 85) (v := 40) dX7_sheet_85 rfl ?_
                        refine x_icmp_ge (pc := 87) dX7_sheet_87 (tgt := 109) rfl (fun h87 => ?_) (fun h87 => ?_)
                        ·
                          exact absurd h87 (nI_ge (b := 40) hj (by omega))
                        ·
                          refine x_aload_n (pc := 90) dX7_sheet_90 rfl rfl ?_
                          refine x_geta (pc := 91) fl_X7_53 dX7_sheet_91 (tb_106) rfl ?_
                          refine x_bipush (pc := 94) (v := 40) dX7_sheet_94 rfl ?_
                          refine x_iload_n (pc := 96) dX7_sheet_96 rfl rfl ?_
                          refine x_imul (pc := 97) dX7_sheet_97 ?_
                          refine x_iload (pc := 98) dX7_sheet_98 rfl ?_
                          refine x_iadd (pc := 100) dX7_sheet_100 ?_
                          refine x_iconst (pc := 101) (v := 0) dX7_sheet_101 rfl ?_
                          refine x_iast (pc := 102) dX7_sheet_102 (tb_121) (pCe_ix z j) (by omega) (by first | decide | assumption) ?_
                          rw [fv_s_same, fv_s_s, Nat.zero_add, pFill_s]
                          refine x_iinc4 (pc := 103) dX7_sheet_103 (by first | exact fv_inc _ | exact fv_dec _ | rfl) rfl ?_
                          refine x_goto (pc := 106) dX7_sheet_106 (tgt := 83) rfl ?_
                          exact hL
                      · show fv_X E mX7_sheet _ _ 83 [some (.ref 106), some (.int (nI z)), some (.int b), some (.int (nI x)), some (.int (nI 40))] [] (fv_s (fv_s (fv_s M1 34 (fv_u (M1 34) z b)) 35 (fv_u (M1 35) z (nI y))) 36 (pFill (M1 36) (40 * z) 40 0))
                        refine x_iload (pc := 83) dX7_sheet_83 rfl ?_
                        refine x_bipush (pc := 85) (v := 40) dX7_sheet_85 rfl ?_
                        refine x_icmp_ge (pc := 87) dX7_sheet_87 (tgt := 109) rfl (fun h87 => ?_) (fun h87 => ?_)
                        ·
                          refine x_aload_n (pc := 109) dX7_sheet_109 rfl rfl ?_
                          refine x_geta (pc := 110) fl_X7_50 dX7_sheet_110 (tb_106) rfl ?_
                          refine x_iload_n (pc := 113) dX7_sheet_113 rfl rfl ?_
                          refine x_iale (pc := 114) dX7_sheet_114 (tb_120) (rfl) (hz) (by first | decide | assumption) (show _ = nI y from by rw [fv_s_ne _ _ (by decide), fv_s_same, Nat.zero_add, fv_u_same]) ?_
                          refine x_iret (pc := 115) dX7_sheet_115 rfl (by first | rfl | exact fv_nz _) ?_
                          exact ⟨rfl, hend _ (fun q hq => by rw [fv_s_ne _ _ (fun e => hq (by rw [e]; decide)), fv_s_ne _ _ (fun e => hq (by rw [e]; decide)), fv_s_ne _ _ (fun e => hq (by rw [e]; decide))]) (by rw [fv_s_ne _ _ (by decide), fv_s_ne _ _ (by decide), fv_s_same]) (by rw [fv_s_ne _ _ (by decide), fv_s_same]) (fv_s_same _ _ _)⟩
                        ·
                          exact absurd (Int32.le_refl _) h87
                    ·
                      have ey2 : nI 0 = nI y := by rw [← ey, if_pos h71]; rfl
                      refine x_iconst (pc := 74) (v := 0) dX7_sheet_74 rfl ?_
                      refine x_goto (pc := 75) dX7_sheet_75 (tgt := 79) rfl ?_
                      refine x_iast (pc := 79) dX7_sheet_79 (tb_120) (rfl) (hz) (by first | decide | assumption) ?_
                      rw [Nat.zero_add, fv_s_ne _ _ (show 35 ≠ 34 by decide)]
                      first | rw [show fv_u (M1 35) z (nI x) = fv_u (M1 35) z (nI y) from by rw [ey2]] | rw [show fv_u (M1 35) z 0 = fv_u (M1 35) z (nI y) from by rw [← ey2]; rfl]
                      refine x_iconst (pc := 80) (v := 0) dX7_sheet_80 rfl ?_
                      refine x_istore4 (pc := 81) dX7_sheet_81 rfl ?_
                      refine x_loop (fun j => [some (.ref 106), some (.int (nI z)), some (.int b), some (.int (nI x)), some (.int (nI j))]) (fun j => fv_s (fv_s (fv_s M1 34 (fv_u (M1 34) z b)) 35 (fv_u (M1 35) z (nI y))) 36 (pFill (M1 36) (40 * z) j 0)) 40 rfl (by show fv_s _ 36 (pFill (M1 36) (40 * z) 0 0) = _; rw [pFill_0, ← fv_s_ne M1 (fv_u (M1 34) z b) (show 36 ≠ 34 by decide), ← fv_s_ne (fv_s M1 34 (fv_u (M1 34) z b)) (fv_u (M1 35) z (nI y)) (show 36 ≠ 35 by decide), fv_s_id]) (fun j hj hL => ?_) ?_
                      · show fv_X E mX7_sheet _ _ 83 [some (.ref 106), some (.int (nI z)), some (.int b), some (.int (nI x)), some (.int (nI j))] [] (fv_s (fv_s (fv_s M1 34 (fv_u (M1 34) z b)) 35 (fv_u (M1 35) z (nI y))) 36 (pFill (M1 36) (40 * z) j 0))
                        replace hL : fv_X E mX7_sheet _ _ 83 [some (.ref 106), some (.int (nI z)), some (.int b), some (.int (nI x)), some (.int (nI (j + 1)))] [] (fv_s (fv_s (fv_s M1 34 (fv_u (M1 34) z b)) 35 (fv_u (M1 35) z (nI y))) 36 (pFill (M1 36) (40 * z) (j + 1) 0)) := hL
                        refine x_iload (pc := 83) dX7_sheet_83 rfl ?_
                        refine x_bipush (pc := 85) (v := 40) dX7_sheet_85 rfl ?_
                        refine x_icmp_ge (pc := 87) dX7_sheet_87 (tgt := 109) rfl (fun h87 => ?_) (fun h87 => ?_)
                        ·
                          exact absurd h87 (nI_ge (b := 40) hj (by omega))
                        ·
                          refine x_aload_n (pc := 90) dX7_sheet_90 rfl rfl ?_
                          refine x_geta (pc := 91) fl_X7_53 dX7_sheet_91 (tb_106) rfl ?_
                          refine x_bipush (pc := 94) (v := 40) dX7_sheet_94 rfl ?_
                          refine x_iload_n (pc := 96) dX7_sheet_96 rfl rfl ?_
                          refine x_imul (pc := 97) dX7_sheet_97 ?_
                          refine x_iload (pc := 98) dX7_sheet_98 rfl ?_
                          refine x_iadd (pc := 100) dX7_sheet_100 ?_
                          refine x_iconst (pc := 101) (v := 0) dX7_sheet_101 rfl ?_
                          refine x_iast (pc := 102) dX7_sheet_102 (tb_121) (pCe_ix z j) (by omega) (by first | decide | assumption) ?_
                          rw [fv_s_same, fv_s_s, Nat.zero_add, pFill_s]
                          refine x_iinc4 (pc := 103) dX7_sheet_103 (by first | exact fv_inc _ | exact fv_dec _ | rfl) rfl ?_
                          refine x_goto (pc := 106) dX7_sheet_106 (tgt := 83) rfl ?_
                          exact hL
                      · show fv_X E mX7_sheet _ _ 83 [some (.ref 106), some (.int (nI z)), some (.int b), some (.int (nI x)), some (.int (nI 40))] [] (fv_s (fv_s (fv_s M1 34 (fv_u (M1 34) z b)) 35 (fv_u (M1 35) z (nI y))) 36 (pFill (M1 36) (40 * z) 40 0))
                        refine x_iload (pc := 83) dX7_sheet_83 rfl ?_
                        refine x_bipush (pc := 85) (v := 40) dX7_sheet_85 rfl ?_
                        refine x_icmp_ge (pc := 87) dX7_sheet_87 (tgt := 109) rfl (fun h87 => ?_) (fun h87 => ?_)
                        ·
                          refine x_aload_n (pc := 109) dX7_sheet_109 rfl rfl ?_
                          refine x_geta (pc := 110) fl_X7_50 dX7_sheet_110 (tb_106) rfl ?_
                          refine x_iload_n (pc := 113) dX7_sheet_113 rfl rfl ?_
                          refine x_iale (pc := 114) dX7_sheet_114 (tb_120) (rfl) (hz) (by first | decide | assumption) (show _ = nI y from by rw [fv_s_ne _ _ (by decide), fv_s_same, Nat.zero_add, fv_u_same]) ?_
                          refine x_iret (pc := 115) dX7_sheet_115 rfl (by first | rfl | exact fv_nz _) ?_
                          exact ⟨rfl, hend _ (fun q hq => by rw [fv_s_ne _ _ (fun e => hq (by rw [e]; decide)), fv_s_ne _ _ (fun e => hq (by rw [e]; decide)), fv_s_ne _ _ (fun e => hq (by rw [e]; decide))]) (by rw [fv_s_ne _ _ (by decide), fv_s_ne _ _ (by decide), fv_s_same]) (by rw [fv_s_ne _ _ (by decide), fv_s_same]) (fv_s_same _ _ _)⟩
                        ·
                          exact absurd (Int32.le_refl _) h87
                  ·
                    exact absurd hn4 h49
                ·
                  exact absurd (nI_pos' (by omega)) h36
              ·
                refine x_iload_n (pc := 11) dX7_sheet_11 rfl rfl ?_
                refine x_bipush (pc := 12) (v := 8) dX7_sheet_12 rfl ?_
                refine x_icmp_eq (pc := 14) dX7_sheet_14 (tgt := 35) rfl (fun h14 => ?_) (fun h14 => ?_)
                ·
                  refine x_iload_n (pc := 35) dX7_sheet_35 rfl rfl ?_
                  refine x_if_ge (pc := 36) dX7_sheet_36 (tgt := 46) rfl (fun h36 => ?_) (fun h36 => ?_)
                  ·
                    refine x_iload_n (pc := 46) dX7_sheet_46 rfl rfl ?_
                    refine x_bipush (pc := 47) (v := 40) dX7_sheet_47 rfl ?_
                    refine x_icmp_le (pc := 49) dX7_sheet_49 (tgt := 58) rfl (fun h49 => ?_) (fun h49 => ?_)
                    ·
                      refine x_aload_n (pc := 58) dX7_sheet_58 rfl rfl ?_
                      refine x_geta (pc := 59) fl_X7_47 dX7_sheet_59 (tb_106) rfl ?_
                      refine x_iload_n (pc := 62) dX7_sheet_62 rfl rfl ?_
                      refine x_iload_n (pc := 63) dX7_sheet_63 rfl rfl ?_
                      refine x_iast (pc := 64) dX7_sheet_64 (tb_119) (rfl) (hz) (by first | decide | assumption) ?_
                      refine x_aload_n (pc := 65) dX7_sheet_65 rfl rfl ?_
                      refine x_geta (pc := 66) fl_X7_50 dX7_sheet_66 (tb_106) rfl ?_
                      refine x_iload_n (pc := 69) dX7_sheet_69 rfl rfl ?_
                      refine x_iload_n (pc := 70) dX7_sheet_70 rfl rfl ?_
                      refine x_if_ne (pc := 71) dX7_sheet_71 (tgt := 78) rfl (fun h71 => ?_) (fun h71 => ?_)
                      ·
                        have ey2 : nI x = nI y := by rw [← ey, if_neg h71]
                        refine x_iload_n (pc := 78) dX7_sheet_78 rfl rfl ?_
                        refine x_iast (pc := 79) dX7_sheet_79 (tb_120) (rfl) (hz) (by first | decide | assumption) ?_
                        rw [Nat.zero_add, fv_s_ne _ _ (show 35 ≠ 34 by decide)]
                        first | rw [show fv_u (M1 35) z (nI x) = fv_u (M1 35) z (nI y) from by rw [ey2]] | rw [show fv_u (M1 35) z 0 = fv_u (M1 35) z (nI y) from by rw [← ey2]; rfl]
                        refine x_iconst (pc := 80) (v := 0) dX7_sheet_80 rfl ?_
                        refine x_istore4 (pc := 81) dX7_sheet_81 rfl ?_
                        refine x_loop (fun j => [some (.ref 106), some (.int (nI z)), some (.int b), some (.int (nI x)), some (.int (nI j))]) (fun j => fv_s (fv_s (fv_s M1 34 (fv_u (M1 34) z b)) 35 (fv_u (M1 35) z (nI y))) 36 (pFill (M1 36) (40 * z) j 0)) 40 rfl (by show fv_s _ 36 (pFill (M1 36) (40 * z) 0 0) = _; rw [pFill_0, ← fv_s_ne M1 (fv_u (M1 34) z b) (show 36 ≠ 34 by decide), ← fv_s_ne (fv_s M1 34 (fv_u (M1 34) z b)) (fv_u (M1 35) z (nI y)) (show 36 ≠ 35 by decide), fv_s_id]) (fun j hj hL => ?_) ?_
                        · show fv_X E mX7_sheet _ _ 83 [some (.ref 106), some (.int (nI z)), some (.int b), some (.int (nI x)), some (.int (nI j))] [] (fv_s (fv_s (fv_s M1 34 (fv_u (M1 34) z b)) 35 (fv_u (M1 35) z (nI y))) 36 (pFill (M1 36) (40 * z) j 0))
                          replace hL : fv_X E mX7_sheet _ _ 83 [some (.ref 106), some (.int (nI z)), some (.int b), some (.int (nI x)), some (.int (nI (j + 1)))] [] (fv_s (fv_s (fv_s M1 34 (fv_u (M1 34) z b)) 35 (fv_u (M1 35) z (nI y))) 36 (pFill (M1 36) (40 * z) (j + 1) 0)) := hL
                          refine x_iload (pc := 83) dX7_sheet_83 rfl ?_
                          refine x_bipush (pc := 85) (v := 40) dX7_sheet_85 rfl ?_
                          refine x_icmp_ge (pc := 87) dX7_sheet_87 (tgt := 109) rfl (fun h87 => ?_) (fun h87 => ?_)
                          ·
                            exact absurd h87 (nI_ge (b := 40) hj (by omega))
                          ·
                            refine x_aload_n (pc := 90) dX7_sheet_90 rfl rfl ?_
                            refine x_geta (pc := 91) fl_X7_53 dX7_sheet_91 (tb_106) rfl ?_
                            refine x_bipush (pc := 94) (v := 40) dX7_sheet_94 rfl ?_
                            refine x_iload_n (pc := 96) dX7_sheet_96 rfl rfl ?_
                            refine x_imul (pc := 97) dX7_sheet_97 ?_
                            refine x_iload (pc := 98) dX7_sheet_98 rfl ?_
                            refine x_iadd (pc := 100) dX7_sheet_100 ?_
                            refine x_iconst (pc := 101) (v := 0) dX7_sheet_101 rfl ?_
                            refine x_iast (pc := 102) dX7_sheet_102 (tb_121) (pCe_ix z j) (by omega) (by first | decide | assumption) ?_
                            rw [fv_s_same, fv_s_s, Nat.zero_add, pFill_s]
                            refine x_iinc4 (pc := 103) dX7_sheet_103 (by first | exact fv_inc _ | exact fv_dec _ | rfl) rfl ?_
                            refine x_goto (pc := 106) dX7_sheet_106 (tgt := 83) rfl ?_
                            exact hL
                        · show fv_X E mX7_sheet _ _ 83 [some (.ref 106), some (.int (nI z)), some (.int b), some (.int (nI x)), some (.int (nI 40))] [] (fv_s (fv_s (fv_s M1 34 (fv_u (M1 34) z b)) 35 (fv_u (M1 35) z (nI y))) 36 (pFill (M1 36) (40 * z) 40 0))
                          refine x_iload (pc := 83) dX7_sheet_83 rfl ?_
                          refine x_bipush (pc := 85) (v := 40) dX7_sheet_85 rfl ?_
                          refine x_icmp_ge (pc := 87) dX7_sheet_87 (tgt := 109) rfl (fun h87 => ?_) (fun h87 => ?_)
                          ·
                            refine x_aload_n (pc := 109) dX7_sheet_109 rfl rfl ?_
                            refine x_geta (pc := 110) fl_X7_50 dX7_sheet_110 (tb_106) rfl ?_
                            refine x_iload_n (pc := 113) dX7_sheet_113 rfl rfl ?_
                            refine x_iale (pc := 114) dX7_sheet_114 (tb_120) (rfl) (hz) (by first | decide | assumption) (show _ = nI y from by rw [fv_s_ne _ _ (by decide), fv_s_same, Nat.zero_add, fv_u_same]) ?_
                            refine x_iret (pc := 115) dX7_sheet_115 rfl (by first | rfl | exact fv_nz _) ?_
                            exact ⟨rfl, hend _ (fun q hq => by rw [fv_s_ne _ _ (fun e => hq (by rw [e]; decide)), fv_s_ne _ _ (fun e => hq (by rw [e]; decide)), fv_s_ne _ _ (fun e => hq (by rw [e]; decide))]) (by rw [fv_s_ne _ _ (by decide), fv_s_ne _ _ (by decide), fv_s_same]) (by rw [fv_s_ne _ _ (by decide), fv_s_same]) (fv_s_same _ _ _)⟩
                          ·
                            exact absurd (Int32.le_refl _) h87
                      ·
                        have ey2 : nI 0 = nI y := by rw [← ey, if_pos h71]; rfl
                        refine x_iconst (pc := 74) (v := 0) dX7_sheet_74 rfl ?_
                        refine x_goto (pc := 75) dX7_sheet_75 (tgt := 79) rfl ?_
                        refine x_iast (pc := 79) dX7_sheet_79 (tb_120) (rfl) (hz) (by first | decide | assumption) ?_
                        rw [Nat.zero_add, fv_s_ne _ _ (show 35 ≠ 34 by decide)]
                        first | rw [show fv_u (M1 35) z (nI x) = fv_u (M1 35) z (nI y) from by rw [ey2]] | rw [show fv_u (M1 35) z 0 = fv_u (M1 35) z (nI y) from by rw [← ey2]; rfl]
                        refine x_iconst (pc := 80) (v := 0) dX7_sheet_80 rfl ?_
                        refine x_istore4 (pc := 81) dX7_sheet_81 rfl ?_
                        refine x_loop (fun j => [some (.ref 106), some (.int (nI z)), some (.int b), some (.int (nI x)), some (.int (nI j))]) (fun j => fv_s (fv_s (fv_s M1 34 (fv_u (M1 34) z b)) 35 (fv_u (M1 35) z (nI y))) 36 (pFill (M1 36) (40 * z) j 0)) 40 rfl (by show fv_s _ 36 (pFill (M1 36) (40 * z) 0 0) = _; rw [pFill_0, ← fv_s_ne M1 (fv_u (M1 34) z b) (show 36 ≠ 34 by decide), ← fv_s_ne (fv_s M1 34 (fv_u (M1 34) z b)) (fv_u (M1 35) z (nI y)) (show 36 ≠ 35 by decide), fv_s_id]) (fun j hj hL => ?_) ?_
                        · show fv_X E mX7_sheet _ _ 83 [some (.ref 106), some (.int (nI z)), some (.int b), some (.int (nI x)), some (.int (nI j))] [] (fv_s (fv_s (fv_s M1 34 (fv_u (M1 34) z b)) 35 (fv_u (M1 35) z (nI y))) 36 (pFill (M1 36) (40 * z) j 0))
                          replace hL : fv_X E mX7_sheet _ _ 83 [some (.ref 106), some (.int (nI z)), some (.int b), some (.int (nI x)), some (.int (nI (j + 1)))] [] (fv_s (fv_s (fv_s M1 34 (fv_u (M1 34) z b)) 35 (fv_u (M1 35) z (nI y))) 36 (pFill (M1 36) (40 * z) (j + 1) 0)) := hL
                          refine x_iload (pc := 83) dX7_sheet_83 rfl ?_
                          refine x_bipush (pc := 85) (v := 40) dX7_sheet_85 rfl ?_
                          refine x_icmp_ge (pc := 87) dX7_sheet_87 (tgt := 109) rfl (fun h87 => ?_) (fun h87 => ?_)
                          ·
                            exact absurd h87 (nI_ge (b := 40) hj (by omega))
                          ·
                            refine x_aload_n (pc := 90) dX7_sheet_90 rfl rfl ?_
                            refine x_geta (pc := 91) fl_X7_53 dX7_sheet_91 (tb_106) rfl ?_
                            refine x_bipush (pc := 94) (v := 40) dX7_sheet_94 rfl ?_
                            refine x_iload_n (pc := 96) dX7_sheet_96 rfl rfl ?_
                            refine x_imul (pc := 97) dX7_sheet_97 ?_
                            refine x_iload (pc := 98) dX7_sheet_98 rfl ?_
                            refine x_iadd (pc := 100) dX7_sheet_100 ?_
                            refine x_iconst (pc := 101) (v := 0) dX7_sheet_101 rfl ?_
                            refine x_iast (pc := 102) dX7_sheet_102 (tb_121) (pCe_ix z j) (by omega) (by first | decide | assumption) ?_
                            rw [fv_s_same, fv_s_s, Nat.zero_add, pFill_s]
                            refine x_iinc4 (pc := 103) dX7_sheet_103 (by first | exact fv_inc _ | exact fv_dec _ | rfl) rfl ?_
                            refine x_goto (pc := 106) dX7_sheet_106 (tgt := 83) rfl ?_
                            exact hL
                        · show fv_X E mX7_sheet _ _ 83 [some (.ref 106), some (.int (nI z)), some (.int b), some (.int (nI x)), some (.int (nI 40))] [] (fv_s (fv_s (fv_s M1 34 (fv_u (M1 34) z b)) 35 (fv_u (M1 35) z (nI y))) 36 (pFill (M1 36) (40 * z) 40 0))
                          refine x_iload (pc := 83) dX7_sheet_83 rfl ?_
                          refine x_bipush (pc := 85) (v := 40) dX7_sheet_85 rfl ?_
                          refine x_icmp_ge (pc := 87) dX7_sheet_87 (tgt := 109) rfl (fun h87 => ?_) (fun h87 => ?_)
                          ·
                            refine x_aload_n (pc := 109) dX7_sheet_109 rfl rfl ?_
                            refine x_geta (pc := 110) fl_X7_50 dX7_sheet_110 (tb_106) rfl ?_
                            refine x_iload_n (pc := 113) dX7_sheet_113 rfl rfl ?_
                            refine x_iale (pc := 114) dX7_sheet_114 (tb_120) (rfl) (hz) (by first | decide | assumption) (show _ = nI y from by rw [fv_s_ne _ _ (by decide), fv_s_same, Nat.zero_add, fv_u_same]) ?_
                            refine x_iret (pc := 115) dX7_sheet_115 rfl (by first | rfl | exact fv_nz _) ?_
                            exact ⟨rfl, hend _ (fun q hq => by rw [fv_s_ne _ _ (fun e => hq (by rw [e]; decide)), fv_s_ne _ _ (fun e => hq (by rw [e]; decide)), fv_s_ne _ _ (fun e => hq (by rw [e]; decide))]) (by rw [fv_s_ne _ _ (by decide), fv_s_ne _ _ (by decide), fv_s_same]) (by rw [fv_s_ne _ _ (by decide), fv_s_same]) (fv_s_same _ _ _)⟩
                          ·
                            exact absurd (Int32.le_refl _) h87
                    ·
                      exact absurd hn4 h49
                  ·
                    exact absurd (nI_pos' (by omega)) h36
                ·
                  refine x_iload_n (pc := 17) dX7_sheet_17 rfl rfl ?_
                  refine x_bipush (pc := 18) (v := 16) dX7_sheet_18 rfl ?_
                  refine x_icmp_eq (pc := 20) dX7_sheet_20 (tgt := 35) rfl (fun h20 => ?_) (fun h20 => ?_)
                  ·
                    refine x_iload_n (pc := 35) dX7_sheet_35 rfl rfl ?_
                    refine x_if_ge (pc := 36) dX7_sheet_36 (tgt := 46) rfl (fun h36 => ?_) (fun h36 => ?_)
                    ·
                      refine x_iload_n (pc := 46) dX7_sheet_46 rfl rfl ?_
                      refine x_bipush (pc := 47) (v := 40) dX7_sheet_47 rfl ?_
                      refine x_icmp_le (pc := 49) dX7_sheet_49 (tgt := 58) rfl (fun h49 => ?_) (fun h49 => ?_)
                      ·
                        refine x_aload_n (pc := 58) dX7_sheet_58 rfl rfl ?_
                        refine x_geta (pc := 59) fl_X7_47 dX7_sheet_59 (tb_106) rfl ?_
                        refine x_iload_n (pc := 62) dX7_sheet_62 rfl rfl ?_
                        refine x_iload_n (pc := 63) dX7_sheet_63 rfl rfl ?_
                        refine x_iast (pc := 64) dX7_sheet_64 (tb_119) (rfl) (hz) (by first | decide | assumption) ?_
                        refine x_aload_n (pc := 65) dX7_sheet_65 rfl rfl ?_
                        refine x_geta (pc := 66) fl_X7_50 dX7_sheet_66 (tb_106) rfl ?_
                        refine x_iload_n (pc := 69) dX7_sheet_69 rfl rfl ?_
                        refine x_iload_n (pc := 70) dX7_sheet_70 rfl rfl ?_
                        refine x_if_ne (pc := 71) dX7_sheet_71 (tgt := 78) rfl (fun h71 => ?_) (fun h71 => ?_)
                        ·
                          have ey2 : nI x = nI y := by rw [← ey, if_neg h71]
                          refine x_iload_n (pc := 78) dX7_sheet_78 rfl rfl ?_
                          refine x_iast (pc := 79) dX7_sheet_79 (tb_120) (rfl) (hz) (by first | decide | assumption) ?_
                          rw [Nat.zero_add, fv_s_ne _ _ (show 35 ≠ 34 by decide)]
                          first | rw [show fv_u (M1 35) z (nI x) = fv_u (M1 35) z (nI y) from by rw [ey2]] | rw [show fv_u (M1 35) z 0 = fv_u (M1 35) z (nI y) from by rw [← ey2]; rfl]
                          refine x_iconst (pc := 80) (v := 0) dX7_sheet_80 rfl ?_
                          refine x_istore4 (pc := 81) dX7_sheet_81 rfl ?_
                          refine x_loop (fun j => [some (.ref 106), some (.int (nI z)), some (.int b), some (.int (nI x)), some (.int (nI j))]) (fun j => fv_s (fv_s (fv_s M1 34 (fv_u (M1 34) z b)) 35 (fv_u (M1 35) z (nI y))) 36 (pFill (M1 36) (40 * z) j 0)) 40 rfl (by show fv_s _ 36 (pFill (M1 36) (40 * z) 0 0) = _; rw [pFill_0, ← fv_s_ne M1 (fv_u (M1 34) z b) (show 36 ≠ 34 by decide), ← fv_s_ne (fv_s M1 34 (fv_u (M1 34) z b)) (fv_u (M1 35) z (nI y)) (show 36 ≠ 35 by decide), fv_s_id]) (fun j hj hL => ?_) ?_
                          · show fv_X E mX7_sheet _ _ 83 [some (.ref 106), some (.int (nI z)), some (.int b), some (.int (nI x)), some (.int (nI j))] [] (fv_s (fv_s (fv_s M1 34 (fv_u (M1 34) z b)) 35 (fv_u (M1 35) z (nI y))) 36 (pFill (M1 36) (40 * z) j 0))
                            replace hL : fv_X E mX7_sheet _ _ 83 [some (.ref 106), some (.int (nI z)), some (.int b), some (.int (nI x)), some (.int (nI (j + 1)))] [] (fv_s (fv_s (fv_s M1 34 (fv_u (M1 34) z b)) 35 (fv_u (M1 35) z (nI y))) 36 (pFill (M1 36) (40 * z) (j + 1) 0)) := hL
                            refine x_iload (pc := 83) dX7_sheet_83 rfl ?_
                            refine x_bipush (pc := 85) (v := 40) dX7_sheet_85 rfl ?_
                            refine x_icmp_ge (pc := 87) dX7_sheet_87 (tgt := 109) rfl (fun h87 => ?_) (fun h87 => ?_)
                            ·
                              exact absurd h87 (nI_ge (b := 40) hj (by omega))
                            ·
                              refine x_aload_n (pc := 90) dX7_sheet_90 rfl rfl ?_
                              refine x_geta (pc := 91) fl_X7_53 dX7_sheet_91 (tb_106) rfl ?_
                              refine x_bipush (pc := 94) (v := 40) dX7_sheet_94 rfl ?_
                              refine x_iload_n (pc := 96) dX7_sheet_96 rfl rfl ?_
                              refine x_imul (pc := 97) dX7_sheet_97 ?_
                              refine x_iload (pc := 98) dX7_sheet_98 rfl ?_
                              refine x_iadd (pc := 100) dX7_sheet_100 ?_
                              refine x_iconst (pc := 101) (v := 0) dX7_sheet_101 rfl ?_
                              refine x_iast (pc := 102) dX7_sheet_102 (tb_121) (pCe_ix z j) (by omega) (by first | decide | assumption) ?_
                              rw [fv_s_same, fv_s_s, Nat.zero_add, pFill_s]
                              refine x_iinc4 (pc := 103) dX7_sheet_103 (by first | exact fv_inc _ | exact fv_dec _ | rfl) rfl ?_
                              refine x_goto (pc := 106) dX7_sheet_106 (tgt := 83) rfl ?_
                              exact hL
                          · show fv_X E mX7_sheet _ _ 83 [some (.ref 106), some (.int (nI z)), some (.int b), some (.int (nI x)), some (.int (nI 40))] [] (fv_s (fv_s (fv_s M1 34 (fv_u (M1 34) z b)) 35 (fv_u (M1 35) z (nI y))) 36 (pFill (M1 36) (40 * z) 40 0))
                            refine x_iload (pc := 83) dX7_sheet_83 rfl ?_
                            refine x_bipush (pc := 85) (v := 40) dX7_sheet_85 rfl ?_
                            refine x_icmp_ge (pc := 87) dX7_sheet_87 (tgt := 109) rfl (fun h87 => ?_) (fun h87 => ?_)
                            ·
                              refine x_aload_n (pc := 109) dX7_sheet_109 rfl rfl ?_
                              refine x_geta (pc := 110) fl_X7_50 dX7_sheet_110 (tb_106) rfl ?_
                              refine x_iload_n (pc := 113) dX7_sheet_113 rfl rfl ?_
                              refine x_iale (pc := 114) dX7_sheet_114 (tb_120) (rfl) (hz) (by first | decide | assumption) (show _ = nI y from by rw [fv_s_ne _ _ (by decide), fv_s_same, Nat.zero_add, fv_u_same]) ?_
                              refine x_iret (pc := 115) dX7_sheet_115 rfl (by first | rfl | exact fv_nz _) ?_
                              exact ⟨rfl, hend _ (fun q hq => by rw [fv_s_ne _ _ (fun e => hq (by rw [e]; decide)), fv_s_ne _ _ (fun e => hq (by rw [e]; decide)), fv_s_ne _ _ (fun e => hq (by rw [e]; decide))]) (by rw [fv_s_ne _ _ (by decide), fv_s_ne _ _ (by decide), fv_s_same]) (by rw [fv_s_ne _ _ (by decide), fv_s_same]) (fv_s_same _ _ _)⟩
                            ·
                              exact absurd (Int32.le_refl _) h87
                        ·
                          have ey2 : nI 0 = nI y := by rw [← ey, if_pos h71]; rfl
                          refine x_iconst (pc := 74) (v := 0) dX7_sheet_74 rfl ?_
                          refine x_goto (pc := 75) dX7_sheet_75 (tgt := 79) rfl ?_
                          refine x_iast (pc := 79) dX7_sheet_79 (tb_120) (rfl) (hz) (by first | decide | assumption) ?_
                          rw [Nat.zero_add, fv_s_ne _ _ (show 35 ≠ 34 by decide)]
                          first | rw [show fv_u (M1 35) z (nI x) = fv_u (M1 35) z (nI y) from by rw [ey2]] | rw [show fv_u (M1 35) z 0 = fv_u (M1 35) z (nI y) from by rw [← ey2]; rfl]
                          refine x_iconst (pc := 80) (v := 0) dX7_sheet_80 rfl ?_
                          refine x_istore4 (pc := 81) dX7_sheet_81 rfl ?_
                          refine x_loop (fun j => [some (.ref 106), some (.int (nI z)), some (.int b), some (.int (nI x)), some (.int (nI j))]) (fun j => fv_s (fv_s (fv_s M1 34 (fv_u (M1 34) z b)) 35 (fv_u (M1 35) z (nI y))) 36 (pFill (M1 36) (40 * z) j 0)) 40 rfl (by show fv_s _ 36 (pFill (M1 36) (40 * z) 0 0) = _; rw [pFill_0, ← fv_s_ne M1 (fv_u (M1 34) z b) (show 36 ≠ 34 by decide), ← fv_s_ne (fv_s M1 34 (fv_u (M1 34) z b)) (fv_u (M1 35) z (nI y)) (show 36 ≠ 35 by decide), fv_s_id]) (fun j hj hL => ?_) ?_
                          · show fv_X E mX7_sheet _ _ 83 [some (.ref 106), some (.int (nI z)), some (.int b), some (.int (nI x)), some (.int (nI j))] [] (fv_s (fv_s (fv_s M1 34 (fv_u (M1 34) z b)) 35 (fv_u (M1 35) z (nI y))) 36 (pFill (M1 36) (40 * z) j 0))
                            replace hL : fv_X E mX7_sheet _ _ 83 [some (.ref 106), some (.int (nI z)), some (.int b), some (.int (nI x)), some (.int (nI (j + 1)))] [] (fv_s (fv_s (fv_s M1 34 (fv_u (M1 34) z b)) 35 (fv_u (M1 35) z (nI y))) 36 (pFill (M1 36) (40 * z) (j + 1) 0)) := hL
                            refine x_iload (pc := 83) dX7_sheet_83 rfl ?_
                            refine x_bipush (pc := 85) (v := 40) dX7_sheet_85 rfl ?_
                            refine x_icmp_ge (pc := 87) dX7_sheet_87 (tgt := 109) rfl (fun h87 => ?_) (fun h87 => ?_)
                            ·
                              exact absurd h87 (nI_ge (b := 40) hj (by omega))
                            ·
                              refine x_aload_n (pc := 90) dX7_sheet_90 rfl rfl ?_
                              refine x_geta (pc := 91) fl_X7_53 dX7_sheet_91 (tb_106) rfl ?_
                              refine x_bipush (pc := 94) (v := 40) dX7_sheet_94 rfl ?_
                              refine x_iload_n (pc := 96) dX7_sheet_96 rfl rfl ?_
                              refine x_imul (pc := 97) dX7_sheet_97 ?_
                              refine x_iload (pc := 98) dX7_sheet_98 rfl ?_
                              refine x_iadd (pc := 100) dX7_sheet_100 ?_
                              refine x_iconst (pc := 101) (v := 0) dX7_sheet_101 rfl ?_
                              refine x_iast (pc := 102) dX7_sheet_102 (tb_121) (pCe_ix z j) (by omega) (by first | decide | assumption) ?_
                              rw [fv_s_same, fv_s_s, Nat.zero_add, pFill_s]
                              refine x_iinc4 (pc := 103) dX7_sheet_103 (by first | exact fv_inc _ | exact fv_dec _ | rfl) rfl ?_
                              refine x_goto (pc := 106) dX7_sheet_106 (tgt := 83) rfl ?_
                              exact hL
                          · show fv_X E mX7_sheet _ _ 83 [some (.ref 106), some (.int (nI z)), some (.int b), some (.int (nI x)), some (.int (nI 40))] [] (fv_s (fv_s (fv_s M1 34 (fv_u (M1 34) z b)) 35 (fv_u (M1 35) z (nI y))) 36 (pFill (M1 36) (40 * z) 40 0))
                            refine x_iload (pc := 83) dX7_sheet_83 rfl ?_
                            refine x_bipush (pc := 85) (v := 40) dX7_sheet_85 rfl ?_
                            refine x_icmp_ge (pc := 87) dX7_sheet_87 (tgt := 109) rfl (fun h87 => ?_) (fun h87 => ?_)
                            ·
                              refine x_aload_n (pc := 109) dX7_sheet_109 rfl rfl ?_
                              refine x_geta (pc := 110) fl_X7_50 dX7_sheet_110 (tb_106) rfl ?_
                              refine x_iload_n (pc := 113) dX7_sheet_113 rfl rfl ?_
                              refine x_iale (pc := 114) dX7_sheet_114 (tb_120) (rfl) (hz) (by first | decide | assumption) (show _ = nI y from by rw [fv_s_ne _ _ (by decide), fv_s_same, Nat.zero_add, fv_u_same]) ?_
                              refine x_iret (pc := 115) dX7_sheet_115 rfl (by first | rfl | exact fv_nz _) ?_
                              exact ⟨rfl, hend _ (fun q hq => by rw [fv_s_ne _ _ (fun e => hq (by rw [e]; decide)), fv_s_ne _ _ (fun e => hq (by rw [e]; decide)), fv_s_ne _ _ (fun e => hq (by rw [e]; decide))]) (by rw [fv_s_ne _ _ (by decide), fv_s_ne _ _ (by decide), fv_s_same]) (by rw [fv_s_ne _ _ (by decide), fv_s_same]) (fv_s_same _ _ _)⟩
                            ·
                              exact absurd (Int32.le_refl _) h87
                      ·
                        exact absurd hn4 h49
                    ·
                      exact absurd (nI_pos' (by omega)) h36
                  ·
                    refine x_iload_n (pc := 23) dX7_sheet_23 rfl rfl ?_
                    refine x_bipush (pc := 24) (v := 32) dX7_sheet_24 rfl ?_
                    refine x_icmp_eq (pc := 26) dX7_sheet_26 (tgt := 35) rfl (fun h26 => ?_) (fun h26 => ?_)
                    ·
                      refine x_iload_n (pc := 35) dX7_sheet_35 rfl rfl ?_
                      refine x_if_ge (pc := 36) dX7_sheet_36 (tgt := 46) rfl (fun h36 => ?_) (fun h36 => ?_)
                      ·
                        refine x_iload_n (pc := 46) dX7_sheet_46 rfl rfl ?_
                        refine x_bipush (pc := 47) (v := 40) dX7_sheet_47 rfl ?_
                        refine x_icmp_le (pc := 49) dX7_sheet_49 (tgt := 58) rfl (fun h49 => ?_) (fun h49 => ?_)
                        ·
                          refine x_aload_n (pc := 58) dX7_sheet_58 rfl rfl ?_
                          refine x_geta (pc := 59) fl_X7_47 dX7_sheet_59 (tb_106) rfl ?_
                          refine x_iload_n (pc := 62) dX7_sheet_62 rfl rfl ?_
                          refine x_iload_n (pc := 63) dX7_sheet_63 rfl rfl ?_
                          refine x_iast (pc := 64) dX7_sheet_64 (tb_119) (rfl) (hz) (by first | decide | assumption) ?_
                          refine x_aload_n (pc := 65) dX7_sheet_65 rfl rfl ?_
                          refine x_geta (pc := 66) fl_X7_50 dX7_sheet_66 (tb_106) rfl ?_
                          refine x_iload_n (pc := 69) dX7_sheet_69 rfl rfl ?_
                          refine x_iload_n (pc := 70) dX7_sheet_70 rfl rfl ?_
                          refine x_if_ne (pc := 71) dX7_sheet_71 (tgt := 78) rfl (fun h71 => ?_) (fun h71 => ?_)
                          ·
                            have ey2 : nI x = nI y := by rw [← ey, if_neg h71]
                            refine x_iload_n (pc := 78) dX7_sheet_78 rfl rfl ?_
                            refine x_iast (pc := 79) dX7_sheet_79 (tb_120) (rfl) (hz) (by first | decide | assumption) ?_
                            rw [Nat.zero_add, fv_s_ne _ _ (show 35 ≠ 34 by decide)]
                            first | rw [show fv_u (M1 35) z (nI x) = fv_u (M1 35) z (nI y) from by rw [ey2]] | rw [show fv_u (M1 35) z 0 = fv_u (M1 35) z (nI y) from by rw [← ey2]; rfl]
                            refine x_iconst (pc := 80) (v := 0) dX7_sheet_80 rfl ?_
                            refine x_istore4 (pc := 81) dX7_sheet_81 rfl ?_
                            refine x_loop (fun j => [some (.ref 106), some (.int (nI z)), some (.int b), some (.int (nI x)), some (.int (nI j))]) (fun j => fv_s (fv_s (fv_s M1 34 (fv_u (M1 34) z b)) 35 (fv_u (M1 35) z (nI y))) 36 (pFill (M1 36) (40 * z) j 0)) 40 rfl (by show fv_s _ 36 (pFill (M1 36) (40 * z) 0 0) = _; rw [pFill_0, ← fv_s_ne M1 (fv_u (M1 34) z b) (show 36 ≠ 34 by decide), ← fv_s_ne (fv_s M1 34 (fv_u (M1 34) z b)) (fv_u (M1 35) z (nI y)) (show 36 ≠ 35 by decide), fv_s_id]) (fun j hj hL => ?_) ?_
                            · show fv_X E mX7_sheet _ _ 83 [some (.ref 106), some (.int (nI z)), some (.int b), some (.int (nI x)), some (.int (nI j))] [] (fv_s (fv_s (fv_s M1 34 (fv_u (M1 34) z b)) 35 (fv_u (M1 35) z (nI y))) 36 (pFill (M1 36) (40 * z) j 0))
                              replace hL : fv_X E mX7_sheet _ _ 83 [some (.ref 106), some (.int (nI z)), some (.int b), some (.int (nI x)), some (.int (nI (j + 1)))] [] (fv_s (fv_s (fv_s M1 34 (fv_u (M1 34) z b)) 35 (fv_u (M1 35) z (nI y))) 36 (pFill (M1 36) (40 * z) (j + 1) 0)) := hL
                              refine x_iload (pc := 83) dX7_sheet_83 rfl ?_
                              refine x_bipush (pc := 85) (v := 40) dX7_sheet_85 rfl ?_
                              refine x_icmp_ge (pc := 87) dX7_sheet_87 (tgt := 109) rfl (fun h87 => ?_) (fun h87 => ?_)
                              ·
                                exact absurd h87 (nI_ge (b := 40) hj (by omega))
                              ·
                                refine x_aload_n (pc := 90) dX7_sheet_90 rfl rfl ?_
                                refine x_geta (pc := 91) fl_X7_53 dX7_sheet_91 (tb_106) rfl ?_
                                refine x_bipush (pc := 94) (v := 40) dX7_sheet_94 rfl ?_
                                refine x_iload_n (pc := 96) dX7_sheet_96 rfl rfl ?_
                                refine x_imul (pc := 97) dX7_sheet_97 ?_
                                refine x_iload (pc := 98) dX7_sheet_98 rfl ?_
                                refine x_iadd (pc := 100) dX7_sheet_100 ?_
                                refine x_iconst (pc := 101) (v := 0) dX7_sheet_101 rfl ?_
                                refine x_iast (pc := 102) dX7_sheet_102 (tb_121) (pCe_ix z j) (by omega) (by first | decide | assumption) ?_
                                rw [fv_s_same, fv_s_s, Nat.zero_add, pFill_s]
                                refine x_iinc4 (pc := 103) dX7_sheet_103 (by first | exact fv_inc _ | exact fv_dec _ | rfl) rfl ?_
                                refine x_goto (pc := 106) dX7_sheet_106 (tgt := 83) rfl ?_
                                exact hL
                            · show fv_X E mX7_sheet _ _ 83 [some (.ref 106), some (.int (nI z)), some (.int b), some (.int (nI x)), some (.int (nI 40))] [] (fv_s (fv_s (fv_s M1 34 (fv_u (M1 34) z b)) 35 (fv_u (M1 35) z (nI y))) 36 (pFill (M1 36) (40 * z) 40 0))
                              refine x_iload (pc := 83) dX7_sheet_83 rfl ?_
                              refine x_bipush (pc := 85) (v := 40) dX7_sheet_85 rfl ?_
                              refine x_icmp_ge (pc := 87) dX7_sheet_87 (tgt := 109) rfl (fun h87 => ?_) (fun h87 => ?_)
                              ·
                                refine x_aload_n (pc := 109) dX7_sheet_109 rfl rfl ?_
                                refine x_geta (pc := 110) fl_X7_50 dX7_sheet_110 (tb_106) rfl ?_
                                refine x_iload_n (pc := 113) dX7_sheet_113 rfl rfl ?_
                                refine x_iale (pc := 114) dX7_sheet_114 (tb_120) (rfl) (hz) (by first | decide | assumption) (show _ = nI y from by rw [fv_s_ne _ _ (by decide), fv_s_same, Nat.zero_add, fv_u_same]) ?_
                                refine x_iret (pc := 115) dX7_sheet_115 rfl (by first | rfl | exact fv_nz _) ?_
                                exact ⟨rfl, hend _ (fun q hq => by rw [fv_s_ne _ _ (fun e => hq (by rw [e]; decide)), fv_s_ne _ _ (fun e => hq (by rw [e]; decide)), fv_s_ne _ _ (fun e => hq (by rw [e]; decide))]) (by rw [fv_s_ne _ _ (by decide), fv_s_ne _ _ (by decide), fv_s_same]) (by rw [fv_s_ne _ _ (by decide), fv_s_same]) (fv_s_same _ _ _)⟩
                              ·
                                exact absurd (Int32.le_refl _) h87
                          ·
                            have ey2 : nI 0 = nI y := by rw [← ey, if_pos h71]; rfl
                            refine x_iconst (pc := 74) (v := 0) dX7_sheet_74 rfl ?_
                            refine x_goto (pc := 75) dX7_sheet_75 (tgt := 79) rfl ?_
                            refine x_iast (pc := 79) dX7_sheet_79 (tb_120) (rfl) (hz) (by first | decide | assumption) ?_
                            rw [Nat.zero_add, fv_s_ne _ _ (show 35 ≠ 34 by decide)]
                            first | rw [show fv_u (M1 35) z (nI x) = fv_u (M1 35) z (nI y) from by rw [ey2]] | rw [show fv_u (M1 35) z 0 = fv_u (M1 35) z (nI y) from by rw [← ey2]; rfl]
                            refine x_iconst (pc := 80) (v := 0) dX7_sheet_80 rfl ?_
                            refine x_istore4 (pc := 81) dX7_sheet_81 rfl ?_
                            refine x_loop (fun j => [some (.ref 106), some (.int (nI z)), some (.int b), some (.int (nI x)), some (.int (nI j))]) (fun j => fv_s (fv_s (fv_s M1 34 (fv_u (M1 34) z b)) 35 (fv_u (M1 35) z (nI y))) 36 (pFill (M1 36) (40 * z) j 0)) 40 rfl (by show fv_s _ 36 (pFill (M1 36) (40 * z) 0 0) = _; rw [pFill_0, ← fv_s_ne M1 (fv_u (M1 34) z b) (show 36 ≠ 34 by decide), ← fv_s_ne (fv_s M1 34 (fv_u (M1 34) z b)) (fv_u (M1 35) z (nI y)) (show 36 ≠ 35 by decide), fv_s_id]) (fun j hj hL => ?_) ?_
                            · show fv_X E mX7_sheet _ _ 83 [some (.ref 106), some (.int (nI z)), some (.int b), some (.int (nI x)), some (.int (nI j))] [] (fv_s (fv_s (fv_s M1 34 (fv_u (M1 34) z b)) 35 (fv_u (M1 35) z (nI y))) 36 (pFill (M1 36) (40 * z) j 0))
                              replace hL : fv_X E mX7_sheet _ _ 83 [some (.ref 106), some (.int (nI z)), some (.int b), some (.int (nI x)), some (.int (nI (j + 1)))] [] (fv_s (fv_s (fv_s M1 34 (fv_u (M1 34) z b)) 35 (fv_u (M1 35) z (nI y))) 36 (pFill (M1 36) (40 * z) (j + 1) 0)) := hL
                              refine x_iload (pc := 83) dX7_sheet_83 rfl ?_
                              refine x_bipush (pc := 85) (v := 40) dX7_sheet_85 rfl ?_
                              refine x_icmp_ge (pc := 87) dX7_sheet_87 (tgt := 109) rfl (fun h87 => ?_) (fun h87 => ?_)
                              ·
                                exact absurd h87 (nI_ge (b := 40) hj (by omega))
                              ·
                                refine x_aload_n (pc := 90) dX7_sheet_90 rfl rfl ?_
                                refine x_geta (pc := 91) fl_X7_53 dX7_sheet_91 (tb_106) rfl ?_
                                refine x_bipush (pc := 94) (v := 40) dX7_sheet_94 rfl ?_
                                refine x_iload_n (pc := 96) dX7_sheet_96 rfl rfl ?_
                                refine x_imul (pc := 97) dX7_sheet_97 ?_
                                refine x_iload (pc := 98) dX7_sheet_98 rfl ?_
                                refine x_iadd (pc := 100) dX7_sheet_100 ?_
                                refine x_iconst (pc := 101) (v := 0) dX7_sheet_101 rfl ?_
                                refine x_iast (pc := 102) dX7_sheet_102 (tb_121) (pCe_ix z j) (by omega) (by first | decide | assumption) ?_
                                rw [fv_s_same, fv_s_s, Nat.zero_add, pFill_s]
                                refine x_iinc4 (pc := 103) dX7_sheet_103 (by first | exact fv_inc _ | exact fv_dec _ | rfl) rfl ?_
                                refine x_goto (pc := 106) dX7_sheet_106 (tgt := 83) rfl ?_
                                exact hL
                            · show fv_X E mX7_sheet _ _ 83 [some (.ref 106), some (.int (nI z)), some (.int b), some (.int (nI x)), some (.int (nI 40))] [] (fv_s (fv_s (fv_s M1 34 (fv_u (M1 34) z b)) 35 (fv_u (M1 35) z (nI y))) 36 (pFill (M1 36) (40 * z) 40 0))
                              refine x_iload (pc := 83) dX7_sheet_83 rfl ?_
                              refine x_bipush (pc := 85) (v := 40) dX7_sheet_85 rfl ?_
                              refine x_icmp_ge (pc := 87) dX7_sheet_87 (tgt := 109) rfl (fun h87 => ?_) (fun h87 => ?_)
                              ·
                                refine x_aload_n (pc := 109) dX7_sheet_109 rfl rfl ?_
                                refine x_geta (pc := 110) fl_X7_50 dX7_sheet_110 (tb_106) rfl ?_
                                refine x_iload_n (pc := 113) dX7_sheet_113 rfl rfl ?_
                                refine x_iale (pc := 114) dX7_sheet_114 (tb_120) (rfl) (hz) (by first | decide | assumption) (show _ = nI y from by rw [fv_s_ne _ _ (by decide), fv_s_same, Nat.zero_add, fv_u_same]) ?_
                                refine x_iret (pc := 115) dX7_sheet_115 rfl (by first | rfl | exact fv_nz _) ?_
                                exact ⟨rfl, hend _ (fun q hq => by rw [fv_s_ne _ _ (fun e => hq (by rw [e]; decide)), fv_s_ne _ _ (fun e => hq (by rw [e]; decide)), fv_s_ne _ _ (fun e => hq (by rw [e]; decide))]) (by rw [fv_s_ne _ _ (by decide), fv_s_ne _ _ (by decide), fv_s_same]) (by rw [fv_s_ne _ _ (by decide), fv_s_same]) (fv_s_same _ _ _)⟩
                              ·
                                exact absurd (Int32.le_refl _) h87
                        ·
                          exact absurd hn4 h49
                      ·
                        exact absurd (nI_pos' (by omega)) h36
                    ·
                      exact absurd hb4 (fun q => q.elim h8 (fun q => q.elim h14 (fun q => q.elim h20 h26)))
        · skip
          refine pOp.bad (v := -1000001) 0 I ?_ (fun M1 hF => ?_)
          · skip
            refine fv_F.of (ls := [some (.ref 0), some (.int s), some (.int b), some (.int n)]) (by decide) (Nat.le_of_ble_eq_true rfl) rfl ?_
            refine x_iload_n (pc := 0) dX6_sheet_0 rfl rfl ?_
            refine x_iconst (pc := 1) (v := 3) dX6_sheet_1 rfl ?_
            refine x_Si (pc := 2) ks_X6_51 dX6_sheet_2 (hX6_isUpTo) rfl rfl rfl (Nat.le_of_ble_eq_true rfl) ?_
            refine x_ifb_eq (pc := 5) dX6_sheet_5 (tgt := 15) rfl (fun h5 => ?_) (fun h5 => ?_)
            ·
              exact absurd hs h5
            ·
              refine x_iload_n (pc := 8) dX6_sheet_8 rfl rfl ?_
              refine x_Si (pc := 9) ks_X6_249 dX6_sheet_9 (hX3_hasBits) rfl rfl rfl (Nat.le_of_ble_eq_true rfl) ?_
              refine x_ifb_ne (pc := 12) dX6_sheet_12 (tgt := 22) rfl (fun h12 => ?_) (fun h12 => ?_)
              ·
                refine x_iload_n (pc := 22) dX6_sheet_22 rfl rfl ?_
                refine x_if_ge (pc := 23) dX6_sheet_23 (tgt := 33) rfl (fun h23 => ?_) (fun h23 => ?_)
                ·
                  refine x_iload_n (pc := 33) dX6_sheet_33 rfl rfl ?_
                  refine x_bipush (pc := 34) (v := 40) dX6_sheet_34 rfl ?_
                  refine x_icmp_le (pc := 36) dX6_sheet_36 (tgt := 46) rfl (fun h36 => ?_) (fun h36 => ?_)
                  ·
                    exact absurd h36 hn4
                  ·
                    refine x_aload_n (pc := 39) dX6_sheet_39 rfl rfl ?_
                    refine x_ldc (pc := 40) kc_X6_55 dX6_sheet_40 ?_
                    refine x_Vi (pc := 42) ks_X6_56 dX6_sheet_42 (tb_fv) rfl rfl (hX6_fin 0 (-1000001) (by decide +kernel) (by decide)) rfl rfl rfl (Nat.le_of_ble_eq_true rfl) ?_
                    refine x_iret (pc := 45) dX6_sheet_45 rfl (by first | rfl | exact fv_nz _) ?_
                    exact ⟨rfl, rfl⟩
                ·
                  exact absurd (Int32.not_le.mp h23) hn0
              ·
                exact absurd hb4 h12
          · skip
            have e22 : M1 22 = M 22 := hF 22 (by decide)
            have hG1 : pGd (M1 22) nb nm := by rw [e22]; exact hG2
            have hE1 : pEq nb nm (M1 22) (M 0) := by rw [e22]; exact hE
            have hB1 := hG1.1
            have hM1 := hG1.2.2.1
            refine fv_F.of (ls := [some (.ref 106), some (.int s), some (.int b), some (.int n), none]) (by decide) (Nat.le_of_ble_eq_true rfl) rfl ?_
            refine x_iload_n (pc := 0) dX7_sheet_0 rfl rfl ?_
            refine x_Si (pc := 1) ks_X7_196 dX7_sheet_1 (hX7_isSheet) rfl rfl rfl (Nat.le_of_ble_eq_true rfl) ?_
            refine x_ifb_eq (pc := 4) dX7_sheet_4 (tgt := 29) rfl (fun h4 => ?_) (fun h4 => ?_)
            ·
              exact absurd hs h4
            ·
              refine x_iload_n (pc := 7) dX7_sheet_7 rfl rfl ?_
              refine x_if_eq (pc := 8) dX7_sheet_8 (tgt := 35) rfl (fun h8 => ?_) (fun h8 => ?_)
              ·
                refine x_iload_n (pc := 35) dX7_sheet_35 rfl rfl ?_
                refine x_if_ge (pc := 36) dX7_sheet_36 (tgt := 46) rfl (fun h36 => ?_) (fun h36 => ?_)
                ·
                  refine x_iload_n (pc := 46) dX7_sheet_46 rfl rfl ?_
                  refine x_bipush (pc := 47) (v := 40) dX7_sheet_47 rfl ?_
                  refine x_icmp_le (pc := 49) dX7_sheet_49 (tgt := 58) rfl (fun h49 => ?_) (fun h49 => ?_)
                  ·
                    exact absurd h49 hn4
                  ·
                    refine x_aload_n (pc := 52) dX7_sheet_52 rfl rfl ?_
                    refine x_iconst (pc := 53) (v := 0) dX7_sheet_53 rfl ?_
                    refine x_Vi (pc := 54) ks_X7_114 dX7_sheet_54 (tb_106) rfl rfl (hX7_noL 0 (-1000001) (by decide) (by decide +kernel)) rfl rfl rfl (Nat.le_of_ble_eq_true rfl) ?_
                    refine x_iret (pc := 57) dX7_sheet_57 rfl (by first | rfl | exact fv_nz _) ?_
                    exact ⟨rfl, rfl⟩
                ·
                  exact absurd (Int32.not_le.mp h36) hn0
              ·
                refine x_iload_n (pc := 11) dX7_sheet_11 rfl rfl ?_
                refine x_bipush (pc := 12) (v := 8) dX7_sheet_12 rfl ?_
                refine x_icmp_eq (pc := 14) dX7_sheet_14 (tgt := 35) rfl (fun h14 => ?_) (fun h14 => ?_)
                ·
                  refine x_iload_n (pc := 35) dX7_sheet_35 rfl rfl ?_
                  refine x_if_ge (pc := 36) dX7_sheet_36 (tgt := 46) rfl (fun h36 => ?_) (fun h36 => ?_)
                  ·
                    refine x_iload_n (pc := 46) dX7_sheet_46 rfl rfl ?_
                    refine x_bipush (pc := 47) (v := 40) dX7_sheet_47 rfl ?_
                    refine x_icmp_le (pc := 49) dX7_sheet_49 (tgt := 58) rfl (fun h49 => ?_) (fun h49 => ?_)
                    ·
                      exact absurd h49 hn4
                    ·
                      refine x_aload_n (pc := 52) dX7_sheet_52 rfl rfl ?_
                      refine x_iconst (pc := 53) (v := 0) dX7_sheet_53 rfl ?_
                      refine x_Vi (pc := 54) ks_X7_114 dX7_sheet_54 (tb_106) rfl rfl (hX7_noL 0 (-1000001) (by decide) (by decide +kernel)) rfl rfl rfl (Nat.le_of_ble_eq_true rfl) ?_
                      refine x_iret (pc := 57) dX7_sheet_57 rfl (by first | rfl | exact fv_nz _) ?_
                      exact ⟨rfl, rfl⟩
                  ·
                    exact absurd (Int32.not_le.mp h36) hn0
                ·
                  refine x_iload_n (pc := 17) dX7_sheet_17 rfl rfl ?_
                  refine x_bipush (pc := 18) (v := 16) dX7_sheet_18 rfl ?_
                  refine x_icmp_eq (pc := 20) dX7_sheet_20 (tgt := 35) rfl (fun h20 => ?_) (fun h20 => ?_)
                  ·
                    refine x_iload_n (pc := 35) dX7_sheet_35 rfl rfl ?_
                    refine x_if_ge (pc := 36) dX7_sheet_36 (tgt := 46) rfl (fun h36 => ?_) (fun h36 => ?_)
                    ·
                      refine x_iload_n (pc := 46) dX7_sheet_46 rfl rfl ?_
                      refine x_bipush (pc := 47) (v := 40) dX7_sheet_47 rfl ?_
                      refine x_icmp_le (pc := 49) dX7_sheet_49 (tgt := 58) rfl (fun h49 => ?_) (fun h49 => ?_)
                      ·
                        exact absurd h49 hn4
                      ·
                        refine x_aload_n (pc := 52) dX7_sheet_52 rfl rfl ?_
                        refine x_iconst (pc := 53) (v := 0) dX7_sheet_53 rfl ?_
                        refine x_Vi (pc := 54) ks_X7_114 dX7_sheet_54 (tb_106) rfl rfl (hX7_noL 0 (-1000001) (by decide) (by decide +kernel)) rfl rfl rfl (Nat.le_of_ble_eq_true rfl) ?_
                        refine x_iret (pc := 57) dX7_sheet_57 rfl (by first | rfl | exact fv_nz _) ?_
                        exact ⟨rfl, rfl⟩
                    ·
                      exact absurd (Int32.not_le.mp h36) hn0
                  ·
                    refine x_iload_n (pc := 23) dX7_sheet_23 rfl rfl ?_
                    refine x_bipush (pc := 24) (v := 32) dX7_sheet_24 rfl ?_
                    refine x_icmp_eq (pc := 26) dX7_sheet_26 (tgt := 35) rfl (fun h26 => ?_) (fun h26 => ?_)
                    ·
                      refine x_iload_n (pc := 35) dX7_sheet_35 rfl rfl ?_
                      refine x_if_ge (pc := 36) dX7_sheet_36 (tgt := 46) rfl (fun h36 => ?_) (fun h36 => ?_)
                      ·
                        refine x_iload_n (pc := 46) dX7_sheet_46 rfl rfl ?_
                        refine x_bipush (pc := 47) (v := 40) dX7_sheet_47 rfl ?_
                        refine x_icmp_le (pc := 49) dX7_sheet_49 (tgt := 58) rfl (fun h49 => ?_) (fun h49 => ?_)
                        ·
                          exact absurd h49 hn4
                        ·
                          refine x_aload_n (pc := 52) dX7_sheet_52 rfl rfl ?_
                          refine x_iconst (pc := 53) (v := 0) dX7_sheet_53 rfl ?_
                          refine x_Vi (pc := 54) ks_X7_114 dX7_sheet_54 (tb_106) rfl rfl (hX7_noL 0 (-1000001) (by decide) (by decide +kernel)) rfl rfl rfl (Nat.le_of_ble_eq_true rfl) ?_
                          refine x_iret (pc := 57) dX7_sheet_57 rfl (by first | rfl | exact fv_nz _) ?_
                          exact ⟨rfl, rfl⟩
                      ·
                        exact absurd (Int32.not_le.mp h36) hn0
                    ·
                      exact absurd hb4 (fun q => q.elim h8 (fun q => q.elim h14 (fun q => q.elim h20 h26)))
    · skip
      refine pOp.bad (v := -1000001) 0 I ?_ (fun M1 hF => ?_)
      · skip
        refine fv_F.of (ls := [some (.ref 0), some (.int s), some (.int b), some (.int n)]) (by decide) (Nat.le_of_ble_eq_true rfl) rfl ?_
        refine x_iload_n (pc := 0) dX6_sheet_0 rfl rfl ?_
        refine x_iconst (pc := 1) (v := 3) dX6_sheet_1 rfl ?_
        refine x_Si (pc := 2) ks_X6_51 dX6_sheet_2 (hX6_isUpTo) rfl rfl rfl (Nat.le_of_ble_eq_true rfl) ?_
        refine x_ifb_eq (pc := 5) dX6_sheet_5 (tgt := 15) rfl (fun h5 => ?_) (fun h5 => ?_)
        ·
          exact absurd hs h5
        ·
          refine x_iload_n (pc := 8) dX6_sheet_8 rfl rfl ?_
          refine x_Si (pc := 9) ks_X6_249 dX6_sheet_9 (hX3_hasBits) rfl rfl rfl (Nat.le_of_ble_eq_true rfl) ?_
          refine x_ifb_ne (pc := 12) dX6_sheet_12 (tgt := 22) rfl (fun h12 => ?_) (fun h12 => ?_)
          ·
            exact absurd h12 hb4
          ·
            refine x_aload_n (pc := 15) dX6_sheet_15 rfl rfl ?_
            refine x_ldc (pc := 16) kc_X6_55 dX6_sheet_16 ?_
            refine x_Vi (pc := 18) ks_X6_56 dX6_sheet_18 (tb_fv) rfl rfl (hX6_fin 0 (-1000001) (by decide +kernel) (by decide)) rfl rfl rfl (Nat.le_of_ble_eq_true rfl) ?_
            refine x_iret (pc := 21) dX6_sheet_21 rfl (by first | rfl | exact fv_nz _) ?_
            exact ⟨rfl, rfl⟩
      · skip
        have e22 : M1 22 = M 22 := hF 22 (by decide)
        have hG1 : pGd (M1 22) nb nm := by rw [e22]; exact hG2
        have hE1 : pEq nb nm (M1 22) (M 0) := by rw [e22]; exact hE
        have hB1 := hG1.1
        have hM1 := hG1.2.2.1
        refine fv_F.of (ls := [some (.ref 106), some (.int s), some (.int b), some (.int n), none]) (by decide) (Nat.le_of_ble_eq_true rfl) rfl ?_
        refine x_iload_n (pc := 0) dX7_sheet_0 rfl rfl ?_
        refine x_Si (pc := 1) ks_X7_196 dX7_sheet_1 (hX7_isSheet) rfl rfl rfl (Nat.le_of_ble_eq_true rfl) ?_
        refine x_ifb_eq (pc := 4) dX7_sheet_4 (tgt := 29) rfl (fun h4 => ?_) (fun h4 => ?_)
        ·
          exact absurd hs h4
        ·
          refine x_iload_n (pc := 7) dX7_sheet_7 rfl rfl ?_
          refine x_if_eq (pc := 8) dX7_sheet_8 (tgt := 35) rfl (fun h8 => ?_) (fun h8 => ?_)
          ·
            exact absurd (Or.inl h8) hb4
          ·
            refine x_iload_n (pc := 11) dX7_sheet_11 rfl rfl ?_
            refine x_bipush (pc := 12) (v := 8) dX7_sheet_12 rfl ?_
            refine x_icmp_eq (pc := 14) dX7_sheet_14 (tgt := 35) rfl (fun h14 => ?_) (fun h14 => ?_)
            ·
              exact absurd (Or.inr (Or.inl h14)) hb4
            ·
              refine x_iload_n (pc := 17) dX7_sheet_17 rfl rfl ?_
              refine x_bipush (pc := 18) (v := 16) dX7_sheet_18 rfl ?_
              refine x_icmp_eq (pc := 20) dX7_sheet_20 (tgt := 35) rfl (fun h20 => ?_) (fun h20 => ?_)
              ·
                exact absurd (Or.inr (Or.inr (Or.inl h20))) hb4
              ·
                refine x_iload_n (pc := 23) dX7_sheet_23 rfl rfl ?_
                refine x_bipush (pc := 24) (v := 32) dX7_sheet_24 rfl ?_
                refine x_icmp_eq (pc := 26) dX7_sheet_26 (tgt := 35) rfl (fun h26 => ?_) (fun h26 => ?_)
                ·
                  exact absurd (Or.inr (Or.inr (Or.inr h26))) hb4
                ·
                  refine x_aload_n (pc := 29) dX7_sheet_29 rfl rfl ?_
                  refine x_iconst (pc := 30) (v := 0) dX7_sheet_30 rfl ?_
                  refine x_Vi (pc := 31) ks_X7_114 dX7_sheet_31 (tb_106) rfl rfl (hX7_noL 0 (-1000001) (by decide) (by decide +kernel)) rfl rfl rfl (Nat.le_of_ble_eq_true rfl) ?_
                  refine x_iret (pc := 34) dX7_sheet_34 rfl (by first | rfl | exact fv_nz _) ?_
                  exact ⟨rfl, rfl⟩
  · skip
    refine pOp.bad (v := -1000001) 0 I ?_ (fun M1 hF => ?_)
    · skip
      refine fv_F.of (ls := [some (.ref 0), some (.int s), some (.int b), some (.int n)]) (by decide) (Nat.le_of_ble_eq_true rfl) rfl ?_
      refine x_iload_n (pc := 0) dX6_sheet_0 rfl rfl ?_
      refine x_iconst (pc := 1) (v := 3) dX6_sheet_1 rfl ?_
      refine x_Si (pc := 2) ks_X6_51 dX6_sheet_2 (hX6_isUpTo) rfl rfl rfl (Nat.le_of_ble_eq_true rfl) ?_
      refine x_ifb_eq (pc := 5) dX6_sheet_5 (tgt := 15) rfl (fun h5 => ?_) (fun h5 => ?_)
      ·
        refine x_aload_n (pc := 15) dX6_sheet_15 rfl rfl ?_
        refine x_ldc (pc := 16) kc_X6_55 dX6_sheet_16 ?_
        refine x_Vi (pc := 18) ks_X6_56 dX6_sheet_18 (tb_fv) rfl rfl (hX6_fin 0 (-1000001) (by decide +kernel) (by decide)) rfl rfl rfl (Nat.le_of_ble_eq_true rfl) ?_
        refine x_iret (pc := 21) dX6_sheet_21 rfl (by first | rfl | exact fv_nz _) ?_
        exact ⟨rfl, rfl⟩
      ·
        exact absurd h5 hs
    · skip
      have e22 : M1 22 = M 22 := hF 22 (by decide)
      have hG1 : pGd (M1 22) nb nm := by rw [e22]; exact hG2
      have hE1 : pEq nb nm (M1 22) (M 0) := by rw [e22]; exact hE
      have hB1 := hG1.1
      have hM1 := hG1.2.2.1
      refine fv_F.of (ls := [some (.ref 106), some (.int s), some (.int b), some (.int n), none]) (by decide) (Nat.le_of_ble_eq_true rfl) rfl ?_
      refine x_iload_n (pc := 0) dX7_sheet_0 rfl rfl ?_
      refine x_Si (pc := 1) ks_X7_196 dX7_sheet_1 (hX7_isSheet) rfl rfl rfl (Nat.le_of_ble_eq_true rfl) ?_
      refine x_ifb_eq (pc := 4) dX7_sheet_4 (tgt := 29) rfl (fun h4 => ?_) (fun h4 => ?_)
      ·
        refine x_aload_n (pc := 29) dX7_sheet_29 rfl rfl ?_
        refine x_iconst (pc := 30) (v := 0) dX7_sheet_30 rfl ?_
        refine x_Vi (pc := 31) ks_X7_114 dX7_sheet_31 (tb_106) rfl rfl (hX7_noL 0 (-1000001) (by decide) (by decide +kernel)) rfl rfl rfl (Nat.le_of_ble_eq_true rfl) ?_
        refine x_iret (pc := 34) dX7_sheet_34 rfl (by first | rfl | exact fv_nz _) ?_
        exact ⟨rfl, rfl⟩
      ·
        exact absurd h4 hs
theorem op_write {E : fv_E} {s i v : Int32} {M : fv_M} (I : pInv M) : pOp E mX6_write mX7_write [.int s, .int i, .int v] M := by
  obtain ⟨nb, nm, hG, hE, t, ht, eT⟩ := I.1
  have hs0 : 0 < 3 := by decide
  have hs1 : 1 < 3 := by decide
  have hB := hG.1
  have hb := hG.2.1
  have hM := hG.2.2.1
  have hn := hG.2.2.2.1
  have hK := hG.K
  have hC := hG.C
  have hG2 : pGd (M 22) nb nm := hG.cg hE
  by_cases hs : 0 ≤ s ∧ s ≤ 3
  · obtain ⟨z, hz3, rfl⟩ := pUm (n := 3) (by decide) hs
    have hz : z < 4 := by omega
    obtain ⟨n, hn40, es, ez, ew, ec⟩ := I.2.2.2.1 z hz
    have hni : 13 + 2 * z ≠ 12 ∧ 14 + 2 * z ≠ 12 := by omega
    by_cases h0 : M (13 + 2 * z) 0 = 0
    · skip
      refine pOp.bad (v := -1000006) 5 I ?_ (fun M1 hF => ?_)
      · skip
        refine fv_F.of (ls := [some (.ref 0), some (.int (nI z)), some (.int i), some (.int v)]) (by decide) (Nat.le_of_ble_eq_true rfl) rfl ?_
        refine x_iload_n (pc := 0) dX6_write_0 rfl rfl ?_
        refine x_iconst (pc := 1) (v := 3) dX6_write_1 rfl ?_
        refine x_Si (pc := 2) ks_X6_51 dX6_write_2 (hX6_isUpTo) rfl rfl rfl (Nat.le_of_ble_eq_true rfl) ?_
        refine x_ifb_ne (pc := 5) dX6_write_5 (tgt := 15) rfl (fun h5 => ?_) (fun h5 => ?_)
        ·
          refine x_aload_n (pc := 15) dX6_write_15 rfl rfl ?_
          refine x_geta (pc := 16) fl_X6_35 dX6_write_16 (tb_fv) rfl ?_
          refine x_iload_n (pc := 19) dX6_write_19 rfl rfl ?_
          refine x_sheet (pc := 20) dX6_write_20 (rfl) (by first | assumption | decide | omega) ?_
          refine x_Vi (pc := 21) ks_X6_214 dX6_write_21 (tb_sh (by assumption)) rfl rfl (hX3_isMissing hz) rfl rfl rfl (Nat.le_of_ble_eq_true rfl) ?_
          refine x_ifb_eq (pc := 24) dX6_write_24 (tgt := 34) rfl (fun h24 => ?_) (fun h24 => ?_)
          ·
            exact absurd h0 h24
          ·
            refine x_aload_n (pc := 27) dX6_write_27 rfl rfl ?_
            refine x_ldc (pc := 28) kc_X6_217 dX6_write_28 ?_
            refine x_Vi (pc := 30) ks_X6_56 dX6_write_30 (tb_fv) rfl rfl (hX6_fin 5 (-1000006) (by decide +kernel) (by decide)) rfl rfl rfl (Nat.le_of_ble_eq_true rfl) ?_
            refine x_iret (pc := 33) dX6_write_33 rfl (by first | rfl | exact fv_nz _) ?_
            exact ⟨rfl, rfl⟩
        ·
          exact absurd hs h5
      · skip
        have e22 : M1 22 = M 22 := hF 22 (by decide)
        have hG1 : pGd (M1 22) nb nm := by rw [e22]; exact hG2
        have hE1 : pEq nb nm (M1 22) (M 0) := by rw [e22]; exact hE
        have hB1 := hG1.1
        have hM1 := hG1.2.2.1
        have w34 : M1 34 z = M (13 + 2 * z) 0 := by rw [hF 34 (by decide)]; exact ew
        have w35 : M1 35 z = nI n := by rw [hF 35 (by decide)]; exact ez
        have w36 : ∀ i, i < 40 → M1 36 (40 * z + i) = M (14 + 2 * z) i := fun i hi => by rw [hF 36 (by decide)]; exact ec i hi
        refine fv_F.of (ls := [some (.ref 106), some (.int (nI z)), some (.int i), some (.int v), none]) (by decide) (Nat.le_of_ble_eq_true rfl) rfl ?_
        refine x_aload_n (pc := 0) dX7_write_0 rfl rfl ?_
        refine x_iload_n (pc := 1) dX7_write_1 rfl rfl ?_
        refine x_Vi (pc := 2) ks_X7_199 dX7_write_2 (tb_106) rfl rfl ((hX7_wrongSheet hz).v (show _ = (5 : Int32) from by rw [w34, if_pos h0])) rfl rfl rfl (Nat.le_of_ble_eq_true rfl) ?_
        refine x_istore4 (pc := 5) dX7_write_5 rfl ?_
        refine x_iload (pc := 7) dX7_write_7 rfl ?_
        refine x_if_ge (pc := 9) dX7_write_9 (tgt := 31) rfl (fun h9 => ?_) (fun h9 => ?_)
        ·
          refine x_iload (pc := 31) dX7_write_31 rfl ?_
          refine x_if_lt (pc := 33) dX7_write_33 (tgt := 43) rfl (fun h33 => ?_) (fun h33 => ?_)
          ·
            exact absurd h33 (by decide)
          ·
            refine x_aload_n (pc := 36) dX7_write_36 rfl rfl ?_
            refine x_iload (pc := 37) dX7_write_37 rfl ?_
            refine x_Vi (pc := 39) ks_X7_114 dX7_write_39 (tb_106) rfl rfl (hX7_noL 5 (-1000006) (by decide) (by decide +kernel)) rfl rfl rfl (Nat.le_of_ble_eq_true rfl) ?_
            refine x_iret (pc := 42) dX7_write_42 rfl (by first | rfl | exact fv_nz _) ?_
            exact ⟨rfl, rfl⟩
        ·
          exact absurd (by decide) h9
    · by_cases hi : 0 ≤ i ∧ i ≤ nI n - 1
      · obtain ⟨k, hk, rfl⟩ := pUx (by omega) hi
        refine pOp.of (v := 1) (P := fun M1 => M1 = fv_s M (14 + 2 * z) (fv_u (M (14 + 2 * z)) k (pNw (M (13 + 2 * z) 0) v))) ?_ (fun M1 hM1 => ?_)
        · skip
          refine fv_P.of (ls := [some (.ref 0), some (.int (nI z)), some (.int (nI k)), some (.int v)]) (by decide) (Nat.le_of_ble_eq_true rfl) rfl ?_
          refine x_iload_n (pc := 0) dX6_write_0 rfl rfl ?_
          refine x_iconst (pc := 1) (v := 3) dX6_write_1 rfl ?_
          refine x_Si (pc := 2) ks_X6_51 dX6_write_2 (hX6_isUpTo) rfl rfl rfl (Nat.le_of_ble_eq_true rfl) ?_
          refine x_ifb_ne (pc := 5) dX6_write_5 (tgt := 15) rfl (fun h5 => ?_) (fun h5 => ?_)
          ·
            refine x_aload_n (pc := 15) dX6_write_15 rfl rfl ?_
            refine x_geta (pc := 16) fl_X6_35 dX6_write_16 (tb_fv) rfl ?_
            refine x_iload_n (pc := 19) dX6_write_19 rfl rfl ?_
            refine x_sheet (pc := 20) dX6_write_20 (rfl) (by first | assumption | decide | omega) ?_
            refine x_Vi (pc := 21) ks_X6_214 dX6_write_21 (tb_sh (by assumption)) rfl rfl (hX3_isMissing hz) rfl rfl rfl (Nat.le_of_ble_eq_true rfl) ?_
            refine x_ifb_eq (pc := 24) dX6_write_24 (tgt := 34) rfl (fun h24 => ?_) (fun h24 => ?_)
            ·
              refine x_iload_n (pc := 34) dX6_write_34 rfl rfl ?_
              refine x_aload_n (pc := 35) dX6_write_35 rfl rfl ?_
              refine x_geta (pc := 36) fl_X6_35 dX6_write_36 (tb_fv) rfl ?_
              refine x_iload_n (pc := 39) dX6_write_39 rfl rfl ?_
              refine x_sheet (pc := 40) dX6_write_40 (rfl) (by first | assumption | decide | omega) ?_
              refine x_geti (pc := 41) fl_X6_255 dX6_write_41 (tb_sh (by assumption)) rfl (es) ?_
              refine x_iconst (pc := 44) (v := 1) dX6_write_44 rfl ?_
              refine x_isub (pc := 45) dX6_write_45 ?_
              refine x_Si (pc := 46) ks_X6_51 dX6_write_46 (hX6_isUpTo) rfl rfl rfl (Nat.le_of_ble_eq_true rfl) ?_
              refine x_ifb_ne (pc := 49) dX6_write_49 (tgt := 59) rfl (fun h49 => ?_) (fun h49 => ?_)
              ·
                refine x_aload_n (pc := 59) dX6_write_59 rfl rfl ?_
                refine x_geta (pc := 60) fl_X6_35 dX6_write_60 (tb_fv) rfl ?_
                refine x_iload_n (pc := 63) dX6_write_63 rfl rfl ?_
                refine x_sheet (pc := 64) dX6_write_64 (rfl) (by first | assumption | decide | omega) ?_
                refine x_iload_n (pc := 65) dX6_write_65 rfl rfl ?_
                refine x_iload_n (pc := 66) dX6_write_66 rfl rfl ?_
                refine x_Vv (pc := 67) ks_X6_258 dX6_write_67 (tb_sh (by assumption)) rfl rfl (hX3_put hz es hn40 hk) rfl rfl rfl (Nat.le_of_ble_eq_true rfl) ?_
                refine x_iconst (pc := 70) (v := 1) dX6_write_70 rfl ?_
                refine x_iret (pc := 71) dX6_write_71 rfl (by first | rfl | exact fv_nz _) ?_
                exact ⟨rfl, rfl⟩
              ·
                exact absurd hi h49
            ·
              exact absurd h24 h0
          ·
            exact absurd hs h5
        · have hM1q : ∀ q, q ≠ 14 + 2 * z → M1 q = M q := fun q h2 => by rw [hM1, fv_s_ne _ _ h2]
          have w34 : M1 34 z = M (13 + 2 * z) 0 := by rw [hM1q 34 (by omega)]; exact ew
          have w35 : M1 35 z = nI n := by rw [hM1q 35 (by omega)]; exact ez
          have hend : pInv (fv_s M1 36 (fv_u (M1 36) (40 * z + k) (pNw (M (13 + 2 * z) 0) v))) := by
            have hh : 13 + 2 * z ≠ 36 ∧ 14 + 2 * z ≠ 36 := by omega
            refine I.sh hz (fun q h1 h2 h3 => ?_) (fun t ht hne => ?_) (fun t ht hne => ?_) (fun t ht hne j hj => ?_) ⟨n, hn40, ?_, ?_, ?_, fun j hj => ?_⟩
            · rw [fv_s_ne _ _ (fun e => h3 (by rw [e]; decide))]; exact hM1q q h2
            · rw [fv_s_ne _ _ (by decide), hM1q 34 (by omega)]
            · rw [fv_s_ne _ _ (by decide), hM1q 35 (by omega)]
            · rw [fv_s_same, fv_u_ne _ _ (by omega), hM1q 36 (by omega)]
            · rw [fv_s_ne _ _ hh.1, hM1q _ (by omega)]; exact es
            · rw [fv_s_ne _ _ (by decide)]; exact w35
            · rw [fv_s_ne _ _ (by decide), fv_s_ne _ _ hh.1, hM1q (13 + 2 * z) (by omega)]; exact w34
            · rw [fv_s_same, fv_s_ne _ _ hh.2, hM1, fv_s_same]
              by_cases e : j = k
              · subst e; rw [fv_u_same, fv_u_same]
              · rw [fv_u_ne _ _ (by omega), fv_u_ne _ _ e, fv_s_ne _ _ (fun q => hh.2 q.symm)]; exact ec j hj
          have hgo : ∀ x, x = pNw (M (13 + 2 * z) 0) v → pInv (fv_s M1 36 (fv_u (M1 36) (0 + (40 * z + k)) x)) := fun x e => by rw [e, Nat.zero_add]; exact hend
          refine fv_P.of (ls := [some (.ref 106), some (.int (nI z)), some (.int (nI k)), some (.int v), none]) (by decide) (Nat.le_of_ble_eq_true rfl) rfl ?_
          refine x_aload_n (pc := 0) dX7_write_0 rfl rfl ?_
          refine x_iload_n (pc := 1) dX7_write_1 rfl rfl ?_
          refine x_Vi (pc := 2) ks_X7_199 dX7_write_2 (tb_106) rfl rfl ((hX7_wrongSheet hz).v (show _ = (-1 : Int32) from by rw [w34, if_neg h0])) rfl rfl rfl (Nat.le_of_ble_eq_true rfl) ?_
          refine x_istore4 (pc := 5) dX7_write_5 rfl ?_
          refine x_iload (pc := 7) dX7_write_7 rfl ?_
          refine x_if_ge (pc := 9) dX7_write_9 (tgt := 31) rfl (fun h9 => ?_) (fun h9 => ?_)
          ·
            exact absurd h9 (by decide)
          ·
            refine x_iload_n (pc := 12) dX7_write_12 rfl rfl ?_
            refine x_iconst (pc := 13) (v := 0) dX7_write_13 rfl ?_
            refine x_aload_n (pc := 14) dX7_write_14 rfl rfl ?_
            refine x_geta (pc := 15) fl_X7_50 dX7_write_15 (tb_106) rfl ?_
            refine x_iload_n (pc := 18) dX7_write_18 rfl rfl ?_
            refine x_iale (pc := 19) dX7_write_19 (tb_120) (rfl) (hz) (by first | decide | assumption) (show _ = nI n from by rw [Nat.zero_add]; exact w35) ?_
            refine x_iconst (pc := 20) (v := 1) dX7_write_20 rfl ?_
            refine x_isub (pc := 21) dX7_write_21 ?_
            refine x_Si (pc := 22) ks_X7_60 dX7_write_22 (hX7_in1) rfl rfl rfl (Nat.le_of_ble_eq_true rfl) ?_
            refine x_ifb_ne (pc := 25) dX7_write_25 (tgt := 31) rfl (fun h25 => ?_) (fun h25 => ?_)
            ·
              refine x_iload (pc := 31) dX7_write_31 rfl ?_
              refine x_if_lt (pc := 33) dX7_write_33 (tgt := 43) rfl (fun h33 => ?_) (fun h33 => ?_)
              ·
                refine x_aload_n (pc := 43) dX7_write_43 rfl rfl ?_
                refine x_geta (pc := 44) fl_X7_53 dX7_write_44 (tb_106) rfl ?_
                refine x_bipush (pc := 47) (v := 40) dX7_write_47 rfl ?_
                refine x_iload_n (pc := 49) dX7_write_49 rfl rfl ?_
                refine x_imul (pc := 50) dX7_write_50 ?_
                refine x_iload_n (pc := 51) dX7_write_51 rfl rfl ?_
                refine x_iadd (pc := 52) dX7_write_52 ?_
                refine x_aload_n (pc := 53) dX7_write_53 rfl rfl ?_
                refine x_geta (pc := 54) fl_X7_47 dX7_write_54 (tb_106) rfl ?_
                refine x_iload_n (pc := 57) dX7_write_57 rfl rfl ?_
                refine x_iale (pc := 58) dX7_write_58 (tb_119) (rfl) (hz) (by first | decide | assumption) (show _ = M (13 + 2 * z) 0 from by rw [Nat.zero_add]; exact w34) ?_
                refine x_bipush (pc := 59) (v := 8) dX7_write_59 rfl ?_
                refine x_icmp_ne (pc := 61) dX7_write_61 (tgt := 69) rfl (fun h61 => ?_) (fun h61 => ?_)
                ·
                  refine x_aload_n (pc := 69) dX7_write_69 rfl rfl ?_
                  refine x_geta (pc := 70) fl_X7_47 dX7_write_70 (tb_106) rfl ?_
                  refine x_iload_n (pc := 73) dX7_write_73 rfl rfl ?_
                  refine x_iale (pc := 74) dX7_write_74 (tb_119) (rfl) (hz) (by first | decide | assumption) (show _ = M (13 + 2 * z) 0 from by rw [Nat.zero_add]; exact w34) ?_
                  refine x_bipush (pc := 75) (v := 16) dX7_write_75 rfl ?_
                  refine x_icmp_ne (pc := 77) dX7_write_77 (tgt := 85) rfl (fun h77 => ?_) (fun h77 => ?_)
                  ·
                    refine x_iload_n (pc := 85) dX7_write_85 rfl rfl ?_
                    refine x_iast (pc := 86) dX7_write_86 (tb_121) (pCe_ix z k) (by omega) (by first | decide | assumption) ?_
                    refine x_iconst (pc := 87) (v := 1) dX7_write_87 rfl ?_
                    refine x_iret (pc := 88) dX7_write_88 rfl (by first | rfl | exact fv_nz _) ?_
                    refine ⟨rfl, hgo _ ?_⟩
                    unfold pNw
                    first | (rw [if_pos h61]; done) | (rw [if_neg h61, if_pos h77]; done) | (rw [if_neg h61, if_neg h77]; done)
                  ·
                    refine x_iload_n (pc := 80) dX7_write_80 rfl rfl ?_
                    refine x_i2s (pc := 81) dX7_write_81 ?_
                    refine x_goto (pc := 82) dX7_write_82 (tgt := 86) rfl ?_
                    refine x_iast (pc := 86) dX7_write_86 (tb_121) (pCe_ix z k) (by omega) (by first | decide | assumption) ?_
                    refine x_iconst (pc := 87) (v := 1) dX7_write_87 rfl ?_
                    refine x_iret (pc := 88) dX7_write_88 rfl (by first | rfl | exact fv_nz _) ?_
                    refine ⟨rfl, hgo _ ?_⟩
                    unfold pNw
                    first | (rw [if_pos h61]; done) | (rw [if_neg h61, if_pos h77]; done) | (rw [if_neg h61, if_neg h77]; done)
                ·
                  refine x_iload_n (pc := 64) dX7_write_64 rfl rfl ?_
                  refine x_i2b (pc := 65) dX7_write_65 ?_
                  refine x_goto (pc := 66) dX7_write_66 (tgt := 86) rfl ?_
                  refine x_iast (pc := 86) dX7_write_86 (tb_121) (pCe_ix z k) (by omega) (by first | decide | assumption) ?_
                  refine x_iconst (pc := 87) (v := 1) dX7_write_87 rfl ?_
                  refine x_iret (pc := 88) dX7_write_88 rfl (by first | rfl | exact fv_nz _) ?_
                  refine ⟨rfl, hgo _ ?_⟩
                  unfold pNw
                  first | (rw [if_pos h61]; done) | (rw [if_neg h61, if_pos h77]; done) | (rw [if_neg h61, if_neg h77]; done)
              ·
                exact absurd (by decide) h33
            ·
              exact absurd hi h25
      · skip
        refine pOp.bad (v := -1000001) 0 I ?_ (fun M1 hF => ?_)
        · skip
          refine fv_F.of (ls := [some (.ref 0), some (.int (nI z)), some (.int i), some (.int v)]) (by decide) (Nat.le_of_ble_eq_true rfl) rfl ?_
          refine x_iload_n (pc := 0) dX6_write_0 rfl rfl ?_
          refine x_iconst (pc := 1) (v := 3) dX6_write_1 rfl ?_
          refine x_Si (pc := 2) ks_X6_51 dX6_write_2 (hX6_isUpTo) rfl rfl rfl (Nat.le_of_ble_eq_true rfl) ?_
          refine x_ifb_ne (pc := 5) dX6_write_5 (tgt := 15) rfl (fun h5 => ?_) (fun h5 => ?_)
          ·
            refine x_aload_n (pc := 15) dX6_write_15 rfl rfl ?_
            refine x_geta (pc := 16) fl_X6_35 dX6_write_16 (tb_fv) rfl ?_
            refine x_iload_n (pc := 19) dX6_write_19 rfl rfl ?_
            refine x_sheet (pc := 20) dX6_write_20 (rfl) (by first | assumption | decide | omega) ?_
            refine x_Vi (pc := 21) ks_X6_214 dX6_write_21 (tb_sh (by assumption)) rfl rfl (hX3_isMissing hz) rfl rfl rfl (Nat.le_of_ble_eq_true rfl) ?_
            refine x_ifb_eq (pc := 24) dX6_write_24 (tgt := 34) rfl (fun h24 => ?_) (fun h24 => ?_)
            ·
              refine x_iload_n (pc := 34) dX6_write_34 rfl rfl ?_
              refine x_aload_n (pc := 35) dX6_write_35 rfl rfl ?_
              refine x_geta (pc := 36) fl_X6_35 dX6_write_36 (tb_fv) rfl ?_
              refine x_iload_n (pc := 39) dX6_write_39 rfl rfl ?_
              refine x_sheet (pc := 40) dX6_write_40 (rfl) (by first | assumption | decide | omega) ?_
              refine x_geti (pc := 41) fl_X6_255 dX6_write_41 (tb_sh (by assumption)) rfl (es) ?_
              refine x_iconst (pc := 44) (v := 1) dX6_write_44 rfl ?_
              refine x_isub (pc := 45) dX6_write_45 ?_
              refine x_Si (pc := 46) ks_X6_51 dX6_write_46 (hX6_isUpTo) rfl rfl rfl (Nat.le_of_ble_eq_true rfl) ?_
              refine x_ifb_ne (pc := 49) dX6_write_49 (tgt := 59) rfl (fun h49 => ?_) (fun h49 => ?_)
              ·
                exact absurd h49 hi
              ·
                refine x_aload_n (pc := 52) dX6_write_52 rfl rfl ?_
                refine x_ldc (pc := 53) kc_X6_55 dX6_write_53 ?_
                refine x_Vi (pc := 55) ks_X6_56 dX6_write_55 (tb_fv) rfl rfl (hX6_fin 0 (-1000001) (by decide +kernel) (by decide)) rfl rfl rfl (Nat.le_of_ble_eq_true rfl) ?_
                refine x_iret (pc := 58) dX6_write_58 rfl (by first | rfl | exact fv_nz _) ?_
                exact ⟨rfl, rfl⟩
            ·
              exact absurd h24 h0
          ·
            exact absurd hs h5
        · skip
          have e22 : M1 22 = M 22 := hF 22 (by decide)
          have hG1 : pGd (M1 22) nb nm := by rw [e22]; exact hG2
          have hE1 : pEq nb nm (M1 22) (M 0) := by rw [e22]; exact hE
          have hB1 := hG1.1
          have hM1 := hG1.2.2.1
          have w34 : M1 34 z = M (13 + 2 * z) 0 := by rw [hF 34 (by decide)]; exact ew
          have w35 : M1 35 z = nI n := by rw [hF 35 (by decide)]; exact ez
          have w36 : ∀ i, i < 40 → M1 36 (40 * z + i) = M (14 + 2 * z) i := fun i hi => by rw [hF 36 (by decide)]; exact ec i hi
          refine fv_F.of (ls := [some (.ref 106), some (.int (nI z)), some (.int i), some (.int v), none]) (by decide) (Nat.le_of_ble_eq_true rfl) rfl ?_
          refine x_aload_n (pc := 0) dX7_write_0 rfl rfl ?_
          refine x_iload_n (pc := 1) dX7_write_1 rfl rfl ?_
          refine x_Vi (pc := 2) ks_X7_199 dX7_write_2 (tb_106) rfl rfl ((hX7_wrongSheet hz).v (show _ = (-1 : Int32) from by rw [w34, if_neg h0])) rfl rfl rfl (Nat.le_of_ble_eq_true rfl) ?_
          refine x_istore4 (pc := 5) dX7_write_5 rfl ?_
          refine x_iload (pc := 7) dX7_write_7 rfl ?_
          refine x_if_ge (pc := 9) dX7_write_9 (tgt := 31) rfl (fun h9 => ?_) (fun h9 => ?_)
          ·
            exact absurd h9 (by decide)
          ·
            refine x_iload_n (pc := 12) dX7_write_12 rfl rfl ?_
            refine x_iconst (pc := 13) (v := 0) dX7_write_13 rfl ?_
            refine x_aload_n (pc := 14) dX7_write_14 rfl rfl ?_
            refine x_geta (pc := 15) fl_X7_50 dX7_write_15 (tb_106) rfl ?_
            refine x_iload_n (pc := 18) dX7_write_18 rfl rfl ?_
            refine x_iale (pc := 19) dX7_write_19 (tb_120) (rfl) (hz) (by first | decide | assumption) (show _ = nI n from by rw [Nat.zero_add]; exact w35) ?_
            refine x_iconst (pc := 20) (v := 1) dX7_write_20 rfl ?_
            refine x_isub (pc := 21) dX7_write_21 ?_
            refine x_Si (pc := 22) ks_X7_60 dX7_write_22 (hX7_in1) rfl rfl rfl (Nat.le_of_ble_eq_true rfl) ?_
            refine x_ifb_ne (pc := 25) dX7_write_25 (tgt := 31) rfl (fun h25 => ?_) (fun h25 => ?_)
            ·
              exact absurd h25 hi
            ·
              refine x_iconst (pc := 28) (v := 0) dX7_write_28 rfl ?_
              refine x_istore4 (pc := 29) dX7_write_29 rfl ?_
              refine x_iload (pc := 31) dX7_write_31 rfl ?_
              refine x_if_lt (pc := 33) dX7_write_33 (tgt := 43) rfl (fun h33 => ?_) (fun h33 => ?_)
              ·
                exact absurd h33 (by decide)
              ·
                refine x_aload_n (pc := 36) dX7_write_36 rfl rfl ?_
                refine x_iload (pc := 37) dX7_write_37 rfl ?_
                refine x_Vi (pc := 39) ks_X7_114 dX7_write_39 (tb_106) rfl rfl (hX7_noL 0 (-1000001) (by decide) (by decide +kernel)) rfl rfl rfl (Nat.le_of_ble_eq_true rfl) ?_
                refine x_iret (pc := 42) dX7_write_42 rfl (by first | rfl | exact fv_nz _) ?_
                exact ⟨rfl, rfl⟩
  · skip
    refine pOp.bad (v := -1000001) 0 I ?_ (fun M1 hF => ?_)
    · skip
      refine fv_F.of (ls := [some (.ref 0), some (.int s), some (.int i), some (.int v)]) (by decide) (Nat.le_of_ble_eq_true rfl) rfl ?_
      refine x_iload_n (pc := 0) dX6_write_0 rfl rfl ?_
      refine x_iconst (pc := 1) (v := 3) dX6_write_1 rfl ?_
      refine x_Si (pc := 2) ks_X6_51 dX6_write_2 (hX6_isUpTo) rfl rfl rfl (Nat.le_of_ble_eq_true rfl) ?_
      refine x_ifb_ne (pc := 5) dX6_write_5 (tgt := 15) rfl (fun h5 => ?_) (fun h5 => ?_)
      ·
        exact absurd h5 hs
      ·
        refine x_aload_n (pc := 8) dX6_write_8 rfl rfl ?_
        refine x_ldc (pc := 9) kc_X6_55 dX6_write_9 ?_
        refine x_Vi (pc := 11) ks_X6_56 dX6_write_11 (tb_fv) rfl rfl (hX6_fin 0 (-1000001) (by decide +kernel) (by decide)) rfl rfl rfl (Nat.le_of_ble_eq_true rfl) ?_
        refine x_iret (pc := 14) dX6_write_14 rfl (by first | rfl | exact fv_nz _) ?_
        exact ⟨rfl, rfl⟩
    · skip
      have e22 : M1 22 = M 22 := hF 22 (by decide)
      have hG1 : pGd (M1 22) nb nm := by rw [e22]; exact hG2
      have hE1 : pEq nb nm (M1 22) (M 0) := by rw [e22]; exact hE
      have hB1 := hG1.1
      have hM1 := hG1.2.2.1
      refine fv_F.of (ls := [some (.ref 106), some (.int s), some (.int i), some (.int v), none]) (by decide) (Nat.le_of_ble_eq_true rfl) rfl ?_
      refine x_aload_n (pc := 0) dX7_write_0 rfl rfl ?_
      refine x_iload_n (pc := 1) dX7_write_1 rfl rfl ?_
      refine x_Vi (pc := 2) ks_X7_199 dX7_write_2 (tb_106) rfl rfl (hX7_wrongSheetF hs) rfl rfl rfl (Nat.le_of_ble_eq_true rfl) ?_
      refine x_istore4 (pc := 5) dX7_write_5 rfl ?_
      refine x_iload (pc := 7) dX7_write_7 rfl ?_
      refine x_if_ge (pc := 9) dX7_write_9 (tgt := 31) rfl (fun h9 => ?_) (fun h9 => ?_)
      ·
        refine x_iload (pc := 31) dX7_write_31 rfl ?_
        refine x_if_lt (pc := 33) dX7_write_33 (tgt := 43) rfl (fun h33 => ?_) (fun h33 => ?_)
        ·
          exact absurd h33 (by decide)
        ·
          refine x_aload_n (pc := 36) dX7_write_36 rfl rfl ?_
          refine x_iload (pc := 37) dX7_write_37 rfl ?_
          refine x_Vi (pc := 39) ks_X7_114 dX7_write_39 (tb_106) rfl rfl (hX7_noL 0 (-1000001) (by decide) (by decide +kernel)) rfl rfl rfl (Nat.le_of_ble_eq_true rfl) ?_
          refine x_iret (pc := 42) dX7_write_42 rfl (by first | rfl | exact fv_nz _) ?_
          exact ⟨rfl, rfl⟩
      ·
        exact absurd (by decide) h9
def pLd (σ c : Nat → Int32) (T : Nat) : Nat → Int32 := fN (fun j τ => fv_u τ (fB j 3 + 0) (c j)) σ T
theorem pLd_s (σ c : Nat → Int32) (T : Nat) : fv_u (pLd σ c T) (fB T 3 + 0) (c T) = pLd σ c (T + 1) := rfl
theorem pLd_cg {nb nm : Nat} {σ τ : Nat → Int32} (h : pEq nb nm τ σ) (c : Nat → Int32) (T : Nat) : pEq nb nm (pLd τ c T) (pLd σ c T) := fN_cg (g := fun j ρ => fv_u ρ (fB j 3 + 0) (c j)) (fun b _ _ _ h2 => fv_u_cg h2 rfl) h
theorem pLd_gd {nb nm : Nat} {σ c : Nat → Int32} (h : pGd σ nb nm) : ∀ T, (∀ j, j < T → j < nb ∧ ∃ x, x < 100 ∧ c j = nI x) → pGd (pLd σ c T) nb nm := by
  intro T
  induction T with
  | zero => intro _; exact h
  | succ T ih =>
    intro hc
    rw [← pLd_s]
    have g := ih (fun j hj => hc j (by omega))
    exact pGd_ub (f := 3) g (hc T (by omega)).1 (by decide) (hc T (by omega)).2
theorem pLd_lo {σ c : Nat → Int32} {j : Nat} (hj : j < 8) (T : Nat) : pLd σ c T j = σ j := fN_keep (fun b τ _ => fv_u_ne _ _ (by unfold fB; omega))
theorem op_load {E : fv_E} {s : Int32} {M : fv_M} (I : pInv M) : pOp E mX6_load mX7_load [.int s] M := by
  obtain ⟨nb, nm, hG, hE, t, ht, eT⟩ := I.1
  have hs0 : 0 < 3 := by decide
  have hs1 : 1 < 3 := by decide
  have hB := hG.1
  have hb := hG.2.1
  have hM := hG.2.2.1
  have hn := hG.2.2.2.1
  have hK := hG.K
  have hC := hG.C
  have hG2 : pGd (M 22) nb nm := hG.cg hE
  by_cases hs : 0 ≤ s ∧ s ≤ 3
  · obtain ⟨z, hz3, rfl⟩ := pUm (n := 3) (by decide) hs
    have hz : z < 4 := by omega
    obtain ⟨n, hn40, es, ez, ew, ec⟩ := I.2.2.2.1 z hz
    have hni : 13 + 2 * z ≠ 12 ∧ 14 + 2 * z ≠ 12 := by omega
    by_cases h0 : M (13 + 2 * z) 0 = 0
    · skip
      refine pOp.bad (v := -1000006) 5 I ?_ (fun M1 hF => ?_)
      · skip
        refine fv_F.of (ls := [some (.ref 0), some (.int (nI z)), none, none]) (by decide) (Nat.le_of_ble_eq_true rfl) rfl ?_
        refine x_iload_n (pc := 0) dX6_load_0 rfl rfl ?_
        refine x_iconst (pc := 1) (v := 3) dX6_load_1 rfl ?_
        refine x_Si (pc := 2) ks_X6_51 dX6_load_2 (hX6_isUpTo) rfl rfl rfl (Nat.le_of_ble_eq_true rfl) ?_
        refine x_ifb_ne (pc := 5) dX6_load_5 (tgt := 15) rfl (fun h5 => ?_) (fun h5 => ?_)
        ·
          refine x_aload_n (pc := 15) dX6_load_15 rfl rfl ?_
          refine x_geta (pc := 16) fl_X6_35 dX6_load_16 (tb_fv) rfl ?_
          refine x_iload_n (pc := 19) dX6_load_19 rfl rfl ?_
          refine x_sheet (pc := 20) dX6_load_20 (rfl) (by first | assumption | decide | omega) ?_
          refine x_astore_n2 (pc := 21) dX6_load_21 rfl ?_
          refine x_aload_n (pc := 22) dX6_load_22 rfl rfl ?_
          refine x_Vi (pc := 23) ks_X6_214 dX6_load_23 (tb_sh (by assumption)) rfl rfl (hX3_isMissing hz) rfl rfl rfl (Nat.le_of_ble_eq_true rfl) ?_
          refine x_ifb_eq (pc := 26) dX6_load_26 (tgt := 36) rfl (fun h26 => ?_) (fun h26 => ?_)
          ·
            exact absurd h0 h26
          ·
            refine x_aload_n (pc := 29) dX6_load_29 rfl rfl ?_
            refine x_ldc (pc := 30) kc_X6_217 dX6_load_30 ?_
            refine x_Vi (pc := 32) ks_X6_56 dX6_load_32 (tb_fv) rfl rfl (hX6_fin 5 (-1000006) (by decide +kernel) (by decide)) rfl rfl rfl (Nat.le_of_ble_eq_true rfl) ?_
            refine x_iret (pc := 35) dX6_load_35 rfl (by first | rfl | exact fv_nz _) ?_
            exact ⟨rfl, rfl⟩
        ·
          exact absurd hs h5
      · skip
        have e22 : M1 22 = M 22 := hF 22 (by decide)
        have hG1 : pGd (M1 22) nb nm := by rw [e22]; exact hG2
        have hE1 : pEq nb nm (M1 22) (M 0) := by rw [e22]; exact hE
        have hB1 := hG1.1
        have hM1 := hG1.2.2.1
        have w34 : M1 34 z = M (13 + 2 * z) 0 := by rw [hF 34 (by decide)]; exact ew
        have w35 : M1 35 z = nI n := by rw [hF 35 (by decide)]; exact ez
        have w36 : ∀ i, i < 40 → M1 36 (40 * z + i) = M (14 + 2 * z) i := fun i hi => by rw [hF 36 (by decide)]; exact ec i hi
        refine fv_F.of (ls := [some (.ref 106), some (.int (nI z)), none, none]) (by decide) (Nat.le_of_ble_eq_true rfl) rfl ?_
        refine x_aload_n (pc := 0) dX7_load_0 rfl rfl ?_
        refine x_iload_n (pc := 1) dX7_load_1 rfl rfl ?_
        refine x_Vi (pc := 2) ks_X7_199 dX7_load_2 (tb_106) rfl rfl ((hX7_wrongSheet hz).v (show _ = (5 : Int32) from by rw [w34, if_pos h0])) rfl rfl rfl (Nat.le_of_ble_eq_true rfl) ?_
        refine x_istore_n2 (pc := 5) dX7_load_5 rfl ?_
        refine x_iload_n (pc := 6) dX7_load_6 rfl rfl ?_
        refine x_if_lt (pc := 7) dX7_load_7 (tgt := 16) rfl (fun h7 => ?_) (fun h7 => ?_)
        ·
          exact absurd h7 (by decide)
        ·
          refine x_aload_n (pc := 10) dX7_load_10 rfl rfl ?_
          refine x_iload_n (pc := 11) dX7_load_11 rfl rfl ?_
          refine x_Vi (pc := 12) ks_X7_114 dX7_load_12 (tb_106) rfl rfl (hX7_noL 5 (-1000006) (by decide) (by decide +kernel)) rfl rfl rfl (Nat.le_of_ble_eq_true rfl) ?_
          refine x_iret (pc := 15) dX7_load_15 rfl (by first | rfl | exact fv_nz _) ?_
          exact ⟨rfl, rfl⟩
    · generalize hc : M (14 + 2 * z) = c at *
      obtain ⟨t1, t2, t3⟩ := wT_all (fun j => decide (j < nb ∧ (0 ≤ c j ∧ c j ≤ 99))) n
      generalize hT : wT (fun j => decide (j < nb ∧ (0 ≤ c j ∧ c j ≤ 99))) n = T at *
      have hTj : ∀ j, j < T → j < nb ∧ ∃ x, x < 100 ∧ c j = nI x := fun j hj => by
        have h := of_decide_eq_true (t2 j hj)
        obtain ⟨x, hx, ex⟩ := pUm (n := 99) (by decide) h.2
        exact ⟨h.1, x, by omega, ex⟩
      have hT2 : ∀ j, j < T → (0 ≤ c j ∧ c j ≤ 99) := fun j hj => (of_decide_eq_true (t2 j hj)).2
      have hn3 : T < n → ¬ (T < nb ∧ (0 ≤ c T ∧ c T ≤ 99)) := fun h => of_decide_eq_false (t3 h)
      have hGl : ∀ j, j ≤ T → pGd (pLd (M 0) c j) nb nm := fun j hj => pLd_gd hG j (fun i hi => hTj i (by omega))
      have h13 : ∀ X, (fv_s M 0 X) (13 + 2 * z) = M (13 + 2 * z) := fun X => fv_s_ne _ _ (by omega)
      have h14 : ∀ X, (fv_s M 0 X) (14 + 2 * z) = c := fun X => by rw [fv_s_ne _ _ (by omega)]; exact hc
      refine pOp.mut (v := nI T) (pLd (M 0) c T) I ?_ (fun M1 hF h0' => ?_)
      · skip
        refine fv_P.of (ls := [some (.ref 0), some (.int (nI z)), none, none]) (by decide) (Nat.le_of_ble_eq_true rfl) rfl ?_
        refine x_iload_n (pc := 0) dX6_load_0 rfl rfl ?_
        refine x_iconst (pc := 1) (v := 3) dX6_load_1 rfl ?_
        refine x_Si (pc := 2) ks_X6_51 dX6_load_2 (hX6_isUpTo) rfl rfl rfl (Nat.le_of_ble_eq_true rfl) ?_
        refine x_ifb_ne (pc := 5) dX6_load_5 (tgt := 15) rfl (fun h5 => ?_) (fun h5 => ?_)
        ·
          refine x_aload_n (pc := 15) dX6_load_15 rfl rfl ?_
          refine x_geta (pc := 16) fl_X6_35 dX6_load_16 (tb_fv) rfl ?_
          refine x_iload_n (pc := 19) dX6_load_19 rfl rfl ?_
          refine x_sheet (pc := 20) dX6_load_20 (rfl) (by first | assumption | decide | omega) ?_
          refine x_astore_n2 (pc := 21) dX6_load_21 rfl ?_
          refine x_aload_n (pc := 22) dX6_load_22 rfl rfl ?_
          refine x_Vi (pc := 23) ks_X6_214 dX6_load_23 (tb_sh (by assumption)) rfl rfl (hX3_isMissing hz) rfl rfl rfl (Nat.le_of_ble_eq_true rfl) ?_
          refine x_ifb_eq (pc := 26) dX6_load_26 (tgt := 36) rfl (fun h26 => ?_) (fun h26 => ?_)
          ·
            refine x_iconst (pc := 36) (v := 0) dX6_load_36 rfl ?_
            refine x_istore_n3 (pc := 37) dX6_load_37 rfl ?_
            refine x_loop (fun j => [some (.ref 0), some (.int (nI z)), some (.ref (aSh z)), some (.int (nI j))]) (fun j => fv_s M 0 (pLd (M 0) c j)) T rfl (fv_s_id M 0) (fun j hj hL => ?_) ?_
            · show fv_X E mX6_load _ _ 38 [some (.ref 0), some (.int (nI z)), some (.ref (aSh z)), some (.int (nI j))] [] (fv_s M 0 (pLd (M 0) c j))
              replace hL : fv_X E mX6_load _ _ 38 [some (.ref 0), some (.int (nI z)), some (.ref (aSh z)), some (.int (nI (j + 1)))] [] (fv_s M 0 (fv_u (pLd (M 0) c j) (fB j 3 + 0) (c j))) := hL
              have hjb := (hTj j hj).1
              have hj8 : j < 8 := by omega
              refine x_iload_n (pc := 38) dX6_load_38 rfl rfl ?_
              refine x_aload_n (pc := 39) dX6_load_39 rfl rfl ?_
              refine x_geti (pc := 40) fl_X6_255 dX6_load_40 (tb_sh (by assumption)) rfl (show _ = nI n from by rw [h13]; exact es) ?_
              refine x_icmp_ge (pc := 43) dX6_load_43 (tgt := 97) rfl (fun h43 => ?_) (fun h43 => ?_)
              ·
                exact absurd h43 (nI_ge (by omega) (by omega))
              ·
                refine x_iload_n (pc := 46) dX6_load_46 rfl rfl ?_
                refine x_aload_n (pc := 47) dX6_load_47 rfl rfl ?_
                refine x_geta (pc := 48) fl_X6_12 dX6_load_48 (tb_fv) rfl ?_
                refine x_geti (pc := 51) fl_X6_60 dX6_load_51 (tb_st (by assumption)) rfl (show _ = nI nb from by rw [fv_s_same, pLd_lo (by decide)]; exact hB) ?_
                refine x_icmp_ge (pc := 54) dX6_load_54 (tgt := 97) rfl (fun h54 => ?_) (fun h54 => ?_)
                ·
                  exact absurd h54 (nI_ge hjb (by omega))
                ·
                  refine x_aload_n (pc := 57) dX6_load_57 rfl rfl ?_
                  refine x_geta (pc := 58) fl_X6_267 dX6_load_58 (tb_sh (by assumption)) rfl ?_
                  refine x_iload_n (pc := 61) dX6_load_61 rfl rfl ?_
                  refine x_iale (pc := 62) dX6_load_62 (tb_nu hz) (rfl) (by omega) (by first | decide | assumption) (show _ = c j from by rw [h14, Nat.zero_add]) ?_
                  refine x_bipush (pc := 63) (v := 99) dX6_load_63 rfl ?_
                  refine x_Si (pc := 65) ks_X6_51 dX6_load_65 (hX6_isUpTo) rfl rfl rfl (Nat.le_of_ble_eq_true rfl) ?_
                  refine x_ifb_eq (pc := 68) dX6_load_68 (tgt := 97) rfl (fun h68 => ?_) (fun h68 => ?_)
                  ·
                    exact absurd (hT2 j hj) h68
                  ·
                    refine x_aload_n (pc := 71) dX6_load_71 rfl rfl ?_
                    refine x_geta (pc := 72) fl_X6_12 dX6_load_72 (tb_fv) rfl ?_
                    refine x_geta (pc := 75) fl_X6_72 dX6_load_75 (tb_st (by assumption)) rfl ?_
                    refine x_iload_n (pc := 78) dX6_load_78 rfl rfl ?_
                    refine x_bird (pc := 79) dX6_load_79 (by assumption) (rfl) (hj8) ?_
                    refine x_geta (pc := 80) fl_X6_276 dX6_load_80 (tb_b (by assumption) (by assumption)) rfl ?_
                    refine x_iconst (pc := 83) (v := 0) dX6_load_83 rfl ?_
                    refine x_aload_n (pc := 84) dX6_load_84 rfl rfl ?_
                    refine x_geta (pc := 85) fl_X6_267 dX6_load_85 (tb_sh (by assumption)) rfl ?_
                    refine x_iload_n (pc := 88) dX6_load_88 rfl rfl ?_
                    refine x_iale (pc := 89) dX6_load_89 (tb_nu hz) (rfl) (by omega) (by first | decide | assumption) (show _ = c j from by rw [h14, Nat.zero_add]) ?_
                    refine x_iast (pc := 90) dX6_load_90 (tb_f hs0 hj8) ((rfl : (0 : Int32) = nI 0)) (by decide) (by first | decide | assumption) ?_
                    rw [fv_s_same, fv_s_s]
                    refine x_iinc3 (pc := 91) dX6_load_91 (by first | exact fv_inc _ | exact fv_dec _ | rfl) rfl ?_
                    refine x_goto (pc := 94) dX6_load_94 (tgt := 38) rfl ?_
                    exact hL
            · show fv_X E mX6_load _ _ 38 [some (.ref 0), some (.int (nI z)), some (.ref (aSh z)), some (.int (nI T))] [] (fv_s M 0 (pLd (M 0) c T))
              refine x_iload_n (pc := 38) dX6_load_38 rfl rfl ?_
              refine x_aload_n (pc := 39) dX6_load_39 rfl rfl ?_
              refine x_geti (pc := 40) fl_X6_255 dX6_load_40 (tb_sh (by assumption)) rfl (show _ = nI n from by rw [h13]; exact es) ?_
              refine x_icmp_ge (pc := 43) dX6_load_43 (tgt := 97) rfl (fun h43 => ?_) (fun h43 => ?_)
              ·
                refine x_iload_n (pc := 97) dX6_load_97 rfl rfl ?_
                refine x_iret (pc := 98) dX6_load_98 rfl (by first | rfl | exact fv_nz _) ?_
                exact ⟨rfl, pFr.rfl'.s (by decide), fv_s_same _ _ _⟩
              ·
                refine x_iload_n (pc := 46) dX6_load_46 rfl rfl ?_
                refine x_aload_n (pc := 47) dX6_load_47 rfl rfl ?_
                refine x_geta (pc := 48) fl_X6_12 dX6_load_48 (tb_fv) rfl ?_
                refine x_geti (pc := 51) fl_X6_60 dX6_load_51 (tb_st (by assumption)) rfl (show _ = nI nb from by rw [fv_s_same, pLd_lo (by decide)]; exact hB) ?_
                refine x_icmp_ge (pc := 54) dX6_load_54 (tgt := 97) rfl (fun h54 => ?_) (fun h54 => ?_)
                ·
                  refine x_iload_n (pc := 97) dX6_load_97 rfl rfl ?_
                  refine x_iret (pc := 98) dX6_load_98 rfl (by first | rfl | exact fv_nz _) ?_
                  exact ⟨rfl, pFr.rfl'.s (by decide), fv_s_same _ _ _⟩
                ·
                  refine x_aload_n (pc := 57) dX6_load_57 rfl rfl ?_
                  refine x_geta (pc := 58) fl_X6_267 dX6_load_58 (tb_sh (by assumption)) rfl ?_
                  refine x_iload_n (pc := 61) dX6_load_61 rfl rfl ?_
                  refine x_iale (pc := 62) dX6_load_62 (tb_nu hz) (rfl) (Nat.lt_of_lt_of_le (Decidable.not_not.mp (fun q => h43 (nI_le (Nat.le_of_not_lt q) (by omega)))) hn40) (by first | decide | assumption) (show _ = c T from by rw [h14, Nat.zero_add]) ?_
                  refine x_bipush (pc := 63) (v := 99) dX6_load_63 rfl ?_
                  refine x_Si (pc := 65) ks_X6_51 dX6_load_65 (hX6_isUpTo) rfl rfl rfl (Nat.le_of_ble_eq_true rfl) ?_
                  refine x_ifb_eq (pc := 68) dX6_load_68 (tgt := 97) rfl (fun h68 => ?_) (fun h68 => ?_)
                  ·
                    refine x_iload_n (pc := 97) dX6_load_97 rfl rfl ?_
                    refine x_iret (pc := 98) dX6_load_98 rfl (by first | rfl | exact fv_nz _) ?_
                    exact ⟨rfl, pFr.rfl'.s (by decide), fv_s_same _ _ _⟩
                  ·
                    exact absurd ⟨Decidable.not_not.mp (fun q => h54 (nI_le (Nat.le_of_not_lt q) (by omega))), h68⟩ (hn3 (Decidable.not_not.mp (fun q => h43 (nI_le (Nat.le_of_not_lt q) (by omega)))))
          ·
            exact absurd h26 h0
        ·
          exact absurd hs h5
      · skip
        have e22 : M1 22 = M 22 := hF 22 (by decide)
        have hG1 : pGd (M1 22) nb nm := by rw [e22]; exact hG2
        have hE1 : pEq nb nm (M1 22) (M 0) := by rw [e22]; exact hE
        have hB1 := hG1.1
        have hM1 := hG1.2.2.1
        have w34 : M1 34 z = M (13 + 2 * z) 0 := by rw [hF 34 (by decide)]; exact ew
        have w35 : M1 35 z = nI n := by rw [hF 35 (by decide)]; exact ez
        have w36 : ∀ i, i < 40 → M1 36 (40 * z + i) = c i := fun i hi => by rw [hF 36 (by decide)]; exact ec i hi
        refine fv_P.of (ls := [some (.ref 106), some (.int (nI z)), none, none]) (by decide) (Nat.le_of_ble_eq_true rfl) rfl ?_
        refine x_aload_n (pc := 0) dX7_load_0 rfl rfl ?_
        refine x_iload_n (pc := 1) dX7_load_1 rfl rfl ?_
        refine x_Vi (pc := 2) ks_X7_199 dX7_load_2 (tb_106) rfl rfl ((hX7_wrongSheet hz).v (show _ = (-1 : Int32) from by rw [w34, if_neg h0])) rfl rfl rfl (Nat.le_of_ble_eq_true rfl) ?_
        refine x_istore_n2 (pc := 5) dX7_load_5 rfl ?_
        refine x_iload_n (pc := 6) dX7_load_6 rfl rfl ?_
        refine x_if_lt (pc := 7) dX7_load_7 (tgt := 16) rfl (fun h7 => ?_) (fun h7 => ?_)
        ·
          refine x_iconst (pc := 16) (v := 0) dX7_load_16 rfl ?_
          refine x_istore_n3 (pc := 17) dX7_load_17 rfl ?_
          have hk : ∀ q, q ≠ 22 → ∀ X, (fv_s M1 22 X) q = M1 q := fun q hq X => fv_s_ne _ _ hq
          refine x_loop (fun j => [some (.ref 106), some (.int (nI z)), some (.int (-1)), some (.int (nI j))]) (fun j => fv_s M1 22 (pLd (M1 22) c j)) T rfl (fv_s_id M1 22) (fun j hj hL => ?_) ?_
          · show fv_X E mX7_load _ _ 18 [some (.ref 106), some (.int (nI z)), some (.int (-1)), some (.int (nI j))] [] (fv_s M1 22 (pLd (M1 22) c j))
            replace hL : fv_X E mX7_load _ _ 18 [some (.ref 106), some (.int (nI z)), some (.int (-1)), some (.int (nI (j + 1)))] [] (fv_s M1 22 (fv_u (pLd (M1 22) c j) (fB j 3) (c j))) := hL
            have hjb := (hTj j hj).1
            have hj8 : j < 8 := by omega
            refine x_iload_n (pc := 18) dX7_load_18 rfl rfl ?_
            refine x_aload_n (pc := 19) dX7_load_19 rfl rfl ?_
            refine x_geta (pc := 20) fl_X7_50 dX7_load_20 (tb_106) rfl ?_
            refine x_iload_n (pc := 23) dX7_load_23 rfl rfl ?_
            refine x_iale (pc := 24) dX7_load_24 (tb_120) (rfl) (hz) (by first | decide | assumption) (show _ = nI n from by rw [hk 35 (by decide), Nat.zero_add]; exact w35) ?_
            refine x_icmp_ge (pc := 25) dX7_load_25 (tgt := 79) rfl (fun h25 => ?_) (fun h25 => ?_)
            ·
              exact absurd h25 (nI_ge (by omega) (by omega))
            ·
              refine x_aload_n (pc := 28) dX7_load_28 rfl rfl ?_
              refine x_iload_n (pc := 29) dX7_load_29 rfl rfl ?_
              refine x_Vi (pc := 30) ks_X7_120 dX7_load_30 (tb_106) rfl rfl ((hX7_isBird (x := nI nb) (by rw [fv_s_same, pLd_lo (by decide)]; exact hB1))) rfl rfl rfl (Nat.le_of_ble_eq_true rfl) ?_
              refine x_ifb_eq (pc := 33) dX7_load_33 (tgt := 79) rfl (fun h33 => ?_) (fun h33 => ?_)
              ·
                exact absurd ((pUp (by omega) (by omega)).mpr hjb) h33
              ·
                refine x_aload_n (pc := 36) dX7_load_36 rfl rfl ?_
                refine x_geta (pc := 37) fl_X7_53 dX7_load_37 (tb_106) rfl ?_
                refine x_bipush (pc := 40) (v := 40) dX7_load_40 rfl ?_
                refine x_iload_n (pc := 42) dX7_load_42 rfl rfl ?_
                refine x_imul (pc := 43) dX7_load_43 ?_
                refine x_iload_n (pc := 44) dX7_load_44 rfl rfl ?_
                refine x_iadd (pc := 45) dX7_load_45 ?_
                refine x_iale (pc := 46) dX7_load_46 (tb_121) (pCe_ix z j) (by omega) (by first | decide | assumption) (show _ = c j from by rw [hk 36 (by decide), Nat.zero_add]; exact w36 _ (by omega)) ?_
                refine x_iconst (pc := 47) (v := 0) dX7_load_47 rfl ?_
                refine x_bipush (pc := 48) (v := 99) dX7_load_48 rfl ?_
                refine x_Si (pc := 50) ks_X7_60 dX7_load_50 (hX7_in1) rfl rfl rfl (Nat.le_of_ble_eq_true rfl) ?_
                refine x_ifb_eq (pc := 53) dX7_load_53 (tgt := 79) rfl (fun h53 => ?_) (fun h53 => ?_)
                ·
                  exact absurd (hT2 j hj) h53
                ·
                  refine x_aload_n (pc := 56) dX7_load_56 rfl rfl ?_
                  refine x_iload_n (pc := 57) dX7_load_57 rfl rfl ?_
                  refine x_iconst (pc := 58) (v := 3) dX7_load_58 rfl ?_
                  refine x_aload_n (pc := 59) dX7_load_59 rfl rfl ?_
                  refine x_geta (pc := 60) fl_X7_53 dX7_load_60 (tb_106) rfl ?_
                  refine x_bipush (pc := 63) (v := 40) dX7_load_63 rfl ?_
                  refine x_iload_n (pc := 65) dX7_load_65 rfl rfl ?_
                  refine x_imul (pc := 66) dX7_load_66 ?_
                  refine x_iload_n (pc := 67) dX7_load_67 rfl rfl ?_
                  refine x_iadd (pc := 68) dX7_load_68 ?_
                  refine x_iale (pc := 69) dX7_load_69 (tb_121) (pCe_ix z j) (by omega) (by first | decide | assumption) (show _ = c j from by rw [hk 36 (by decide), Nat.zero_add]; exact w36 _ (by omega)) ?_
                  refine x_Vv (pc := 70) ks_X7_100 dX7_load_70 (tb_106) rfl rfl (hX7_puts (f := 3) hj8 (by decide)) rfl rfl rfl (Nat.le_of_ble_eq_true rfl) ?_
                  rw [fv_s_same, fv_s_s]
                  refine x_iinc3 (pc := 73) dX7_load_73 (by first | exact fv_inc _ | exact fv_dec _ | rfl) rfl ?_
                  refine x_goto (pc := 76) dX7_load_76 (tgt := 18) rfl ?_
                  exact hL
          · show fv_X E mX7_load _ _ 18 [some (.ref 106), some (.int (nI z)), some (.int (-1)), some (.int (nI T))] [] (fv_s M1 22 (pLd (M1 22) c T))
            refine x_iload_n (pc := 18) dX7_load_18 rfl rfl ?_
            refine x_aload_n (pc := 19) dX7_load_19 rfl rfl ?_
            refine x_geta (pc := 20) fl_X7_50 dX7_load_20 (tb_106) rfl ?_
            refine x_iload_n (pc := 23) dX7_load_23 rfl rfl ?_
            refine x_iale (pc := 24) dX7_load_24 (tb_120) (rfl) (hz) (by first | decide | assumption) (show _ = nI n from by rw [hk 35 (by decide), Nat.zero_add]; exact w35) ?_
            refine x_icmp_ge (pc := 25) dX7_load_25 (tgt := 79) rfl (fun h25 => ?_) (fun h25 => ?_)
            ·
              refine x_iload_n (pc := 79) dX7_load_79 rfl rfl ?_
              refine x_iret (pc := 80) dX7_load_80 rfl (by first | rfl | exact fv_nz _) ?_
              exact ⟨rfl, pFr.rfl'.s (by decide), nb, nm, by rw [fv_s_same]; exact ⟨hGl T (Nat.le_refl T), pLd_cg hE1 c T, t, ht, by rw [pLd_lo (by decide)]; exact eT⟩⟩
            ·
              refine x_aload_n (pc := 28) dX7_load_28 rfl rfl ?_
              refine x_iload_n (pc := 29) dX7_load_29 rfl rfl ?_
              refine x_Vi (pc := 30) ks_X7_120 dX7_load_30 (tb_106) rfl rfl ((hX7_isBird (x := nI nb) (by rw [fv_s_same, pLd_lo (by decide)]; exact hB1))) rfl rfl rfl (Nat.le_of_ble_eq_true rfl) ?_
              refine x_ifb_eq (pc := 33) dX7_load_33 (tgt := 79) rfl (fun h33 => ?_) (fun h33 => ?_)
              ·
                refine x_iload_n (pc := 79) dX7_load_79 rfl rfl ?_
                refine x_iret (pc := 80) dX7_load_80 rfl (by first | rfl | exact fv_nz _) ?_
                exact ⟨rfl, pFr.rfl'.s (by decide), nb, nm, by rw [fv_s_same]; exact ⟨hGl T (Nat.le_refl T), pLd_cg hE1 c T, t, ht, by rw [pLd_lo (by decide)]; exact eT⟩⟩
              ·
                refine x_aload_n (pc := 36) dX7_load_36 rfl rfl ?_
                refine x_geta (pc := 37) fl_X7_53 dX7_load_37 (tb_106) rfl ?_
                refine x_bipush (pc := 40) (v := 40) dX7_load_40 rfl ?_
                refine x_iload_n (pc := 42) dX7_load_42 rfl rfl ?_
                refine x_imul (pc := 43) dX7_load_43 ?_
                refine x_iload_n (pc := 44) dX7_load_44 rfl rfl ?_
                refine x_iadd (pc := 45) dX7_load_45 ?_
                refine x_iale (pc := 46) dX7_load_46 (tb_121) (pCe_ix z T) (by have := (Decidable.not_not.mp (fun q => h25 (nI_le (Nat.le_of_not_lt q) (by omega)))); omega) (by first | decide | assumption) (show _ = c T from by rw [hk 36 (by decide), Nat.zero_add]; exact w36 _ (by have := (Decidable.not_not.mp (fun q => h25 (nI_le (Nat.le_of_not_lt q) (by omega)))); omega)) ?_
                refine x_iconst (pc := 47) (v := 0) dX7_load_47 rfl ?_
                refine x_bipush (pc := 48) (v := 99) dX7_load_48 rfl ?_
                refine x_Si (pc := 50) ks_X7_60 dX7_load_50 (hX7_in1) rfl rfl rfl (Nat.le_of_ble_eq_true rfl) ?_
                refine x_ifb_eq (pc := 53) dX7_load_53 (tgt := 79) rfl (fun h53 => ?_) (fun h53 => ?_)
                ·
                  refine x_iload_n (pc := 79) dX7_load_79 rfl rfl ?_
                  refine x_iret (pc := 80) dX7_load_80 rfl (by first | rfl | exact fv_nz _) ?_
                  exact ⟨rfl, pFr.rfl'.s (by decide), nb, nm, by rw [fv_s_same]; exact ⟨hGl T (Nat.le_refl T), pLd_cg hE1 c T, t, ht, by rw [pLd_lo (by decide)]; exact eT⟩⟩
                ·
                  exact absurd ⟨(pUp (by omega) (by omega)).mp h33, h53⟩ (hn3 (Decidable.not_not.mp (fun q => h25 (nI_le (Nat.le_of_not_lt q) (by omega)))))
        ·
          exact absurd (by decide) h7
  · skip
    refine pOp.bad (v := -1000001) 0 I ?_ (fun M1 hF => ?_)
    · skip
      refine fv_F.of (ls := [some (.ref 0), some (.int s), none, none]) (by decide) (Nat.le_of_ble_eq_true rfl) rfl ?_
      refine x_iload_n (pc := 0) dX6_load_0 rfl rfl ?_
      refine x_iconst (pc := 1) (v := 3) dX6_load_1 rfl ?_
      refine x_Si (pc := 2) ks_X6_51 dX6_load_2 (hX6_isUpTo) rfl rfl rfl (Nat.le_of_ble_eq_true rfl) ?_
      refine x_ifb_ne (pc := 5) dX6_load_5 (tgt := 15) rfl (fun h5 => ?_) (fun h5 => ?_)
      ·
        exact absurd h5 hs
      ·
        refine x_aload_n (pc := 8) dX6_load_8 rfl rfl ?_
        refine x_ldc (pc := 9) kc_X6_55 dX6_load_9 ?_
        refine x_Vi (pc := 11) ks_X6_56 dX6_load_11 (tb_fv) rfl rfl (hX6_fin 0 (-1000001) (by decide +kernel) (by decide)) rfl rfl rfl (Nat.le_of_ble_eq_true rfl) ?_
        refine x_iret (pc := 14) dX6_load_14 rfl (by first | rfl | exact fv_nz _) ?_
        exact ⟨rfl, rfl⟩
    · skip
      have e22 : M1 22 = M 22 := hF 22 (by decide)
      have hG1 : pGd (M1 22) nb nm := by rw [e22]; exact hG2
      have hE1 : pEq nb nm (M1 22) (M 0) := by rw [e22]; exact hE
      have hB1 := hG1.1
      have hM1 := hG1.2.2.1
      refine fv_F.of (ls := [some (.ref 106), some (.int s), none, none]) (by decide) (Nat.le_of_ble_eq_true rfl) rfl ?_
      refine x_aload_n (pc := 0) dX7_load_0 rfl rfl ?_
      refine x_iload_n (pc := 1) dX7_load_1 rfl rfl ?_
      refine x_Vi (pc := 2) ks_X7_199 dX7_load_2 (tb_106) rfl rfl (hX7_wrongSheetF hs) rfl rfl rfl (Nat.le_of_ble_eq_true rfl) ?_
      refine x_istore_n2 (pc := 5) dX7_load_5 rfl ?_
      refine x_iload_n (pc := 6) dX7_load_6 rfl rfl ?_
      refine x_if_lt (pc := 7) dX7_load_7 (tgt := 16) rfl (fun h7 => ?_) (fun h7 => ?_)
      ·
        exact absurd h7 (by decide)
      ·
        refine x_aload_n (pc := 10) dX7_load_10 rfl rfl ?_
        refine x_iload_n (pc := 11) dX7_load_11 rfl rfl ?_
        refine x_Vi (pc := 12) ks_X7_114 dX7_load_12 (tb_106) rfl rfl (hX7_noL 0 (-1000001) (by decide) (by decide +kernel)) rfl rfl rfl (Nat.le_of_ble_eq_true rfl) ?_
        refine x_iret (pc := 15) dX7_load_15 rfl (by first | rfl | exact fv_nz _) ?_
        exact ⟨rfl, rfl⟩
