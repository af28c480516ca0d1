theorem fv_cp_s (g f : Nat → Int32) (b a n : Nat) : fv_u (fv_cp g b f a n) (b + n) (f (a + n)) = fv_cp g b f a (n + 1) := by
  funext j
  unfold fv_u fv_cp
  by_cases h : j = b + n
  · rw [if_pos h, if_pos (by omega)]; congr 1; omega
  · rw [if_neg h]
    by_cases h2 : b ≤ j ∧ j < b + n
    · rw [if_pos h2, if_pos (by omega)]
    · rw [if_neg h2, if_neg (by omega)]
theorem fv_cp_0 (g f : Nat → Int32) (b a : Nat) : fv_cp g b f a 0 = g := by funext j; unfold fv_cp; rw [if_neg (by omega)]
theorem op_copy {E : fv_E} {s a r b n : Int32} {M : fv_M} (I : pInv M) : pOp E mX6_copy mX7_copy [.int s, .int a, .int r, .int b, .int n] M := by
  obtain ⟨nb, nm, hG, hE, t, ht, eT⟩ := I.1
  have hs0 : 0 < 3 := by decide
  have hs1 : 1 < 3 := by decide
  have hB := hG.1
  have hb := hG.2.1
  have hM := hG.2.2.1
  have hn := hG.2.2.2.1
  have hK := hG.K
  have hC := hG.C
  have hG2 : pGd (M 22) nb nm := hG.cg hE
  by_cases hs : 0 ≤ s ∧ s ≤ 3
  · by_cases hr : 0 ≤ r ∧ r ≤ 3
    · obtain ⟨y, hy3, rfl⟩ := pUm (n := 3) (by decide) hs
      have hy : y < 4 := by omega
      obtain ⟨z, hz3, rfl⟩ := pUm (n := 3) (by decide) hr
      have hz : z < 4 := by omega
      obtain ⟨N1, hN1, es1, ez1, ew1, ec1⟩ := I.2.2.2.1 y hy
      obtain ⟨N2, hN2, es2, ez2, ew2, ec2⟩ := I.2.2.2.1 z hz
      have i1 := pCe_ix y 0
      by_cases hm : M (13 + 2 * y) 0 = 0 ∨ M (13 + 2 * z) 0 = 0
      · skip
        refine pOp.bad (v := -1000006) 5 I ?_ (fun M1 hF => ?_)
        · skip
          refine fv_F.of (ls := [some (.ref 0), some (.int (nI y)), some (.int a), some (.int (nI z)), some (.int b), some (.int n), none, none]) (by decide) (Nat.le_of_ble_eq_true rfl) rfl ?_
          refine x_iload_n (pc := 0) dX6_copy_0 rfl rfl ?_
          refine x_iconst (pc := 1) (v := 3) dX6_copy_1 rfl ?_
          refine x_Si (pc := 2) ks_X6_51 dX6_copy_2 (hX6_isUpTo) rfl rfl rfl (Nat.le_of_ble_eq_true rfl) ?_
          refine x_ifb_eq (pc := 5) dX6_copy_5 (tgt := 16) rfl (fun h5 => ?_) (fun h5 => ?_)
          ·
            exact absurd hs h5
          ·
            refine x_iload_n (pc := 8) dX6_copy_8 rfl rfl ?_
            refine x_iconst (pc := 9) (v := 3) dX6_copy_9 rfl ?_
            refine x_Si (pc := 10) ks_X6_51 dX6_copy_10 (hX6_isUpTo) rfl rfl rfl (Nat.le_of_ble_eq_true rfl) ?_
            refine x_ifb_ne (pc := 13) dX6_copy_13 (tgt := 23) rfl (fun h13 => ?_) (fun h13 => ?_)
            ·
              refine x_aload_n (pc := 23) dX6_copy_23 rfl rfl ?_
              refine x_geta (pc := 24) fl_X6_35 dX6_copy_24 (tb_fv) rfl ?_
              refine x_iload_n (pc := 27) dX6_copy_27 rfl rfl ?_
              refine x_sheet (pc := 28) dX6_copy_28 (rfl) (by first | assumption | decide | omega) ?_
              refine x_astore6 (pc := 29) dX6_copy_29 rfl ?_
              refine x_aload_n (pc := 31) dX6_copy_31 rfl rfl ?_
              refine x_geta (pc := 32) fl_X6_35 dX6_copy_32 (tb_fv) rfl ?_
              refine x_iload_n (pc := 35) dX6_copy_35 rfl rfl ?_
              refine x_sheet (pc := 36) dX6_copy_36 (rfl) (by first | assumption | decide | omega) ?_
              refine x_astore7 (pc := 37) dX6_copy_37 rfl ?_
              refine x_aload (pc := 39) dX6_copy_39 rfl ?_
              refine x_Vi (pc := 41) ks_X6_214 dX6_copy_41 (tb_sh (by assumption)) rfl rfl (hX3_isMissing hy) rfl rfl rfl (Nat.le_of_ble_eq_true rfl) ?_
              refine x_ifb_ne (pc := 44) dX6_copy_44 (tgt := 55) rfl (fun h44 => ?_) (fun h44 => ?_)
              ·
                refine x_aload_n (pc := 55) dX6_copy_55 rfl rfl ?_
                refine x_ldc (pc := 56) kc_X6_217 dX6_copy_56 ?_
                refine x_Vi (pc := 58) ks_X6_56 dX6_copy_58 (tb_fv) rfl rfl (hX6_fin 5 (-1000006) (by decide +kernel) (by decide)) rfl rfl rfl (Nat.le_of_ble_eq_true rfl) ?_
                refine x_iret (pc := 61) dX6_copy_61 rfl (by first | rfl | exact fv_nz _) ?_
                exact ⟨rfl, rfl⟩
              ·
                refine x_aload (pc := 47) dX6_copy_47 rfl ?_
                refine x_Vi (pc := 49) ks_X6_214 dX6_copy_49 (tb_sh (by assumption)) rfl rfl (hX3_isMissing hz) rfl rfl rfl (Nat.le_of_ble_eq_true rfl) ?_
                refine x_ifb_eq (pc := 52) dX6_copy_52 (tgt := 62) rfl (fun h52 => ?_) (fun h52 => ?_)
                ·
                  exact absurd hm (fun q => q.elim h44 h52)
                ·
                  refine x_aload_n (pc := 55) dX6_copy_55 rfl rfl ?_
                  refine x_ldc (pc := 56) kc_X6_217 dX6_copy_56 ?_
                  refine x_Vi (pc := 58) ks_X6_56 dX6_copy_58 (tb_fv) rfl rfl (hX6_fin 5 (-1000006) (by decide +kernel) (by decide)) rfl rfl rfl (Nat.le_of_ble_eq_true rfl) ?_
                  refine x_iret (pc := 61) dX6_copy_61 rfl (by first | rfl | exact fv_nz _) ?_
                  exact ⟨rfl, rfl⟩
            ·
              exact absurd hr h13
        · skip
          have e22 : M1 22 = M 22 := hF 22 (by decide)
          have hG1 : pGd (M1 22) nb nm := by rw [e22]; exact hG2
          have hE1 : pEq nb nm (M1 22) (M 0) := by rw [e22]; exact hE
          have hB1 := hG1.1
          have hM1 := hG1.2.2.1
          have v34 : ∀ t, M1 34 t = M 34 t := fun t => by rw [hF 34 (by decide)]
          have w35y : M1 35 y = nI N1 := by rw [hF 35 (by decide)]; exact ez1
          have w35z : M1 35 z = nI N2 := by rw [hF 35 (by decide)]; exact ez2
          have w34y : M1 34 y = M (13 + 2 * y) 0 := (v34 y).trans ew1
          have w34z : M1 34 z = M (13 + 2 * z) 0 := (v34 z).trans ew2
          refine fv_F.of (ls := [some (.ref 106), some (.int (nI y)), some (.int a), some (.int (nI z)), some (.int b), some (.int n), none]) (by decide) (Nat.le_of_ble_eq_true rfl) rfl ?_
          refine x_iload_n (pc := 0) dX7_copy_0 rfl rfl ?_
          refine x_Si (pc := 1) ks_X7_196 dX7_copy_1 (hX7_isSheet) rfl rfl rfl (Nat.le_of_ble_eq_true rfl) ?_
          refine x_ifb_eq (pc := 4) dX7_copy_4 (tgt := 14) rfl (fun h4 => ?_) (fun h4 => ?_)
          ·
            exact absurd hs h4
          ·
            refine x_iload_n (pc := 7) dX7_copy_7 rfl rfl ?_
            refine x_Si (pc := 8) ks_X7_196 dX7_copy_8 (hX7_isSheet) rfl rfl rfl (Nat.le_of_ble_eq_true rfl) ?_
            refine x_ifb_ne (pc := 11) dX7_copy_11 (tgt := 20) rfl (fun h11 => ?_) (fun h11 => ?_)
            ·
              refine x_aload_n (pc := 20) dX7_copy_20 rfl rfl ?_
              refine x_geta (pc := 21) fl_X7_47 dX7_copy_21 (tb_106) rfl ?_
              refine x_iload_n (pc := 24) dX7_copy_24 rfl rfl ?_
              refine x_iale (pc := 25) dX7_copy_25 (tb_119) (rfl) (hy) (by first | decide | assumption) (show _ = M (13 + 2 * y) 0 from by rw [Nat.zero_add]; exact w34y) ?_
              refine x_if_eq (pc := 26) dX7_copy_26 (tgt := 38) rfl (fun h26 => ?_) (fun h26 => ?_)
              ·
                refine x_aload_n (pc := 38) dX7_copy_38 rfl rfl ?_
                refine x_iconst (pc := 39) (v := 5) dX7_copy_39 rfl ?_
                refine x_Vi (pc := 40) ks_X7_114 dX7_copy_40 (tb_106) rfl rfl (hX7_noL 5 (-1000006) (by decide) (by decide +kernel)) rfl rfl rfl (Nat.le_of_ble_eq_true rfl) ?_
                refine x_iret (pc := 43) dX7_copy_43 rfl (by first | rfl | exact fv_nz _) ?_
                exact ⟨rfl, rfl⟩
              ·
                refine x_aload_n (pc := 29) dX7_copy_29 rfl rfl ?_
                refine x_geta (pc := 30) fl_X7_47 dX7_copy_30 (tb_106) rfl ?_
                refine x_iload_n (pc := 33) dX7_copy_33 rfl rfl ?_
                refine x_iale (pc := 34) dX7_copy_34 (tb_119) (rfl) (hz) (by first | decide | assumption) (show _ = M (13 + 2 * z) 0 from by rw [Nat.zero_add]; exact w34z) ?_
                refine x_if_ne (pc := 35) dX7_copy_35 (tgt := 44) rfl (fun h35 => ?_) (fun h35 => ?_)
                ·
                  exact absurd hm (fun q => q.elim h26 h35)
                ·
                  refine x_aload_n (pc := 38) dX7_copy_38 rfl rfl ?_
                  refine x_iconst (pc := 39) (v := 5) dX7_copy_39 rfl ?_
                  refine x_Vi (pc := 40) ks_X7_114 dX7_copy_40 (tb_106) rfl rfl (hX7_noL 5 (-1000006) (by decide) (by decide +kernel)) rfl rfl rfl (Nat.le_of_ble_eq_true rfl) ?_
                  refine x_iret (pc := 43) dX7_copy_43 rfl (by first | rfl | exact fv_nz _) ?_
                  exact ⟨rfl, rfl⟩
            ·
              exact absurd hr h11
      · have hm1 : ¬ M (13 + 2 * y) 0 = 0 := fun q => hm (Or.inl q)
        have hm2 : ¬ M (13 + 2 * z) 0 = 0 := fun q => hm (Or.inr q)
        by_cases hk : M (13 + 2 * y) 0 = M (13 + 2 * z) 0
        · have r1 : (0 ≤ a ∧ 0 ≤ n ∧ a ≤ M (13 + 2 * y) 1 ∧ n ≤ M (13 + 2 * y) 1 - a) ↔ ∃ u w, u + w ≤ N1 ∧ a = nI u ∧ n = nI w := by rw [es1]; exact pRg_eq hN1
          have r2 : (0 ≤ b ∧ 0 ≤ n ∧ b ≤ M (13 + 2 * z) 1 ∧ n ≤ M (13 + 2 * z) 1 - b) ↔ ∃ u w, u + w ≤ N2 ∧ b = nI u ∧ n = nI w := by rw [es2]; exact pRg_eq hN2
          by_cases hg : (∃ u w, u + w ≤ N1 ∧ a = nI u ∧ n = nI w) ∧ (∃ u w, u + w ≤ N2 ∧ b = nI u ∧ n = nI w)
          · obtain ⟨⟨u, m, h1, rfl, rfl⟩, ⟨x, m2, h2, rfl, em⟩⟩ := hg
            have em2 : m = m2 := (nI_eq (by omega) (by omega)).mp em
            subst em2
            have g1 := r1.mpr ⟨u, m, h1, rfl, rfl⟩
            have g2 := r2.mpr ⟨x, m, h2, rfl, rfl⟩
            refine pOp.of (v := nI m) (P := fun M1 => M1 = fv_s M (14 + 2 * z) (fv_cp (M (14 + 2 * z)) x (M (14 + 2 * y)) u m)) ?_ (fun M1 hM1 => ?_)
            · skip
              refine fv_P.of (ls := [some (.ref 0), some (.int (nI y)), some (.int (nI u)), some (.int (nI z)), some (.int (nI x)), some (.int (nI m)), none, none]) (by decide) (Nat.le_of_ble_eq_true rfl) rfl ?_
              refine x_iload_n (pc := 0) dX6_copy_0 rfl rfl ?_
              refine x_iconst (pc := 1) (v := 3) dX6_copy_1 rfl ?_
              refine x_Si (pc := 2) ks_X6_51 dX6_copy_2 (hX6_isUpTo) rfl rfl rfl (Nat.le_of_ble_eq_true rfl) ?_
              refine x_ifb_eq (pc := 5) dX6_copy_5 (tgt := 16) rfl (fun h5 => ?_) (fun h5 => ?_)
              ·
                exact absurd hs h5
              ·
                refine x_iload_n (pc := 8) dX6_copy_8 rfl rfl ?_
                refine x_iconst (pc := 9) (v := 3) dX6_copy_9 rfl ?_
                refine x_Si (pc := 10) ks_X6_51 dX6_copy_10 (hX6_isUpTo) rfl rfl rfl (Nat.le_of_ble_eq_true rfl) ?_
                refine x_ifb_ne (pc := 13) dX6_copy_13 (tgt := 23) rfl (fun h13 => ?_) (fun h13 => ?_)
                ·
                  refine x_aload_n (pc := 23) dX6_copy_23 rfl rfl ?_
                  refine x_geta (pc := 24) fl_X6_35 dX6_copy_24 (tb_fv) rfl ?_
                  refine x_iload_n (pc := 27) dX6_copy_27 rfl rfl ?_
                  refine x_sheet (pc := 28) dX6_copy_28 (rfl) (by first | assumption | decide | omega) ?_
                  refine x_astore6 (pc := 29) dX6_copy_29 rfl ?_
                  refine x_aload_n (pc := 31) dX6_copy_31 rfl rfl ?_
                  refine x_geta (pc := 32) fl_X6_35 dX6_copy_32 (tb_fv) rfl ?_
                  refine x_iload_n (pc := 35) dX6_copy_35 rfl rfl ?_
                  refine x_sheet (pc := 36) dX6_copy_36 (rfl) (by first | assumption | decide | omega) ?_
                  refine x_astore7 (pc := 37) dX6_copy_37 rfl ?_
                  refine x_aload (pc := 39) dX6_copy_39 rfl ?_
                  refine x_Vi (pc := 41) ks_X6_214 dX6_copy_41 (tb_sh (by assumption)) rfl rfl (hX3_isMissing hy) rfl rfl rfl (Nat.le_of_ble_eq_true rfl) ?_
                  refine x_ifb_ne (pc := 44) dX6_copy_44 (tgt := 55) rfl (fun h44 => ?_) (fun h44 => ?_)
                  ·
                    exact absurd h44 hm1
                  ·
                    refine x_aload (pc := 47) dX6_copy_47 rfl ?_
                    refine x_Vi (pc := 49) ks_X6_214 dX6_copy_49 (tb_sh (by assumption)) rfl rfl (hX3_isMissing hz) rfl rfl rfl (Nat.le_of_ble_eq_true rfl) ?_
                    refine x_ifb_eq (pc := 52) dX6_copy_52 (tgt := 62) rfl (fun h52 => ?_) (fun h52 => ?_)
                    ·
                      refine x_aload (pc := 62) dX6_copy_62 rfl ?_
                      refine x_geti (pc := 64) fl_X6_261 dX6_copy_64 (tb_sh (by assumption)) rfl (rfl) ?_
                      refine x_aload (pc := 67) dX6_copy_67 rfl ?_
                      refine x_geti (pc := 69) fl_X6_261 dX6_copy_69 (tb_sh (by assumption)) rfl (rfl) ?_
                      refine x_icmp_eq (pc := 72) dX6_copy_72 (tgt := 82) rfl (fun h72 => ?_) (fun h72 => ?_)
                      ·
                        refine x_aload (pc := 82) dX6_copy_82 rfl ?_
                        refine x_iload_n (pc := 84) dX6_copy_84 rfl rfl ?_
                        refine x_iload (pc := 85) dX6_copy_85 rfl ?_
                        refine x_Vi (pc := 87) ks_X6_264 dX6_copy_87 (tb_sh (by assumption)) rfl rfl (hX3_hasRange hy) rfl rfl rfl (Nat.le_of_ble_eq_true rfl) ?_
                        refine x_ifb_eq (pc := 90) dX6_copy_90 (tgt := 105) rfl (fun h90 => ?_) (fun h90 => ?_)
                        ·
                          exact absurd g1 h90
                        ·
                          refine x_aload (pc := 93) dX6_copy_93 rfl ?_
                          refine x_iload (pc := 95) dX6_copy_95 rfl ?_
                          refine x_iload (pc := 97) dX6_copy_97 rfl ?_
                          refine x_Vi (pc := 99) ks_X6_264 dX6_copy_99 (tb_sh (by assumption)) rfl rfl (hX3_hasRange hz) rfl rfl rfl (Nat.le_of_ble_eq_true rfl) ?_
                          refine x_ifb_ne (pc := 102) dX6_copy_102 (tgt := 112) rfl (fun h102 => ?_) (fun h102 => ?_)
                          ·
                            refine x_aload (pc := 112) dX6_copy_112 rfl ?_
                            refine x_geta (pc := 114) fl_X6_267 dX6_copy_114 (tb_sh (by assumption)) rfl ?_
                            refine x_iload_n (pc := 117) dX6_copy_117 rfl rfl ?_
                            refine x_aload (pc := 118) dX6_copy_118 rfl ?_
                            refine x_geta (pc := 120) fl_X6_267 dX6_copy_120 (tb_sh (by assumption)) rfl ?_
                            refine x_iload (pc := 123) dX6_copy_123 rfl ?_
                            refine x_iload (pc := 125) dX6_copy_125 rfl ?_
                            refine x_copy (pc := 127) ks_X6_270 dX6_copy_127 (tb_nu hy) (tb_nu hz) (rfl) (rfl) (rfl) (by omega) (by omega) (by decide) (by decide) rfl (Nat.le_of_ble_eq_true rfl) ?_
                            refine x_iload (pc := 130) dX6_copy_130 rfl ?_
                            refine x_iret (pc := 132) dX6_copy_132 rfl (by first | rfl | exact fv_nz _) ?_
                            exact ⟨rfl, by rw [Nat.zero_add, Nat.zero_add]⟩
                          ·
                            exact absurd g2 h102
                      ·
                        exact absurd hk h72
                    ·
                      exact absurd h52 hm2
                ·
                  exact absurd hr h13
            · have hM1q : ∀ q, q ≠ 14 + 2 * z → M1 q = M q := fun q h2 => by rw [hM1, fv_s_ne _ _ h2]
              have v34 : ∀ t, M1 34 t = M 34 t := fun t => by rw [hM1q 34 (by omega)]
              have w35y : M1 35 y = nI N1 := by rw [hM1q 35 (by omega)]; exact ez1
              have w35z : M1 35 z = nI N2 := by rw [hM1q 35 (by omega)]; exact ez2
              have w34y : M1 34 y = M (13 + 2 * y) 0 := (v34 y).trans ew1
              have w34z : M1 34 z = M (13 + 2 * z) 0 := (v34 z).trans ew2
              have e36 : M1 36 = M 36 := hM1q 36 (by omega)
              have hq36 : ∀ q, q ≠ 36 → q ≠ 37 → ∀ A B, (fv_s (fv_s M1 37 A) 36 B) q = M1 q := fun q h1 h2 A B => by rw [fv_s_ne _ _ h1, fv_s_ne _ _ h2]
              have hend : ∀ A, (∀ i, i < m → A i = M 36 (40 * y + u + i)) → pInv (fv_s (fv_s M1 37 A) 36 (fv_cp (M1 36) (40 * z + x) A 0 m)) := fun A hA => by
                have hh : 13 + 2 * z ≠ 36 ∧ 14 + 2 * z ≠ 36 ∧ 13 + 2 * z ≠ 37 ∧ 14 + 2 * z ≠ 37 := by omega
                refine I.sh hz (fun q h1 h2 h3 => ?_) (fun t ht hne => ?_) (fun t ht hne => ?_) (fun t ht hne j hj => ?_) ⟨N2, hN2, ?_, ?_, ?_, fun j hj => ?_⟩
                · rw [hq36 q (fun e => h3 (by rw [e]; decide)) (fun e => h3 (by rw [e]; decide))]; exact hM1q q h2
                · rw [hq36 34 (by decide) (by decide), hM1q 34 (by omega)]
                · rw [hq36 35 (by decide) (by decide), hM1q 35 (by omega)]
                · rw [fv_s_same]; unfold fv_cp; rw [if_neg (by omega), e36]
                · rw [hq36 _ hh.1 hh.2.2.1, hM1q _ (by omega)]; exact es2
                · rw [hq36 35 (by decide) (by decide)]; exact w35z
                · rw [hq36 34 (by decide) (by decide), hq36 _ hh.1 hh.2.2.1, hM1q (13 + 2 * z) (by omega)]; exact w34z
                · rw [fv_s_same, hq36 _ hh.2.1 hh.2.2.2, hM1, fv_s_same, fv_s_ne _ _ (fun q => hh.2.1 q.symm)]
                  unfold fv_cp
                  by_cases e : x ≤ j ∧ j < x + m
                  · rw [if_pos e, if_pos (by omega), hA _ (by omega), show 40 * y + u + (0 + (40 * z + j - (40 * z + x))) = 40 * y + (u + (j - x)) by omega]; exact ec1 _ (by omega)
                  · rw [if_neg e, if_neg (by omega)]; exact ec2 j hj
              have ix1 : ∀ j, (40 : Int32) * nI y + nI u + nI j = nI (40 * y + u + j) := fun j => by rw [pCe_ix, nI_add]
              have ix2 : ∀ j, (40 : Int32) * nI z + nI x + nI j = nI (40 * z + x + j) := fun j => by rw [pCe_ix, nI_add]
              refine fv_P.of (ls := [some (.ref 106), some (.int (nI y)), some (.int (nI u)), some (.int (nI z)), some (.int (nI x)), some (.int (nI m)), none]) (by decide) (Nat.le_of_ble_eq_true rfl) rfl ?_
              refine x_iload_n (pc := 0) dX7_copy_0 rfl rfl ?_
              refine x_Si (pc := 1) ks_X7_196 dX7_copy_1 (hX7_isSheet) rfl rfl rfl (Nat.le_of_ble_eq_true rfl) ?_
              refine x_ifb_eq (pc := 4) dX7_copy_4 (tgt := 14) rfl (fun h4 => ?_) (fun h4 => ?_)
              ·
                exact absurd hs h4
              ·
                refine x_iload_n (pc := 7) dX7_copy_7 rfl rfl ?_
                refine x_Si (pc := 8) ks_X7_196 dX7_copy_8 (hX7_isSheet) rfl rfl rfl (Nat.le_of_ble_eq_true rfl) ?_
                refine x_ifb_ne (pc := 11) dX7_copy_11 (tgt := 20) rfl (fun h11 => ?_) (fun h11 => ?_)
                ·
                  refine x_aload_n (pc := 20) dX7_copy_20 rfl rfl ?_
                  refine x_geta (pc := 21) fl_X7_47 dX7_copy_21 (tb_106) rfl ?_
                  refine x_iload_n (pc := 24) dX7_copy_24 rfl rfl ?_
                  refine x_iale (pc := 25) dX7_copy_25 (tb_119) (rfl) (hy) (by first | decide | assumption) (show _ = M (13 + 2 * y) 0 from by rw [Nat.zero_add]; exact w34y) ?_
                  refine x_if_eq (pc := 26) dX7_copy_26 (tgt := 38) rfl (fun h26 => ?_) (fun h26 => ?_)
                  ·
                    exact absurd h26 hm1
                  ·
                    refine x_aload_n (pc := 29) dX7_copy_29 rfl rfl ?_
                    refine x_geta (pc := 30) fl_X7_47 dX7_copy_30 (tb_106) rfl ?_
                    refine x_iload_n (pc := 33) dX7_copy_33 rfl rfl ?_
                    refine x_iale (pc := 34) dX7_copy_34 (tb_119) (rfl) (hz) (by first | decide | assumption) (show _ = M (13 + 2 * z) 0 from by rw [Nat.zero_add]; exact w34z) ?_
                    refine x_if_ne (pc := 35) dX7_copy_35 (tgt := 44) rfl (fun h35 => ?_) (fun h35 => ?_)
                    ·
                      refine x_aload_n (pc := 44) dX7_copy_44 rfl rfl ?_
                      refine x_geta (pc := 45) fl_X7_47 dX7_copy_45 (tb_106) rfl ?_
                      refine x_iload_n (pc := 48) dX7_copy_48 rfl rfl ?_
                      refine x_iale (pc := 49) dX7_copy_49 (tb_119) (rfl) (hy) (by first | decide | assumption) (show _ = M (13 + 2 * y) 0 from by rw [Nat.zero_add]; exact w34y) ?_
                      refine x_aload_n (pc := 50) dX7_copy_50 rfl rfl ?_
                      refine x_geta (pc := 51) fl_X7_47 dX7_copy_51 (tb_106) rfl ?_
                      refine x_iload_n (pc := 54) dX7_copy_54 rfl rfl ?_
                      refine x_iale (pc := 55) dX7_copy_55 (tb_119) (rfl) (hz) (by first | decide | assumption) (show _ = M (13 + 2 * z) 0 from by rw [Nat.zero_add]; exact w34z) ?_
                      refine x_icmp_eq (pc := 56) dX7_copy_56 (tgt := 65) rfl (fun h56 => ?_) (fun h56 => ?_)
                      ·
                        refine x_iload (pc := 65) dX7_copy_65 rfl ?_
                        refine x_if_lt (pc := 67) dX7_copy_67 (tgt := 106) rfl (fun h67 => ?_) (fun h67 => ?_)
                        ·
                          exact absurd h67 (nI_pos (by omega))
                        ·
                          refine x_iload_n (pc := 70) dX7_copy_70 rfl rfl ?_
                          refine x_if_lt (pc := 71) dX7_copy_71 (tgt := 106) rfl (fun h71 => ?_) (fun h71 => ?_)
                          ·
                            exact absurd h71 (nI_pos (by omega))
                          ·
                            refine x_iload (pc := 74) dX7_copy_74 rfl ?_
                            refine x_if_lt (pc := 76) dX7_copy_76 (tgt := 106) rfl (fun h76 => ?_) (fun h76 => ?_)
                            ·
                              exact absurd h76 (nI_pos (by omega))
                            ·
                              refine x_iload_n (pc := 79) dX7_copy_79 rfl rfl ?_
                              refine x_aload_n (pc := 80) dX7_copy_80 rfl rfl ?_
                              refine x_geta (pc := 81) fl_X7_50 dX7_copy_81 (tb_106) rfl ?_
                              refine x_iload_n (pc := 84) dX7_copy_84 rfl rfl ?_
                              refine x_iale (pc := 85) dX7_copy_85 (tb_120) (rfl) (hy) (by first | decide | assumption) (show _ = nI N1 from by rw [Nat.zero_add]; exact w35y) ?_
                              refine x_iload (pc := 86) dX7_copy_86 rfl ?_
                              refine x_isub (pc := 88) dX7_copy_88 ?_
                              refine x_icmp_gt (pc := 89) dX7_copy_89 (tgt := 106) rfl (fun h89 => ?_) (fun h89 => ?_)
                              ·
                                exact absurd h89 (pRg_n hN1 h1)
                              ·
                                refine x_iload (pc := 92) dX7_copy_92 rfl ?_
                                refine x_aload_n (pc := 94) dX7_copy_94 rfl rfl ?_
                                refine x_geta (pc := 95) fl_X7_50 dX7_copy_95 (tb_106) rfl ?_
                                refine x_iload_n (pc := 98) dX7_copy_98 rfl rfl ?_
                                refine x_iale (pc := 99) dX7_copy_99 (tb_120) (rfl) (hz) (by first | decide | assumption) (show _ = nI N2 from by rw [Nat.zero_add]; exact w35z) ?_
                                refine x_iload (pc := 100) dX7_copy_100 rfl ?_
                                refine x_isub (pc := 102) dX7_copy_102 ?_
                                refine x_icmp_le (pc := 103) dX7_copy_103 (tgt := 112) rfl (fun h103 => ?_) (fun h103 => ?_)
                                ·
                                  refine x_iconst (pc := 112) (v := 0) dX7_copy_112 rfl ?_
                                  refine x_istore6 (pc := 113) dX7_copy_113 rfl ?_
                                  refine x_loop (fun j => [some (.ref 106), some (.int (nI y)), some (.int (nI u)), some (.int (nI z)), some (.int (nI x)), some (.int (nI m)), some (.int (nI j))]) (fun j => fv_s M1 37 (pCpy (M1 37) (fun i => M 36 (40 * y + u + i)) j)) m rfl (by rw [pCpy_0, fv_s_id]) (fun j hj hL => ?_) ?_
                                  · show fv_X E mX7_copy _ _ 115 [some (.ref 106), some (.int (nI y)), some (.int (nI u)), some (.int (nI z)), some (.int (nI x)), some (.int (nI m)), some (.int (nI j))] [] (fv_s M1 37 (pCpy (M1 37) (fun i => M 36 (40 * y + u + i)) j))
                                    replace hL : fv_X E mX7_copy _ _ 115 [some (.ref 106), some (.int (nI y)), some (.int (nI u)), some (.int (nI z)), some (.int (nI x)), some (.int (nI m)), some (.int (nI (j + 1)))] [] (fv_s M1 37 (pCpy (M1 37) (fun i => M 36 (40 * y + u + i)) (j + 1))) := hL
                                    refine x_iload (pc := 115) dX7_copy_115 rfl ?_
                                    refine x_iload (pc := 117) dX7_copy_117 rfl ?_
                                    refine x_icmp_ge (pc := 119) dX7_copy_119 (tgt := 149) rfl (fun h119 => ?_) (fun h119 => ?_)
                                    ·
                                      exact absurd h119 (nI_ge hj (by omega))
                                    ·
                                      refine x_aload_n (pc := 122) dX7_copy_122 rfl rfl ?_
                                      refine x_geta (pc := 123) fl_X7_56 dX7_copy_123 (tb_106) rfl ?_
                                      refine x_iload (pc := 126) dX7_copy_126 rfl ?_
                                      refine x_aload_n (pc := 128) dX7_copy_128 rfl rfl ?_
                                      refine x_geta (pc := 129) fl_X7_53 dX7_copy_129 (tb_106) rfl ?_
                                      refine x_bipush (pc := 132) (v := 40) dX7_copy_132 rfl ?_
                                      refine x_iload_n (pc := 134) dX7_copy_134 rfl rfl ?_
                                      refine x_imul (pc := 135) dX7_copy_135 ?_
                                      refine x_iload_n (pc := 136) dX7_copy_136 rfl rfl ?_
                                      refine x_iadd (pc := 137) dX7_copy_137 ?_
                                      refine x_iload (pc := 138) dX7_copy_138 rfl ?_
                                      refine x_iadd (pc := 140) dX7_copy_140 ?_
                                      refine x_iale (pc := 141) dX7_copy_141 (tb_121) (ix1 j) (by omega) (by first | decide | assumption) (show _ = M 36 (40 * y + u + j) from by rw [fv_s_ne _ _ (by decide), Nat.zero_add, e36]) ?_
                                      refine x_iast (pc := 142) dX7_copy_142 (tb_122) (rfl) (by omega) (by first | decide | assumption) ?_
                                      rw [fv_s_same, fv_s_s, Nat.zero_add, pCpy_s _ (fun i => M 36 (40 * y + u + i)) j]
                                      refine x_iinc6 (pc := 143) dX7_copy_143 (by first | exact fv_inc _ | exact fv_dec _ | rfl) rfl ?_
                                      refine x_goto (pc := 146) dX7_copy_146 (tgt := 115) rfl ?_
                                      exact hL
                                  · show fv_X E mX7_copy _ _ 115 [some (.ref 106), some (.int (nI y)), some (.int (nI u)), some (.int (nI z)), some (.int (nI x)), some (.int (nI m)), some (.int (nI m))] [] (fv_s M1 37 (pCpy (M1 37) (fun i => M 36 (40 * y + u + i)) m))
                                    have hA : ∀ i, i < m → pCpy (M1 37) (fun i => M 36 (40 * y + u + i)) m i = M 36 (40 * y + u + i) := fun i hi => if_pos hi
                                    generalize pCpy (M1 37) (fun i => M 36 (40 * y + u + i)) m = A at hA ⊢
                                    refine x_iload (pc := 115) dX7_copy_115 rfl ?_
                                    refine x_iload (pc := 117) dX7_copy_117 rfl ?_
                                    refine x_icmp_ge (pc := 119) dX7_copy_119 (tgt := 149) rfl (fun h119 => ?_) (fun h119 => ?_)
                                    ·
                                      refine x_iconst (pc := 149) (v := 0) dX7_copy_149 rfl ?_
                                      refine x_istore6 (pc := 150) dX7_copy_150 rfl ?_
                                      refine x_loop (fun j => [some (.ref 106), some (.int (nI y)), some (.int (nI u)), some (.int (nI z)), some (.int (nI x)), some (.int (nI m)), some (.int (nI j))]) (fun j => fv_s (fv_s M1 37 A) 36 (fv_cp (M1 36) (40 * z + x) A 0 j)) m rfl (by rw [fv_cp_0, ← fv_s_ne M1 A (show 36 ≠ 37 by decide), fv_s_id]) (fun j hj hL => ?_) ?_
                                      · show fv_X E mX7_copy _ _ 152 [some (.ref 106), some (.int (nI y)), some (.int (nI u)), some (.int (nI z)), some (.int (nI x)), some (.int (nI m)), some (.int (nI j))] [] (fv_s (fv_s M1 37 A) 36 (fv_cp (M1 36) (40 * z + x) A 0 j))
                                        replace hL : fv_X E mX7_copy _ _ 152 [some (.ref 106), some (.int (nI y)), some (.int (nI u)), some (.int (nI z)), some (.int (nI x)), some (.int (nI m)), some (.int (nI (j + 1)))] [] (fv_s (fv_s M1 37 A) 36 (fv_cp (M1 36) (40 * z + x) A 0 (j + 1))) := hL
                                        refine x_iload (pc := 152) dX7_copy_152 rfl ?_
                                        refine x_iload (pc := 154) dX7_copy_154 rfl ?_
                                        refine x_icmp_ge (pc := 156) dX7_copy_156 (tgt := 187) rfl (fun h156 => ?_) (fun h156 => ?_)
                                        ·
                                          exact absurd h156 (nI_ge hj (by omega))
                                        ·
                                          refine x_aload_n (pc := 159) dX7_copy_159 rfl rfl ?_
                                          refine x_geta (pc := 160) fl_X7_53 dX7_copy_160 (tb_106) rfl ?_
                                          refine x_bipush (pc := 163) (v := 40) dX7_copy_163 rfl ?_
                                          refine x_iload_n (pc := 165) dX7_copy_165 rfl rfl ?_
                                          refine x_imul (pc := 166) dX7_copy_166 ?_
                                          refine x_iload (pc := 167) dX7_copy_167 rfl ?_
                                          refine x_iadd (pc := 169) dX7_copy_169 ?_
                                          refine x_iload (pc := 170) dX7_copy_170 rfl ?_
                                          refine x_iadd (pc := 172) dX7_copy_172 ?_
                                          refine x_aload_n (pc := 173) dX7_copy_173 rfl rfl ?_
                                          refine x_geta (pc := 174) fl_X7_56 dX7_copy_174 (tb_106) rfl ?_
                                          refine x_iload (pc := 177) dX7_copy_177 rfl ?_
                                          refine x_iale (pc := 179) dX7_copy_179 (tb_122) (rfl) (by omega) (by first | decide | assumption) (show _ = A (0 + j) from by rw [fv_s_ne _ _ (by decide), fv_s_same]) ?_
                                          refine x_iast (pc := 180) dX7_copy_180 (tb_121) (ix2 j) (by omega) (by first | decide | assumption) ?_
                                          rw [fv_s_same, fv_s_s, Nat.zero_add (40 * z + x + j), fv_cp_s]
                                          refine x_iinc6 (pc := 181) dX7_copy_181 (by first | exact fv_inc _ | exact fv_dec _ | rfl) rfl ?_
                                          refine x_goto (pc := 184) dX7_copy_184 (tgt := 152) rfl ?_
                                          exact hL
                                      · show fv_X E mX7_copy _ _ 152 [some (.ref 106), some (.int (nI y)), some (.int (nI u)), some (.int (nI z)), some (.int (nI x)), some (.int (nI m)), some (.int (nI m))] [] (fv_s (fv_s M1 37 A) 36 (fv_cp (M1 36) (40 * z + x) A 0 m))
                                        refine x_iload (pc := 152) dX7_copy_152 rfl ?_
                                        refine x_iload (pc := 154) dX7_copy_154 rfl ?_
                                        refine x_icmp_ge (pc := 156) dX7_copy_156 (tgt := 187) rfl (fun h156 => ?_) (fun h156 => ?_)
                                        ·
                                          refine x_iload (pc := 187) dX7_copy_187 rfl ?_
                                          refine x_iret (pc := 189) dX7_copy_189 rfl (by first | rfl | exact fv_nz _) ?_
                                          exact ⟨rfl, hend A hA⟩
                                        ·
                                          exact absurd (Int32.le_refl _) h156
                                    ·
                                      exact absurd (Int32.le_refl _) h119
                                ·
                                  exact absurd (Int32.not_lt.mp (pRg_n hN2 h2)) h103
                      ·
                        exact absurd hk h56
                    ·
                      exact absurd h35 hm2
                ·
                  exact absurd hr h11
          · skip
            refine pOp.bad (v := -1000001) 0 I ?_ (fun M1 hF => ?_)
            · skip
              refine fv_F.of (ls := [some (.ref 0), some (.int (nI y)), some (.int a), some (.int (nI z)), some (.int b), some (.int n), none, none]) (by decide) (Nat.le_of_ble_eq_true rfl) rfl ?_
              refine x_iload_n (pc := 0) dX6_copy_0 rfl rfl ?_
              refine x_iconst (pc := 1) (v := 3) dX6_copy_1 rfl ?_
              refine x_Si (pc := 2) ks_X6_51 dX6_copy_2 (hX6_isUpTo) rfl rfl rfl (Nat.le_of_ble_eq_true rfl) ?_
              refine x_ifb_eq (pc := 5) dX6_copy_5 (tgt := 16) rfl (fun h5 => ?_) (fun h5 => ?_)
              ·
                exact absurd hs h5
              ·
                refine x_iload_n (pc := 8) dX6_copy_8 rfl rfl ?_
                refine x_iconst (pc := 9) (v := 3) dX6_copy_9 rfl ?_
                refine x_Si (pc := 10) ks_X6_51 dX6_copy_10 (hX6_isUpTo) rfl rfl rfl (Nat.le_of_ble_eq_true rfl) ?_
                refine x_ifb_ne (pc := 13) dX6_copy_13 (tgt := 23) rfl (fun h13 => ?_) (fun h13 => ?_)
                ·
                  refine x_aload_n (pc := 23) dX6_copy_23 rfl rfl ?_
                  refine x_geta (pc := 24) fl_X6_35 dX6_copy_24 (tb_fv) rfl ?_
                  refine x_iload_n (pc := 27) dX6_copy_27 rfl rfl ?_
                  refine x_sheet (pc := 28) dX6_copy_28 (rfl) (by first | assumption | decide | omega) ?_
                  refine x_astore6 (pc := 29) dX6_copy_29 rfl ?_
                  refine x_aload_n (pc := 31) dX6_copy_31 rfl rfl ?_
                  refine x_geta (pc := 32) fl_X6_35 dX6_copy_32 (tb_fv) rfl ?_
                  refine x_iload_n (pc := 35) dX6_copy_35 rfl rfl ?_
                  refine x_sheet (pc := 36) dX6_copy_36 (rfl) (by first | assumption | decide | omega) ?_
                  refine x_astore7 (pc := 37) dX6_copy_37 rfl ?_
                  refine x_aload (pc := 39) dX6_copy_39 rfl ?_
                  refine x_Vi (pc := 41) ks_X6_214 dX6_copy_41 (tb_sh (by assumption)) rfl rfl (hX3_isMissing hy) rfl rfl rfl (Nat.le_of_ble_eq_true rfl) ?_
                  refine x_ifb_ne (pc := 44) dX6_copy_44 (tgt := 55) rfl (fun h44 => ?_) (fun h44 => ?_)
                  ·
                    exact absurd h44 hm1
                  ·
                    refine x_aload (pc := 47) dX6_copy_47 rfl ?_
                    refine x_Vi (pc := 49) ks_X6_214 dX6_copy_49 (tb_sh (by assumption)) rfl rfl (hX3_isMissing hz) rfl rfl rfl (Nat.le_of_ble_eq_true rfl) ?_
                    refine x_ifb_eq (pc := 52) dX6_copy_52 (tgt := 62) rfl (fun h52 => ?_) (fun h52 => ?_)
                    ·
                      refine x_aload (pc := 62) dX6_copy_62 rfl ?_
                      refine x_geti (pc := 64) fl_X6_261 dX6_copy_64 (tb_sh (by assumption)) rfl (rfl) ?_
                      refine x_aload (pc := 67) dX6_copy_67 rfl ?_
                      refine x_geti (pc := 69) fl_X6_261 dX6_copy_69 (tb_sh (by assumption)) rfl (rfl) ?_
                      refine x_icmp_eq (pc := 72) dX6_copy_72 (tgt := 82) rfl (fun h72 => ?_) (fun h72 => ?_)
                      ·
                        refine x_aload (pc := 82) dX6_copy_82 rfl ?_
                        refine x_iload_n (pc := 84) dX6_copy_84 rfl rfl ?_
                        refine x_iload (pc := 85) dX6_copy_85 rfl ?_
                        refine x_Vi (pc := 87) ks_X6_264 dX6_copy_87 (tb_sh (by assumption)) rfl rfl (hX3_hasRange hy) rfl rfl rfl (Nat.le_of_ble_eq_true rfl) ?_
                        refine x_ifb_eq (pc := 90) dX6_copy_90 (tgt := 105) rfl (fun h90 => ?_) (fun h90 => ?_)
                        ·
                          refine x_aload_n (pc := 105) dX6_copy_105 rfl rfl ?_
                          refine x_ldc (pc := 106) kc_X6_55 dX6_copy_106 ?_
                          refine x_Vi (pc := 108) ks_X6_56 dX6_copy_108 (tb_fv) rfl rfl (hX6_fin 0 (-1000001) (by decide +kernel) (by decide)) rfl rfl rfl (Nat.le_of_ble_eq_true rfl) ?_
                          refine x_iret (pc := 111) dX6_copy_111 rfl (by first | rfl | exact fv_nz _) ?_
                          exact ⟨rfl, rfl⟩
                        ·
                          refine x_aload (pc := 93) dX6_copy_93 rfl ?_
                          refine x_iload (pc := 95) dX6_copy_95 rfl ?_
                          refine x_iload (pc := 97) dX6_copy_97 rfl ?_
                          refine x_Vi (pc := 99) ks_X6_264 dX6_copy_99 (tb_sh (by assumption)) rfl rfl (hX3_hasRange hz) rfl rfl rfl (Nat.le_of_ble_eq_true rfl) ?_
                          refine x_ifb_ne (pc := 102) dX6_copy_102 (tgt := 112) rfl (fun h102 => ?_) (fun h102 => ?_)
                          ·
                            exact absurd ⟨r1.mp h90, r2.mp h102⟩ hg
                          ·
                            refine x_aload_n (pc := 105) dX6_copy_105 rfl rfl ?_
                            refine x_ldc (pc := 106) kc_X6_55 dX6_copy_106 ?_
                            refine x_Vi (pc := 108) ks_X6_56 dX6_copy_108 (tb_fv) rfl rfl (hX6_fin 0 (-1000001) (by decide +kernel) (by decide)) rfl rfl rfl (Nat.le_of_ble_eq_true rfl) ?_
                            refine x_iret (pc := 111) dX6_copy_111 rfl (by first | rfl | exact fv_nz _) ?_
                            exact ⟨rfl, rfl⟩
                      ·
                        exact absurd hk h72
                    ·
                      exact absurd h52 hm2
                ·
                  exact absurd hr h13
            · skip
              have e22 : M1 22 = M 22 := hF 22 (by decide)
              have hG1 : pGd (M1 22) nb nm := by rw [e22]; exact hG2
              have hE1 : pEq nb nm (M1 22) (M 0) := by rw [e22]; exact hE
              have hB1 := hG1.1
              have hM1 := hG1.2.2.1
              have v34 : ∀ t, M1 34 t = M 34 t := fun t => by rw [hF 34 (by decide)]
              have w35y : M1 35 y = nI N1 := by rw [hF 35 (by decide)]; exact ez1
              have w35z : M1 35 z = nI N2 := by rw [hF 35 (by decide)]; exact ez2
              have w34y : M1 34 y = M (13 + 2 * y) 0 := (v34 y).trans ew1
              have w34z : M1 34 z = M (13 + 2 * z) 0 := (v34 z).trans ew2
              refine fv_F.of (ls := [some (.ref 106), some (.int (nI y)), some (.int a), some (.int (nI z)), some (.int b), some (.int n), none]) (by decide) (Nat.le_of_ble_eq_true rfl) rfl ?_
              refine x_iload_n (pc := 0) dX7_copy_0 rfl rfl ?_
              refine x_Si (pc := 1) ks_X7_196 dX7_copy_1 (hX7_isSheet) rfl rfl rfl (Nat.le_of_ble_eq_true rfl) ?_
              refine x_ifb_eq (pc := 4) dX7_copy_4 (tgt := 14) rfl (fun h4 => ?_) (fun h4 => ?_)
              ·
                exact absurd hs h4
              ·
                refine x_iload_n (pc := 7) dX7_copy_7 rfl rfl ?_
                refine x_Si (pc := 8) ks_X7_196 dX7_copy_8 (hX7_isSheet) rfl rfl rfl (Nat.le_of_ble_eq_true rfl) ?_
                refine x_ifb_ne (pc := 11) dX7_copy_11 (tgt := 20) rfl (fun h11 => ?_) (fun h11 => ?_)
                ·
                  refine x_aload_n (pc := 20) dX7_copy_20 rfl rfl ?_
                  refine x_geta (pc := 21) fl_X7_47 dX7_copy_21 (tb_106) rfl ?_
                  refine x_iload_n (pc := 24) dX7_copy_24 rfl rfl ?_
                  refine x_iale (pc := 25) dX7_copy_25 (tb_119) (rfl) (hy) (by first | decide | assumption) (show _ = M (13 + 2 * y) 0 from by rw [Nat.zero_add]; exact w34y) ?_
                  refine x_if_eq (pc := 26) dX7_copy_26 (tgt := 38) rfl (fun h26 => ?_) (fun h26 => ?_)
                  ·
                    exact absurd h26 hm1
                  ·
                    refine x_aload_n (pc := 29) dX7_copy_29 rfl rfl ?_
                    refine x_geta (pc := 30) fl_X7_47 dX7_copy_30 (tb_106) rfl ?_
                    refine x_iload_n (pc := 33) dX7_copy_33 rfl rfl ?_
                    refine x_iale (pc := 34) dX7_copy_34 (tb_119) (rfl) (hz) (by first | decide | assumption) (show _ = M (13 + 2 * z) 0 from by rw [Nat.zero_add]; exact w34z) ?_
                    refine x_if_ne (pc := 35) dX7_copy_35 (tgt := 44) rfl (fun h35 => ?_) (fun h35 => ?_)
                    ·
                      refine x_aload_n (pc := 44) dX7_copy_44 rfl rfl ?_
                      refine x_geta (pc := 45) fl_X7_47 dX7_copy_45 (tb_106) rfl ?_
                      refine x_iload_n (pc := 48) dX7_copy_48 rfl rfl ?_
                      refine x_iale (pc := 49) dX7_copy_49 (tb_119) (rfl) (hy) (by first | decide | assumption) (show _ = M (13 + 2 * y) 0 from by rw [Nat.zero_add]; exact w34y) ?_
                      refine x_aload_n (pc := 50) dX7_copy_50 rfl rfl ?_
                      refine x_geta (pc := 51) fl_X7_47 dX7_copy_51 (tb_106) rfl ?_
                      refine x_iload_n (pc := 54) dX7_copy_54 rfl rfl ?_
                      refine x_iale (pc := 55) dX7_copy_55 (tb_119) (rfl) (hz) (by first | decide | assumption) (show _ = M (13 + 2 * z) 0 from by rw [Nat.zero_add]; exact w34z) ?_
                      refine x_icmp_eq (pc := 56) dX7_copy_56 (tgt := 65) rfl (fun h56 => ?_) (fun h56 => ?_)
                      ·
                        refine x_iload (pc := 65) dX7_copy_65 rfl ?_
                        refine x_if_lt (pc := 67) dX7_copy_67 (tgt := 106) rfl (fun h67 => ?_) (fun h67 => ?_)
                        ·
                          refine x_aload_n (pc := 106) dX7_copy_106 rfl rfl ?_
                          refine x_iconst (pc := 107) (v := 0) dX7_copy_107 rfl ?_
                          refine x_Vi (pc := 108) ks_X7_114 dX7_copy_108 (tb_106) rfl rfl (hX7_noL 0 (-1000001) (by decide) (by decide +kernel)) rfl rfl rfl (Nat.le_of_ble_eq_true rfl) ?_
                          refine x_iret (pc := 111) dX7_copy_111 rfl (by first | rfl | exact fv_nz _) ?_
                          exact ⟨rfl, rfl⟩
                        ·
                          refine x_iload_n (pc := 70) dX7_copy_70 rfl rfl ?_
                          refine x_if_lt (pc := 71) dX7_copy_71 (tgt := 106) rfl (fun h71 => ?_) (fun h71 => ?_)
                          ·
                            refine x_aload_n (pc := 106) dX7_copy_106 rfl rfl ?_
                            refine x_iconst (pc := 107) (v := 0) dX7_copy_107 rfl ?_
                            refine x_Vi (pc := 108) ks_X7_114 dX7_copy_108 (tb_106) rfl rfl (hX7_noL 0 (-1000001) (by decide) (by decide +kernel)) rfl rfl rfl (Nat.le_of_ble_eq_true rfl) ?_
                            refine x_iret (pc := 111) dX7_copy_111 rfl (by first | rfl | exact fv_nz _) ?_
                            exact ⟨rfl, rfl⟩
                          ·
                            refine x_iload (pc := 74) dX7_copy_74 rfl ?_
                            refine x_if_lt (pc := 76) dX7_copy_76 (tgt := 106) rfl (fun h76 => ?_) (fun h76 => ?_)
                            ·
                              refine x_aload_n (pc := 106) dX7_copy_106 rfl rfl ?_
                              refine x_iconst (pc := 107) (v := 0) dX7_copy_107 rfl ?_
                              refine x_Vi (pc := 108) ks_X7_114 dX7_copy_108 (tb_106) rfl rfl (hX7_noL 0 (-1000001) (by decide) (by decide +kernel)) rfl rfl rfl (Nat.le_of_ble_eq_true rfl) ?_
                              refine x_iret (pc := 111) dX7_copy_111 rfl (by first | rfl | exact fv_nz _) ?_
                              exact ⟨rfl, rfl⟩
                            ·
                              refine x_iload_n (pc := 79) dX7_copy_79 rfl rfl ?_
                              refine x_aload_n (pc := 80) dX7_copy_80 rfl rfl ?_
                              refine x_geta (pc := 81) fl_X7_50 dX7_copy_81 (tb_106) rfl ?_
                              refine x_iload_n (pc := 84) dX7_copy_84 rfl rfl ?_
                              refine x_iale (pc := 85) dX7_copy_85 (tb_120) (rfl) (hy) (by first | decide | assumption) (show _ = nI N1 from by rw [Nat.zero_add]; exact w35y) ?_
                              refine x_iload (pc := 86) dX7_copy_86 rfl ?_
                              refine x_isub (pc := 88) dX7_copy_88 ?_
                              refine x_icmp_gt (pc := 89) dX7_copy_89 (tgt := 106) rfl (fun h89 => ?_) (fun h89 => ?_)
                              ·
                                refine x_aload_n (pc := 106) dX7_copy_106 rfl rfl ?_
                                refine x_iconst (pc := 107) (v := 0) dX7_copy_107 rfl ?_
                                refine x_Vi (pc := 108) ks_X7_114 dX7_copy_108 (tb_106) rfl rfl (hX7_noL 0 (-1000001) (by decide) (by decide +kernel)) rfl rfl rfl (Nat.le_of_ble_eq_true rfl) ?_
                                refine x_iret (pc := 111) dX7_copy_111 rfl (by first | rfl | exact fv_nz _) ?_
                                exact ⟨rfl, rfl⟩
                              ·
                                refine x_iload (pc := 92) dX7_copy_92 rfl ?_
                                refine x_aload_n (pc := 94) dX7_copy_94 rfl rfl ?_
                                refine x_geta (pc := 95) fl_X7_50 dX7_copy_95 (tb_106) rfl ?_
                                refine x_iload_n (pc := 98) dX7_copy_98 rfl rfl ?_
                                refine x_iale (pc := 99) dX7_copy_99 (tb_120) (rfl) (hz) (by first | decide | assumption) (show _ = nI N2 from by rw [Nat.zero_add]; exact w35z) ?_
                                refine x_iload (pc := 100) dX7_copy_100 rfl ?_
                                refine x_isub (pc := 102) dX7_copy_102 ?_
                                refine x_icmp_le (pc := 103) dX7_copy_103 (tgt := 112) rfl (fun h103 => ?_) (fun h103 => ?_)
                                ·
                                  exact absurd ⟨pRg_m hN1 h71 h67 (Int32.not_lt.mpr (Int32.not_lt.mp h89)), pRg_m hN2 h76 h67 (Int32.not_lt.mpr h103)⟩ hg
                                ·
                                  refine x_aload_n (pc := 106) dX7_copy_106 rfl rfl ?_
                                  refine x_iconst (pc := 107) (v := 0) dX7_copy_107 rfl ?_
                                  refine x_Vi (pc := 108) ks_X7_114 dX7_copy_108 (tb_106) rfl rfl (hX7_noL 0 (-1000001) (by decide) (by decide +kernel)) rfl rfl rfl (Nat.le_of_ble_eq_true rfl) ?_
                                  refine x_iret (pc := 111) dX7_copy_111 rfl (by first | rfl | exact fv_nz _) ?_
                                  exact ⟨rfl, rfl⟩
                      ·
                        exact absurd hk h56
                    ·
                      exact absurd h35 hm2
                ·
                  exact absurd hr h11
        · skip
          refine pOp.bad (v := -1000003) 2 I ?_ (fun M1 hF => ?_)
          · skip
            refine fv_F.of (ls := [some (.ref 0), some (.int (nI y)), some (.int a), some (.int (nI z)), some (.int b), some (.int n), none, none]) (by decide) (Nat.le_of_ble_eq_true rfl) rfl ?_
            refine x_iload_n (pc := 0) dX6_copy_0 rfl rfl ?_
            refine x_iconst (pc := 1) (v := 3) dX6_copy_1 rfl ?_
            refine x_Si (pc := 2) ks_X6_51 dX6_copy_2 (hX6_isUpTo) rfl rfl rfl (Nat.le_of_ble_eq_true rfl) ?_
            refine x_ifb_eq (pc := 5) dX6_copy_5 (tgt := 16) rfl (fun h5 => ?_) (fun h5 => ?_)
            ·
              exact absurd hs h5
            ·
              refine x_iload_n (pc := 8) dX6_copy_8 rfl rfl ?_
              refine x_iconst (pc := 9) (v := 3) dX6_copy_9 rfl ?_
              refine x_Si (pc := 10) ks_X6_51 dX6_copy_10 (hX6_isUpTo) rfl rfl rfl (Nat.le_of_ble_eq_true rfl) ?_
              refine x_ifb_ne (pc := 13) dX6_copy_13 (tgt := 23) rfl (fun h13 => ?_) (fun h13 => ?_)
              ·
                refine x_aload_n (pc := 23) dX6_copy_23 rfl rfl ?_
                refine x_geta (pc := 24) fl_X6_35 dX6_copy_24 (tb_fv) rfl ?_
                refine x_iload_n (pc := 27) dX6_copy_27 rfl rfl ?_
                refine x_sheet (pc := 28) dX6_copy_28 (rfl) (by first | assumption | decide | omega) ?_
                refine x_astore6 (pc := 29) dX6_copy_29 rfl ?_
                refine x_aload_n (pc := 31) dX6_copy_31 rfl rfl ?_
                refine x_geta (pc := 32) fl_X6_35 dX6_copy_32 (tb_fv) rfl ?_
                refine x_iload_n (pc := 35) dX6_copy_35 rfl rfl ?_
                refine x_sheet (pc := 36) dX6_copy_36 (rfl) (by first | assumption | decide | omega) ?_
                refine x_astore7 (pc := 37) dX6_copy_37 rfl ?_
                refine x_aload (pc := 39) dX6_copy_39 rfl ?_
                refine x_Vi (pc := 41) ks_X6_214 dX6_copy_41 (tb_sh (by assumption)) rfl rfl (hX3_isMissing hy) rfl rfl rfl (Nat.le_of_ble_eq_true rfl) ?_
                refine x_ifb_ne (pc := 44) dX6_copy_44 (tgt := 55) rfl (fun h44 => ?_) (fun h44 => ?_)
                ·
                  exact absurd h44 hm1
                ·
                  refine x_aload (pc := 47) dX6_copy_47 rfl ?_
                  refine x_Vi (pc := 49) ks_X6_214 dX6_copy_49 (tb_sh (by assumption)) rfl rfl (hX3_isMissing hz) rfl rfl rfl (Nat.le_of_ble_eq_true rfl) ?_
                  refine x_ifb_eq (pc := 52) dX6_copy_52 (tgt := 62) rfl (fun h52 => ?_) (fun h52 => ?_)
                  ·
                    refine x_aload (pc := 62) dX6_copy_62 rfl ?_
                    refine x_geti (pc := 64) fl_X6_261 dX6_copy_64 (tb_sh (by assumption)) rfl (rfl) ?_
                    refine x_aload (pc := 67) dX6_copy_67 rfl ?_
                    refine x_geti (pc := 69) fl_X6_261 dX6_copy_69 (tb_sh (by assumption)) rfl (rfl) ?_
                    refine x_icmp_eq (pc := 72) dX6_copy_72 (tgt := 82) rfl (fun h72 => ?_) (fun h72 => ?_)
                    ·
                      exact absurd h72 hk
                    ·
                      refine x_aload_n (pc := 75) dX6_copy_75 rfl rfl ?_
                      refine x_ldc (pc := 76) kc_X6_248 dX6_copy_76 ?_
                      refine x_Vi (pc := 78) ks_X6_56 dX6_copy_78 (tb_fv) rfl rfl (hX6_fin 2 (-1000003) (by decide +kernel) (by decide)) rfl rfl rfl (Nat.le_of_ble_eq_true rfl) ?_
                      refine x_iret (pc := 81) dX6_copy_81 rfl (by first | rfl | exact fv_nz _) ?_
                      exact ⟨rfl, rfl⟩
                  ·
                    exact absurd h52 hm2
              ·
                exact absurd hr h13
          · skip
            have e22 : M1 22 = M 22 := hF 22 (by decide)
            have hG1 : pGd (M1 22) nb nm := by rw [e22]; exact hG2
            have hE1 : pEq nb nm (M1 22) (M 0) := by rw [e22]; exact hE
            have hB1 := hG1.1
            have hM1 := hG1.2.2.1
            have v34 : ∀ t, M1 34 t = M 34 t := fun t => by rw [hF 34 (by decide)]
            have w35y : M1 35 y = nI N1 := by rw [hF 35 (by decide)]; exact ez1
            have w35z : M1 35 z = nI N2 := by rw [hF 35 (by decide)]; exact ez2
            have w34y : M1 34 y = M (13 + 2 * y) 0 := (v34 y).trans ew1
            have w34z : M1 34 z = M (13 + 2 * z) 0 := (v34 z).trans ew2
            refine fv_F.of (ls := [some (.ref 106), some (.int (nI y)), some (.int a), some (.int (nI z)), some (.int b), some (.int n), none]) (by decide) (Nat.le_of_ble_eq_true rfl) rfl ?_
            refine x_iload_n (pc := 0) dX7_copy_0 rfl rfl ?_
            refine x_Si (pc := 1) ks_X7_196 dX7_copy_1 (hX7_isSheet) rfl rfl rfl (Nat.le_of_ble_eq_true rfl) ?_
            refine x_ifb_eq (pc := 4) dX7_copy_4 (tgt := 14) rfl (fun h4 => ?_) (fun h4 => ?_)
            ·
              exact absurd hs h4
            ·
              refine x_iload_n (pc := 7) dX7_copy_7 rfl rfl ?_
              refine x_Si (pc := 8) ks_X7_196 dX7_copy_8 (hX7_isSheet) rfl rfl rfl (Nat.le_of_ble_eq_true rfl) ?_
              refine x_ifb_ne (pc := 11) dX7_copy_11 (tgt := 20) rfl (fun h11 => ?_) (fun h11 => ?_)
              ·
                refine x_aload_n (pc := 20) dX7_copy_20 rfl rfl ?_
                refine x_geta (pc := 21) fl_X7_47 dX7_copy_21 (tb_106) rfl ?_
                refine x_iload_n (pc := 24) dX7_copy_24 rfl rfl ?_
                refine x_iale (pc := 25) dX7_copy_25 (tb_119) (rfl) (hy) (by first | decide | assumption) (show _ = M (13 + 2 * y) 0 from by rw [Nat.zero_add]; exact w34y) ?_
                refine x_if_eq (pc := 26) dX7_copy_26 (tgt := 38) rfl (fun h26 => ?_) (fun h26 => ?_)
                ·
                  exact absurd h26 hm1
                ·
                  refine x_aload_n (pc := 29) dX7_copy_29 rfl rfl ?_
                  refine x_geta (pc := 30) fl_X7_47 dX7_copy_30 (tb_106) rfl ?_
                  refine x_iload_n (pc := 33) dX7_copy_33 rfl rfl ?_
                  refine x_iale (pc := 34) dX7_copy_34 (tb_119) (rfl) (hz) (by first | decide | assumption) (show _ = M (13 + 2 * z) 0 from by rw [Nat.zero_add]; exact w34z) ?_
                  refine x_if_ne (pc := 35) dX7_copy_35 (tgt := 44) rfl (fun h35 => ?_) (fun h35 => ?_)
                  ·
                    refine x_aload_n (pc := 44) dX7_copy_44 rfl rfl ?_
                    refine x_geta (pc := 45) fl_X7_47 dX7_copy_45 (tb_106) rfl ?_
                    refine x_iload_n (pc := 48) dX7_copy_48 rfl rfl ?_
                    refine x_iale (pc := 49) dX7_copy_49 (tb_119) (rfl) (hy) (by first | decide | assumption) (show _ = M (13 + 2 * y) 0 from by rw [Nat.zero_add]; exact w34y) ?_
                    refine x_aload_n (pc := 50) dX7_copy_50 rfl rfl ?_
                    refine x_geta (pc := 51) fl_X7_47 dX7_copy_51 (tb_106) rfl ?_
                    refine x_iload_n (pc := 54) dX7_copy_54 rfl rfl ?_
                    refine x_iale (pc := 55) dX7_copy_55 (tb_119) (rfl) (hz) (by first | decide | assumption) (show _ = M (13 + 2 * z) 0 from by rw [Nat.zero_add]; exact w34z) ?_
                    refine x_icmp_eq (pc := 56) dX7_copy_56 (tgt := 65) rfl (fun h56 => ?_) (fun h56 => ?_)
                    ·
                      exact absurd h56 hk
                    ·
                      refine x_aload_n (pc := 59) dX7_copy_59 rfl rfl ?_
                      refine x_iconst (pc := 60) (v := 2) dX7_copy_60 rfl ?_
                      refine x_Vi (pc := 61) ks_X7_114 dX7_copy_61 (tb_106) rfl rfl (hX7_noL 2 (-1000003) (by decide) (by decide +kernel)) rfl rfl rfl (Nat.le_of_ble_eq_true rfl) ?_
                      refine x_iret (pc := 64) dX7_copy_64 rfl (by first | rfl | exact fv_nz _) ?_
                      exact ⟨rfl, rfl⟩
                  ·
                    exact absurd h35 hm2
              ·
                exact absurd hr h11
    · skip
      refine pOp.bad (v := -1000001) 0 I ?_ (fun M1 hF => ?_)
      · skip
        refine fv_F.of (ls := [some (.ref 0), some (.int s), some (.int a), some (.int r), some (.int b), some (.int n), none, none]) (by decide) (Nat.le_of_ble_eq_true rfl) rfl ?_
        refine x_iload_n (pc := 0) dX6_copy_0 rfl rfl ?_
        refine x_iconst (pc := 1) (v := 3) dX6_copy_1 rfl ?_
        refine x_Si (pc := 2) ks_X6_51 dX6_copy_2 (hX6_isUpTo) rfl rfl rfl (Nat.le_of_ble_eq_true rfl) ?_
        refine x_ifb_eq (pc := 5) dX6_copy_5 (tgt := 16) rfl (fun h5 => ?_) (fun h5 => ?_)
        ·
          exact absurd hs h5
        ·
          refine x_iload_n (pc := 8) dX6_copy_8 rfl rfl ?_
          refine x_iconst (pc := 9) (v := 3) dX6_copy_9 rfl ?_
          refine x_Si (pc := 10) ks_X6_51 dX6_copy_10 (hX6_isUpTo) rfl rfl rfl (Nat.le_of_ble_eq_true rfl) ?_
          refine x_ifb_ne (pc := 13) dX6_copy_13 (tgt := 23) rfl (fun h13 => ?_) (fun h13 => ?_)
          ·
            exact absurd h13 hr
          ·
            refine x_aload_n (pc := 16) dX6_copy_16 rfl rfl ?_
            refine x_ldc (pc := 17) kc_X6_55 dX6_copy_17 ?_
            refine x_Vi (pc := 19) ks_X6_56 dX6_copy_19 (tb_fv) rfl rfl (hX6_fin 0 (-1000001) (by decide +kernel) (by decide)) rfl rfl rfl (Nat.le_of_ble_eq_true rfl) ?_
            refine x_iret (pc := 22) dX6_copy_22 rfl (by first | rfl | exact fv_nz _) ?_
            exact ⟨rfl, rfl⟩
      · skip
        have e22 : M1 22 = M 22 := hF 22 (by decide)
        have hG1 : pGd (M1 22) nb nm := by rw [e22]; exact hG2
        have hE1 : pEq nb nm (M1 22) (M 0) := by rw [e22]; exact hE
        have hB1 := hG1.1
        have hM1 := hG1.2.2.1
        refine fv_F.of (ls := [some (.ref 106), some (.int s), some (.int a), some (.int r), some (.int b), some (.int n), none]) (by decide) (Nat.le_of_ble_eq_true rfl) rfl ?_
        refine x_iload_n (pc := 0) dX7_copy_0 rfl rfl ?_
        refine x_Si (pc := 1) ks_X7_196 dX7_copy_1 (hX7_isSheet) rfl rfl rfl (Nat.le_of_ble_eq_true rfl) ?_
        refine x_ifb_eq (pc := 4) dX7_copy_4 (tgt := 14) rfl (fun h4 => ?_) (fun h4 => ?_)
        ·
          exact absurd hs h4
        ·
          refine x_iload_n (pc := 7) dX7_copy_7 rfl rfl ?_
          refine x_Si (pc := 8) ks_X7_196 dX7_copy_8 (hX7_isSheet) rfl rfl rfl (Nat.le_of_ble_eq_true rfl) ?_
          refine x_ifb_ne (pc := 11) dX7_copy_11 (tgt := 20) rfl (fun h11 => ?_) (fun h11 => ?_)
          ·
            exact absurd h11 hr
          ·
            refine x_aload_n (pc := 14) dX7_copy_14 rfl rfl ?_
            refine x_iconst (pc := 15) (v := 0) dX7_copy_15 rfl ?_
            refine x_Vi (pc := 16) ks_X7_114 dX7_copy_16 (tb_106) rfl rfl (hX7_noL 0 (-1000001) (by decide) (by decide +kernel)) rfl rfl rfl (Nat.le_of_ble_eq_true rfl) ?_
            refine x_iret (pc := 19) dX7_copy_19 rfl (by first | rfl | exact fv_nz _) ?_
            exact ⟨rfl, rfl⟩
  · skip
    refine pOp.bad (v := -1000001) 0 I ?_ (fun M1 hF => ?_)
    · skip
      refine fv_F.of (ls := [some (.ref 0), some (.int s), some (.int a), some (.int r), some (.int b), some (.int n), none, none]) (by decide) (Nat.le_of_ble_eq_true rfl) rfl ?_
      refine x_iload_n (pc := 0) dX6_copy_0 rfl rfl ?_
      refine x_iconst (pc := 1) (v := 3) dX6_copy_1 rfl ?_
      refine x_Si (pc := 2) ks_X6_51 dX6_copy_2 (hX6_isUpTo) rfl rfl rfl (Nat.le_of_ble_eq_true rfl) ?_
      refine x_ifb_eq (pc := 5) dX6_copy_5 (tgt := 16) rfl (fun h5 => ?_) (fun h5 => ?_)
      ·
        refine x_aload_n (pc := 16) dX6_copy_16 rfl rfl ?_
        refine x_ldc (pc := 17) kc_X6_55 dX6_copy_17 ?_
        refine x_Vi (pc := 19) ks_X6_56 dX6_copy_19 (tb_fv) rfl rfl (hX6_fin 0 (-1000001) (by decide +kernel) (by decide)) rfl rfl rfl (Nat.le_of_ble_eq_true rfl) ?_
        refine x_iret (pc := 22) dX6_copy_22 rfl (by first | rfl | exact fv_nz _) ?_
        exact ⟨rfl, rfl⟩
      ·
        exact absurd h5 hs
    · skip
      have e22 : M1 22 = M 22 := hF 22 (by decide)
      have hG1 : pGd (M1 22) nb nm := by rw [e22]; exact hG2
      have hE1 : pEq nb nm (M1 22) (M 0) := by rw [e22]; exact hE
      have hB1 := hG1.1
      have hM1 := hG1.2.2.1
      refine fv_F.of (ls := [some (.ref 106), some (.int s), some (.int a), some (.int r), some (.int b), some (.int n), none]) (by decide) (Nat.le_of_ble_eq_true rfl) rfl ?_
      refine x_iload_n (pc := 0) dX7_copy_0 rfl rfl ?_
      refine x_Si (pc := 1) ks_X7_196 dX7_copy_1 (hX7_isSheet) rfl rfl rfl (Nat.le_of_ble_eq_true rfl) ?_
      refine x_ifb_eq (pc := 4) dX7_copy_4 (tgt := 14) rfl (fun h4 => ?_) (fun h4 => ?_)
      ·
        refine x_aload_n (pc := 14) dX7_copy_14 rfl rfl ?_
        refine x_iconst (pc := 15) (v := 0) dX7_copy_15 rfl ?_
        refine x_Vi (pc := 16) ks_X7_114 dX7_copy_16 (tb_106) rfl rfl (hX7_noL 0 (-1000001) (by decide) (by decide +kernel)) rfl rfl rfl (Nat.le_of_ble_eq_true rfl) ?_
        refine x_iret (pc := 19) dX7_copy_19 rfl (by first | rfl | exact fv_nz _) ?_
        exact ⟨rfl, rfl⟩
      ·
        exact absurd h4 hs
