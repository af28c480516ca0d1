/-- what a walk over kinds or colours finds: the first of the most; the first of the least among those that may -/
def pBk (f : Nat → Int32) : Nat → Int32 × Int32
  | 0 => (0, -1)
  | j + 1 => if (pBk f j).2 < f j then (nI j, f j) else pBk f j
def pBl (p : Nat → Prop) [DecidablePred p] (f : Nat → Int32) : Nat → Option Nat × Int32
  | 0 => (none, 0)
  | j + 1 => if p j ∧ ((pBl p f j).1 = none ∨ f j < (pBl p f j).2) then (some j, f j) else pBl p f j
theorem pBl_lt (p : Nat → Prop) [DecidablePred p] (f : Nat → Int32) : ∀ j x, (pBl p f j).1 = some x → x < j := by
  intro j
  induction j with
  | zero => intro x h; cases h
  | succ j ih =>
    intro x h
    unfold pBl at h
    split at h
    · cases h; omega
    · have := ih x h; omega
theorem hX7_npass {E : fv_E} {d nb nm : Nat} {M : fv_M} (hG : pGd (M 22) nb nm) {m : Nat} (hm : m < nm) : fv_F E (d + 5) mX7_passesNow [.ref 106, .int (nI m)] M (some (.int (bI (pP (M 22) nb m)))) M := hX7_pass1 hG hm
theorem op_colour {E : fv_E} {m : Int32} {M : fv_M} (I : pInv M) : pOp E mX6_colour mX7_colour [.int m] M := by
  obtain ⟨nb, nm, hG, hE, t, ht, eT⟩ := I.1
  have hs0 : 0 < 3 := by decide
  have hs1 : 1 < 3 := by decide
  have hB := hG.1
  have hb := hG.2.1
  have hM := hG.2.2.1
  have hn := hG.2.2.2.1
  have hK := hG.K
  have hC := hG.C
  have hG2 : pGd (M 22) nb nm := hG.cg hE
  by_cases hm : 0 ≤ m ∧ m ≤ nI nm - 1
  · obtain ⟨k, hk, rfl⟩ := pUx (by omega) hm
    have hc := pCo_of hC hk
    have hk8 : k < 8 := by omega
    have hGc : ∀ c, c < 4 → pGd (fv_u (M 0) (fM k 0) (nI c)) nb nm := fun c hc => pGd_um hG hk (by decide) ⟨c, hc, rfl⟩
    generalize hF4 : (fun c => pSd (fv_u (M 0) (fM k 0) (nI c)) nb k c (fv_u (M 0) (fM k 0) (nI c) (fM k 2)) + pSd (fv_u (M 0) (fM k 0) (nI c)) nb k c (pWa (fv_u (M 0) (fM k 0) (nI c)) nb k)) = FF
    have hFj : ∀ c, FF c = pSd (fv_u (M 0) (fM k 0) (nI c)) nb k c (fv_u (M 0) (fM k 0) (nI c) (fM k 2)) + pSd (fv_u (M 0) (fM k 0) (nI c)) nb k c (pWa (fv_u (M 0) (fM k 0) (nI c)) nb k) := fun c => by rw [← hF4]
    have hlt := pBl_lt (fun c => pPs (fv_u (M 0) (fM k 0) (nI c)) nb k c) FF
    have hs0' : ∀ j, ¬ (pPs (fv_u (M 0) (fM k 0) (nI j)) nb k j ∧ ((pBl (fun c => pPs (fv_u (M 0) (fM k 0) (nI c)) nb k c) FF j).1 = none ∨ FF j < (pBl (fun c => pPs (fv_u (M 0) (fM k 0) (nI c)) nb k c) FF j).2)) → pBl (fun c => pPs (fv_u (M 0) (fM k 0) (nI c)) nb k c) FF (j + 1) = pBl (fun c => pPs (fv_u (M 0) (fM k 0) (nI c)) nb k c) FF j := fun j q => by rw [pBl, if_neg q]
    have hs1' : ∀ j, (pPs (fv_u (M 0) (fM k 0) (nI j)) nb k j ∧ ((pBl (fun c => pPs (fv_u (M 0) (fM k 0) (nI c)) nb k c) FF j).1 = none ∨ FF j < (pBl (fun c => pPs (fv_u (M 0) (fM k 0) (nI c)) nb k c) FF j).2)) → pBl (fun c => pPs (fv_u (M 0) (fM k 0) (nI c)) nb k c) FF (j + 1) = (some j, FF j) := fun j q => by rw [pBl, if_pos q]
    have hb0 : pBl (fun c => pPs (fv_u (M 0) (fM k 0) (nI c)) nb k c) FF 0 = (none, 0) := rfl
    have hneg : ∀ j, j ≤ 4 → (pWm (pBl (fun c => pPs (fv_u (M 0) (fM k 0) (nI c)) nb k c) FF j).1 < 0 ↔ (pBl (fun c => pPs (fv_u (M 0) (fM k 0) (nI c)) nb k c) FF j).1 = none) ∧ (pWc (pBl (fun c => pPs (fv_u (M 0) (fM k 0) (nI c)) nb k c) FF j).1 = -1000004 ↔ (pBl (fun c => pPs (fv_u (M 0) (fM k 0) (nI c)) nb k c) FF j).1 = none) := fun j hj => pWm_neg _ (fun x hx => by have := hlt j x hx; omega)
    generalize hB4 : pBl (fun c => pPs (fv_u (M 0) (fM k 0) (nI c)) nb k c) FF = B at *
    cases hres : (B 4).1 with
    | none =>
      refine pOp.badJ (v := -1000004) 3 I ?_ (fun M1 hF => ?_)
      · have hbec := hX4_become (E := E) (d := 10) (s := 1) (t := 0) (nb := nb) (nm := nm) (M := M) hs1 hs0 (by decide) hB hb hM hn
        generalize hρ : pSB (M 1) (M 0) nb nm = ρ at hbec
        have hρe : pEq nb nm ρ (M 0) := by rw [← hρ]; exact pSB_eq hb
        have hGρ : pGd ρ nb nm := hG.cg hρe
        have hI0 : fv_s M 1 ρ = fv_s M 1 (fv_u ρ (fM k 0) (ρ (fM k 0))) := by rw [fv_u_id]
        refine fv_P.of (ls := [some (.ref 0), some (.int (nI k)), none, none, none, none, none]) (by decide) (Nat.le_of_ble_eq_true rfl) rfl ?_
        refine x_aload_n (pc := 0) dX6_colour_0 rfl rfl ?_
        refine x_geta (pc := 1) fl_X6_12 dX6_colour_1 (tb_fv) rfl ?_
        refine x_iload_n (pc := 4) dX6_colour_4 rfl rfl ?_
        refine x_Vi (pc := 5) ks_X6_94 dX6_colour_5 (tb_st (by assumption)) rfl rfl (hHm hM) rfl rfl rfl (Nat.le_of_ble_eq_true rfl) ?_
        refine x_ifb_ne (pc := 8) dX6_colour_8 (tgt := 18) rfl (fun h8 => ?_) (fun h8 => ?_)
        ·
          refine x_aload_n (pc := 18) dX6_colour_18 rfl rfl ?_
          refine x_geta (pc := 19) fl_X6_16 dX6_colour_19 (tb_fv) rfl ?_
          refine x_aload_n (pc := 22) dX6_colour_22 rfl rfl ?_
          refine x_geta (pc := 23) fl_X6_12 dX6_colour_23 (tb_fv) rfl ?_
          refine x_Vv (pc := 26) ks_X6_150 dX6_colour_26 (tb_st (by assumption)) rfl rfl (hbec) rfl rfl rfl (Nat.le_of_ble_eq_true rfl) ?_
          refine x_aload_n (pc := 29) dX6_colour_29 rfl rfl ?_
          refine x_geta (pc := 30) fl_X6_16 dX6_colour_30 (tb_fv) rfl ?_
          refine x_geta (pc := 33) fl_X6_97 dX6_colour_33 (tb_st (by assumption)) rfl ?_
          refine x_iload_n (pc := 36) dX6_colour_36 rfl rfl ?_
          refine x_motion (pc := 37) dX6_colour_37 (by assumption) (rfl) (hk8) ?_
          refine x_astore_n2 (pc := 38) dX6_colour_38 rfl ?_
          refine x_ldc (pc := 39) kc_X6_154 dX6_colour_39 ?_
          refine x_istore_n3 (pc := 41) dX6_colour_41 rfl ?_
          refine x_iconst (pc := 42) (v := 0) dX6_colour_42 rfl ?_
          refine x_istore4 (pc := 43) dX6_colour_43 rfl ?_
          refine x_iconst (pc := 45) (v := 0) dX6_colour_45 rfl ?_
          refine x_istore5 (pc := 46) dX6_colour_46 rfl ?_
          refine x_loopI (fun j => [some (.ref 0), some (.int (nI k)), some (.ref (aM 1 k)), some (.int (pWc (B j).1)), some (.int (B j).2), some (.int (nI j)), none]) (fun j M' => ∃ w, M' = fv_s M 1 (fv_u ρ (fM k 0) w)) 4 (by rw [hb0]; rfl) ⟨_, hI0⟩ ?_ ?_
          · rintro j M' hj ⟨w, rfl⟩ hL
            have hee : pEq nb nm (fv_u ρ (fM k 0) (nI j)) (fv_u (M 0) (fM k 0) (nI j)) := fv_u_cg hρe rfl
            have hGj := (hGc j hj).cg hee
            have hcj : (fv_s M 1 (fv_u ρ (fM k 0) (nI j))) 1 (fM k 0) = nI j := by rw [fv_s_same, fv_u_same]
            have hda := (hX4_droppedInAll (E := E) (d := 8) (s := 1) (nb := nb) (m := k) (c := j) (M := fv_s M 1 (fv_u ρ (fM k 0) (nI j))) hs1 (by rw [fv_s_same]; exact hGj.1) hb (by rw [fv_s_same]; exact hGj.K) hk8 hcj hj).v (show _ = FF j from by rw [fv_s_same, hFj]; exact dA_eq hee hk hj)
            have hwp := (hX4_wouldPass (E := E) (d := 8) (s := 1) (nb := nb) (m := k) (c := j) (M := fv_s M 1 (fv_u ρ (fM k 0) (nI j))) hs1 (by rw [fv_s_same]; exact hGj.1) hb (by rw [fv_s_same]; exact hGj.K) hk8 hcj hj).v (show _ = bI (pPs (fv_u (M 0) (fM k 0) (nI j)) nb k j) from bI_congr (by rw [fv_s_same]; exact pPs_cg hee hk hj))
            refine x_iload (pc := 48) dX6_colour_48 rfl ?_
            refine x_iconst (pc := 50) (v := 4) dX6_colour_50 rfl ?_
            refine x_icmp_ge (pc := 51) dX6_colour_51 (tgt := 107) rfl (fun h51 => ?_) (fun h51 => ?_)
            ·
              exact absurd h51 (nI_ge (b := 4) hj (by omega))
            ·
              refine x_aload_n (pc := 54) dX6_colour_54 rfl rfl ?_
              refine x_iload (pc := 55) dX6_colour_55 rfl ?_
              refine x_put (pc := 57) fl_X6_170 dX6_colour_57 (tb_m hs1 hk8) rfl rfl rfl ?_
              rw [fv_s_same, fv_s_s, fv_u_u]
              refine x_aload_n (pc := 60) dX6_colour_60 rfl rfl ?_
              refine x_geta (pc := 61) fl_X6_16 dX6_colour_61 (tb_fv) rfl ?_
              refine x_aload_n (pc := 64) dX6_colour_64 rfl rfl ?_
              refine x_Vi (pc := 65) ks_X6_173 dX6_colour_65 (tb_st hs1) rfl rfl (hda) rfl rfl rfl (Nat.le_of_ble_eq_true rfl) ?_
              refine x_istore6 (pc := 68) dX6_colour_68 rfl ?_
              refine x_aload_n (pc := 70) dX6_colour_70 rfl rfl ?_
              refine x_geta (pc := 71) fl_X6_16 dX6_colour_71 (tb_fv) rfl ?_
              refine x_aload_n (pc := 74) dX6_colour_74 rfl rfl ?_
              refine x_Vi (pc := 75) ks_X6_123 dX6_colour_75 (tb_st hs1) rfl rfl (hwp) rfl rfl rfl (Nat.le_of_ble_eq_true rfl) ?_
              refine x_ifb_eq (pc := 78) dX6_colour_78 (tgt := 101) rfl (fun h78 => ?_) (fun h78 => ?_)
              ·
                rw [hs0' j (fun q => h78 q.1)] at hL
                refine x_fg6 ?_
                refine x_iinc5 (pc := 101) dX6_colour_101 (by first | exact fv_inc _ | exact fv_dec _ | rfl) rfl ?_
                refine x_goto (pc := 104) dX6_colour_104 (tgt := 48) rfl ?_
                exact hL _ ⟨_, rfl⟩
              ·
                refine x_iload_n (pc := 81) dX6_colour_81 rfl rfl ?_
                refine x_ldc (pc := 82) kc_X6_154 dX6_colour_82 ?_
                refine x_icmp_eq (pc := 84) dX6_colour_84 (tgt := 94) rfl (fun h84 => ?_) (fun h84 => ?_)
                ·
                  have en := (hneg j (by omega)).2.mp h84
                  rw [hs1' j ⟨h78, Or.inl en⟩] at hL
                  refine x_iload (pc := 94) dX6_colour_94 rfl ?_
                  refine x_istore_n3 (pc := 96) dX6_colour_96 rfl ?_
                  refine x_iload (pc := 97) dX6_colour_97 rfl ?_
                  refine x_istore4 (pc := 99) dX6_colour_99 rfl ?_
                  refine x_fg6 ?_
                  refine x_iinc5 (pc := 101) dX6_colour_101 (by first | exact fv_inc _ | exact fv_dec _ | rfl) rfl ?_
                  refine x_goto (pc := 104) dX6_colour_104 (tgt := 48) rfl ?_
                  exact hL _ ⟨_, rfl⟩
                ·
                  refine x_iload (pc := 87) dX6_colour_87 rfl ?_
                  refine x_iload (pc := 89) dX6_colour_89 rfl ?_
                  refine x_icmp_ge (pc := 91) dX6_colour_91 (tgt := 101) rfl (fun h91 => ?_) (fun h91 => ?_)
                  ·
                    rw [hs0' j (fun q => q.2.elim (fun z => h84 ((hneg j (by omega)).2.mpr z)) (fun z => absurd h91 (Int32.not_le.mpr z)))] at hL
                    refine x_fg6 ?_
                    refine x_iinc5 (pc := 101) dX6_colour_101 (by first | exact fv_inc _ | exact fv_dec _ | rfl) rfl ?_
                    refine x_goto (pc := 104) dX6_colour_104 (tgt := 48) rfl ?_
                    exact hL _ ⟨_, rfl⟩
                  ·
                    rw [hs1' j ⟨h78, Or.inr (Int32.not_le.mp h91)⟩] at hL
                    refine x_iload (pc := 94) dX6_colour_94 rfl ?_
                    refine x_istore_n3 (pc := 96) dX6_colour_96 rfl ?_
                    refine x_iload (pc := 97) dX6_colour_97 rfl ?_
                    refine x_istore4 (pc := 99) dX6_colour_99 rfl ?_
                    refine x_fg6 ?_
                    refine x_iinc5 (pc := 101) dX6_colour_101 (by first | exact fv_inc _ | exact fv_dec _ | rfl) rfl ?_
                    refine x_goto (pc := 104) dX6_colour_104 (tgt := 48) rfl ?_
                    exact hL _ ⟨_, rfl⟩
          · rintro M' ⟨w, rfl⟩
            refine x_iload (pc := 48) dX6_colour_48 rfl ?_
            refine x_iconst (pc := 50) (v := 4) dX6_colour_50 rfl ?_
            refine x_icmp_ge (pc := 51) dX6_colour_51 (tgt := 107) rfl (fun h51 => ?_) (fun h51 => ?_)
            ·
              refine x_iload_n (pc := 107) dX6_colour_107 rfl rfl ?_
              refine x_ldc (pc := 108) kc_X6_154 dX6_colour_108 ?_
              refine x_icmp_ne (pc := 110) dX6_colour_110 (tgt := 122) rfl (fun h110 => ?_) (fun h110 => ?_)
              ·
                exact absurd ((hneg 4 (by decide)).2.mpr hres) h110
              ·
                refine x_aload_n (pc := 113) dX6_colour_113 rfl rfl ?_
                refine x_ldc (pc := 114) kc_X6_154 dX6_colour_114 ?_
                refine x_Vi (pc := 116) ks_X6_56 dX6_colour_116 (tb_fv) rfl rfl (hX6_fin 3 (-1000004) (by decide +kernel) (by decide)) rfl rfl rfl (Nat.le_of_ble_eq_true rfl) ?_
                refine x_goto (pc := 119) dX6_colour_119 (tgt := 123) rfl ?_
                refine x_iret (pc := 123) dX6_colour_123 rfl (by first | rfl | exact fv_nz _) ?_
                exact ⟨rfl, fv_s M 1 (fv_u ρ (fM k 0) w), pFr.rfl'.s (by decide), rfl⟩
            ·
              exact absurd (Int32.le_refl _) h51
        ·
          contradiction
      · skip
        have e22 : M1 22 = M 22 := hF 22 (by decide)
        have hG1 : pGd (M1 22) nb nm := by rw [e22]; exact hG2
        have hE1 : pEq nb nm (M1 22) (M 0) := by rw [e22]; exact hE
        have hB1 := hG1.1
        have hM1 := hG1.2.2.1
        refine fv_P.of (ls := [some (.ref 106), some (.int (nI k)), none, none, none, none, none, none]) (by decide) (Nat.le_of_ble_eq_true rfl) rfl ?_
        refine x_aload_n (pc := 0) dX7_colour_0 rfl rfl ?_
        refine x_iload_n (pc := 1) dX7_colour_1 rfl rfl ?_
        refine x_Vi (pc := 2) ks_X7_126 dX7_colour_2 (tb_106) rfl rfl (hX7_isMotion (x := nI nm) hM1) rfl rfl rfl (Nat.le_of_ble_eq_true rfl) ?_
        refine x_ifb_ne (pc := 5) dX7_colour_5 (tgt := 14) rfl (fun h5 => ?_) (fun h5 => ?_)
        ·
          refine x_aload_n (pc := 14) dX7_colour_14 rfl rfl ?_
          refine x_iload_n (pc := 15) dX7_colour_15 rfl rfl ?_
          refine x_iconst (pc := 16) (v := 0) dX7_colour_16 rfl ?_
          refine x_Vi (pc := 17) ks_X7_80 dX7_colour_17 (tb_106) rfl rfl ((hX7_of1 (f := 0) hk8 (by decide)).v rfl) rfl rfl rfl (Nat.le_of_ble_eq_true rfl) ?_
          refine x_istore_n2 (pc := 20) dX7_colour_20 rfl ?_
          refine x_iconst (pc := 21) (v := (-1)) dX7_colour_21 fv_m1 ?_
          refine x_istore_n3 (pc := 22) dX7_colour_22 rfl ?_
          refine x_iconst (pc := 23) (v := 0) dX7_colour_23 rfl ?_
          refine x_istore4 (pc := 24) dX7_colour_24 rfl ?_
          refine x_iconst (pc := 26) (v := 0) dX7_colour_26 rfl ?_
          refine x_istore5 (pc := 27) dX7_colour_27 rfl ?_
          refine x_loopI (fun j => [some (.ref 106), some (.int (nI k)), some (.int (M1 22 (fM k 0))), some (.int (pWm (B j).1)), some (.int (B j).2), some (.int (nI j)), none, none]) (fun j M' => ∃ w, M' = fv_s M1 22 (fv_u (M1 22) (fM k 0) w)) 4 (by rw [hb0]; rfl) ⟨M1 22 (fM k 0), by rw [fv_u_id, fv_s_id]⟩ ?_ ?_
          · rintro j M' hj ⟨w, rfl⟩ hL
            have hee : pEq nb nm (fv_u (M1 22) (fM k 0) (nI j)) (fv_u (M 0) (fM k 0) (nI j)) := fv_u_cg hE1 rfl
            have hGj := (hGc j hj).cg hee
            have hcj : (fv_s M1 22 (fv_u (M1 22) (fM k 0) (nI j))) 22 (fM k 0) = nI j := by rw [fv_s_same, fv_u_same]
            have huj : ∃ u, u < 256 ∧ (fv_s M1 22 (fv_u (M1 22) (fM k 0) (nI j))) 22 (fM k 2) = nI u := by rw [fv_s_same]; exact (pG2.at hGj hk).2.2.2
            have hda := (hX7_droppedAll (E := E) (d := 8) (nb := nb) (m := k) (c := j) (M := fv_s M1 22 (fv_u (M1 22) (fM k 0) (nI j))) (by rw [fv_s_same]; exact hGj.gb) hk8 hcj hj huj).v (show _ = FF j from by rw [fv_s_same, hFj]; exact dA_eq hee hk hj)
            have hwp := (hX7_passesNow (E := E) (d := 7) (nb := nb) (m := k) (c := j) (M := fv_s M1 22 (fv_u (M1 22) (fM k 0) (nI j))) (by rw [fv_s_same]; exact hGj.gb) hk8 hcj hj huj).v (show _ = bI (pPs (fv_u (M 0) (fM k 0) (nI j)) nb k j) from bI_congr (by rw [fv_s_same]; exact pPs_cg hee hk hj))
            have hgo : fv_X E mX7_colour (12 + 1) (fun r' M' => r' = some (.int (-1000004)) ∧ ∃ M3, pFr (22 :: pJm) M1 M3 ∧ (∀ nb nm, pI1 (M1 0) (M1 22) nb nm → pEq nb nm (M3 22) (M1 22)) ∧ M' = pNd M3 3) 74 [some (.ref 106), some (.int (nI k)), some (.int (M1 22 (fM k 0))), some (.int (pWm (B j).1)), some (.int (B j).2), some (.int (nI j)), some (.int (FF j)), none] [.int (bI (pPs (fv_u (M 0) (fM k 0) (nI j)) nb k j ∧ ((B j).1 = none ∨ FF j < (B j).2)))] (fv_s M1 22 (fv_u (M1 22) (fM k 0) (nI j))) := by
              refine x_istore7 (pc := 74) dX7_colour_74 rfl ?_
              refine x_iload (pc := 76) dX7_colour_76 rfl ?_
              refine x_ifb_eq (pc := 78) dX7_colour_78 (tgt := 86) rfl (fun h78 => ?_) (fun h78 => ?_)
              ·
                rw [hs0' j h78] at hL
                refine x_iload_n (pc := 86) dX7_colour_86 rfl rfl ?_
                refine x_istore_n3 (pc := 87) dX7_colour_87 rfl ?_
                refine x_iload (pc := 88) dX7_colour_88 rfl ?_
                refine x_ifb_eq (pc := 90) dX7_colour_90 (tgt := 98) rfl (fun h90 => ?_) (fun h90 => ?_)
                ·
                  refine x_iload (pc := 98) dX7_colour_98 rfl ?_
                  refine x_istore4 (pc := 100) dX7_colour_100 rfl ?_
                  refine x_fg6 (x_fg7 ?_)
                  refine x_iinc5 (pc := 102) dX7_colour_102 (by first | exact fv_inc _ | exact fv_dec _ | rfl) rfl ?_
                  refine x_goto (pc := 105) dX7_colour_105 (tgt := 29) rfl ?_
                  first | exact hL _ ⟨_, rfl⟩ | exact absurd h78 h90 | exact absurd h90 h78
                ·
                  refine x_iload (pc := 93) dX7_colour_93 rfl ?_
                  refine x_goto (pc := 95) dX7_colour_95 (tgt := 100) rfl ?_
                  refine x_istore4 (pc := 100) dX7_colour_100 rfl ?_
                  refine x_fg6 (x_fg7 ?_)
                  refine x_iinc5 (pc := 102) dX7_colour_102 (by first | exact fv_inc _ | exact fv_dec _ | rfl) rfl ?_
                  refine x_goto (pc := 105) dX7_colour_105 (tgt := 29) rfl ?_
                  first | exact hL _ ⟨_, rfl⟩ | exact absurd h78 h90 | exact absurd h90 h78
              ·
                rw [hs1' j h78] at hL
                refine x_iload (pc := 81) dX7_colour_81 rfl ?_
                refine x_goto (pc := 83) dX7_colour_83 (tgt := 87) rfl ?_
                refine x_istore_n3 (pc := 87) dX7_colour_87 rfl ?_
                refine x_iload (pc := 88) dX7_colour_88 rfl ?_
                refine x_ifb_eq (pc := 90) dX7_colour_90 (tgt := 98) rfl (fun h90 => ?_) (fun h90 => ?_)
                ·
                  refine x_iload (pc := 98) dX7_colour_98 rfl ?_
                  refine x_istore4 (pc := 100) dX7_colour_100 rfl ?_
                  refine x_fg6 (x_fg7 ?_)
                  refine x_iinc5 (pc := 102) dX7_colour_102 (by first | exact fv_inc _ | exact fv_dec _ | rfl) rfl ?_
                  refine x_goto (pc := 105) dX7_colour_105 (tgt := 29) rfl ?_
                  first | exact hL _ ⟨_, rfl⟩ | exact absurd h78 h90 | exact absurd h90 h78
                ·
                  refine x_iload (pc := 93) dX7_colour_93 rfl ?_
                  refine x_goto (pc := 95) dX7_colour_95 (tgt := 100) rfl ?_
                  refine x_istore4 (pc := 100) dX7_colour_100 rfl ?_
                  refine x_fg6 (x_fg7 ?_)
                  refine x_iinc5 (pc := 102) dX7_colour_102 (by first | exact fv_inc _ | exact fv_dec _ | rfl) rfl ?_
                  refine x_goto (pc := 105) dX7_colour_105 (tgt := 29) rfl ?_
                  first | exact hL _ ⟨_, rfl⟩ | exact absurd h78 h90 | exact absurd h90 h78
            refine x_iload (pc := 29) dX7_colour_29 rfl ?_
            refine x_iconst (pc := 31) (v := 4) dX7_colour_31 rfl ?_
            refine x_icmp_ge (pc := 32) dX7_colour_32 (tgt := 108) rfl (fun h32 => ?_) (fun h32 => ?_)
            ·
              exact absurd h32 (nI_ge (b := 4) hj (by omega))
            ·
              refine x_aload_n (pc := 35) dX7_colour_35 rfl rfl ?_
              refine x_iload_n (pc := 36) dX7_colour_36 rfl rfl ?_
              refine x_iconst (pc := 37) (v := 0) dX7_colour_37 rfl ?_
              refine x_iload (pc := 38) dX7_colour_38 rfl ?_
              refine x_Vv (pc := 40) ks_X7_107 dX7_colour_40 (tb_106) rfl rfl (hX7_puts1 (f := 0) hk8 (by decide)) rfl rfl rfl (Nat.le_of_ble_eq_true rfl) ?_
              rw [fv_s_same, fv_s_s, fv_u_u]
              refine x_aload_n (pc := 43) dX7_colour_43 rfl rfl ?_
              refine x_iload_n (pc := 44) dX7_colour_44 rfl rfl ?_
              refine x_Vi (pc := 45) ks_X7_161 dX7_colour_45 (tb_106) rfl rfl (hda) rfl rfl rfl (Nat.le_of_ble_eq_true rfl) ?_
              refine x_istore6 (pc := 48) dX7_colour_48 rfl ?_
              refine x_aload_n (pc := 50) dX7_colour_50 rfl rfl ?_
              refine x_iload_n (pc := 51) dX7_colour_51 rfl rfl ?_
              refine x_Vi (pc := 52) ks_X7_104 dX7_colour_52 (tb_106) rfl rfl (hwp) rfl rfl rfl (Nat.le_of_ble_eq_true rfl) ?_
              refine x_ifb_eq (pc := 55) dX7_colour_55 (tgt := 73) rfl (fun h55 => ?_) (fun h55 => ?_)
              ·
                rw [bI_f (fun q => h55 q.1)] at hgo
                refine x_iconst (pc := 73) (v := 0) dX7_colour_73 rfl ?_
                exact x_fg7 hgo
              ·
                refine x_iload_n (pc := 58) dX7_colour_58 rfl rfl ?_
                refine x_if_lt (pc := 59) dX7_colour_59 (tgt := 69) rfl (fun h59 => ?_) (fun h59 => ?_)
                ·
                  have en := (hneg j (by omega)).1.mp h59
                  rw [bI_t ⟨h55, Or.inl en⟩] at hgo
                  refine x_iconst (pc := 69) (v := 1) dX7_colour_69 rfl ?_
                  refine x_goto (pc := 70) dX7_colour_70 (tgt := 74) rfl ?_
                  exact x_fg7 hgo
                ·
                  refine x_iload (pc := 62) dX7_colour_62 rfl ?_
                  refine x_iload (pc := 64) dX7_colour_64 rfl ?_
                  refine x_icmp_ge (pc := 66) dX7_colour_66 (tgt := 73) rfl (fun h66 => ?_) (fun h66 => ?_)
                  ·
                    rw [bI_f (fun q => q.2.elim (fun z => h59 ((hneg j (by omega)).1.mpr z)) (fun z => absurd h66 (Int32.not_le.mpr z)))] at hgo
                    refine x_iconst (pc := 73) (v := 0) dX7_colour_73 rfl ?_
                    exact x_fg7 hgo
                  ·
                    rw [bI_t ⟨h55, Or.inr (Int32.not_le.mp h66)⟩] at hgo
                    refine x_iconst (pc := 69) (v := 1) dX7_colour_69 rfl ?_
                    refine x_goto (pc := 70) dX7_colour_70 (tgt := 74) rfl ?_
                    exact x_fg7 hgo
          · rintro M' ⟨w, rfl⟩
            refine x_iload (pc := 29) dX7_colour_29 rfl ?_
            refine x_iconst (pc := 31) (v := 4) dX7_colour_31 rfl ?_
            refine x_icmp_ge (pc := 32) dX7_colour_32 (tgt := 108) rfl (fun h32 => ?_) (fun h32 => ?_)
            ·
              refine x_aload_n (pc := 108) dX7_colour_108 rfl rfl ?_
              refine x_iload_n (pc := 109) dX7_colour_109 rfl rfl ?_
              refine x_iconst (pc := 110) (v := 0) dX7_colour_110 rfl ?_
              refine x_iload_n (pc := 111) dX7_colour_111 rfl rfl ?_
              refine x_Vv (pc := 112) ks_X7_107 dX7_colour_112 (tb_106) rfl rfl (hX7_puts1 (f := 0) hk8 (by decide)) rfl rfl rfl (Nat.le_of_ble_eq_true rfl) ?_
              rw [fv_s_same, fv_s_s, fv_u_u, fv_u_id, fv_s_id]
              refine x_iload_n (pc := 115) dX7_colour_115 rfl rfl ?_
              refine x_if_ge (pc := 116) dX7_colour_116 (tgt := 127) rfl (fun h116 => ?_) (fun h116 => ?_)
              ·
                exact absurd ((hneg 4 (by decide)).1.mpr hres) (Int32.not_lt.mpr h116)
              ·
                refine x_aload_n (pc := 119) dX7_colour_119 rfl rfl ?_
                refine x_iconst (pc := 120) (v := 3) dX7_colour_120 rfl ?_
                refine x_Vi (pc := 121) ks_X7_114 dX7_colour_121 (tb_106) rfl rfl (hX7_noL 3 (-1000004) (by decide) (by decide +kernel)) rfl rfl rfl (Nat.le_of_ble_eq_true rfl) ?_
                refine x_goto (pc := 124) dX7_colour_124 (tgt := 128) rfl ?_
                refine x_iret (pc := 128) dX7_colour_128 rfl (by first | rfl | exact fv_nz _) ?_
                exact ⟨rfl, M1, pFr.rfl', fun _ _ _ => pEq.rfl', rfl⟩
            ·
              exact absurd (Int32.le_refl _) h32
        ·
          contradiction
    | some x =>
      refine pOp.qry (v := nI x) I ?_ (fun M1 hF => ?_)
      · have hbec := hX4_become (E := E) (d := 10) (s := 1) (t := 0) (nb := nb) (nm := nm) (M := M) hs1 hs0 (by decide) hB hb hM hn
        generalize hρ : pSB (M 1) (M 0) nb nm = ρ at hbec
        have hρe : pEq nb nm ρ (M 0) := by rw [← hρ]; exact pSB_eq hb
        have hGρ : pGd ρ nb nm := hG.cg hρe
        have hI0 : fv_s M 1 ρ = fv_s M 1 (fv_u ρ (fM k 0) (ρ (fM k 0))) := by rw [fv_u_id]
        refine fv_P.of (ls := [some (.ref 0), some (.int (nI k)), none, none, none, none, none]) (by decide) (Nat.le_of_ble_eq_true rfl) rfl ?_
        refine x_aload_n (pc := 0) dX6_colour_0 rfl rfl ?_
        refine x_geta (pc := 1) fl_X6_12 dX6_colour_1 (tb_fv) rfl ?_
        refine x_iload_n (pc := 4) dX6_colour_4 rfl rfl ?_
        refine x_Vi (pc := 5) ks_X6_94 dX6_colour_5 (tb_st (by assumption)) rfl rfl (hHm hM) rfl rfl rfl (Nat.le_of_ble_eq_true rfl) ?_
        refine x_ifb_ne (pc := 8) dX6_colour_8 (tgt := 18) rfl (fun h8 => ?_) (fun h8 => ?_)
        ·
          refine x_aload_n (pc := 18) dX6_colour_18 rfl rfl ?_
          refine x_geta (pc := 19) fl_X6_16 dX6_colour_19 (tb_fv) rfl ?_
          refine x_aload_n (pc := 22) dX6_colour_22 rfl rfl ?_
          refine x_geta (pc := 23) fl_X6_12 dX6_colour_23 (tb_fv) rfl ?_
          refine x_Vv (pc := 26) ks_X6_150 dX6_colour_26 (tb_st (by assumption)) rfl rfl (hbec) rfl rfl rfl (Nat.le_of_ble_eq_true rfl) ?_
          refine x_aload_n (pc := 29) dX6_colour_29 rfl rfl ?_
          refine x_geta (pc := 30) fl_X6_16 dX6_colour_30 (tb_fv) rfl ?_
          refine x_geta (pc := 33) fl_X6_97 dX6_colour_33 (tb_st (by assumption)) rfl ?_
          refine x_iload_n (pc := 36) dX6_colour_36 rfl rfl ?_
          refine x_motion (pc := 37) dX6_colour_37 (by assumption) (rfl) (hk8) ?_
          refine x_astore_n2 (pc := 38) dX6_colour_38 rfl ?_
          refine x_ldc (pc := 39) kc_X6_154 dX6_colour_39 ?_
          refine x_istore_n3 (pc := 41) dX6_colour_41 rfl ?_
          refine x_iconst (pc := 42) (v := 0) dX6_colour_42 rfl ?_
          refine x_istore4 (pc := 43) dX6_colour_43 rfl ?_
          refine x_iconst (pc := 45) (v := 0) dX6_colour_45 rfl ?_
          refine x_istore5 (pc := 46) dX6_colour_46 rfl ?_
          refine x_loopI (fun j => [some (.ref 0), some (.int (nI k)), some (.ref (aM 1 k)), some (.int (pWc (B j).1)), some (.int (B j).2), some (.int (nI j)), none]) (fun j M' => ∃ w, M' = fv_s M 1 (fv_u ρ (fM k 0) w)) 4 (by rw [hb0]; rfl) ⟨_, hI0⟩ ?_ ?_
          · rintro j M' hj ⟨w, rfl⟩ hL
            have hee : pEq nb nm (fv_u ρ (fM k 0) (nI j)) (fv_u (M 0) (fM k 0) (nI j)) := fv_u_cg hρe rfl
            have hGj := (hGc j hj).cg hee
            have hcj : (fv_s M 1 (fv_u ρ (fM k 0) (nI j))) 1 (fM k 0) = nI j := by rw [fv_s_same, fv_u_same]
            have hda := (hX4_droppedInAll (E := E) (d := 8) (s := 1) (nb := nb) (m := k) (c := j) (M := fv_s M 1 (fv_u ρ (fM k 0) (nI j))) hs1 (by rw [fv_s_same]; exact hGj.1) hb (by rw [fv_s_same]; exact hGj.K) hk8 hcj hj).v (show _ = FF j from by rw [fv_s_same, hFj]; exact dA_eq hee hk hj)
            have hwp := (hX4_wouldPass (E := E) (d := 8) (s := 1) (nb := nb) (m := k) (c := j) (M := fv_s M 1 (fv_u ρ (fM k 0) (nI j))) hs1 (by rw [fv_s_same]; exact hGj.1) hb (by rw [fv_s_same]; exact hGj.K) hk8 hcj hj).v (show _ = bI (pPs (fv_u (M 0) (fM k 0) (nI j)) nb k j) from bI_congr (by rw [fv_s_same]; exact pPs_cg hee hk hj))
            refine x_iload (pc := 48) dX6_colour_48 rfl ?_
            refine x_iconst (pc := 50) (v := 4) dX6_colour_50 rfl ?_
            refine x_icmp_ge (pc := 51) dX6_colour_51 (tgt := 107) rfl (fun h51 => ?_) (fun h51 => ?_)
            ·
              exact absurd h51 (nI_ge (b := 4) hj (by omega))
            ·
              refine x_aload_n (pc := 54) dX6_colour_54 rfl rfl ?_
              refine x_iload (pc := 55) dX6_colour_55 rfl ?_
              refine x_put (pc := 57) fl_X6_170 dX6_colour_57 (tb_m hs1 hk8) rfl rfl rfl ?_
              rw [fv_s_same, fv_s_s, fv_u_u]
              refine x_aload_n (pc := 60) dX6_colour_60 rfl rfl ?_
              refine x_geta (pc := 61) fl_X6_16 dX6_colour_61 (tb_fv) rfl ?_
              refine x_aload_n (pc := 64) dX6_colour_64 rfl rfl ?_
              refine x_Vi (pc := 65) ks_X6_173 dX6_colour_65 (tb_st hs1) rfl rfl (hda) rfl rfl rfl (Nat.le_of_ble_eq_true rfl) ?_
              refine x_istore6 (pc := 68) dX6_colour_68 rfl ?_
              refine x_aload_n (pc := 70) dX6_colour_70 rfl rfl ?_
              refine x_geta (pc := 71) fl_X6_16 dX6_colour_71 (tb_fv) rfl ?_
              refine x_aload_n (pc := 74) dX6_colour_74 rfl rfl ?_
              refine x_Vi (pc := 75) ks_X6_123 dX6_colour_75 (tb_st hs1) rfl rfl (hwp) rfl rfl rfl (Nat.le_of_ble_eq_true rfl) ?_
              refine x_ifb_eq (pc := 78) dX6_colour_78 (tgt := 101) rfl (fun h78 => ?_) (fun h78 => ?_)
              ·
                rw [hs0' j (fun q => h78 q.1)] at hL
                refine x_fg6 ?_
                refine x_iinc5 (pc := 101) dX6_colour_101 (by first | exact fv_inc _ | exact fv_dec _ | rfl) rfl ?_
                refine x_goto (pc := 104) dX6_colour_104 (tgt := 48) rfl ?_
                exact hL _ ⟨_, rfl⟩
              ·
                refine x_iload_n (pc := 81) dX6_colour_81 rfl rfl ?_
                refine x_ldc (pc := 82) kc_X6_154 dX6_colour_82 ?_
                refine x_icmp_eq (pc := 84) dX6_colour_84 (tgt := 94) rfl (fun h84 => ?_) (fun h84 => ?_)
                ·
                  have en := (hneg j (by omega)).2.mp h84
                  rw [hs1' j ⟨h78, Or.inl en⟩] at hL
                  refine x_iload (pc := 94) dX6_colour_94 rfl ?_
                  refine x_istore_n3 (pc := 96) dX6_colour_96 rfl ?_
                  refine x_iload (pc := 97) dX6_colour_97 rfl ?_
                  refine x_istore4 (pc := 99) dX6_colour_99 rfl ?_
                  refine x_fg6 ?_
                  refine x_iinc5 (pc := 101) dX6_colour_101 (by first | exact fv_inc _ | exact fv_dec _ | rfl) rfl ?_
                  refine x_goto (pc := 104) dX6_colour_104 (tgt := 48) rfl ?_
                  exact hL _ ⟨_, rfl⟩
                ·
                  refine x_iload (pc := 87) dX6_colour_87 rfl ?_
                  refine x_iload (pc := 89) dX6_colour_89 rfl ?_
                  refine x_icmp_ge (pc := 91) dX6_colour_91 (tgt := 101) rfl (fun h91 => ?_) (fun h91 => ?_)
                  ·
                    rw [hs0' j (fun q => q.2.elim (fun z => h84 ((hneg j (by omega)).2.mpr z)) (fun z => absurd h91 (Int32.not_le.mpr z)))] at hL
                    refine x_fg6 ?_
                    refine x_iinc5 (pc := 101) dX6_colour_101 (by first | exact fv_inc _ | exact fv_dec _ | rfl) rfl ?_
                    refine x_goto (pc := 104) dX6_colour_104 (tgt := 48) rfl ?_
                    exact hL _ ⟨_, rfl⟩
                  ·
                    rw [hs1' j ⟨h78, Or.inr (Int32.not_le.mp h91)⟩] at hL
                    refine x_iload (pc := 94) dX6_colour_94 rfl ?_
                    refine x_istore_n3 (pc := 96) dX6_colour_96 rfl ?_
                    refine x_iload (pc := 97) dX6_colour_97 rfl ?_
                    refine x_istore4 (pc := 99) dX6_colour_99 rfl ?_
                    refine x_fg6 ?_
                    refine x_iinc5 (pc := 101) dX6_colour_101 (by first | exact fv_inc _ | exact fv_dec _ | rfl) rfl ?_
                    refine x_goto (pc := 104) dX6_colour_104 (tgt := 48) rfl ?_
                    exact hL _ ⟨_, rfl⟩
          · rintro M' ⟨w, rfl⟩
            refine x_iload (pc := 48) dX6_colour_48 rfl ?_
            refine x_iconst (pc := 50) (v := 4) dX6_colour_50 rfl ?_
            refine x_icmp_ge (pc := 51) dX6_colour_51 (tgt := 107) rfl (fun h51 => ?_) (fun h51 => ?_)
            ·
              refine x_iload_n (pc := 107) dX6_colour_107 rfl rfl ?_
              refine x_ldc (pc := 108) kc_X6_154 dX6_colour_108 ?_
              refine x_icmp_ne (pc := 110) dX6_colour_110 (tgt := 122) rfl (fun h110 => ?_) (fun h110 => ?_)
              ·
                refine x_iload_n (pc := 122) dX6_colour_122 rfl rfl ?_
                refine x_iret (pc := 123) dX6_colour_123 rfl (by first | rfl | exact fv_nz _) ?_
                exact ⟨by rw [hres]; rfl, pFr.rfl'.s (by decide)⟩
              ·
                exact absurd ((hneg 4 (by decide)).2.mp h110) (by rw [hres]; exact fun q => by cases q)
            ·
              exact absurd (Int32.le_refl _) h51
        ·
          contradiction
      · skip
        have e22 : M1 22 = M 22 := hF 22 (by decide)
        have hG1 : pGd (M1 22) nb nm := by rw [e22]; exact hG2
        have hE1 : pEq nb nm (M1 22) (M 0) := by rw [e22]; exact hE
        have hB1 := hG1.1
        have hM1 := hG1.2.2.1
        refine fv_P.of (ls := [some (.ref 106), some (.int (nI k)), none, none, none, none, none, none]) (by decide) (Nat.le_of_ble_eq_true rfl) rfl ?_
        refine x_aload_n (pc := 0) dX7_colour_0 rfl rfl ?_
        refine x_iload_n (pc := 1) dX7_colour_1 rfl rfl ?_
        refine x_Vi (pc := 2) ks_X7_126 dX7_colour_2 (tb_106) rfl rfl (hX7_isMotion (x := nI nm) hM1) rfl rfl rfl (Nat.le_of_ble_eq_true rfl) ?_
        refine x_ifb_ne (pc := 5) dX7_colour_5 (tgt := 14) rfl (fun h5 => ?_) (fun h5 => ?_)
        ·
          refine x_aload_n (pc := 14) dX7_colour_14 rfl rfl ?_
          refine x_iload_n (pc := 15) dX7_colour_15 rfl rfl ?_
          refine x_iconst (pc := 16) (v := 0) dX7_colour_16 rfl ?_
          refine x_Vi (pc := 17) ks_X7_80 dX7_colour_17 (tb_106) rfl rfl ((hX7_of1 (f := 0) hk8 (by decide)).v rfl) rfl rfl rfl (Nat.le_of_ble_eq_true rfl) ?_
          refine x_istore_n2 (pc := 20) dX7_colour_20 rfl ?_
          refine x_iconst (pc := 21) (v := (-1)) dX7_colour_21 fv_m1 ?_
          refine x_istore_n3 (pc := 22) dX7_colour_22 rfl ?_
          refine x_iconst (pc := 23) (v := 0) dX7_colour_23 rfl ?_
          refine x_istore4 (pc := 24) dX7_colour_24 rfl ?_
          refine x_iconst (pc := 26) (v := 0) dX7_colour_26 rfl ?_
          refine x_istore5 (pc := 27) dX7_colour_27 rfl ?_
          refine x_loopI (fun j => [some (.ref 106), some (.int (nI k)), some (.int (M1 22 (fM k 0))), some (.int (pWm (B j).1)), some (.int (B j).2), some (.int (nI j)), none, none]) (fun j M' => ∃ w, M' = fv_s M1 22 (fv_u (M1 22) (fM k 0) w)) 4 (by rw [hb0]; rfl) ⟨M1 22 (fM k 0), by rw [fv_u_id, fv_s_id]⟩ ?_ ?_
          · rintro j M' hj ⟨w, rfl⟩ hL
            have hee : pEq nb nm (fv_u (M1 22) (fM k 0) (nI j)) (fv_u (M 0) (fM k 0) (nI j)) := fv_u_cg hE1 rfl
            have hGj := (hGc j hj).cg hee
            have hcj : (fv_s M1 22 (fv_u (M1 22) (fM k 0) (nI j))) 22 (fM k 0) = nI j := by rw [fv_s_same, fv_u_same]
            have huj : ∃ u, u < 256 ∧ (fv_s M1 22 (fv_u (M1 22) (fM k 0) (nI j))) 22 (fM k 2) = nI u := by rw [fv_s_same]; exact (pG2.at hGj hk).2.2.2
            have hda := (hX7_droppedAll (E := E) (d := 8) (nb := nb) (m := k) (c := j) (M := fv_s M1 22 (fv_u (M1 22) (fM k 0) (nI j))) (by rw [fv_s_same]; exact hGj.gb) hk8 hcj hj huj).v (show _ = FF j from by rw [fv_s_same, hFj]; exact dA_eq hee hk hj)
            have hwp := (hX7_passesNow (E := E) (d := 7) (nb := nb) (m := k) (c := j) (M := fv_s M1 22 (fv_u (M1 22) (fM k 0) (nI j))) (by rw [fv_s_same]; exact hGj.gb) hk8 hcj hj huj).v (show _ = bI (pPs (fv_u (M 0) (fM k 0) (nI j)) nb k j) from bI_congr (by rw [fv_s_same]; exact pPs_cg hee hk hj))
            have hgo : fv_X E mX7_colour (12 + 1) (fun r' M2 => r' = some (.int (nI x)) ∧ pFr (21 :: 22 :: pJm) M1 M2 ∧ M2 21 3 = M1 21 3 ∧ M2 21 12 = M1 21 12 ∧ ∀ nb nm, pI1 (M1 0) (M1 22) nb nm → pEq nb nm (M2 22) (M1 22)) 74 [some (.ref 106), some (.int (nI k)), some (.int (M1 22 (fM k 0))), some (.int (pWm (B j).1)), some (.int (B j).2), some (.int (nI j)), some (.int (FF j)), none] [.int (bI (pPs (fv_u (M 0) (fM k 0) (nI j)) nb k j ∧ ((B j).1 = none ∨ FF j < (B j).2)))] (fv_s M1 22 (fv_u (M1 22) (fM k 0) (nI j))) := by
              refine x_istore7 (pc := 74) dX7_colour_74 rfl ?_
              refine x_iload (pc := 76) dX7_colour_76 rfl ?_
              refine x_ifb_eq (pc := 78) dX7_colour_78 (tgt := 86) rfl (fun h78 => ?_) (fun h78 => ?_)
              ·
                rw [hs0' j h78] at hL
                refine x_iload_n (pc := 86) dX7_colour_86 rfl rfl ?_
                refine x_istore_n3 (pc := 87) dX7_colour_87 rfl ?_
                refine x_iload (pc := 88) dX7_colour_88 rfl ?_
                refine x_ifb_eq (pc := 90) dX7_colour_90 (tgt := 98) rfl (fun h90 => ?_) (fun h90 => ?_)
                ·
                  refine x_iload (pc := 98) dX7_colour_98 rfl ?_
                  refine x_istore4 (pc := 100) dX7_colour_100 rfl ?_
                  refine x_fg6 (x_fg7 ?_)
                  refine x_iinc5 (pc := 102) dX7_colour_102 (by first | exact fv_inc _ | exact fv_dec _ | rfl) rfl ?_
                  refine x_goto (pc := 105) dX7_colour_105 (tgt := 29) rfl ?_
                  first | exact hL _ ⟨_, rfl⟩ | exact absurd h78 h90 | exact absurd h90 h78
                ·
                  refine x_iload (pc := 93) dX7_colour_93 rfl ?_
                  refine x_goto (pc := 95) dX7_colour_95 (tgt := 100) rfl ?_
                  refine x_istore4 (pc := 100) dX7_colour_100 rfl ?_
                  refine x_fg6 (x_fg7 ?_)
                  refine x_iinc5 (pc := 102) dX7_colour_102 (by first | exact fv_inc _ | exact fv_dec _ | rfl) rfl ?_
                  refine x_goto (pc := 105) dX7_colour_105 (tgt := 29) rfl ?_
                  first | exact hL _ ⟨_, rfl⟩ | exact absurd h78 h90 | exact absurd h90 h78
              ·
                rw [hs1' j h78] at hL
                refine x_iload (pc := 81) dX7_colour_81 rfl ?_
                refine x_goto (pc := 83) dX7_colour_83 (tgt := 87) rfl ?_
                refine x_istore_n3 (pc := 87) dX7_colour_87 rfl ?_
                refine x_iload (pc := 88) dX7_colour_88 rfl ?_
                refine x_ifb_eq (pc := 90) dX7_colour_90 (tgt := 98) rfl (fun h90 => ?_) (fun h90 => ?_)
                ·
                  refine x_iload (pc := 98) dX7_colour_98 rfl ?_
                  refine x_istore4 (pc := 100) dX7_colour_100 rfl ?_
                  refine x_fg6 (x_fg7 ?_)
                  refine x_iinc5 (pc := 102) dX7_colour_102 (by first | exact fv_inc _ | exact fv_dec _ | rfl) rfl ?_
                  refine x_goto (pc := 105) dX7_colour_105 (tgt := 29) rfl ?_
                  first | exact hL _ ⟨_, rfl⟩ | exact absurd h78 h90 | exact absurd h90 h78
                ·
                  refine x_iload (pc := 93) dX7_colour_93 rfl ?_
                  refine x_goto (pc := 95) dX7_colour_95 (tgt := 100) rfl ?_
                  refine x_istore4 (pc := 100) dX7_colour_100 rfl ?_
                  refine x_fg6 (x_fg7 ?_)
                  refine x_iinc5 (pc := 102) dX7_colour_102 (by first | exact fv_inc _ | exact fv_dec _ | rfl) rfl ?_
                  refine x_goto (pc := 105) dX7_colour_105 (tgt := 29) rfl ?_
                  first | exact hL _ ⟨_, rfl⟩ | exact absurd h78 h90 | exact absurd h90 h78
            refine x_iload (pc := 29) dX7_colour_29 rfl ?_
            refine x_iconst (pc := 31) (v := 4) dX7_colour_31 rfl ?_
            refine x_icmp_ge (pc := 32) dX7_colour_32 (tgt := 108) rfl (fun h32 => ?_) (fun h32 => ?_)
            ·
              exact absurd h32 (nI_ge (b := 4) hj (by omega))
            ·
              refine x_aload_n (pc := 35) dX7_colour_35 rfl rfl ?_
              refine x_iload_n (pc := 36) dX7_colour_36 rfl rfl ?_
              refine x_iconst (pc := 37) (v := 0) dX7_colour_37 rfl ?_
              refine x_iload (pc := 38) dX7_colour_38 rfl ?_
              refine x_Vv (pc := 40) ks_X7_107 dX7_colour_40 (tb_106) rfl rfl (hX7_puts1 (f := 0) hk8 (by decide)) rfl rfl rfl (Nat.le_of_ble_eq_true rfl) ?_
              rw [fv_s_same, fv_s_s, fv_u_u]
              refine x_aload_n (pc := 43) dX7_colour_43 rfl rfl ?_
              refine x_iload_n (pc := 44) dX7_colour_44 rfl rfl ?_
              refine x_Vi (pc := 45) ks_X7_161 dX7_colour_45 (tb_106) rfl rfl (hda) rfl rfl rfl (Nat.le_of_ble_eq_true rfl) ?_
              refine x_istore6 (pc := 48) dX7_colour_48 rfl ?_
              refine x_aload_n (pc := 50) dX7_colour_50 rfl rfl ?_
              refine x_iload_n (pc := 51) dX7_colour_51 rfl rfl ?_
              refine x_Vi (pc := 52) ks_X7_104 dX7_colour_52 (tb_106) rfl rfl (hwp) rfl rfl rfl (Nat.le_of_ble_eq_true rfl) ?_
              refine x_ifb_eq (pc := 55) dX7_colour_55 (tgt := 73) rfl (fun h55 => ?_) (fun h55 => ?_)
              ·
                rw [bI_f (fun q => h55 q.1)] at hgo
                refine x_iconst (pc := 73) (v := 0) dX7_colour_73 rfl ?_
                exact x_fg7 hgo
              ·
                refine x_iload_n (pc := 58) dX7_colour_58 rfl rfl ?_
                refine x_if_lt (pc := 59) dX7_colour_59 (tgt := 69) rfl (fun h59 => ?_) (fun h59 => ?_)
                ·
                  have en := (hneg j (by omega)).1.mp h59
                  rw [bI_t ⟨h55, Or.inl en⟩] at hgo
                  refine x_iconst (pc := 69) (v := 1) dX7_colour_69 rfl ?_
                  refine x_goto (pc := 70) dX7_colour_70 (tgt := 74) rfl ?_
                  exact x_fg7 hgo
                ·
                  refine x_iload (pc := 62) dX7_colour_62 rfl ?_
                  refine x_iload (pc := 64) dX7_colour_64 rfl ?_
                  refine x_icmp_ge (pc := 66) dX7_colour_66 (tgt := 73) rfl (fun h66 => ?_) (fun h66 => ?_)
                  ·
                    rw [bI_f (fun q => q.2.elim (fun z => h59 ((hneg j (by omega)).1.mpr z)) (fun z => absurd h66 (Int32.not_le.mpr z)))] at hgo
                    refine x_iconst (pc := 73) (v := 0) dX7_colour_73 rfl ?_
                    exact x_fg7 hgo
                  ·
                    rw [bI_t ⟨h55, Or.inr (Int32.not_le.mp h66)⟩] at hgo
                    refine x_iconst (pc := 69) (v := 1) dX7_colour_69 rfl ?_
                    refine x_goto (pc := 70) dX7_colour_70 (tgt := 74) rfl ?_
                    exact x_fg7 hgo
          · rintro M' ⟨w, rfl⟩
            refine x_iload (pc := 29) dX7_colour_29 rfl ?_
            refine x_iconst (pc := 31) (v := 4) dX7_colour_31 rfl ?_
            refine x_icmp_ge (pc := 32) dX7_colour_32 (tgt := 108) rfl (fun h32 => ?_) (fun h32 => ?_)
            ·
              refine x_aload_n (pc := 108) dX7_colour_108 rfl rfl ?_
              refine x_iload_n (pc := 109) dX7_colour_109 rfl rfl ?_
              refine x_iconst (pc := 110) (v := 0) dX7_colour_110 rfl ?_
              refine x_iload_n (pc := 111) dX7_colour_111 rfl rfl ?_
              refine x_Vv (pc := 112) ks_X7_107 dX7_colour_112 (tb_106) rfl rfl (hX7_puts1 (f := 0) hk8 (by decide)) rfl rfl rfl (Nat.le_of_ble_eq_true rfl) ?_
              rw [fv_s_same, fv_s_s, fv_u_u, fv_u_id, fv_s_id]
              refine x_iload_n (pc := 115) dX7_colour_115 rfl rfl ?_
              refine x_if_ge (pc := 116) dX7_colour_116 (tgt := 127) rfl (fun h116 => ?_) (fun h116 => ?_)
              ·
                refine x_iload_n (pc := 127) dX7_colour_127 rfl rfl ?_
                refine x_iret (pc := 128) dX7_colour_128 rfl (by first | rfl | exact fv_nz _) ?_
                exact ⟨by rw [hres]; rfl, pFr.rfl', rfl, rfl, fun _ _ _ => pEq.rfl'⟩
              ·
                exact absurd ((hneg 4 (by decide)).1.mp (Int32.not_le.mp h116)) (by rw [hres]; exact fun q => by cases q)
            ·
              exact absurd (Int32.le_refl _) h32
        ·
          contradiction
  · skip
    refine pOp.bad (v := -1000001) 0 I ?_ (fun M1 hF => ?_)
    · skip
      refine fv_F.of (ls := [some (.ref 0), some (.int m), none, none, none, none, none]) (by decide) (Nat.le_of_ble_eq_true rfl) rfl ?_
      refine x_aload_n (pc := 0) dX6_colour_0 rfl rfl ?_
      refine x_geta (pc := 1) fl_X6_12 dX6_colour_1 (tb_fv) rfl ?_
      refine x_iload_n (pc := 4) dX6_colour_4 rfl rfl ?_
      refine x_Vi (pc := 5) ks_X6_94 dX6_colour_5 (tb_st (by assumption)) rfl rfl (hHm hM) rfl rfl rfl (Nat.le_of_ble_eq_true rfl) ?_
      refine x_ifb_ne (pc := 8) dX6_colour_8 (tgt := 18) rfl (fun h8 => ?_) (fun h8 => ?_)
      ·
        contradiction
      ·
        refine x_aload_n (pc := 11) dX6_colour_11 rfl rfl ?_
        refine x_ldc (pc := 12) kc_X6_55 dX6_colour_12 ?_
        refine x_Vi (pc := 14) ks_X6_56 dX6_colour_14 (tb_fv) rfl rfl (hX6_fin 0 (-1000001) (by decide +kernel) (by decide)) rfl rfl rfl (Nat.le_of_ble_eq_true rfl) ?_
        refine x_iret (pc := 17) dX6_colour_17 rfl (by first | rfl | exact fv_nz _) ?_
        exact ⟨rfl, rfl⟩
    · skip
      have e22 : M1 22 = M 22 := hF 22 (by decide)
      have hG1 : pGd (M1 22) nb nm := by rw [e22]; exact hG2
      have hE1 : pEq nb nm (M1 22) (M 0) := by rw [e22]; exact hE
      have hB1 := hG1.1
      have hM1 := hG1.2.2.1
      refine fv_F.of (ls := [some (.ref 106), some (.int m), none, none, none, none, none, none]) (by decide) (Nat.le_of_ble_eq_true rfl) rfl ?_
      refine x_aload_n (pc := 0) dX7_colour_0 rfl rfl ?_
      refine x_iload_n (pc := 1) dX7_colour_1 rfl rfl ?_
      refine x_Vi (pc := 2) ks_X7_126 dX7_colour_2 (tb_106) rfl rfl (hX7_isMotion (x := nI nm) hM1) rfl rfl rfl (Nat.le_of_ble_eq_true rfl) ?_
      refine x_ifb_ne (pc := 5) dX7_colour_5 (tgt := 14) rfl (fun h5 => ?_) (fun h5 => ?_)
      ·
        contradiction
      ·
        refine x_aload_n (pc := 8) dX7_colour_8 rfl rfl ?_
        refine x_iconst (pc := 9) (v := 0) dX7_colour_9 rfl ?_
        refine x_Vi (pc := 10) ks_X7_114 dX7_colour_10 (tb_106) rfl rfl (hX7_noL 0 (-1000001) (by decide) (by decide +kernel)) rfl rfl rfl (Nat.le_of_ble_eq_true rfl) ?_
        refine x_iret (pc := 13) dX7_colour_13 rfl (by first | rfl | exact fv_nz _) ?_
        exact ⟨rfl, rfl⟩
theorem op_kindFor {E : fv_E} {b : Int32} {M : fv_M} (I : pInv M) : pOp E mX6_kindFor mX7_kindFor [.int b] M := by
  obtain ⟨nb, nm, hG, hE, t, ht, eT⟩ := I.1
  have hs0 : 0 < 3 := by decide
  have hs1 : 1 < 3 := by decide
  have hB := hG.1
  have hb := hG.2.1
  have hM := hG.2.2.1
  have hn := hG.2.2.2.1
  have hK := hG.K
  have hC := hG.C
  have hG2 : pGd (M 22) nb nm := hG.cg hE
  by_cases hm : 0 ≤ b ∧ b ≤ nI nb - 1
  · obtain ⟨k, hk, rfl⟩ := pUx (by omega) hm
    have hk8 : k < 8 := by omega
    have hGc : ∀ c, c < 7 → pGd (fv_u (M 0) (fB k 0) (nI c)) nb nm := fun c hc => pGd_ub hG hk (by decide) ⟨c, hc, rfl⟩
    generalize hF4 : (fun c => pPn (fv_u (M 0) (fB k 0) (nI c)) nb nm) = FF
    have hFj : ∀ c, FF c = pPn (fv_u (M 0) (fB k 0) (nI c)) nb nm := fun c => by rw [← hF4]
    have hs0' : ∀ j, ¬ (pBk FF j).2 < FF j → pBk FF (j + 1) = pBk FF j := fun j q => by rw [pBk, if_neg q]
    have hs1' : ∀ j, (pBk FF j).2 < FF j → pBk FF (j + 1) = (nI j, FF j) := fun j q => by rw [pBk, if_pos q]
    have hb0 : pBk FF 0 = (0, -1) := rfl
    generalize hB4 : pBk FF = B at *
    refine pOp.qry (v := (B 7).1) I ?_ (fun M1 hF => ?_)
    · have hbec := hX4_become (E := E) (d := 10) (s := 1) (t := 0) (nb := nb) (nm := nm) (M := M) hs1 hs0 (by decide) hB hb hM hn
      generalize hρ : pSB (M 1) (M 0) nb nm = ρ at hbec
      have hρe : pEq nb nm ρ (M 0) := by rw [← hρ]; exact pSB_eq hb
      have hGρ : pGd ρ nb nm := hG.cg hρe
      have hI0 : fv_s M 1 ρ = fv_s M 1 (fv_u ρ (fB k 0) (ρ (fB k 0))) := by rw [fv_u_id]
      refine fv_P.of (ls := [some (.ref 0), some (.int (nI k)), none, none, none, none]) (by decide) (Nat.le_of_ble_eq_true rfl) rfl ?_
      refine x_aload_n (pc := 0) dX6_kindFor_0 rfl rfl ?_
      refine x_geta (pc := 1) fl_X6_12 dX6_kindFor_1 (tb_fv) rfl ?_
      refine x_iload_n (pc := 4) dX6_kindFor_4 rfl rfl ?_
      refine x_Vi (pc := 5) ks_X6_68 dX6_kindFor_5 (tb_st (by assumption)) rfl rfl (hHb hB) rfl rfl rfl (Nat.le_of_ble_eq_true rfl) ?_
      refine x_ifb_ne (pc := 8) dX6_kindFor_8 (tgt := 18) rfl (fun h8 => ?_) (fun h8 => ?_)
      ·
        refine x_aload_n (pc := 18) dX6_kindFor_18 rfl rfl ?_
        refine x_geta (pc := 19) fl_X6_16 dX6_kindFor_19 (tb_fv) rfl ?_
        refine x_aload_n (pc := 22) dX6_kindFor_22 rfl rfl ?_
        refine x_geta (pc := 23) fl_X6_12 dX6_kindFor_23 (tb_fv) rfl ?_
        refine x_Vv (pc := 26) ks_X6_150 dX6_kindFor_26 (tb_st (by assumption)) rfl rfl (hbec) rfl rfl rfl (Nat.le_of_ble_eq_true rfl) ?_
        refine x_iconst (pc := 29) (v := 0) dX6_kindFor_29 rfl ?_
        refine x_istore_n2 (pc := 30) dX6_kindFor_30 rfl ?_
        refine x_iconst (pc := 31) (v := (-1)) dX6_kindFor_31 fv_m1 ?_
        refine x_istore_n3 (pc := 32) dX6_kindFor_32 rfl ?_
        refine x_iconst (pc := 33) (v := 0) dX6_kindFor_33 rfl ?_
        refine x_istore4 (pc := 34) dX6_kindFor_34 rfl ?_
        refine x_loopI (fun j => [some (.ref 0), some (.int (nI k)), some (.int (B j).1), some (.int (B j).2), some (.int (nI j)), none]) (fun j M' => ∃ w, M' = fv_s M 1 (fv_u ρ (fB k 0) w)) 7 (by rw [hb0]; rfl) ⟨_, hI0⟩ ?_ ?_
        · rintro j M' hj ⟨w, rfl⟩ hL
          have hee : pEq nb nm (fv_u ρ (fB k 0) (nI j)) (fv_u (M 0) (fB k 0) (nI j)) := fv_u_cg hρe rfl
          have hGj := (hGc j hj).cg hee
          have hpn := (hX4_passingNow (E := E) (d := 7) (s := 1) (nb := nb) (nm := nm) (M := fv_s M 1 (fv_u ρ (fB k 0) (nI j))) hs1 (by rw [fv_s_same]; exact hGj.1) hb (by rw [fv_s_same]; exact hGj.K) (by rw [fv_s_same]; exact hGj.2.2.1) hn (by rw [fv_s_same]; exact hGj.C)).v (show _ = FF j from by rw [fv_s_same, hFj]; exact pPn_cg hee (hGc j hj).C)
          refine x_iload (pc := 36) dX6_kindFor_36 rfl ?_
          refine x_bipush (pc := 38) (v := 7) dX6_kindFor_38 rfl ?_
          refine x_icmp_ge (pc := 40) dX6_kindFor_40 (tgt := 84) rfl (fun h40 => ?_) (fun h40 => ?_)
          ·
            exact absurd h40 (nI_ge (b := 7) hj (by omega))
          ·
            refine x_aload_n (pc := 43) dX6_kindFor_43 rfl rfl ?_
            refine x_geta (pc := 44) fl_X6_16 dX6_kindFor_44 (tb_fv) rfl ?_
            refine x_geta (pc := 47) fl_X6_72 dX6_kindFor_47 (tb_st hs1) rfl ?_
            refine x_iload_n (pc := 50) dX6_kindFor_50 rfl rfl ?_
            refine x_bird (pc := 51) dX6_kindFor_51 (by assumption) (rfl) (hk8) ?_
            refine x_iload (pc := 52) dX6_kindFor_52 rfl ?_
            refine x_put (pc := 54) fl_X6_176 dX6_kindFor_54 (tb_b hs1 hk8) rfl rfl rfl ?_
            rw [fv_s_same, fv_s_s, fv_u_u]
            refine x_aload_n (pc := 57) dX6_kindFor_57 rfl rfl ?_
            refine x_geta (pc := 58) fl_X6_16 dX6_kindFor_58 (tb_fv) rfl ?_
            refine x_Vi (pc := 61) ks_X6_179 dX6_kindFor_61 (tb_st hs1) rfl rfl (hpn) rfl rfl rfl (Nat.le_of_ble_eq_true rfl) ?_
            refine x_istore5 (pc := 64) dX6_kindFor_64 rfl ?_
            refine x_iload (pc := 66) dX6_kindFor_66 rfl ?_
            refine x_iload_n (pc := 68) dX6_kindFor_68 rfl rfl ?_
            refine x_icmp_le (pc := 69) dX6_kindFor_69 (tgt := 78) rfl (fun h69 => ?_) (fun h69 => ?_)
            ·
              rw [hs0' j (Int32.not_lt.mpr h69)] at hL
              refine x_fg5 ?_
              refine x_iinc4 (pc := 78) dX6_kindFor_78 (by first | exact fv_inc _ | exact fv_dec _ | rfl) rfl ?_
              refine x_goto (pc := 81) dX6_kindFor_81 (tgt := 36) rfl ?_
              exact hL _ ⟨_, rfl⟩
            ·
              rw [hs1' j (Int32.not_le.mp h69)] at hL
              refine x_iload (pc := 72) dX6_kindFor_72 rfl ?_
              refine x_istore_n2 (pc := 74) dX6_kindFor_74 rfl ?_
              refine x_iload (pc := 75) dX6_kindFor_75 rfl ?_
              refine x_istore_n3 (pc := 77) dX6_kindFor_77 rfl ?_
              refine x_fg5 ?_
              refine x_iinc4 (pc := 78) dX6_kindFor_78 (by first | exact fv_inc _ | exact fv_dec _ | rfl) rfl ?_
              refine x_goto (pc := 81) dX6_kindFor_81 (tgt := 36) rfl ?_
              exact hL _ ⟨_, rfl⟩
        · rintro M' ⟨w, rfl⟩
          refine x_iload (pc := 36) dX6_kindFor_36 rfl ?_
          refine x_bipush (pc := 38) (v := 7) dX6_kindFor_38 rfl ?_
          refine x_icmp_ge (pc := 40) dX6_kindFor_40 (tgt := 84) rfl (fun h40 => ?_) (fun h40 => ?_)
          ·
            refine x_iload_n (pc := 84) dX6_kindFor_84 rfl rfl ?_
            refine x_iret (pc := 85) dX6_kindFor_85 rfl (by first | rfl | exact fv_nz _) ?_
            exact ⟨rfl, pFr.rfl'.s (by decide)⟩
          ·
            exact absurd (Int32.le_refl _) h40
      ·
        contradiction
    · skip
      have e22 : M1 22 = M 22 := hF 22 (by decide)
      have hG1 : pGd (M1 22) nb nm := by rw [e22]; exact hG2
      have hE1 : pEq nb nm (M1 22) (M 0) := by rw [e22]; exact hE
      have hB1 := hG1.1
      have hM1 := hG1.2.2.1
      refine fv_P.of (ls := [some (.ref 106), some (.int (nI k)), none, none, none, none, none, none]) (by decide) (Nat.le_of_ble_eq_true rfl) rfl ?_
      refine x_aload_n (pc := 0) dX7_kindFor_0 rfl rfl ?_
      refine x_iload_n (pc := 1) dX7_kindFor_1 rfl rfl ?_
      refine x_Vi (pc := 2) ks_X7_120 dX7_kindFor_2 (tb_106) rfl rfl (hX7_isBird (x := nI nb) hB1) rfl rfl rfl (Nat.le_of_ble_eq_true rfl) ?_
      refine x_ifb_ne (pc := 5) dX7_kindFor_5 (tgt := 14) rfl (fun h5 => ?_) (fun h5 => ?_)
      ·
        refine x_aload_n (pc := 14) dX7_kindFor_14 rfl rfl ?_
        refine x_iload_n (pc := 15) dX7_kindFor_15 rfl rfl ?_
        refine x_iconst (pc := 16) (v := 0) dX7_kindFor_16 rfl ?_
        refine x_Vi (pc := 17) ks_X7_64 dX7_kindFor_17 (tb_106) rfl rfl ((hX7_get (f := 0) hk8 (by decide)).v rfl) rfl rfl rfl (Nat.le_of_ble_eq_true rfl) ?_
        refine x_istore_n2 (pc := 20) dX7_kindFor_20 rfl ?_
        refine x_iconst (pc := 21) (v := 0) dX7_kindFor_21 rfl ?_
        refine x_istore_n3 (pc := 22) dX7_kindFor_22 rfl ?_
        refine x_iconst (pc := 23) (v := (-1)) dX7_kindFor_23 fv_m1 ?_
        refine x_istore4 (pc := 24) dX7_kindFor_24 rfl ?_
        refine x_iconst (pc := 26) (v := 0) dX7_kindFor_26 rfl ?_
        refine x_istore5 (pc := 27) dX7_kindFor_27 rfl ?_
        refine x_loopI (fun j => [some (.ref 106), some (.int (nI k)), some (.int (M1 22 (fB k 0))), some (.int (B j).1), some (.int (B j).2), some (.int (nI j)), none, none]) (fun j M' => ∃ w, M' = fv_s M1 22 (fv_u (M1 22) (fB k 0) w)) 7 (by rw [hb0]; rfl) ⟨M1 22 (fB k 0), by rw [fv_u_id, fv_s_id]⟩ ?_ ?_
        · rintro j M' hj ⟨w, rfl⟩ hL
          have hee : pEq nb nm (fv_u (M1 22) (fB k 0) (nI j)) (fv_u (M 0) (fB k 0) (nI j)) := fv_u_cg hE1 rfl
          have hGj := (hGc j hj).cg hee
          have hGm : pGd ((fv_s M1 22 (fv_u (M1 22) (fB k 0) (nI j))) 22) nb nm := by rw [fv_s_same]; exact hGj
          refine x_iload (pc := 29) dX7_kindFor_29 rfl ?_
          refine x_bipush (pc := 31) (v := 6) dX7_kindFor_31 rfl ?_
          refine x_icmp_gt (pc := 33) dX7_kindFor_33 (tgt := 122) rfl (fun h33 => ?_) (fun h33 => ?_)
          ·
            exact absurd h33 (nI_nlt (b := j) (a := 6) (by omega) (by omega))
          ·
            refine x_aload_n (pc := 36) dX7_kindFor_36 rfl rfl ?_
            refine x_iload_n (pc := 37) dX7_kindFor_37 rfl rfl ?_
            refine x_iconst (pc := 38) (v := 0) dX7_kindFor_38 rfl ?_
            refine x_iload (pc := 39) dX7_kindFor_39 rfl ?_
            refine x_Vv (pc := 41) ks_X7_100 dX7_kindFor_41 (tb_106) rfl rfl (hX7_puts (f := 0) hk8 (by decide)) rfl rfl rfl (Nat.le_of_ble_eq_true rfl) ?_
            rw [fv_s_same, fv_s_s, fv_u_u]
            refine x_iconst (pc := 44) (v := 0) dX7_kindFor_44 rfl ?_
            refine x_istore6 (pc := 45) dX7_kindFor_45 rfl ?_
            refine x_iconst (pc := 47) (v := 0) dX7_kindFor_47 rfl ?_
            refine x_istore7 (pc := 48) dX7_kindFor_48 rfl ?_
            refine x_loop (fun i => [some (.ref 106), some (.int (nI k)), some (.int (M1 22 (fB k 0))), some (.int (B j).1), some (.int (B j).2), some (.int (nI j)), some (.int (pPn ((fv_s M1 22 (fv_u (M1 22) (fB k 0) (nI j))) 22) nb i)), some (.int (nI i))]) (fun _ => fv_s M1 22 (fv_u (M1 22) (fB k 0) (nI j))) nm rfl rfl (fun i hi hL2 => ?_) ?_
            · show fv_X E mX7_kindFor _ _ 50 [some (.ref 106), some (.int (nI k)), some (.int (M1 22 (fB k 0))), some (.int (B j).1), some (.int (B j).2), some (.int (nI j)), some (.int (pPn ((fv_s M1 22 (fv_u (M1 22) (fB k 0) (nI j))) 22) nb i)), some (.int (nI i))] [] (fv_s M1 22 (fv_u (M1 22) (fB k 0) (nI j)))
              replace hL2 : fv_X E mX7_kindFor _ _ 50 [some (.ref 106), some (.int (nI k)), some (.int (M1 22 (fB k 0))), some (.int (B j).1), some (.int (B j).2), some (.int (nI j)), some (.int (pPn ((fv_s M1 22 (fv_u (M1 22) (fB k 0) (nI j))) 22) nb (i + 1))), some (.int (nI (i + 1)))] [] (fv_s M1 22 (fv_u (M1 22) (fB k 0) (nI j))) := hL2
              refine x_iload (pc := 50) dX7_kindFor_50 rfl ?_
              refine x_aload_n (pc := 52) dX7_kindFor_52 rfl rfl ?_
              refine x_geta (pc := 53) fl_X7_9 dX7_kindFor_53 (tb_106) rfl ?_
              refine x_iconst (pc := 56) (v := 2) dX7_kindFor_56 rfl ?_
              refine x_iale (pc := 57) dX7_kindFor_57 (tb_107) ((rfl : (2 : Int32) = nI 2)) (by decide) (by first | decide | assumption) (hGm.2.2.1) ?_
              refine x_icmp_ge (pc := 58) dX7_kindFor_58 (tgt := 86) rfl (fun h58 => ?_) (fun h58 => ?_)
              ·
                exact absurd h58 (nI_ge hi (by omega))
              ·
                refine x_iload (pc := 61) dX7_kindFor_61 rfl ?_
                refine x_aload_n (pc := 63) dX7_kindFor_63 rfl rfl ?_
                refine x_iload (pc := 64) dX7_kindFor_64 rfl ?_
                refine x_Vi (pc := 66) ks_X7_104 dX7_kindFor_66 (tb_106) rfl rfl (hX7_npass hGm hi) rfl rfl rfl (Nat.le_of_ble_eq_true rfl) ?_
                refine x_ifb_eq (pc := 69) dX7_kindFor_69 (tgt := 76) rfl (fun h69 => ?_) (fun h69 => ?_)
                ·
                  have e := pPn_f h69
                  refine x_iconst (pc := 76) (v := 0) dX7_kindFor_76 rfl ?_
                  refine x_iadd (pc := 77) dX7_kindFor_77 ?_
                  first | rw [Int32.add_zero, e] | rw [show ∀ z : Int32, z + 1 = z + Int32.ofInt 1 from fun _ => rfl, e]
                  refine x_istore6 (pc := 78) dX7_kindFor_78 rfl ?_
                  refine x_iinc7 (pc := 80) dX7_kindFor_80 (by first | exact fv_inc _ | exact fv_dec _ | rfl) rfl ?_
                  refine x_goto (pc := 83) dX7_kindFor_83 (tgt := 50) rfl ?_
                  exact hL2
                ·
                  have e := pPn_t h69
                  refine x_iconst (pc := 72) (v := 1) dX7_kindFor_72 rfl ?_
                  refine x_goto (pc := 73) dX7_kindFor_73 (tgt := 77) rfl ?_
                  refine x_iadd (pc := 77) dX7_kindFor_77 ?_
                  first | rw [Int32.add_zero, e] | rw [show ∀ z : Int32, z + 1 = z + Int32.ofInt 1 from fun _ => rfl, e]
                  refine x_istore6 (pc := 78) dX7_kindFor_78 rfl ?_
                  refine x_iinc7 (pc := 80) dX7_kindFor_80 (by first | exact fv_inc _ | exact fv_dec _ | rfl) rfl ?_
                  refine x_goto (pc := 83) dX7_kindFor_83 (tgt := 50) rfl ?_
                  exact hL2
            · show fv_X E mX7_kindFor _ _ 50 [some (.ref 106), some (.int (nI k)), some (.int (M1 22 (fB k 0))), some (.int (B j).1), some (.int (B j).2), some (.int (nI j)), some (.int (pPn ((fv_s M1 22 (fv_u (M1 22) (fB k 0) (nI j))) 22) nb nm)), some (.int (nI nm))] [] (fv_s M1 22 (fv_u (M1 22) (fB k 0) (nI j)))
              rw [show pPn ((fv_s M1 22 (fv_u (M1 22) (fB k 0) (nI j))) 22) nb nm = FF j from by rw [fv_s_same, hFj]; exact pPn_cg hee (hGc j hj).C]
              refine x_iload (pc := 50) dX7_kindFor_50 rfl ?_
              refine x_aload_n (pc := 52) dX7_kindFor_52 rfl rfl ?_
              refine x_geta (pc := 53) fl_X7_9 dX7_kindFor_53 (tb_106) rfl ?_
              refine x_iconst (pc := 56) (v := 2) dX7_kindFor_56 rfl ?_
              refine x_iale (pc := 57) dX7_kindFor_57 (tb_107) ((rfl : (2 : Int32) = nI 2)) (by decide) (by first | decide | assumption) (hGm.2.2.1) ?_
              refine x_icmp_ge (pc := 58) dX7_kindFor_58 (tgt := 86) rfl (fun h58 => ?_) (fun h58 => ?_)
              ·
                refine x_iload (pc := 86) dX7_kindFor_86 rfl ?_
                refine x_iload (pc := 88) dX7_kindFor_88 rfl ?_
                refine x_icmp_le (pc := 90) dX7_kindFor_90 (tgt := 98) rfl (fun h90 => ?_) (fun h90 => ?_)
                ·
                  rw [hs0' j (Int32.not_lt.mpr h90)] at hL
                  refine x_iload_n (pc := 98) dX7_kindFor_98 rfl rfl ?_
                  refine x_istore_n3 (pc := 99) dX7_kindFor_99 rfl ?_
                  refine x_iload (pc := 100) dX7_kindFor_100 rfl ?_
                  refine x_iload (pc := 102) dX7_kindFor_102 rfl ?_
                  refine x_icmp_le (pc := 104) dX7_kindFor_104 (tgt := 112) rfl (fun h104 => ?_) (fun h104 => ?_)
                  ·
                    refine x_iload (pc := 112) dX7_kindFor_112 rfl ?_
                    refine x_istore4 (pc := 114) dX7_kindFor_114 rfl ?_
                    refine x_fg6 (x_fg7 ?_)
                    refine x_iinc5 (pc := 116) dX7_kindFor_116 (by first | exact fv_inc _ | exact fv_dec _ | rfl) rfl ?_
                    refine x_goto (pc := 119) dX7_kindFor_119 (tgt := 29) rfl ?_
                    first | exact hL _ ⟨_, rfl⟩ | exact absurd h90 h104 | exact absurd h104 h90
                  ·
                    refine x_iload (pc := 107) dX7_kindFor_107 rfl ?_
                    refine x_goto (pc := 109) dX7_kindFor_109 (tgt := 114) rfl ?_
                    refine x_istore4 (pc := 114) dX7_kindFor_114 rfl ?_
                    refine x_fg6 (x_fg7 ?_)
                    refine x_iinc5 (pc := 116) dX7_kindFor_116 (by first | exact fv_inc _ | exact fv_dec _ | rfl) rfl ?_
                    refine x_goto (pc := 119) dX7_kindFor_119 (tgt := 29) rfl ?_
                    first | exact hL _ ⟨_, rfl⟩ | exact absurd h90 h104 | exact absurd h104 h90
                ·
                  rw [hs1' j (Int32.not_le.mp h90)] at hL
                  refine x_iload (pc := 93) dX7_kindFor_93 rfl ?_
                  refine x_goto (pc := 95) dX7_kindFor_95 (tgt := 99) rfl ?_
                  refine x_istore_n3 (pc := 99) dX7_kindFor_99 rfl ?_
                  refine x_iload (pc := 100) dX7_kindFor_100 rfl ?_
                  refine x_iload (pc := 102) dX7_kindFor_102 rfl ?_
                  refine x_icmp_le (pc := 104) dX7_kindFor_104 (tgt := 112) rfl (fun h104 => ?_) (fun h104 => ?_)
                  ·
                    refine x_iload (pc := 112) dX7_kindFor_112 rfl ?_
                    refine x_istore4 (pc := 114) dX7_kindFor_114 rfl ?_
                    refine x_fg6 (x_fg7 ?_)
                    refine x_iinc5 (pc := 116) dX7_kindFor_116 (by first | exact fv_inc _ | exact fv_dec _ | rfl) rfl ?_
                    refine x_goto (pc := 119) dX7_kindFor_119 (tgt := 29) rfl ?_
                    first | exact hL _ ⟨_, rfl⟩ | exact absurd h90 h104 | exact absurd h104 h90
                  ·
                    refine x_iload (pc := 107) dX7_kindFor_107 rfl ?_
                    refine x_goto (pc := 109) dX7_kindFor_109 (tgt := 114) rfl ?_
                    refine x_istore4 (pc := 114) dX7_kindFor_114 rfl ?_
                    refine x_fg6 (x_fg7 ?_)
                    refine x_iinc5 (pc := 116) dX7_kindFor_116 (by first | exact fv_inc _ | exact fv_dec _ | rfl) rfl ?_
                    refine x_goto (pc := 119) dX7_kindFor_119 (tgt := 29) rfl ?_
                    first | exact hL _ ⟨_, rfl⟩ | exact absurd h90 h104 | exact absurd h104 h90
              ·
                exact absurd (Int32.le_refl _) h58
        · rintro M' ⟨w, rfl⟩
          refine x_iload (pc := 29) dX7_kindFor_29 rfl ?_
          refine x_bipush (pc := 31) (v := 6) dX7_kindFor_31 rfl ?_
          refine x_icmp_gt (pc := 33) dX7_kindFor_33 (tgt := 122) rfl (fun h33 => ?_) (fun h33 => ?_)
          ·
            refine x_aload_n (pc := 122) dX7_kindFor_122 rfl rfl ?_
            refine x_iload_n (pc := 123) dX7_kindFor_123 rfl rfl ?_
            refine x_iconst (pc := 124) (v := 0) dX7_kindFor_124 rfl ?_
            refine x_iload_n (pc := 125) dX7_kindFor_125 rfl rfl ?_
            refine x_Vv (pc := 126) ks_X7_100 dX7_kindFor_126 (tb_106) rfl rfl (hX7_puts (f := 0) hk8 (by decide)) rfl rfl rfl (Nat.le_of_ble_eq_true rfl) ?_
            rw [fv_s_same, fv_s_s, fv_u_u, fv_u_id, fv_s_id]
            refine x_iload_n (pc := 129) dX7_kindFor_129 rfl rfl ?_
            refine x_iret (pc := 130) dX7_kindFor_130 rfl (by first | rfl | exact fv_nz _) ?_
            exact ⟨rfl, pFr.rfl', rfl, rfl, fun _ _ _ => pEq.rfl'⟩
          ·
            exact absurd (nI_lt (a := 6) (by omega) (by omega)) h33
      ·
        contradiction
  · skip
    refine pOp.bad (v := -1000001) 0 I ?_ (fun M1 hF => ?_)
    · skip
      refine fv_F.of (ls := [some (.ref 0), some (.int b), none, none, none, none]) (by decide) (Nat.le_of_ble_eq_true rfl) rfl ?_
      refine x_aload_n (pc := 0) dX6_kindFor_0 rfl rfl ?_
      refine x_geta (pc := 1) fl_X6_12 dX6_kindFor_1 (tb_fv) rfl ?_
      refine x_iload_n (pc := 4) dX6_kindFor_4 rfl rfl ?_
      refine x_Vi (pc := 5) ks_X6_68 dX6_kindFor_5 (tb_st (by assumption)) rfl rfl (hHb hB) rfl rfl rfl (Nat.le_of_ble_eq_true rfl) ?_
      refine x_ifb_ne (pc := 8) dX6_kindFor_8 (tgt := 18) rfl (fun h8 => ?_) (fun h8 => ?_)
      ·
        contradiction
      ·
        refine x_aload_n (pc := 11) dX6_kindFor_11 rfl rfl ?_
        refine x_ldc (pc := 12) kc_X6_55 dX6_kindFor_12 ?_
        refine x_Vi (pc := 14) ks_X6_56 dX6_kindFor_14 (tb_fv) rfl rfl (hX6_fin 0 (-1000001) (by decide +kernel) (by decide)) rfl rfl rfl (Nat.le_of_ble_eq_true rfl) ?_
        refine x_iret (pc := 17) dX6_kindFor_17 rfl (by first | rfl | exact fv_nz _) ?_
        exact ⟨rfl, rfl⟩
    · skip
      have e22 : M1 22 = M 22 := hF 22 (by decide)
      have hG1 : pGd (M1 22) nb nm := by rw [e22]; exact hG2
      have hE1 : pEq nb nm (M1 22) (M 0) := by rw [e22]; exact hE
      have hB1 := hG1.1
      have hM1 := hG1.2.2.1
      refine fv_F.of (ls := [some (.ref 106), some (.int b), none, none, none, none, none, none]) (by decide) (Nat.le_of_ble_eq_true rfl) rfl ?_
      refine x_aload_n (pc := 0) dX7_kindFor_0 rfl rfl ?_
      refine x_iload_n (pc := 1) dX7_kindFor_1 rfl rfl ?_
      refine x_Vi (pc := 2) ks_X7_120 dX7_kindFor_2 (tb_106) rfl rfl (hX7_isBird (x := nI nb) hB1) rfl rfl rfl (Nat.le_of_ble_eq_true rfl) ?_
      refine x_ifb_ne (pc := 5) dX7_kindFor_5 (tgt := 14) rfl (fun h5 => ?_) (fun h5 => ?_)
      ·
        contradiction
      ·
        refine x_aload_n (pc := 8) dX7_kindFor_8 rfl rfl ?_
        refine x_iconst (pc := 9) (v := 0) dX7_kindFor_9 rfl ?_
        refine x_Vi (pc := 10) ks_X7_114 dX7_kindFor_10 (tb_106) rfl rfl (hX7_noL 0 (-1000001) (by decide) (by decide +kernel)) rfl rfl rfl (Nat.le_of_ble_eq_true rfl) ?_
        refine x_iret (pc := 13) dX7_kindFor_13 rfl (by first | rfl | exact fv_nz _) ?_
        exact ⟨rfl, rfl⟩
