def pDz (z : Int32) : Int32 := ((pZ z).toUInt32 >>> (Int32.toUInt32 8 &&& Int32.toUInt32 31)).toInt32
theorem pDz_n (z : Int32) : ∃ x, x < 2 ^ 24 ∧ pDz z = nI x := by
  have hy : (pDz z).toBitVec.toNat = (pZ z).toBitVec.toNat / 2 ^ 8 := pk_ushr (pZ z) 8 8 (by decide +kernel)
  have hlt : (pZ z).toBitVec.toNat < 2 ^ 32 := (pZ z).toBitVec.isLt
  have ti : (pDz z).toInt = if 2 * (pDz z).toBitVec.toNat < 2 ^ 32 then ((pDz z).toBitVec.toNat : Int) else ((pDz z).toBitVec.toNat : Int) - (2 ^ 32 : Nat) := BitVec.toInt_eq_toNat_cond _
  rw [hy, if_pos (by omega)] at ti
  obtain ⟨j, hj, e⟩ := nI_of (x := pDz z) (by rw [Int32.lt_iff_toInt_lt, ti, show (0 : Int32).toInt = 0 by decide]; omega)
  refine ⟨j, ?_, e⟩
  rw [e, nI_toInt hj] at ti
  omega
theorem pGd_z {nb nm : Nat} {σ : Nat → Int32} {v : Int32} (hG : pGd σ nb nm) : pGd (fv_u σ 3 v) nb nm := pGd_u hG (by decide) (by decide) (fun b hb => pG1_of (fun j j1 j2 => by unfold fB at j1; exact fv_u_ne _ _ (by omega)) (hG.2.2.2.2.1 b hb)) (fun m hm => pG2_of (fun j j1 j2 => by unfold fM at j1; exact fv_u_ne _ _ (by omega)) (hG.2.2.2.2.2.1 m hm)) (fun c _ e => by omega) (fun c _ e => by omega) (fun e => by omega)
abbrev pYz (nb t : Nat) (σ : Nat → Int32) : Nat → Int32 := fv_u (pSea σ nb t) 3 (pZ (pSea σ nb t 3))
def pYm (nb nm t : Nat) (σ : Nat → Int32) : Nat := (pDz (pSea σ nb t 3)).toNatClampNeg % nm
def pYr (nb nm t : Nat) (σ : Nat → Int32) : Nat → Int32 := if nm = 0 then pSea σ nb t else pVo nb (pYm nb nm t σ) (pYz nb t σ)
abbrev pYc (nb nm t : Nat) (σ : Nat → Int32) : Prop := ¬ nm = 0 ∧ pVp (pYz nb t σ) (pYm nb nm t σ) (pCo (pYz nb t σ) (pYm nb nm t σ)) nb
theorem fv_F.m {E : fv_E} {d : Nat} {y : fv_Y} {args : List Value} {M M0 M1 : fv_M} {r : Option Value} (h : fv_F E d y args M r M0) (e : M0 = M1) : fv_F E d y args M r M1 := by subst e; exact h
theorem pYr_n {nb nm t mm : Nat} {σ : Nat → Int32} (h : ¬ nm = 0) (e : pYm nb nm t σ = mm) : pYr nb nm t σ = pVo nb mm (pYz nb t σ) := by
  subst e
  exact if_neg h
theorem pYc_n {nb nm t mm : Nat} {σ : Nat → Int32} (h : ¬ nm = 0) (e : pYm nb nm t σ = mm) : pVp (pYz nb t σ) mm (pCo (pYz nb t σ) mm) nb ↔ pYc nb nm t σ := by
  subst e
  exact ⟨fun q => ⟨h, q⟩, fun q => q.2⟩
def pYN (nb nm t : Nat) (σ : Nat → Int32) (n : Nat) : Nat → Int32 := fN (fun i τ => pYr nb nm (t + i) τ) σ n
def pYs (nb nm t : Nat) (σ : Nat → Int32) (n : Nat) : Int32 := sN (fun i => bI (pYc nb nm (t + i) (pYN nb nm t σ i))) n
theorem pYN_s (nb nm t : Nat) (σ : Nat → Int32) (n : Nat) : pYN nb nm t σ (n + 1) = pYr nb nm (t + n) (pYN nb nm t σ n) := rfl
theorem pYs_t {nb nm t n : Nat} {σ : Nat → Int32} (h : pYc nb nm (t + n) (pYN nb nm t σ n)) : pYs nb nm t σ n + 1 = pYs nb nm t σ (n + 1) := by
  show _ = pYs nb nm t σ n + bI (pYc nb nm (t + n) (pYN nb nm t σ n))
  rw [bI_t h]
theorem pYs_f {nb nm t n : Nat} {σ : Nat → Int32} (h : ¬ pYc nb nm (t + n) (pYN nb nm t σ n)) : pYs nb nm t σ n = pYs nb nm t σ (n + 1) := by
  show _ = pYs nb nm t σ n + bI (pYc nb nm (t + n) (pYN nb nm t σ n))
  rw [bI_f h, Int32.add_zero]
theorem pYr_1 {nb nm t : Nat} {σ : Nat → Int32} (hG : pGd σ nb nm) (eT : σ 0 = nI t) (ht : t + 1 < 2 ^ 30) : pGd (pYr nb nm t σ) nb nm ∧ pYr nb nm t σ 0 = nI (t + 1) := by
  have h1 := pGd_sea (t := t) hG ht
  have h0 : pSea σ nb t 0 = nI (t + 1) := by unfold pSea; rw [fv_u_same, nI_1]
  unfold pYr
  by_cases h : nm = 0
  · rw [if_pos h]; exact ⟨h1, h0⟩
  · rw [if_neg h]
    have hm : pYm nb nm t σ < nm := Nat.mod_lt _ (by omega)
    refine ⟨pGd_vote (pGd_z h1) hm, ?_⟩
    have hb := hG.2.1
    have hn := hG.2.2.2.1
    refine (pVote_keep (fun b h => by unfold fB; omega) (by omega) (by unfold fM; omega) (fun b h => by unfold fB; omega)).trans ?_
    exact (fv_u_ne (pSea σ nb t) (pZ (pSea σ nb t 3)) (by decide)).trans h0
theorem pYN_1 {nb nm t : Nat} {σ : Nat → Int32} (hG : pGd σ nb nm) (eT : σ 0 = nI t) : ∀ n, t + n < 2 ^ 30 → pGd (pYN nb nm t σ n) nb nm ∧ pYN nb nm t σ n 0 = nI (t + n) := by
  intro n
  induction n with
  | zero => intro _; exact ⟨hG, eT⟩
  | succ n ih =>
    intro hn
    obtain ⟨h1, h2⟩ := ih (by omega)
    exact pYr_1 h1 h2 (by omega)
theorem pYr_cg {nb nm t : Nat} {σ τ : Nat → Int32} (hG : pGd σ nb nm) (ht : t + 1 < 2 ^ 30) (h : pEq nb nm τ σ) : pEq nb nm (pYr nb nm t τ) (pYr nb nm t σ) ∧ (pYc nb nm t τ ↔ pYc nb nm t σ) := by
  have h1 : pEq nb nm (pSea τ nb t) (pSea σ nb t) := pSea_cg h
  have e3 : pSea τ nb t 3 = pSea σ nb t 3 := h1.n (by decide)
  have h2 : pEq nb nm (pYz nb t τ) (pYz nb t σ) := fv_u_cg h1 (by rw [e3])
  have em : pYm nb nm t τ = pYm nb nm t σ := by unfold pYm; rw [e3]
  unfold pYr pYc
  by_cases hn : nm = 0
  · rw [if_pos hn, if_pos hn]
    exact ⟨h1, ⟨fun q => absurd hn q.1, fun q => absurd hn q.1⟩⟩
  · have hm : pYm nb nm t σ < nm := Nat.mod_lt _ (by omega)
    have hGz : pGd (pYz nb t σ) nb nm := pGd_z (pGd_sea hG ht)
    rw [if_neg hn, if_neg hn, em]
    refine ⟨pVo_cg h2 hm hGz.C, ?_⟩
    rw [pCo_cg h2 hm]
    exact ⟨fun q => ⟨hn, (pVp_cg h2 hm (pCo_of hGz.C hm).2).mp q.2⟩, fun q => ⟨hn, (pVp_cg h2 hm (pCo_of hGz.C hm).2).mpr q.2⟩⟩
theorem pYN_cg {nb nm t : Nat} {σ τ : Nat → Int32} (hG : pGd σ nb nm) (eT : σ 0 = nI t) (h : pEq nb nm τ σ) : ∀ n, t + n < 2 ^ 30 → pEq nb nm (pYN nb nm t τ n) (pYN nb nm t σ n) := by
  intro n
  induction n with
  | zero => intro _; exact h
  | succ n ih => intro hn; exact (pYr_cg (pYN_1 hG eT n (by omega)).1 (by omega) (ih (by omega))).1
theorem pYs_cg {nb nm t : Nat} {σ τ : Nat → Int32} (hG : pGd σ nb nm) (eT : σ 0 = nI t) (h : pEq nb nm τ σ) {n : Nat} (hn : t + n < 2 ^ 30) : pYs nb nm t τ n = pYs nb nm t σ n :=
  sN_congr (fun i hi => bI_congr (pYr_cg (pYN_1 hG eT i (by omega)).1 (by omega) (pYN_cg hG eT h i (by omega))).2)
theorem op_years {E : fv_E} {n : Int32} {M : fv_M} (I : pInv M) : pOp E mX6_years mX7_years [.int n] M := by
  obtain ⟨nb, nm, hG, hE, t, ht, eT⟩ := I.1
  have hs0 : 0 < 3 := by decide
  have hs1 : 1 < 3 := by decide
  have hB := hG.1
  have hb := hG.2.1
  have hM := hG.2.2.1
  have hn := hG.2.2.2.1
  have hK := hG.K
  have hC := hG.C
  have hG2 : pGd (M 22) nb nm := hG.cg hE
  by_cases hx1 : 1 ≤ n ∧ n ≤ 20
  · obtain ⟨k, hk, rfl⟩ := pUm (n := 20) (v := n) (by decide) ⟨Int32.le_trans (by decide) hx1.1, hx1.2⟩
    have hsum : nI t + nI k = nI (t + k) := nI_add t k
    by_cases hx2 : t + k ≤ 99999
    · obtain ⟨hS1, hS2⟩ := pYN_1 hG eT k (by omega)
      refine pOp.mut (v := pYs nb nm t (M 0) k) (pYN nb nm t (M 0) k) I ?_ (fun M1 hF h0 => ?_)
      · skip
        refine fv_P.of (ls := [some (.ref 0), some (.int (nI k)), none, none]) (by decide) (Nat.le_of_ble_eq_true rfl) rfl ?_
        refine x_iload_n (pc := 0) dX6_years_0 rfl rfl ?_
        refine x_iconst (pc := 1) (v := 1) dX6_years_1 rfl ?_
        refine x_icmp_lt (pc := 2) dX6_years_2 (tgt := 11) rfl (fun h2 => ?_) (fun h2 => ?_)
        ·
          exact absurd hx1.1 (Int32.not_le.mpr h2)
        ·
          refine x_iload_n (pc := 5) dX6_years_5 rfl rfl ?_
          refine x_bipush (pc := 6) (v := 20) dX6_years_6 rfl ?_
          refine x_icmp_le (pc := 8) dX6_years_8 (tgt := 18) rfl (fun h8 => ?_) (fun h8 => ?_)
          ·
            refine x_aload_n (pc := 18) dX6_years_18 rfl rfl ?_
            refine x_geta (pc := 19) fl_X6_12 dX6_years_19 (tb_fv) rfl ?_
            refine x_geti (pc := 22) fl_X6_130 dX6_years_22 (tb_st (by assumption)) rfl (eT) ?_
            refine x_iload_n (pc := 25) dX6_years_25 rfl rfl ?_
            refine x_iadd (pc := 26) dX6_years_26 ?_
            rw [hsum]
            refine x_ldc (pc := 27) kc_X6_133 dX6_years_27 ?_
            refine x_icmp_le (pc := 29) dX6_years_29 (tgt := 39) rfl (fun h29 => ?_) (fun h29 => ?_)
            ·
              refine x_iconst (pc := 39) (v := 0) dX6_years_39 rfl ?_
              refine x_istore_n2 (pc := 40) dX6_years_40 rfl ?_
              refine x_iconst (pc := 41) (v := 0) dX6_years_41 rfl ?_
              refine x_istore_n3 (pc := 42) dX6_years_42 rfl ?_
              refine x_loop (fun i => [some (.ref 0), some (.int (nI k)), some (.int (pYs nb nm t (M 0) i)), some (.int (nI i))]) (fun i => fv_s M 0 (pYN nb nm t (M 0) i)) k rfl (fv_s_id M 0) (fun i hi hL => ?_) ?_
              · show fv_X E mX6_years _ _ 43 [some (.ref 0), some (.int (nI k)), some (.int (pYs nb nm t (M 0) i)), some (.int (nI i))] [] (fv_s M 0 (pYN nb nm t (M 0) i))
                replace hL : fv_X E mX6_years _ _ 43 [some (.ref 0), some (.int (nI k)), some (.int (pYs nb nm t (M 0) (i + 1))), some (.int (nI (i + 1)))] [] (fv_s M 0 (pYr nb nm (t + i) (pYN nb nm t (M 0) i))) := hL
                obtain ⟨g1, g2⟩ := pYN_1 hG eT i (by omega)
                have hst := @pYs_t nb nm t i (M 0)
                have hsf := @pYs_f nb nm t i (M 0)
                generalize hτ : pYN nb nm t (M 0) i = τ at *
                have hp := hX4_passSeason (E := E) (d := 10) (s := 0) (nb := nb) (t := t + i) (M := fv_s M 0 τ) hs0 (by rw [fv_s_same]; exact g1.1) hb (by rw [fv_s_same]; exact g2) (by omega)
                rw [fv_s_same, fv_s_s] at hp
                have gs := pGd_sea g1 (t := t + i) (by omega)
                have hmc : (fv_s M 0 (pSea τ nb (t + i))) 0 2 = nI nm := by rw [fv_s_same]; exact gs.2.2.1
                have hdr := hX4_draw (E := E) (d := 12) (s := 0) (M := fv_s M 0 (pSea τ nb (t + i))) hs0
                rw [fv_s_same, fv_s_s] at hdr
                obtain ⟨x, hx, ex⟩ := pDz_n (pSea τ nb (t + i) 3)
                have em : pYm nb nm (t + i) τ = x % nm := by unfold pYm; rw [ex, nI_clamp (by omega)]
                have hcv : 0 < nm → fv_F E (9 + 3) mX4_castVote [.ref (aSt 0), .ref (aM 0 (x % nm))] (fv_s M 0 (pYz nb (t + i) τ)) (some (.int (bI (pYc nb nm (t + i) τ)))) (fv_s M 0 (pYr nb nm (t + i) τ)) := fun h0 => by
                  have hm : x % nm < nm := Nat.mod_lt _ h0
                  have gz := pGd_z (v := pZ (pSea τ nb (t + i) 3)) gs
                  have hcc := pCo_of gz.C hm
                  have h := hX4_castVote (E := E) (d := 9) (s := 0) (nb := nb) (m := x % nm) (c := pCo (pYz nb (t + i) τ) (x % nm)) (M := fv_s M 0 (pYz nb (t + i) τ)) hs0 (by rw [fv_s_same]; exact gz.1) hb (by rw [fv_s_same]; exact gz.K) (by omega) (by rw [fv_s_same]; exact hcc.1) hcc.2
                  rw [fv_s_same, fv_s_s] at h
                  have hm0 : ¬ nm = 0 := by omega
                  exact (h.v (bI_congr (pYc_n hm0 em))).m (congrArg (fv_s M 0) (pYr_n hm0 em).symm)
                refine x_iload_n (pc := 43) dX6_years_43 rfl rfl ?_
                refine x_iload_n (pc := 44) dX6_years_44 rfl rfl ?_
                refine x_icmp_ge (pc := 45) dX6_years_45 (tgt := 107) rfl (fun h45 => ?_) (fun h45 => ?_)
                ·
                  exact absurd h45 (nI_ge hi (by omega))
                ·
                  refine x_aload_n (pc := 48) dX6_years_48 rfl rfl ?_
                  refine x_geta (pc := 49) fl_X6_12 dX6_years_49 (tb_fv) rfl ?_
                  refine x_Vv (pc := 52) ks_X6_135 dX6_years_52 (tb_st (by assumption)) rfl rfl (hp) rfl rfl rfl (Nat.le_of_ble_eq_true rfl) ?_
                  refine x_aload_n (pc := 55) dX6_years_55 rfl rfl ?_
                  refine x_geta (pc := 56) fl_X6_12 dX6_years_56 (tb_fv) rfl ?_
                  refine x_geti (pc := 59) fl_X6_88 dX6_years_59 (tb_st (by assumption)) rfl (hmc) ?_
                  refine x_if_le (pc := 62) dX6_years_62 (tgt := 101) rfl (fun h62 => ?_) (fun h62 => ?_)
                  ·
                    have h0 : nm = 0 := Nat.eq_zero_of_not_pos (fun q => absurd h62 (nI_nle q (by omega)))
                    rw [← hsf (fun q => q.1 h0), show pYr nb nm (t + i) τ = pSea τ nb (t + i) from by unfold pYr; rw [if_pos h0]] at hL
                    refine x_iinc3 (pc := 101) dX6_years_101 (by first | exact fv_inc _ | exact fv_dec _ | rfl) rfl ?_
                    refine x_goto (pc := 104) dX6_years_104 (tgt := 43) rfl ?_
                    exact hL
                  ·
                    have h0 : 0 < nm := Nat.pos_of_ne_zero (fun e => h62 (by rw [e]; decide))
                    refine x_aload_n (pc := 65) dX6_years_65 rfl rfl ?_
                    refine x_geta (pc := 66) fl_X6_12 dX6_years_66 (tb_fv) rfl ?_
                    refine x_aload_n (pc := 69) dX6_years_69 rfl rfl ?_
                    refine x_geta (pc := 70) fl_X6_12 dX6_years_70 (tb_fv) rfl ?_
                    refine x_geta (pc := 73) fl_X6_97 dX6_years_73 (tb_st (by assumption)) rfl ?_
                    refine x_aload_n (pc := 76) dX6_years_76 rfl rfl ?_
                    refine x_geta (pc := 77) fl_X6_12 dX6_years_77 (tb_fv) rfl ?_
                    refine x_Vi (pc := 80) ks_X6_225 dX6_years_80 (tb_st (by assumption)) rfl rfl (hdr) rfl rfl rfl (Nat.le_of_ble_eq_true rfl) ?_
                    rw [show ((pZ (pSea τ nb (t + i) 3)).toUInt32 >>> (Int32.toUInt32 8 &&& Int32.toUInt32 31)).toInt32 = nI x from ex]
                    refine x_aload_n (pc := 83) dX6_years_83 rfl rfl ?_
                    refine x_geta (pc := 84) fl_X6_12 dX6_years_84 (tb_fv) rfl ?_
                    refine x_geti (pc := 87) fl_X6_88 dX6_years_87 (tb_st (by assumption)) rfl (show _ = nI nm from by rw [fv_s_same, fv_u_ne _ _ (by decide)]; exact gs.2.2.1) ?_
                    refine x_irem (pc := 90) dX6_years_90 (nI_ne0 h0 (by omega)) ?_
                    rw [show nI x - nI x / nI nm * nI nm = nI (x % nm) from nI_rem (by omega) (by omega)]
                    refine x_motion (pc := 91) dX6_years_91 (by assumption) (rfl) (Nat.lt_of_lt_of_le (Nat.mod_lt _ h0) hn) ?_
                    refine x_Vi (pc := 92) ks_X6_127 dX6_years_92 (tb_st (by assumption)) rfl rfl (hcv h0) rfl rfl rfl (Nat.le_of_ble_eq_true rfl) ?_
                    refine x_ifb_eq (pc := 95) dX6_years_95 (tgt := 101) rfl (fun h95 => ?_) (fun h95 => ?_)
                    ·
                      rw [← hsf h95] at hL
                      refine x_iinc3 (pc := 101) dX6_years_101 (by first | exact fv_inc _ | exact fv_dec _ | rfl) rfl ?_
                      refine x_goto (pc := 104) dX6_years_104 (tgt := 43) rfl ?_
                      exact hL
                    ·
                      refine x_iinc2 (pc := 98) dX6_years_98 (hst h95) rfl ?_
                      refine x_iinc3 (pc := 101) dX6_years_101 (by first | exact fv_inc _ | exact fv_dec _ | rfl) rfl ?_
                      refine x_goto (pc := 104) dX6_years_104 (tgt := 43) rfl ?_
                      exact hL
              · show fv_X E mX6_years _ _ 43 [some (.ref 0), some (.int (nI k)), some (.int (pYs nb nm t (M 0) k)), some (.int (nI k))] [] (fv_s M 0 (pYN nb nm t (M 0) k))
                refine x_iload_n (pc := 43) dX6_years_43 rfl rfl ?_
                refine x_iload_n (pc := 44) dX6_years_44 rfl rfl ?_
                refine x_icmp_ge (pc := 45) dX6_years_45 (tgt := 107) rfl (fun h45 => ?_) (fun h45 => ?_)
                ·
                  refine x_iload_n (pc := 107) dX6_years_107 rfl rfl ?_
                  refine x_iret (pc := 108) dX6_years_108 rfl (by first | rfl | exact fv_nz _) ?_
                  exact ⟨rfl, pFr.rfl'.s (by decide), fv_s_same _ _ _⟩
                ·
                  exact absurd (Int32.le_refl _) h45
            ·
              exact absurd (nI_le (b := 99999) hx2 (by omega)) h29
          ·
            exact absurd hx1.2 h8
      · skip
        have e22 : M1 22 = M 22 := hF 22 (by decide)
        have hG1 : pGd (M1 22) nb nm := by rw [e22]; exact hG2
        have hE1 : pEq nb nm (M1 22) (M 0) := by rw [e22]; exact hE
        have hB1 := hG1.1
        have hM1 := hG1.2.2.1
        have eT1 : M1 22 0 = nI t := (hE1.n (by decide)).trans eT
        refine fv_P.of (ls := [some (.ref 106), some (.int (nI k)), none, none]) (by decide) (Nat.le_of_ble_eq_true rfl) rfl ?_
        refine x_iload_n (pc := 0) dX7_years_0 rfl rfl ?_
        refine x_iconst (pc := 1) (v := 1) dX7_years_1 rfl ?_
        refine x_bipush (pc := 2) (v := 20) dX7_years_2 rfl ?_
        refine x_Si (pc := 4) ks_X7_60 dX7_years_4 (hX7_in1) rfl rfl rfl (Nat.le_of_ble_eq_true rfl) ?_
        refine x_ifb_ne (pc := 7) dX7_years_7 (tgt := 16) rfl (fun h7 => ?_) (fun h7 => ?_)
        ·
          refine x_aload_n (pc := 16) dX7_years_16 rfl rfl ?_
          refine x_geta (pc := 17) fl_X7_9 dX7_years_17 (tb_106) rfl ?_
          refine x_iconst (pc := 20) (v := 0) dX7_years_20 rfl ?_
          refine x_iale (pc := 21) dX7_years_21 (tb_107) ((rfl : (0 : Int32) = nI 0)) (by decide) (by first | decide | assumption) (eT1) ?_
          refine x_iload_n (pc := 22) dX7_years_22 rfl rfl ?_
          refine x_iadd (pc := 23) dX7_years_23 ?_
          rw [hsum]
          refine x_ldc (pc := 24) kc_X7_139 dX7_years_24 ?_
          refine x_icmp_le (pc := 26) dX7_years_26 (tgt := 35) rfl (fun h26 => ?_) (fun h26 => ?_)
          ·
            refine x_iconst (pc := 35) (v := 0) dX7_years_35 rfl ?_
            refine x_istore_n2 (pc := 36) dX7_years_36 rfl ?_
            refine x_iconst (pc := 37) (v := 0) dX7_years_37 rfl ?_
            refine x_istore_n3 (pc := 38) dX7_years_38 rfl ?_
            refine x_loopI (fun i => [some (.ref 106), some (.int (nI k)), some (.int (pYs nb nm t (M1 22) i)), some (.int (nI i))]) (fun i M2 => pFr [22, 26] M1 M2 ∧ M2 22 = pYN nb nm t (M1 22) i) k rfl ⟨pFr.rfl', rfl⟩ ?_ ?_
            · rintro i M2 hi ⟨f0, f1⟩ hL
              obtain ⟨g1, g2⟩ := pYN_1 hG1 eT1 i (by omega)
              have hst := @pYs_t nb nm t i (M1 22)
              have hsf := @pYs_f nb nm t i (M1 22)
              have hNs := pYN_s nb nm t (M1 22) i
              generalize hτ : pYN nb nm t (M1 22) i = τ at *
              have hp := hX7_goesSeason (E := E) (d := 11) (nb := nb) (t := t + i) (M := M2) (by rw [f1]; exact g1.1) hb (by rw [f1]; exact g2) (by omega)
              rw [f1] at hp
              have gs := pGd_sea g1 (t := t + i) (by omega)
              have hmc : (fv_s M2 22 (pSea τ nb (t + i))) 22 2 = nI nm := by rw [fv_s_same]; exact gs.2.2.1
              have hdr := hX7_draw (E := E) (d := 12) (M := fv_s M2 22 (pSea τ nb (t + i)))
              rw [fv_s_same, fv_s_s] at hdr
              obtain ⟨x, hx, ex⟩ := pDz_n (pSea τ nb (t + i) 3)
              have em : pYm nb nm (t + i) τ = x % nm := by unfold pYm; rw [ex, nI_clamp (by omega)]
              have hcv : 0 < nm → fv_P E (6 + 6) mX7_votes [.ref 106, .int (nI (x % nm))] (fv_s M2 22 (pYz nb (t + i) τ)) (some (.int (bI (pYc nb nm (t + i) τ)))) (fun M3 => pFr [22, 26] M1 M3 ∧ M3 22 = pYr nb nm (t + i) τ) := fun h0 => by
                have hm : x % nm < nm := Nat.mod_lt _ h0
                have gz := pGd_z (v := pZ (pSea τ nb (t + i) 3)) gs
                have h := hX7_vote1 (E := E) (d := 6) (nb := nb) (nm := nm) (m := x % nm) (M := fv_s M2 22 (pYz nb (t + i) τ)) (by rw [fv_s_same]; exact gz) hm
                rw [fv_s_same] at h
                have hm0 : ¬ nm = 0 := by omega
                exact (h.v (bI_congr (pYc_n hm0 em))).mono (fun M3 q => ⟨(f0.s (by decide)).tr q.1, q.2.trans (pYr_n hm0 em).symm⟩)
              refine x_iload_n (pc := 39) dX7_years_39 rfl rfl ?_
              refine x_iload_n (pc := 40) dX7_years_40 rfl rfl ?_
              refine x_icmp_ge (pc := 41) dX7_years_41 (tgt := 89) rfl (fun h41 => ?_) (fun h41 => ?_)
              ·
                exact absurd h41 (nI_ge hi (by omega))
              ·
                refine x_aload_n (pc := 44) dX7_years_44 rfl rfl ?_
                refine x_Vv (pc := 45) ks_X7_140 dX7_years_45 (tb_106) rfl rfl (hp) rfl rfl rfl (Nat.le_of_ble_eq_true rfl) ?_
                refine x_aload_n (pc := 48) dX7_years_48 rfl rfl ?_
                refine x_geta (pc := 49) fl_X7_9 dX7_years_49 (tb_106) rfl ?_
                refine x_iconst (pc := 52) (v := 2) dX7_years_52 rfl ?_
                refine x_iale (pc := 53) dX7_years_53 (tb_107) ((rfl : (2 : Int32) = nI 2)) (by decide) (by first | decide | assumption) (hmc) ?_
                refine x_if_le (pc := 54) dX7_years_54 (tgt := 83) rfl (fun h54 => ?_) (fun h54 => ?_)
                ·
                  have h0 : nm = 0 := Nat.eq_zero_of_not_pos (fun q => absurd h54 (nI_nle q (by omega)))
                  rw [← hsf (fun q => q.1 h0)] at hL
                  refine x_iinc3 (pc := 83) dX7_years_83 (by first | exact fv_inc _ | exact fv_dec _ | rfl) rfl ?_
                  refine x_goto (pc := 86) dX7_years_86 (tgt := 39) rfl ?_
                  first | exact hL _ ⟨h3.1, by rw [h3.2, hNs]⟩ | exact hL _ ⟨f0.s (by decide), by rw [fv_s_same, hNs]; unfold pYr; rw [if_pos h0]⟩
                ·
                  have h0 : 0 < nm := Nat.pos_of_ne_zero (fun e => h54 (by rw [e]; decide))
                  refine x_iload_n (pc := 57) dX7_years_57 rfl rfl ?_
                  refine x_aload_n (pc := 58) dX7_years_58 rfl rfl ?_
                  refine x_aload_n (pc := 59) dX7_years_59 rfl rfl ?_
                  refine x_Vi (pc := 60) ks_X7_206 dX7_years_60 (tb_106) rfl rfl (hdr) rfl rfl rfl (Nat.le_of_ble_eq_true rfl) ?_
                  rw [show ((pZ (pSea τ nb (t + i) 3)).toUInt32 >>> (Int32.toUInt32 8 &&& Int32.toUInt32 31)).toInt32 = nI x from ex]
                  refine x_aload_n (pc := 63) dX7_years_63 rfl rfl ?_
                  refine x_geta (pc := 64) fl_X7_9 dX7_years_64 (tb_106) rfl ?_
                  refine x_iconst (pc := 67) (v := 2) dX7_years_67 rfl ?_
                  refine x_iale (pc := 68) dX7_years_68 (tb_107) ((rfl : (2 : Int32) = nI 2)) (by decide) (by first | decide | assumption) (show _ = nI nm from by rw [fv_s_same, fv_u_ne _ _ (by decide)]; exact gs.2.2.1) ?_
                  refine x_irem (pc := 69) dX7_years_69 (nI_ne0 h0 (by omega)) ?_
                  rw [show nI x - nI x / nI nm * nI nm = nI (x % nm) from nI_rem (by omega) (by omega)]
                  refine x_Vip (pc := 70) ks_X7_136 dX7_years_70 (tb_106) rfl rfl (hcv h0) rfl rfl rfl (Nat.le_of_ble_eq_true rfl) (fun M3 h3 => ?_)
                  refine x_ifb_eq (pc := 73) dX7_years_73 (tgt := 80) rfl (fun h73 => ?_) (fun h73 => ?_)
                  ·
                    rw [← hsf h73] at hL
                    refine x_iconst (pc := 80) (v := 0) dX7_years_80 rfl ?_
                    refine x_iadd (pc := 81) dX7_years_81 ?_
                    try rw [Int32.add_zero]
                    refine x_istore_n2 (pc := 82) dX7_years_82 rfl ?_
                    refine x_iinc3 (pc := 83) dX7_years_83 (by first | exact fv_inc _ | exact fv_dec _ | rfl) rfl ?_
                    refine x_goto (pc := 86) dX7_years_86 (tgt := 39) rfl ?_
                    first | exact hL _ ⟨h3.1, by rw [h3.2, hNs]⟩ | exact hL _ ⟨f0.s (by decide), by rw [fv_s_same, hNs]; unfold pYr; rw [if_pos h0]⟩
                  ·
                    rw [← hst h73] at hL
                    refine x_iconst (pc := 76) (v := 1) dX7_years_76 rfl ?_
                    refine x_goto (pc := 77) dX7_years_77 (tgt := 81) rfl ?_
                    refine x_iadd (pc := 81) dX7_years_81 ?_
                    try rw [Int32.add_zero]
                    refine x_istore_n2 (pc := 82) dX7_years_82 rfl ?_
                    refine x_iinc3 (pc := 83) dX7_years_83 (by first | exact fv_inc _ | exact fv_dec _ | rfl) rfl ?_
                    refine x_goto (pc := 86) dX7_years_86 (tgt := 39) rfl ?_
                    first | exact hL _ ⟨h3.1, by rw [h3.2, hNs]⟩ | exact hL _ ⟨f0.s (by decide), by rw [fv_s_same, hNs]; unfold pYr; rw [if_pos h0]⟩
            · rintro M2 ⟨f0, f1⟩
              refine x_iload_n (pc := 39) dX7_years_39 rfl rfl ?_
              refine x_iload_n (pc := 40) dX7_years_40 rfl rfl ?_
              refine x_icmp_ge (pc := 41) dX7_years_41 (tgt := 89) rfl (fun h41 => ?_) (fun h41 => ?_)
              ·
                refine x_iload_n (pc := 89) dX7_years_89 rfl rfl ?_
                refine x_iret (pc := 90) dX7_years_90 rfl (by first | rfl | exact fv_nz _) ?_
                exact ⟨congrArg (fun z => some (Value.int z)) (pYs_cg hG eT hE1 (by omega)), f0.mono (by decide), nb, nm, by rw [f1]; exact ⟨hS1, pYN_cg hG eT hE1 k (by omega), t + k, by omega, hS2⟩⟩
              ·
                exact absurd (Int32.le_refl _) h41
          ·
            exact absurd (nI_le (b := 99999) hx2 (by omega)) h26
        ·
          contradiction
    · skip
      refine pOp.bad (v := -1000005) 4 I ?_ (fun M1 hF => ?_)
      · skip
        refine fv_F.of (ls := [some (.ref 0), some (.int (nI k)), none, none]) (by decide) (Nat.le_of_ble_eq_true rfl) rfl ?_
        refine x_iload_n (pc := 0) dX6_years_0 rfl rfl ?_
        refine x_iconst (pc := 1) (v := 1) dX6_years_1 rfl ?_
        refine x_icmp_lt (pc := 2) dX6_years_2 (tgt := 11) rfl (fun h2 => ?_) (fun h2 => ?_)
        ·
          exact absurd h2 (Int32.not_lt.mpr hx1.1)
        ·
          refine x_iload_n (pc := 5) dX6_years_5 rfl rfl ?_
          refine x_bipush (pc := 6) (v := 20) dX6_years_6 rfl ?_
          refine x_icmp_le (pc := 8) dX6_years_8 (tgt := 18) rfl (fun h8 => ?_) (fun h8 => ?_)
          ·
            refine x_aload_n (pc := 18) dX6_years_18 rfl rfl ?_
            refine x_geta (pc := 19) fl_X6_12 dX6_years_19 (tb_fv) rfl ?_
            refine x_geti (pc := 22) fl_X6_130 dX6_years_22 (tb_st (by assumption)) rfl (eT) ?_
            refine x_iload_n (pc := 25) dX6_years_25 rfl rfl ?_
            refine x_iadd (pc := 26) dX6_years_26 ?_
            rw [hsum]
            refine x_ldc (pc := 27) kc_X6_133 dX6_years_27 ?_
            refine x_icmp_le (pc := 29) dX6_years_29 (tgt := 39) rfl (fun h29 => ?_) (fun h29 => ?_)
            ·
              exact absurd ((nI_leI (b := 99999) (by omega) (by omega)).mp h29) hx2
            ·
              refine x_aload_n (pc := 32) dX6_years_32 rfl rfl ?_
              refine x_ldc (pc := 33) kc_X6_134 dX6_years_33 ?_
              refine x_Vi (pc := 35) ks_X6_56 dX6_years_35 (tb_fv) rfl rfl (hX6_fin 4 (-1000005) (by decide +kernel) (by decide)) rfl rfl rfl (Nat.le_of_ble_eq_true rfl) ?_
              refine x_iret (pc := 38) dX6_years_38 rfl (by first | rfl | exact fv_nz _) ?_
              exact ⟨rfl, rfl⟩
          ·
            exact absurd hx1.2 h8
      · skip
        have e22 : M1 22 = M 22 := hF 22 (by decide)
        have hG1 : pGd (M1 22) nb nm := by rw [e22]; exact hG2
        have hE1 : pEq nb nm (M1 22) (M 0) := by rw [e22]; exact hE
        have hB1 := hG1.1
        have hM1 := hG1.2.2.1
        refine fv_F.of (ls := [some (.ref 106), some (.int (nI k)), none, none]) (by decide) (Nat.le_of_ble_eq_true rfl) rfl ?_
        refine x_iload_n (pc := 0) dX7_years_0 rfl rfl ?_
        refine x_iconst (pc := 1) (v := 1) dX7_years_1 rfl ?_
        refine x_bipush (pc := 2) (v := 20) dX7_years_2 rfl ?_
        refine x_Si (pc := 4) ks_X7_60 dX7_years_4 (hX7_in1) rfl rfl rfl (Nat.le_of_ble_eq_true rfl) ?_
        refine x_ifb_ne (pc := 7) dX7_years_7 (tgt := 16) rfl (fun h7 => ?_) (fun h7 => ?_)
        ·
          refine x_aload_n (pc := 16) dX7_years_16 rfl rfl ?_
          refine x_geta (pc := 17) fl_X7_9 dX7_years_17 (tb_106) rfl ?_
          refine x_iconst (pc := 20) (v := 0) dX7_years_20 rfl ?_
          refine x_iale (pc := 21) dX7_years_21 (tb_107) ((rfl : (0 : Int32) = nI 0)) (by decide) (by first | decide | assumption) ((hE1.n (by decide)).trans eT) ?_
          refine x_iload_n (pc := 22) dX7_years_22 rfl rfl ?_
          refine x_iadd (pc := 23) dX7_years_23 ?_
          rw [hsum]
          refine x_ldc (pc := 24) kc_X7_139 dX7_years_24 ?_
          refine x_icmp_le (pc := 26) dX7_years_26 (tgt := 35) rfl (fun h26 => ?_) (fun h26 => ?_)
          ·
            exact absurd ((nI_leI (b := 99999) (by omega) (by omega)).mp h26) hx2
          ·
            refine x_aload_n (pc := 29) dX7_years_29 rfl rfl ?_
            refine x_iconst (pc := 30) (v := 4) dX7_years_30 rfl ?_
            refine x_Vi (pc := 31) ks_X7_114 dX7_years_31 (tb_106) rfl rfl (hX7_noL 4 (-1000005) (by decide) (by decide +kernel)) rfl rfl rfl (Nat.le_of_ble_eq_true rfl) ?_
            refine x_iret (pc := 34) dX7_years_34 rfl (by first | rfl | exact fv_nz _) ?_
            exact ⟨rfl, rfl⟩
        ·
          contradiction
  · skip
    refine pOp.bad (v := -1000001) 0 I ?_ (fun M1 hF => ?_)
    · skip
      refine fv_F.of (ls := [some (.ref 0), some (.int n), none, none]) (by decide) (Nat.le_of_ble_eq_true rfl) rfl ?_
      refine x_iload_n (pc := 0) dX6_years_0 rfl rfl ?_
      refine x_iconst (pc := 1) (v := 1) dX6_years_1 rfl ?_
      refine x_icmp_lt (pc := 2) dX6_years_2 (tgt := 11) rfl (fun h2 => ?_) (fun h2 => ?_)
      ·
        refine x_aload_n (pc := 11) dX6_years_11 rfl rfl ?_
        refine x_ldc (pc := 12) kc_X6_55 dX6_years_12 ?_
        refine x_Vi (pc := 14) ks_X6_56 dX6_years_14 (tb_fv) rfl rfl (hX6_fin 0 (-1000001) (by decide +kernel) (by decide)) rfl rfl rfl (Nat.le_of_ble_eq_true rfl) ?_
        refine x_iret (pc := 17) dX6_years_17 rfl (by first | rfl | exact fv_nz _) ?_
        exact ⟨rfl, rfl⟩
      ·
        refine x_iload_n (pc := 5) dX6_years_5 rfl rfl ?_
        refine x_bipush (pc := 6) (v := 20) dX6_years_6 rfl ?_
        refine x_icmp_le (pc := 8) dX6_years_8 (tgt := 18) rfl (fun h8 => ?_) (fun h8 => ?_)
        ·
          exact absurd ⟨Int32.not_lt.mp h2, h8⟩ hx1
        ·
          refine x_aload_n (pc := 11) dX6_years_11 rfl rfl ?_
          refine x_ldc (pc := 12) kc_X6_55 dX6_years_12 ?_
          refine x_Vi (pc := 14) ks_X6_56 dX6_years_14 (tb_fv) rfl rfl (hX6_fin 0 (-1000001) (by decide +kernel) (by decide)) rfl rfl rfl (Nat.le_of_ble_eq_true rfl) ?_
          refine x_iret (pc := 17) dX6_years_17 rfl (by first | rfl | exact fv_nz _) ?_
          exact ⟨rfl, rfl⟩
    · skip
      have e22 : M1 22 = M 22 := hF 22 (by decide)
      have hG1 : pGd (M1 22) nb nm := by rw [e22]; exact hG2
      have hE1 : pEq nb nm (M1 22) (M 0) := by rw [e22]; exact hE
      have hB1 := hG1.1
      have hM1 := hG1.2.2.1
      refine fv_F.of (ls := [some (.ref 106), some (.int n), none, none]) (by decide) (Nat.le_of_ble_eq_true rfl) rfl ?_
      refine x_iload_n (pc := 0) dX7_years_0 rfl rfl ?_
      refine x_iconst (pc := 1) (v := 1) dX7_years_1 rfl ?_
      refine x_bipush (pc := 2) (v := 20) dX7_years_2 rfl ?_
      refine x_Si (pc := 4) ks_X7_60 dX7_years_4 (hX7_in1) rfl rfl rfl (Nat.le_of_ble_eq_true rfl) ?_
      refine x_ifb_ne (pc := 7) dX7_years_7 (tgt := 16) rfl (fun h7 => ?_) (fun h7 => ?_)
      ·
        contradiction
      ·
        refine x_aload_n (pc := 10) dX7_years_10 rfl rfl ?_
        refine x_iconst (pc := 11) (v := 0) dX7_years_11 rfl ?_
        refine x_Vi (pc := 12) ks_X7_114 dX7_years_12 (tb_106) rfl rfl (hX7_noL 0 (-1000001) (by decide) (by decide +kernel)) rfl rfl rfl (Nat.le_of_ble_eq_true rfl) ?_
        refine x_iret (pc := 15) dX7_years_15 rfl (by first | rfl | exact fv_nz _) ?_
        exact ⟨rfl, rfl⟩
theorem op_judge {E : fv_E} {s : Int32} {M : fv_M} (I : pInv M) : pOp E mX6_judge mX7_judge [.int s] M := by
  obtain ⟨nb, nm, hG, hE, t, ht, eT⟩ := I.1
  have hs0 : 0 < 3 := by decide
  have hs1 : 1 < 3 := by decide
  have hB := hG.1
  have hb := hG.2.1
  have hM := hG.2.2.1
  have hn := hG.2.2.2.1
  have hK := hG.K
  have hC := hG.C
  have hG2 : pGd (M 22) nb nm := hG.cg hE
  by_cases hs : 0 ≤ s ∧ s ≤ 3
  · obtain ⟨z, hz3, rfl⟩ := pUm (n := 3) (by decide) hs
    have hz : z < 4 := by omega
    obtain ⟨n, hn40, es, ez, ew, ec⟩ := I.2.2.2.1 z hz
    have hni : 13 + 2 * z ≠ 12 ∧ 14 + 2 * z ≠ 12 := by omega
    by_cases h0 : M (13 + 2 * z) 0 = 0
    · skip
      refine pOp.bad (v := -1000006) 5 I ?_ (fun M1 hF => ?_)
      · skip
        refine fv_F.of (ls := [some (.ref 0), some (.int (nI z)), none, none]) (by decide) (Nat.le_of_ble_eq_true rfl) rfl ?_
        refine x_iload_n (pc := 0) dX6_judge_0 rfl rfl ?_
        refine x_iconst (pc := 1) (v := 3) dX6_judge_1 rfl ?_
        refine x_Si (pc := 2) ks_X6_51 dX6_judge_2 (hX6_isUpTo) rfl rfl rfl (Nat.le_of_ble_eq_true rfl) ?_
        refine x_ifb_ne (pc := 5) dX6_judge_5 (tgt := 15) rfl (fun h5 => ?_) (fun h5 => ?_)
        ·
          refine x_aload_n (pc := 15) dX6_judge_15 rfl rfl ?_
          refine x_geta (pc := 16) fl_X6_35 dX6_judge_16 (tb_fv) rfl ?_
          refine x_iload_n (pc := 19) dX6_judge_19 rfl rfl ?_
          refine x_sheet (pc := 20) dX6_judge_20 (rfl) (by first | assumption | decide | omega) ?_
          refine x_astore_n2 (pc := 21) dX6_judge_21 rfl ?_
          refine x_aload_n (pc := 22) dX6_judge_22 rfl rfl ?_
          refine x_Vi (pc := 23) ks_X6_214 dX6_judge_23 (tb_sh (by assumption)) rfl rfl (hX3_isMissing hz) rfl rfl rfl (Nat.le_of_ble_eq_true rfl) ?_
          refine x_ifb_eq (pc := 26) dX6_judge_26 (tgt := 36) rfl (fun h26 => ?_) (fun h26 => ?_)
          ·
            exact absurd h0 h26
          ·
            refine x_aload_n (pc := 29) dX6_judge_29 rfl rfl ?_
            refine x_ldc (pc := 30) kc_X6_217 dX6_judge_30 ?_
            refine x_Vi (pc := 32) ks_X6_56 dX6_judge_32 (tb_fv) rfl rfl (hX6_fin 5 (-1000006) (by decide +kernel) (by decide)) rfl rfl rfl (Nat.le_of_ble_eq_true rfl) ?_
            refine x_iret (pc := 35) dX6_judge_35 rfl (by first | rfl | exact fv_nz _) ?_
            exact ⟨rfl, rfl⟩
        ·
          exact absurd hs h5
      · skip
        have e22 : M1 22 = M 22 := hF 22 (by decide)
        have hG1 : pGd (M1 22) nb nm := by rw [e22]; exact hG2
        have hE1 : pEq nb nm (M1 22) (M 0) := by rw [e22]; exact hE
        have hB1 := hG1.1
        have hM1 := hG1.2.2.1
        have w34 : M1 34 z = M (13 + 2 * z) 0 := by rw [hF 34 (by decide)]; exact ew
        have w35 : M1 35 z = nI n := by rw [hF 35 (by decide)]; exact ez
        have w36 : ∀ i, i < 40 → M1 36 (40 * z + i) = M (14 + 2 * z) i := fun i hi => by rw [hF 36 (by decide)]; exact ec i hi
        refine fv_F.of (ls := [some (.ref 106), some (.int (nI z)), none, none, none, none]) (by decide) (Nat.le_of_ble_eq_true rfl) rfl ?_
        refine x_aload_n (pc := 0) dX7_judge_0 rfl rfl ?_
        refine x_iload_n (pc := 1) dX7_judge_1 rfl rfl ?_
        refine x_Vi (pc := 2) ks_X7_199 dX7_judge_2 (tb_106) rfl rfl ((hX7_wrongSheet hz).v (show _ = (5 : Int32) from by rw [w34, if_pos h0])) rfl rfl rfl (Nat.le_of_ble_eq_true rfl) ?_
        refine x_istore_n2 (pc := 5) dX7_judge_5 rfl ?_
        refine x_iload_n (pc := 6) dX7_judge_6 rfl rfl ?_
        refine x_if_lt (pc := 7) dX7_judge_7 (tgt := 16) rfl (fun h7 => ?_) (fun h7 => ?_)
        ·
          exact absurd h7 (by decide)
        ·
          refine x_aload_n (pc := 10) dX7_judge_10 rfl rfl ?_
          refine x_iload_n (pc := 11) dX7_judge_11 rfl rfl ?_
          refine x_Vi (pc := 12) ks_X7_114 dX7_judge_12 (tb_106) rfl rfl (hX7_noL 5 (-1000006) (by decide) (by decide +kernel)) rfl rfl rfl (Nat.le_of_ble_eq_true rfl) ?_
          refine x_iret (pc := 15) dX7_judge_15 rfl (by first | rfl | exact fv_nz _) ?_
          exact ⟨rfl, rfl⟩
    · generalize hc : M (14 + 2 * z) = c at *
      have wall := wT_all (fun j => decide (0 ≤ c j ∧ c j ≤ nI nm - 1)) n
      have ws := wT_s (fun j => decide (0 ≤ c j ∧ c j ≤ nI nm - 1))
      obtain ⟨t1, t2, t3⟩ := wall
      have hTj : ∀ j, j < wT (fun j => decide (0 ≤ c j ∧ c j ≤ nI nm - 1)) n → 0 ≤ c j ∧ c j ≤ nI nm - 1 := fun j hj => of_decide_eq_true (t2 j hj)
      have hn3 : wT (fun j => decide (0 ≤ c j ∧ c j ≤ nI nm - 1)) n < n → ¬ (0 ≤ c (wT (fun j => decide (0 ≤ c j ∧ c j ≤ nI nm - 1)) n) ∧ c (wT (fun j => decide (0 ≤ c j ∧ c j ≤ nI nm - 1)) n) ≤ nI nm - 1) := fun h => of_decide_eq_false (t3 h)
      clear t2 t3
      have hps : ∀ j, ((fun j => decide (0 ≤ c j ∧ c j ≤ nI nm - 1)) j = true) ↔ (0 ≤ c j ∧ c j ≤ nI nm - 1) := fun j => decide_eq_true_iff
      generalize hP : (fun j => decide (0 ≤ c j ∧ c j ≤ nI nm - 1)) = P at *
      by_cases hT : wT P n = n
      · rw [hT] at hTj
        have hrow : ∀ i, i < n → (c i).toNatClampNeg < nm ∧ c i = nI (c i).toNatClampNeg := fun i hi => by
          obtain ⟨x, hx, ex⟩ := pUx (by omega) (hTj i hi)
          rw [ex, nI_clamp (by omega)]
          exact ⟨hx, rfl⟩
        refine pOp.qry (v := pVc (M 0) (fun i => (c i).toNatClampNeg) nb n) I ?_ (fun M1 hF => ?_)
        · have hbec := hX4_become (E := E) (d := 10) (s := 1) (t := 0) (nb := nb) (nm := nm) (M := M) hs1 hs0 (by decide) hB hb hM hn
          generalize hρ : pSB (M 1) (M 0) nb nm = ρ at hbec
          have hρe : pEq nb nm ρ (M 0) := by rw [← hρ]; exact pSB_eq hb
          have hGρ : pGd ρ nb nm := hG.cg hρe
          have hcv := hX4_castVotes (E := E) (d := 8) (s := 1) (nb := nb) (nm := nm) (q := aNu z) (k := n) (row := fun i => (c i).toNatClampNeg) (M := fv_s M 1 ρ) hs1 (by rw [fv_s_same]; exact hGρ.1) hb (by rw [fv_s_same]; exact hGρ.K) (by rw [fv_s_same]; exact hGρ.2.2.1) hn (by rw [fv_s_same]; exact hGρ.C) (tb_nu hz) (by omega) (by decide) hn40 (fun i hi => ⟨(hrow i hi).1, by rw [fv_s_ne _ _ (by omega), Nat.zero_add, hc]; exact (hrow i hi).2⟩)
          rw [fv_s_same, fv_s_s] at hcv
          have hcv2 := hcv.v (pVc_cg hρe hb hn hK hC (fun i hi => (hrow i hi).1))
          refine fv_P.of (ls := [some (.ref 0), some (.int (nI z)), none, none]) (by decide) (Nat.le_of_ble_eq_true rfl) rfl ?_
          refine x_iload_n (pc := 0) dX6_judge_0 rfl rfl ?_
          refine x_iconst (pc := 1) (v := 3) dX6_judge_1 rfl ?_
          refine x_Si (pc := 2) ks_X6_51 dX6_judge_2 (hX6_isUpTo) rfl rfl rfl (Nat.le_of_ble_eq_true rfl) ?_
          refine x_ifb_ne (pc := 5) dX6_judge_5 (tgt := 15) rfl (fun h5 => ?_) (fun h5 => ?_)
          ·
            refine x_aload_n (pc := 15) dX6_judge_15 rfl rfl ?_
            refine x_geta (pc := 16) fl_X6_35 dX6_judge_16 (tb_fv) rfl ?_
            refine x_iload_n (pc := 19) dX6_judge_19 rfl rfl ?_
            refine x_sheet (pc := 20) dX6_judge_20 (rfl) (by first | assumption | decide | omega) ?_
            refine x_astore_n2 (pc := 21) dX6_judge_21 rfl ?_
            refine x_aload_n (pc := 22) dX6_judge_22 rfl rfl ?_
            refine x_Vi (pc := 23) ks_X6_214 dX6_judge_23 (tb_sh (by assumption)) rfl rfl (hX3_isMissing hz) rfl rfl rfl (Nat.le_of_ble_eq_true rfl) ?_
            refine x_ifb_eq (pc := 26) dX6_judge_26 (tgt := 36) rfl (fun h26 => ?_) (fun h26 => ?_)
            ·
              refine x_iconst (pc := 36) (v := 0) dX6_judge_36 rfl ?_
              refine x_istore_n3 (pc := 37) dX6_judge_37 rfl ?_
              refine x_loop (fun j => [some (.ref 0), some (.int (nI z)), some (.ref (aSh z)), some (.int (nI j))]) (fun _ => M) (wT P n) rfl rfl (fun j hj hL => ?_) ?_
              · show fv_X E mX6_judge _ _ 38 [some (.ref 0), some (.int (nI z)), some (.ref (aSh z)), some (.int (nI j))] [] M
                replace hL : fv_X E mX6_judge _ _ 38 [some (.ref 0), some (.int (nI z)), some (.ref (aSh z)), some (.int (nI (j + 1)))] [] M := hL
                refine x_iload_n (pc := 38) dX6_judge_38 rfl rfl ?_
                refine x_aload_n (pc := 39) dX6_judge_39 rfl rfl ?_
                refine x_geti (pc := 40) fl_X6_255 dX6_judge_40 (tb_sh (by assumption)) rfl (es) ?_
                refine x_icmp_ge (pc := 43) dX6_judge_43 (tgt := 75) rfl (fun h43 => ?_) (fun h43 => ?_)
                ·
                  exact absurd h43 (nI_ge (by omega) (by omega))
                ·
                  refine x_aload_n (pc := 46) dX6_judge_46 rfl rfl ?_
                  refine x_geta (pc := 47) fl_X6_12 dX6_judge_47 (tb_fv) rfl ?_
                  refine x_aload_n (pc := 50) dX6_judge_50 rfl rfl ?_
                  refine x_geta (pc := 51) fl_X6_267 dX6_judge_51 (tb_sh (by assumption)) rfl ?_
                  refine x_iload_n (pc := 54) dX6_judge_54 rfl rfl ?_
                  refine x_iale (pc := 55) dX6_judge_55 (tb_nu hz) (rfl) (by omega) (by first | decide | assumption) (show _ = c j from by rw [hc, Nat.zero_add]) ?_
                  refine x_Vi (pc := 56) ks_X6_94 dX6_judge_56 (tb_st (by assumption)) rfl rfl (hHm hM) rfl rfl rfl (Nat.le_of_ble_eq_true rfl) ?_
                  refine x_ifb_ne (pc := 59) dX6_judge_59 (tgt := 69) rfl (fun h59 => ?_) (fun h59 => ?_)
                  ·
                    refine x_iinc3 (pc := 69) dX6_judge_69 (by first | exact fv_inc _ | exact fv_dec _ | rfl) rfl ?_
                    refine x_goto (pc := 72) dX6_judge_72 (tgt := 38) rfl ?_
                    exact hL
                  ·
                    exact absurd (hTj j (by omega)) h59
              · show fv_X E mX6_judge _ _ 38 [some (.ref 0), some (.int (nI z)), some (.ref (aSh z)), some (.int (nI (wT P n)))] [] M
                rw [hT]
                refine x_iload_n (pc := 38) dX6_judge_38 rfl rfl ?_
                refine x_aload_n (pc := 39) dX6_judge_39 rfl rfl ?_
                refine x_geti (pc := 40) fl_X6_255 dX6_judge_40 (tb_sh (by assumption)) rfl (es) ?_
                refine x_icmp_ge (pc := 43) dX6_judge_43 (tgt := 75) rfl (fun h43 => ?_) (fun h43 => ?_)
                ·
                  refine x_aload_n (pc := 75) dX6_judge_75 rfl rfl ?_
                  refine x_geta (pc := 76) fl_X6_16 dX6_judge_76 (tb_fv) rfl ?_
                  refine x_aload_n (pc := 79) dX6_judge_79 rfl rfl ?_
                  refine x_geta (pc := 80) fl_X6_12 dX6_judge_80 (tb_fv) rfl ?_
                  refine x_Vv (pc := 83) ks_X6_150 dX6_judge_83 (tb_st hs1) rfl rfl (hbec) rfl rfl rfl (Nat.le_of_ble_eq_true rfl) ?_
                  refine x_aload_n (pc := 86) dX6_judge_86 rfl rfl ?_
                  refine x_geta (pc := 87) fl_X6_16 dX6_judge_87 (tb_fv) rfl ?_
                  refine x_aload_n (pc := 90) dX6_judge_90 rfl rfl ?_
                  refine x_geta (pc := 91) fl_X6_267 dX6_judge_91 (tb_sh (by assumption)) rfl ?_
                  refine x_aload_n (pc := 94) dX6_judge_94 rfl rfl ?_
                  refine x_geti (pc := 95) fl_X6_255 dX6_judge_95 (tb_sh (by assumption)) rfl (show _ = nI n from by rw [fv_s_ne _ _ (by omega)]; exact es) ?_
                  refine x_Vi (pc := 98) ks_X6_279 dX6_judge_98 (tb_st hs1) rfl rfl (hcv2) rfl rfl rfl (Nat.le_of_ble_eq_true rfl) ?_
                  refine x_iret (pc := 101) dX6_judge_101 rfl (by first | rfl | exact fv_nz _) ?_
                  exact ⟨rfl, pFr.rfl'.s (by decide)⟩
                ·
                  exact absurd (Int32.le_refl _) h43
            ·
              exact absurd h26 h0
          ·
            exact absurd hs h5
        · skip
          have e22 : M1 22 = M 22 := hF 22 (by decide)
          have hG1 : pGd (M1 22) nb nm := by rw [e22]; exact hG2
          have hE1 : pEq nb nm (M1 22) (M 0) := by rw [e22]; exact hE
          have hB1 := hG1.1
          have hM1 := hG1.2.2.1
          have w34 : M1 34 z = M (13 + 2 * z) 0 := by rw [hF 34 (by decide)]; exact ew
          have w35 : M1 35 z = nI n := by rw [hF 35 (by decide)]; exact ez
          have w36 : ∀ i, i < 40 → M1 36 (40 * z + i) = c i := fun i hi => by rw [hF 36 (by decide)]; exact ec i hi
          obtain ⟨A, hA⟩ : ∃ A, A = pCpy (M1 24) (M1 22) 114 := ⟨_, rfl⟩
          have hAl : ∀ i, i < 114 → A i = M1 22 i := fun i hi => by rw [hA]; exact pCpy_lt hi
          have hsa := hX7_setsAside (E := E) (d := 12) (M := M1)
          rw [← hA] at hsa
          refine fv_P.of (ls := [some (.ref 106), some (.int (nI z)), none, none, none, none]) (by decide) (Nat.le_of_ble_eq_true rfl) rfl ?_
          refine x_aload_n (pc := 0) dX7_judge_0 rfl rfl ?_
          refine x_iload_n (pc := 1) dX7_judge_1 rfl rfl ?_
          refine x_Vi (pc := 2) ks_X7_199 dX7_judge_2 (tb_106) rfl rfl ((hX7_wrongSheet hz).v (show _ = (-1 : Int32) from by rw [w34, if_neg h0])) rfl rfl rfl (Nat.le_of_ble_eq_true rfl) ?_
          refine x_istore_n2 (pc := 5) dX7_judge_5 rfl ?_
          refine x_iload_n (pc := 6) dX7_judge_6 rfl rfl ?_
          refine x_if_lt (pc := 7) dX7_judge_7 (tgt := 16) rfl (fun h7 => ?_) (fun h7 => ?_)
          ·
            refine x_iconst (pc := 16) (v := 1) dX7_judge_16 rfl ?_
            refine x_istore_n3 (pc := 17) dX7_judge_17 rfl ?_
            refine x_iconst (pc := 18) (v := 0) dX7_judge_18 rfl ?_
            refine x_istore4 (pc := 19) dX7_judge_19 rfl ?_
            refine x_loop (fun j => [some (.ref 106), some (.int (nI z)), some (.int (-1)), some (.int (bI (wT P j = j))), some (.int (nI j)), none]) (fun _ => M1) n (by rw [bI_t (show wT P 0 = 0 from rfl)]; rfl) rfl (fun j hj hL => ?_) ?_
            · show fv_X E mX7_judge _ _ 21 [some (.ref 106), some (.int (nI z)), some (.int (-1)), some (.int (bI (wT P j = j))), some (.int (nI j)), none] [] M1
              replace hL : fv_X E mX7_judge _ _ 21 [some (.ref 106), some (.int (nI z)), some (.int (-1)), some (.int (bI (wT P (j + 1) = (j + 1)))), some (.int (nI (j + 1))), none] [] M1 := hL
              have hws := ws j
              refine x_iload (pc := 21) dX7_judge_21 rfl ?_
              refine x_aload_n (pc := 23) dX7_judge_23 rfl rfl ?_
              refine x_geta (pc := 24) fl_X7_50 dX7_judge_24 (tb_106) rfl ?_
              refine x_iload_n (pc := 27) dX7_judge_27 rfl rfl ?_
              refine x_iale (pc := 28) dX7_judge_28 (tb_120) (rfl) (hz) (by first | decide | assumption) (show _ = nI n from by rw [Nat.zero_add]; exact w35) ?_
              refine x_icmp_ge (pc := 29) dX7_judge_29 (tgt := 67) rfl (fun h29 => ?_) (fun h29 => ?_)
              ·
                exact absurd h29 (nI_ge hj (by omega))
              ·
                refine x_iload_n (pc := 32) dX7_judge_32 rfl rfl ?_
                refine x_ifb_eq (pc := 33) dX7_judge_33 (tgt := 59) rfl (fun h33 => ?_) (fun h33 => ?_)
                ·
                  rw [bI_f (fun q => h33 (hws.mp q).1)] at hL
                  refine x_iconst (pc := 59) (v := 0) dX7_judge_59 rfl ?_
                  refine x_istore_n3 (pc := 60) dX7_judge_60 rfl ?_
                  refine x_iinc4 (pc := 61) dX7_judge_61 (by first | exact fv_inc _ | exact fv_dec _ | rfl) rfl ?_
                  refine x_goto (pc := 64) dX7_judge_64 (tgt := 21) rfl ?_
                  exact hL
                ·
                  refine x_aload_n (pc := 36) dX7_judge_36 rfl rfl ?_
                  refine x_aload_n (pc := 37) dX7_judge_37 rfl rfl ?_
                  refine x_geta (pc := 38) fl_X7_53 dX7_judge_38 (tb_106) rfl ?_
                  refine x_bipush (pc := 41) (v := 40) dX7_judge_41 rfl ?_
                  refine x_iload_n (pc := 43) dX7_judge_43 rfl rfl ?_
                  refine x_imul (pc := 44) dX7_judge_44 ?_
                  refine x_iload (pc := 45) dX7_judge_45 rfl ?_
                  refine x_iadd (pc := 47) dX7_judge_47 ?_
                  refine x_iale (pc := 48) dX7_judge_48 (tb_121) (pCe_ix z j) (by omega) (by first | decide | assumption) (show _ = c j from by rw [Nat.zero_add]; exact w36 j (by omega)) ?_
                  refine x_Vi (pc := 49) ks_X7_126 dX7_judge_49 (tb_106) rfl rfl (hX7_isMotion (x := nI nm) hM1) rfl rfl rfl (Nat.le_of_ble_eq_true rfl) ?_
                  refine x_ifb_eq (pc := 52) dX7_judge_52 (tgt := 59) rfl (fun h52 => ?_) (fun h52 => ?_)
                  ·
                    rw [bI_f (fun q => h52 (of_decide_eq_true (hws.mp q).2))] at hL
                    refine x_iconst (pc := 59) (v := 0) dX7_judge_59 rfl ?_
                    refine x_istore_n3 (pc := 60) dX7_judge_60 rfl ?_
                    refine x_iinc4 (pc := 61) dX7_judge_61 (by first | exact fv_inc _ | exact fv_dec _ | rfl) rfl ?_
                    refine x_goto (pc := 64) dX7_judge_64 (tgt := 21) rfl ?_
                    exact hL
                  ·
                    rw [bI_t (hws.mpr ⟨h33, decide_eq_true h52⟩)] at hL
                    refine x_iconst (pc := 55) (v := 1) dX7_judge_55 rfl ?_
                    refine x_goto (pc := 56) dX7_judge_56 (tgt := 60) rfl ?_
                    refine x_istore_n3 (pc := 60) dX7_judge_60 rfl ?_
                    refine x_iinc4 (pc := 61) dX7_judge_61 (by first | exact fv_inc _ | exact fv_dec _ | rfl) rfl ?_
                    refine x_goto (pc := 64) dX7_judge_64 (tgt := 21) rfl ?_
                    exact hL
            · show fv_X E mX7_judge _ _ 21 [some (.ref 106), some (.int (nI z)), some (.int (-1)), some (.int (bI (wT P n = n))), some (.int (nI n)), none] [] M1
              refine x_iload (pc := 21) dX7_judge_21 rfl ?_
              refine x_aload_n (pc := 23) dX7_judge_23 rfl rfl ?_
              refine x_geta (pc := 24) fl_X7_50 dX7_judge_24 (tb_106) rfl ?_
              refine x_iload_n (pc := 27) dX7_judge_27 rfl rfl ?_
              refine x_iale (pc := 28) dX7_judge_28 (tb_120) (rfl) (hz) (by first | decide | assumption) (show _ = nI n from by rw [Nat.zero_add]; exact w35) ?_
              refine x_icmp_ge (pc := 29) dX7_judge_29 (tgt := 67) rfl (fun h29 => ?_) (fun h29 => ?_)
              ·
                refine x_iload_n (pc := 67) dX7_judge_67 rfl rfl ?_
                refine x_ifb_ne (pc := 68) dX7_judge_68 (tgt := 77) rfl (fun h68 => ?_) (fun h68 => ?_)
                ·
                  refine x_aload_n (pc := 77) dX7_judge_77 rfl rfl ?_
                  refine x_Vv (pc := 78) ks_X7_152 dX7_judge_78 (tb_106) rfl rfl (hsa) rfl rfl rfl (Nat.le_of_ble_eq_true rfl) ?_
                  refine x_iconst (pc := 81) (v := 0) dX7_judge_81 rfl ?_
                  refine x_istore4 (pc := 82) dX7_judge_82 rfl ?_
                  refine x_iconst (pc := 84) (v := 0) dX7_judge_84 rfl ?_
                  refine x_istore5 (pc := 85) dX7_judge_85 rfl ?_
                  refine x_loopI (fun j => [some (.ref 106), some (.int (nI z)), some (.int (-1)), some (.int (bI (wT P n = n))), some (.int (pVc (M1 22) (fun i => (c i).toNatClampNeg) nb j)), some (.int (nI j))]) (fun j M2 => pFr [22, 24, 26] M1 M2 ∧ M2 24 = A ∧ M2 22 = pVs (M1 22) (fun i => (c i).toNatClampNeg) nb j) n rfl ⟨pFr.rfl'.s (by decide), fv_s_same _ _ _, fv_s_ne _ _ (by decide)⟩ ?_ ?_
                  · rintro j M2 hj ⟨f0, fa, f1⟩ hL
                    have gj := pGd_votes (row := fun i => (c i).toNatClampNeg) hG1 j (fun i hi => (hrow i (by omega)).1)
                    have hv := hX7_vote1 (E := E) (d := 6) (nb := nb) (nm := nm) (m := (c j).toNatClampNeg) (M := M2) (by rw [f1]; exact gj) (hrow j hj).1
                    rw [f1] at hv
                    refine x_iload (pc := 87) dX7_judge_87 rfl ?_
                    refine x_aload_n (pc := 89) dX7_judge_89 rfl rfl ?_
                    refine x_geta (pc := 90) fl_X7_50 dX7_judge_90 (tb_106) rfl ?_
                    refine x_iload_n (pc := 93) dX7_judge_93 rfl rfl ?_
                    refine x_iale (pc := 94) dX7_judge_94 (tb_120) (rfl) (hz) (by first | decide | assumption) (show _ = nI n from by rw [f0 35 (by decide), Nat.zero_add]; exact w35) ?_
                    refine x_icmp_ge (pc := 95) dX7_judge_95 (tgt := 133) rfl (fun h95 => ?_) (fun h95 => ?_)
                    ·
                      exact absurd h95 (nI_ge hj (by omega))
                    ·
                      refine x_iload (pc := 98) dX7_judge_98 rfl ?_
                      refine x_aload_n (pc := 100) dX7_judge_100 rfl rfl ?_
                      refine x_aload_n (pc := 101) dX7_judge_101 rfl rfl ?_
                      refine x_geta (pc := 102) fl_X7_53 dX7_judge_102 (tb_106) rfl ?_
                      refine x_bipush (pc := 105) (v := 40) dX7_judge_105 rfl ?_
                      refine x_iload_n (pc := 107) dX7_judge_107 rfl rfl ?_
                      refine x_imul (pc := 108) dX7_judge_108 ?_
                      refine x_iload (pc := 109) dX7_judge_109 rfl ?_
                      refine x_iadd (pc := 111) dX7_judge_111 ?_
                      refine x_iale (pc := 112) dX7_judge_112 (tb_121) (pCe_ix z j) (by omega) (by first | decide | assumption) (show _ = nI (c j).toNatClampNeg from by rw [f0 36 (by decide), Nat.zero_add, w36 j (by omega)]; exact (hrow j hj).2) ?_
                      refine x_Vip (pc := 113) ks_X7_136 dX7_judge_113 (tb_106) rfl rfl (hv) rfl rfl rfl (Nat.le_of_ble_eq_true rfl) (fun M3 h3 => ?_)
                      refine x_ifb_eq (pc := 116) dX7_judge_116 (tgt := 123) rfl (fun h116 => ?_) (fun h116 => ?_)
                      ·
                        have e := pVc_f (row := fun i => (c i).toNatClampNeg) h116
                        refine x_iconst (pc := 123) (v := 0) dX7_judge_123 rfl ?_
                        refine x_iadd (pc := 124) dX7_judge_124 ?_
                        first | rw [Int32.add_zero, e] | rw [show ∀ y : Int32, y + 1 = y + Int32.ofInt 1 from fun _ => rfl, e]
                        refine x_istore4 (pc := 125) dX7_judge_125 rfl ?_
                        refine x_iinc5 (pc := 127) dX7_judge_127 (by first | exact fv_inc _ | exact fv_dec _ | rfl) rfl ?_
                        refine x_goto (pc := 130) dX7_judge_130 (tgt := 87) rfl ?_
                        exact hL _ ⟨f0.tr (h3.1.mono (by decide)), by rw [h3.1 24 (by decide)]; exact fa, h3.2⟩
                      ·
                        have e := pVc_t (row := fun i => (c i).toNatClampNeg) h116
                        refine x_iconst (pc := 119) (v := 1) dX7_judge_119 rfl ?_
                        refine x_goto (pc := 120) dX7_judge_120 (tgt := 124) rfl ?_
                        refine x_iadd (pc := 124) dX7_judge_124 ?_
                        first | rw [Int32.add_zero, e] | rw [show ∀ y : Int32, y + 1 = y + Int32.ofInt 1 from fun _ => rfl, e]
                        refine x_istore4 (pc := 125) dX7_judge_125 rfl ?_
                        refine x_iinc5 (pc := 127) dX7_judge_127 (by first | exact fv_inc _ | exact fv_dec _ | rfl) rfl ?_
                        refine x_goto (pc := 130) dX7_judge_130 (tgt := 87) rfl ?_
                        exact hL _ ⟨f0.tr (h3.1.mono (by decide)), by rw [h3.1 24 (by decide)]; exact fa, h3.2⟩
                  · rintro M2 ⟨f0, fa, f1⟩
                    refine x_iload (pc := 87) dX7_judge_87 rfl ?_
                    refine x_aload_n (pc := 89) dX7_judge_89 rfl rfl ?_
                    refine x_geta (pc := 90) fl_X7_50 dX7_judge_90 (tb_106) rfl ?_
                    refine x_iload_n (pc := 93) dX7_judge_93 rfl rfl ?_
                    refine x_iale (pc := 94) dX7_judge_94 (tb_120) (rfl) (hz) (by first | decide | assumption) (show _ = nI n from by rw [f0 35 (by decide), Nat.zero_add]; exact w35) ?_
                    refine x_icmp_ge (pc := 95) dX7_judge_95 (tgt := 133) rfl (fun h95 => ?_) (fun h95 => ?_)
                    ·
                      refine x_aload_n (pc := 133) dX7_judge_133 rfl rfl ?_
                      refine x_Vv (pc := 134) ks_X7_155 dX7_judge_134 (tb_106) rfl rfl (hX7_laysBack) rfl rfl rfl (Nat.le_of_ble_eq_true rfl) ?_
                      refine x_iload (pc := 137) dX7_judge_137 rfl ?_
                      refine x_iret (pc := 139) dX7_judge_139 rfl (by first | rfl | exact fv_nz _) ?_
                      exact ⟨congrArg (fun z => some (Value.int z)) (pVc_cg hE1 hb hn hK hC (fun i hi => (hrow i hi).1)), (f0.mono (by decide)).s (by decide), by rw [fv_s_ne _ _ (by decide), f0 21 (by decide)], by rw [fv_s_ne _ _ (by decide), f0 21 (by decide)], fun nb nm hi => by rw [fv_s_same, fa]; exact pEq_cpy hAl nb nm hi⟩
                    ·
                      exact absurd (Int32.le_refl _) h95
                ·
                  exact absurd hT h68
              ·
                exact absurd (Int32.le_refl _) h29
          ·
            exact absurd (by decide) h7
      · have hTlt : wT P n < n := by omega
        refine pOp.bad (v := -1000005) 4 I ?_ (fun M1 hF => ?_)
        · skip
          refine fv_F.of (ls := [some (.ref 0), some (.int (nI z)), none, none]) (by decide) (Nat.le_of_ble_eq_true rfl) rfl ?_
          refine x_iload_n (pc := 0) dX6_judge_0 rfl rfl ?_
          refine x_iconst (pc := 1) (v := 3) dX6_judge_1 rfl ?_
          refine x_Si (pc := 2) ks_X6_51 dX6_judge_2 (hX6_isUpTo) rfl rfl rfl (Nat.le_of_ble_eq_true rfl) ?_
          refine x_ifb_ne (pc := 5) dX6_judge_5 (tgt := 15) rfl (fun h5 => ?_) (fun h5 => ?_)
          ·
            refine x_aload_n (pc := 15) dX6_judge_15 rfl rfl ?_
            refine x_geta (pc := 16) fl_X6_35 dX6_judge_16 (tb_fv) rfl ?_
            refine x_iload_n (pc := 19) dX6_judge_19 rfl rfl ?_
            refine x_sheet (pc := 20) dX6_judge_20 (rfl) (by first | assumption | decide | omega) ?_
            refine x_astore_n2 (pc := 21) dX6_judge_21 rfl ?_
            refine x_aload_n (pc := 22) dX6_judge_22 rfl rfl ?_
            refine x_Vi (pc := 23) ks_X6_214 dX6_judge_23 (tb_sh (by assumption)) rfl rfl (hX3_isMissing hz) rfl rfl rfl (Nat.le_of_ble_eq_true rfl) ?_
            refine x_ifb_eq (pc := 26) dX6_judge_26 (tgt := 36) rfl (fun h26 => ?_) (fun h26 => ?_)
            ·
              refine x_iconst (pc := 36) (v := 0) dX6_judge_36 rfl ?_
              refine x_istore_n3 (pc := 37) dX6_judge_37 rfl ?_
              refine x_loop (fun j => [some (.ref 0), some (.int (nI z)), some (.ref (aSh z)), some (.int (nI j))]) (fun _ => M) (wT P n) rfl rfl (fun j hj hL => ?_) ?_
              · show fv_X E mX6_judge _ _ 38 [some (.ref 0), some (.int (nI z)), some (.ref (aSh z)), some (.int (nI j))] [] M
                replace hL : fv_X E mX6_judge _ _ 38 [some (.ref 0), some (.int (nI z)), some (.ref (aSh z)), some (.int (nI (j + 1)))] [] M := hL
                refine x_iload_n (pc := 38) dX6_judge_38 rfl rfl ?_
                refine x_aload_n (pc := 39) dX6_judge_39 rfl rfl ?_
                refine x_geti (pc := 40) fl_X6_255 dX6_judge_40 (tb_sh (by assumption)) rfl (es) ?_
                refine x_icmp_ge (pc := 43) dX6_judge_43 (tgt := 75) rfl (fun h43 => ?_) (fun h43 => ?_)
                ·
                  exact absurd h43 (nI_ge (by omega) (by omega))
                ·
                  refine x_aload_n (pc := 46) dX6_judge_46 rfl rfl ?_
                  refine x_geta (pc := 47) fl_X6_12 dX6_judge_47 (tb_fv) rfl ?_
                  refine x_aload_n (pc := 50) dX6_judge_50 rfl rfl ?_
                  refine x_geta (pc := 51) fl_X6_267 dX6_judge_51 (tb_sh (by assumption)) rfl ?_
                  refine x_iload_n (pc := 54) dX6_judge_54 rfl rfl ?_
                  refine x_iale (pc := 55) dX6_judge_55 (tb_nu hz) (rfl) (by omega) (by first | decide | assumption) (show _ = c j from by rw [hc, Nat.zero_add]) ?_
                  refine x_Vi (pc := 56) ks_X6_94 dX6_judge_56 (tb_st (by assumption)) rfl rfl (hHm hM) rfl rfl rfl (Nat.le_of_ble_eq_true rfl) ?_
                  refine x_ifb_ne (pc := 59) dX6_judge_59 (tgt := 69) rfl (fun h59 => ?_) (fun h59 => ?_)
                  ·
                    refine x_iinc3 (pc := 69) dX6_judge_69 (by first | exact fv_inc _ | exact fv_dec _ | rfl) rfl ?_
                    refine x_goto (pc := 72) dX6_judge_72 (tgt := 38) rfl ?_
                    exact hL
                  ·
                    exact absurd (hTj j hj) h59
              · show fv_X E mX6_judge _ _ 38 [some (.ref 0), some (.int (nI z)), some (.ref (aSh z)), some (.int (nI (wT P n)))] [] M
                refine x_iload_n (pc := 38) dX6_judge_38 rfl rfl ?_
                refine x_aload_n (pc := 39) dX6_judge_39 rfl rfl ?_
                refine x_geti (pc := 40) fl_X6_255 dX6_judge_40 (tb_sh (by assumption)) rfl (es) ?_
                refine x_icmp_ge (pc := 43) dX6_judge_43 (tgt := 75) rfl (fun h43 => ?_) (fun h43 => ?_)
                ·
                  exact absurd h43 (nI_ge hTlt (by omega))
                ·
                  refine x_aload_n (pc := 46) dX6_judge_46 rfl rfl ?_
                  refine x_geta (pc := 47) fl_X6_12 dX6_judge_47 (tb_fv) rfl ?_
                  refine x_aload_n (pc := 50) dX6_judge_50 rfl rfl ?_
                  refine x_geta (pc := 51) fl_X6_267 dX6_judge_51 (tb_sh (by assumption)) rfl ?_
                  refine x_iload_n (pc := 54) dX6_judge_54 rfl rfl ?_
                  refine x_iale (pc := 55) dX6_judge_55 (tb_nu hz) (rfl) (by omega) (by first | decide | assumption) (show _ = c (wT P n) from by rw [hc, Nat.zero_add]) ?_
                  refine x_Vi (pc := 56) ks_X6_94 dX6_judge_56 (tb_st (by assumption)) rfl rfl (hHm hM) rfl rfl rfl (Nat.le_of_ble_eq_true rfl) ?_
                  refine x_ifb_ne (pc := 59) dX6_judge_59 (tgt := 69) rfl (fun h59 => ?_) (fun h59 => ?_)
                  ·
                    exact absurd h59 (hn3 hTlt)
                  ·
                    refine x_aload_n (pc := 62) dX6_judge_62 rfl rfl ?_
                    refine x_ldc (pc := 63) kc_X6_134 dX6_judge_63 ?_
                    refine x_Vi (pc := 65) ks_X6_56 dX6_judge_65 (tb_fv) rfl rfl (hX6_fin 4 (-1000005) (by decide +kernel) (by decide)) rfl rfl rfl (Nat.le_of_ble_eq_true rfl) ?_
                    refine x_iret (pc := 68) dX6_judge_68 rfl (by first | rfl | exact fv_nz _) ?_
                    exact ⟨rfl, rfl⟩
            ·
              exact absurd h26 h0
          ·
            exact absurd hs h5
        · skip
          have e22 : M1 22 = M 22 := hF 22 (by decide)
          have hG1 : pGd (M1 22) nb nm := by rw [e22]; exact hG2
          have hE1 : pEq nb nm (M1 22) (M 0) := by rw [e22]; exact hE
          have hB1 := hG1.1
          have hM1 := hG1.2.2.1
          have w34 : M1 34 z = M (13 + 2 * z) 0 := by rw [hF 34 (by decide)]; exact ew
          have w35 : M1 35 z = nI n := by rw [hF 35 (by decide)]; exact ez
          have w36 : ∀ i, i < 40 → M1 36 (40 * z + i) = c i := fun i hi => by rw [hF 36 (by decide)]; exact ec i hi
          refine fv_F.of (ls := [some (.ref 106), some (.int (nI z)), none, none, none, none]) (by decide) (Nat.le_of_ble_eq_true rfl) rfl ?_
          refine x_aload_n (pc := 0) dX7_judge_0 rfl rfl ?_
          refine x_iload_n (pc := 1) dX7_judge_1 rfl rfl ?_
          refine x_Vi (pc := 2) ks_X7_199 dX7_judge_2 (tb_106) rfl rfl ((hX7_wrongSheet hz).v (show _ = (-1 : Int32) from by rw [w34, if_neg h0])) rfl rfl rfl (Nat.le_of_ble_eq_true rfl) ?_
          refine x_istore_n2 (pc := 5) dX7_judge_5 rfl ?_
          refine x_iload_n (pc := 6) dX7_judge_6 rfl rfl ?_
          refine x_if_lt (pc := 7) dX7_judge_7 (tgt := 16) rfl (fun h7 => ?_) (fun h7 => ?_)
          ·
            refine x_iconst (pc := 16) (v := 1) dX7_judge_16 rfl ?_
            refine x_istore_n3 (pc := 17) dX7_judge_17 rfl ?_
            refine x_iconst (pc := 18) (v := 0) dX7_judge_18 rfl ?_
            refine x_istore4 (pc := 19) dX7_judge_19 rfl ?_
            refine x_loop (fun j => [some (.ref 106), some (.int (nI z)), some (.int (-1)), some (.int (bI (wT P j = j))), some (.int (nI j)), none]) (fun _ => M1) n (by rw [bI_t (show wT P 0 = 0 from rfl)]; rfl) rfl (fun j hj hL => ?_) ?_
            · show fv_X E mX7_judge _ _ 21 [some (.ref 106), some (.int (nI z)), some (.int (-1)), some (.int (bI (wT P j = j))), some (.int (nI j)), none] [] M1
              replace hL : fv_X E mX7_judge _ _ 21 [some (.ref 106), some (.int (nI z)), some (.int (-1)), some (.int (bI (wT P (j + 1) = (j + 1)))), some (.int (nI (j + 1))), none] [] M1 := hL
              have hws := ws j
              refine x_iload (pc := 21) dX7_judge_21 rfl ?_
              refine x_aload_n (pc := 23) dX7_judge_23 rfl rfl ?_
              refine x_geta (pc := 24) fl_X7_50 dX7_judge_24 (tb_106) rfl ?_
              refine x_iload_n (pc := 27) dX7_judge_27 rfl rfl ?_
              refine x_iale (pc := 28) dX7_judge_28 (tb_120) (rfl) (hz) (by first | decide | assumption) (show _ = nI n from by rw [Nat.zero_add]; exact w35) ?_
              refine x_icmp_ge (pc := 29) dX7_judge_29 (tgt := 67) rfl (fun h29 => ?_) (fun h29 => ?_)
              ·
                exact absurd h29 (nI_ge hj (by omega))
              ·
                refine x_iload_n (pc := 32) dX7_judge_32 rfl rfl ?_
                refine x_ifb_eq (pc := 33) dX7_judge_33 (tgt := 59) rfl (fun h33 => ?_) (fun h33 => ?_)
                ·
                  rw [bI_f (fun q => h33 (hws.mp q).1)] at hL
                  refine x_iconst (pc := 59) (v := 0) dX7_judge_59 rfl ?_
                  refine x_istore_n3 (pc := 60) dX7_judge_60 rfl ?_
                  refine x_iinc4 (pc := 61) dX7_judge_61 (by first | exact fv_inc _ | exact fv_dec _ | rfl) rfl ?_
                  refine x_goto (pc := 64) dX7_judge_64 (tgt := 21) rfl ?_
                  exact hL
                ·
                  refine x_aload_n (pc := 36) dX7_judge_36 rfl rfl ?_
                  refine x_aload_n (pc := 37) dX7_judge_37 rfl rfl ?_
                  refine x_geta (pc := 38) fl_X7_53 dX7_judge_38 (tb_106) rfl ?_
                  refine x_bipush (pc := 41) (v := 40) dX7_judge_41 rfl ?_
                  refine x_iload_n (pc := 43) dX7_judge_43 rfl rfl ?_
                  refine x_imul (pc := 44) dX7_judge_44 ?_
                  refine x_iload (pc := 45) dX7_judge_45 rfl ?_
                  refine x_iadd (pc := 47) dX7_judge_47 ?_
                  refine x_iale (pc := 48) dX7_judge_48 (tb_121) (pCe_ix z j) (by omega) (by first | decide | assumption) (show _ = c j from by rw [Nat.zero_add]; exact w36 j (by omega)) ?_
                  refine x_Vi (pc := 49) ks_X7_126 dX7_judge_49 (tb_106) rfl rfl (hX7_isMotion (x := nI nm) hM1) rfl rfl rfl (Nat.le_of_ble_eq_true rfl) ?_
                  refine x_ifb_eq (pc := 52) dX7_judge_52 (tgt := 59) rfl (fun h52 => ?_) (fun h52 => ?_)
                  ·
                    rw [bI_f (fun q => h52 (of_decide_eq_true (hws.mp q).2))] at hL
                    refine x_iconst (pc := 59) (v := 0) dX7_judge_59 rfl ?_
                    refine x_istore_n3 (pc := 60) dX7_judge_60 rfl ?_
                    refine x_iinc4 (pc := 61) dX7_judge_61 (by first | exact fv_inc _ | exact fv_dec _ | rfl) rfl ?_
                    refine x_goto (pc := 64) dX7_judge_64 (tgt := 21) rfl ?_
                    exact hL
                  ·
                    rw [bI_t (hws.mpr ⟨h33, decide_eq_true h52⟩)] at hL
                    refine x_iconst (pc := 55) (v := 1) dX7_judge_55 rfl ?_
                    refine x_goto (pc := 56) dX7_judge_56 (tgt := 60) rfl ?_
                    refine x_istore_n3 (pc := 60) dX7_judge_60 rfl ?_
                    refine x_iinc4 (pc := 61) dX7_judge_61 (by first | exact fv_inc _ | exact fv_dec _ | rfl) rfl ?_
                    refine x_goto (pc := 64) dX7_judge_64 (tgt := 21) rfl ?_
                    exact hL
            · show fv_X E mX7_judge _ _ 21 [some (.ref 106), some (.int (nI z)), some (.int (-1)), some (.int (bI (wT P n = n))), some (.int (nI n)), none] [] M1
              refine x_iload (pc := 21) dX7_judge_21 rfl ?_
              refine x_aload_n (pc := 23) dX7_judge_23 rfl rfl ?_
              refine x_geta (pc := 24) fl_X7_50 dX7_judge_24 (tb_106) rfl ?_
              refine x_iload_n (pc := 27) dX7_judge_27 rfl rfl ?_
              refine x_iale (pc := 28) dX7_judge_28 (tb_120) (rfl) (hz) (by first | decide | assumption) (show _ = nI n from by rw [Nat.zero_add]; exact w35) ?_
              refine x_icmp_ge (pc := 29) dX7_judge_29 (tgt := 67) rfl (fun h29 => ?_) (fun h29 => ?_)
              ·
                refine x_iload_n (pc := 67) dX7_judge_67 rfl rfl ?_
                refine x_ifb_ne (pc := 68) dX7_judge_68 (tgt := 77) rfl (fun h68 => ?_) (fun h68 => ?_)
                ·
                  exact absurd h68 hT
                ·
                  refine x_aload_n (pc := 71) dX7_judge_71 rfl rfl ?_
                  refine x_iconst (pc := 72) (v := 4) dX7_judge_72 rfl ?_
                  refine x_Vi (pc := 73) ks_X7_114 dX7_judge_73 (tb_106) rfl rfl (hX7_noL 4 (-1000005) (by decide) (by decide +kernel)) rfl rfl rfl (Nat.le_of_ble_eq_true rfl) ?_
                  refine x_iret (pc := 76) dX7_judge_76 rfl (by first | rfl | exact fv_nz _) ?_
                  exact ⟨rfl, rfl⟩
              ·
                exact absurd (Int32.le_refl _) h29
          ·
            exact absurd (by decide) h7
  · skip
    refine pOp.bad (v := -1000001) 0 I ?_ (fun M1 hF => ?_)
    · skip
      refine fv_F.of (ls := [some (.ref 0), some (.int s), none, none]) (by decide) (Nat.le_of_ble_eq_true rfl) rfl ?_
      refine x_iload_n (pc := 0) dX6_judge_0 rfl rfl ?_
      refine x_iconst (pc := 1) (v := 3) dX6_judge_1 rfl ?_
      refine x_Si (pc := 2) ks_X6_51 dX6_judge_2 (hX6_isUpTo) rfl rfl rfl (Nat.le_of_ble_eq_true rfl) ?_
      refine x_ifb_ne (pc := 5) dX6_judge_5 (tgt := 15) rfl (fun h5 => ?_) (fun h5 => ?_)
      ·
        exact absurd h5 hs
      ·
        refine x_aload_n (pc := 8) dX6_judge_8 rfl rfl ?_
        refine x_ldc (pc := 9) kc_X6_55 dX6_judge_9 ?_
        refine x_Vi (pc := 11) ks_X6_56 dX6_judge_11 (tb_fv) rfl rfl (hX6_fin 0 (-1000001) (by decide +kernel) (by decide)) rfl rfl rfl (Nat.le_of_ble_eq_true rfl) ?_
        refine x_iret (pc := 14) dX6_judge_14 rfl (by first | rfl | exact fv_nz _) ?_
        exact ⟨rfl, rfl⟩
    · skip
      have e22 : M1 22 = M 22 := hF 22 (by decide)
      have hG1 : pGd (M1 22) nb nm := by rw [e22]; exact hG2
      have hE1 : pEq nb nm (M1 22) (M 0) := by rw [e22]; exact hE
      have hB1 := hG1.1
      have hM1 := hG1.2.2.1
      refine fv_F.of (ls := [some (.ref 106), some (.int s), none, none, none, none]) (by decide) (Nat.le_of_ble_eq_true rfl) rfl ?_
      refine x_aload_n (pc := 0) dX7_judge_0 rfl rfl ?_
      refine x_iload_n (pc := 1) dX7_judge_1 rfl rfl ?_
      refine x_Vi (pc := 2) ks_X7_199 dX7_judge_2 (tb_106) rfl rfl (hX7_wrongSheetF hs) rfl rfl rfl (Nat.le_of_ble_eq_true rfl) ?_
      refine x_istore_n2 (pc := 5) dX7_judge_5 rfl ?_
      refine x_iload_n (pc := 6) dX7_judge_6 rfl rfl ?_
      refine x_if_lt (pc := 7) dX7_judge_7 (tgt := 16) rfl (fun h7 => ?_) (fun h7 => ?_)
      ·
        exact absurd h7 (by decide)
      ·
        refine x_aload_n (pc := 10) dX7_judge_10 rfl rfl ?_
        refine x_iload_n (pc := 11) dX7_judge_11 rfl rfl ?_
        refine x_Vi (pc := 12) ks_X7_114 dX7_judge_12 (tb_106) rfl rfl (hX7_noL 0 (-1000001) (by decide) (by decide +kernel)) rfl rfl rfl (Nat.le_of_ble_eq_true rfl) ?_
        refine x_iret (pc := 15) dX7_judge_15 rfl (by first | rfl | exact fv_nz _) ?_
        exact ⟨rfl, rfl⟩
