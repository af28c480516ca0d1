section MUT
variable {E : fv_E} {y y' : fv_Y} {args : List Value} {M : fv_M} {v : Int32}
theorem pOp.mut (σ' : Nat → Int32) (I : pInv M) (h1 : fv_P E 13 y (.ref 0 :: args) M (some (.int v)) (fun M1 => pFr (0 :: pJk) M M1 ∧ M1 0 = σ')) (h2 : ∀ M1, pFr (0 :: pJk) M M1 → M1 0 = σ' → fv_P E 13 y' (.ref 106 :: args) M1 (some (.int v)) (fun M2 => pFr (22 :: pJm) M1 M2 ∧ ∃ nb nm, pI1 σ' (M2 22) nb nm)) : pOp E y y' args M :=
  pOp.of h1 (fun M1 hq => (h2 M1 hq.1 hq.2).mono (fun M2 ⟨g1, g2⟩ => by
    obtain ⟨hF, h0⟩ := hq
    refine pInv.all I ((hF.mono (by decide)).tr (g1.mono (by decide))) (by rw [g1 21 (by decide), hF 21 (by decide)]) (by rw [g1 21 (by decide), hF 21 (by decide)]) (by rw [g1 4 (by decide), hF 4 (by decide)]) ?_ ?_
    · rw [g1 0 (by decide), h0]; exact g2
    · rw [g1 12 (by decide), g1 25 (by decide), hF 12 (by decide), hF 25 (by decide)]; exact I.2.2.2.2.1))
end MUT
theorem pI1.u {σ τ : Nat → Int32} {nb nm i t : Nat} {v : Int32} (ht : t < 100000) (eT : σ 0 = nI t) (hE : pEq nb nm τ σ) (hG : pGd (fv_u σ i v) nb nm) (hi : i ≠ 0) : pI1 (fv_u σ i v) (fv_u τ i v) nb nm :=
  ⟨hG, fv_u_cg hE rfl, t, ht, by rw [fv_u_ne _ _ (fun q => hi q.symm)]; exact eT⟩
theorem pAddB_cg {nb nm : Nat} {k : Int32} {σ τ : Nat → Int32} (h : pEq nb nm τ σ) : pEq (nb + 1) nm (pAddB τ nb k) (pAddB σ nb k) := fun j hj => by
  simp only [pAddB, pHat, fv_u, pFill]
  by_cases e1 : j = 1
  · rw [if_pos e1, if_pos e1]
  rw [if_neg e1, if_neg e1]
  by_cases e2 : fB nb 3 ≤ j ∧ j < fB nb 3 + 4
  · rw [if_pos e2, if_pos e2]
  rw [if_neg e2, if_neg e2]
  by_cases e3 : j = fB nb 2
  · rw [if_pos e3, if_pos e3]
  rw [if_neg e3, if_neg e3]
  by_cases e4 : j = fB nb 1
  · rw [if_pos e4, if_pos e4]
  rw [if_neg e4, if_neg e4]
  by_cases e5 : j = fB nb 0
  · rw [if_pos e5, if_pos e5]
  rw [if_neg e5, if_neg e5]
  refine h j ?_
  unfold pLv at hj ⊢
  unfold fB at e2 e3 e4 e5
  omega
theorem pAddM_cg {nb nm : Nat} {k : Int32} {σ τ : Nat → Int32} (h : pEq nb nm τ σ) : pEq nb (nm + 1) (pAddM τ nm k) (pAddM σ nm k) := fun j hj => by
  simp only [pAddM, pBeg, fv_u]
  by_cases e1 : j = 2
  · rw [if_pos e1, if_pos e1]
  rw [if_neg e1, if_neg e1]
  by_cases e2 : j = fM nm 4
  · rw [if_pos e2, if_pos e2]
  rw [if_neg e2, if_neg e2]
  by_cases e3 : j = fM nm 3
  · rw [if_pos e3, if_pos e3]
  rw [if_neg e3, if_neg e3]
  by_cases e4 : j = fM nm 2
  · rw [if_pos e4, if_pos e4]
  rw [if_neg e4, if_neg e4]
  by_cases e5 : j = fM nm 1
  · rw [if_pos e5, if_pos e5]
  rw [if_neg e5, if_neg e5]
  by_cases e6 : j = fM nm 0
  · rw [if_pos e6, if_pos e6]
  rw [if_neg e6, if_neg e6]
  refine h j ?_
  unfold pLv at hj ⊢
  unfold fM at e2 e3 e4 e5 e6
  omega
theorem pAddB_0 {nb : Nat} {k : Int32} {σ : Nat → Int32} : pAddB σ nb k 0 = σ 0 := by
  unfold pAddB; rw [fv_u_ne _ _ (by decide), pHat_ne (Or.inl (by unfold fB; omega))]
theorem pAddM_0 {nm : Nat} {k : Int32} {σ : Nat → Int32} : pAddM σ nm k 0 = σ 0 := by
  unfold pAddM; rw [fv_u_ne _ _ (by decide), pBeg_ne (Or.inl (by unfold fM; omega))]
theorem hX7_greatest {E : fv_E} {d nb : Nat} {q : Int32} {M : fv_M} (hB : M 22 1 = nI nb) : fv_F E (d + 1) mX7_greatest [.ref 106, .int q] M (some (.int (if q = 0 then 3 else if q = 1 then 99 else if q = 2 then pAll nb else if q = 3 then 4 else 1))) M := by
  refine fv_F.of (ls := [some (.ref 106), some (.int q)]) (by decide) (Nat.le_of_ble_eq_true rfl) rfl ?_
  refine x_iload_n (pc := 0) dX7_greatest_0 rfl rfl ?_
  refine x_if_ne (pc := 1) dX7_greatest_1 (tgt := 8) rfl (fun h1 => ?_) (fun h1 => ?_)
  ·
    refine x_iload_n (pc := 8) dX7_greatest_8 rfl rfl ?_
    refine x_iconst (pc := 9) (v := 1) dX7_greatest_9 rfl ?_
    refine x_icmp_ne (pc := 10) dX7_greatest_10 (tgt := 18) rfl (fun h10 => ?_) (fun h10 => ?_)
    ·
      refine x_iload_n (pc := 18) dX7_greatest_18 rfl rfl ?_
      refine x_iconst (pc := 19) (v := 2) dX7_greatest_19 rfl ?_
      refine x_icmp_ne (pc := 20) dX7_greatest_20 (tgt := 30) rfl (fun h20 => ?_) (fun h20 => ?_)
      ·
        refine x_iload_n (pc := 30) dX7_greatest_30 rfl rfl ?_
        refine x_iconst (pc := 31) (v := 3) dX7_greatest_31 rfl ?_
        refine x_icmp_ne (pc := 32) dX7_greatest_32 (tgt := 39) rfl (fun h32 => ?_) (fun h32 => ?_)
        ·
          refine x_iconst (pc := 39) (v := 1) dX7_greatest_39 rfl ?_
          refine x_iret (pc := 40) dX7_greatest_40 rfl (by first | rfl | exact fv_nz _) ?_
          exact ⟨by simp_all, rfl⟩
        ·
          refine x_iconst (pc := 35) (v := 4) dX7_greatest_35 rfl ?_
          refine x_goto (pc := 36) dX7_greatest_36 (tgt := 40) rfl ?_
          refine x_iret (pc := 40) dX7_greatest_40 rfl (by first | rfl | exact fv_nz _) ?_
          exact ⟨by simp_all, rfl⟩
      ·
        refine x_aload_n (pc := 23) dX7_greatest_23 rfl rfl ?_
        refine x_Vi (pc := 24) ks_X7_129 dX7_greatest_24 (tb_106) rfl rfl (hX7_allBirds hB) rfl rfl rfl (Nat.le_of_ble_eq_true rfl) ?_
        refine x_goto (pc := 27) dX7_greatest_27 (tgt := 40) rfl ?_
        refine x_iret (pc := 40) dX7_greatest_40 rfl (by first | rfl | exact fv_nz _) ?_
        exact ⟨by simp_all, rfl⟩
    ·
      refine x_bipush (pc := 13) (v := 99) dX7_greatest_13 rfl ?_
      refine x_goto (pc := 15) dX7_greatest_15 (tgt := 40) rfl ?_
      refine x_iret (pc := 40) dX7_greatest_40 rfl (by first | rfl | exact fv_nz _) ?_
      exact ⟨by simp_all, rfl⟩
  ·
    refine x_iconst (pc := 4) (v := 3) dX7_greatest_4 rfl ?_
    refine x_goto (pc := 5) dX7_greatest_5 (tgt := 40) rfl ?_
    refine x_iret (pc := 40) dX7_greatest_40 rfl (by first | rfl | exact fv_nz _) ?_
    exact ⟨by simp_all, rfl⟩
def pSn (nb t : Nat) (σ : Nat → Int32) (n : Nat) : Nat → Int32 := fN (fun i τ => pSea τ nb (t + i)) σ n
theorem pSn_s (nb t : Nat) (σ : Nat → Int32) (n : Nat) : pSea (pSn nb t σ n) nb (t + n) = pSn nb t σ (n + 1) := rfl
theorem pSn_1 {nb nm t : Nat} {σ : Nat → Int32} (hG : pGd σ nb nm) (eT : σ 0 = nI t) : ∀ n, t + n < 2 ^ 30 → pGd (pSn nb t σ n) nb nm ∧ pSn nb t σ n 0 = nI (t + n) := by
  intro n
  induction n with
  | zero => intro _; exact ⟨hG, eT⟩
  | succ n ih =>
    intro hn
    obtain ⟨h1, h2⟩ := ih (by omega)
    refine ⟨pGd_sea h1 (by omega), ?_⟩
    rw [← pSn_s]
    unfold pSea
    rw [fv_u_same, nI_1]; rfl
theorem pSn_cg {nb nm t : Nat} {σ τ : Nat → Int32} (h : pEq nb nm τ σ) (n : Nat) : pEq nb nm (pSn nb t τ n) (pSn nb t σ n) := fN_cg (g := fun i ρ => pSea ρ nb (t + i)) (fun b _ _ _ h2 => pSea_cg h2) h
theorem op_bird {E : fv_E} {k : Int32} {M : fv_M} (I : pInv M) : pOp E mX6_bird mX7_bird [.int k] M := by
  obtain ⟨nb, nm, hG, hE, t, ht, eT⟩ := I.1
  have hs0 : 0 < 3 := by decide
  have hs1 : 1 < 3 := by decide
  have hB := hG.1
  have hb := hG.2.1
  have hM := hG.2.2.1
  have hn := hG.2.2.2.1
  have hK := hG.K
  have hC := hG.C
  have hG2 : pGd (M 22) nb nm := hG.cg hE
  by_cases hk : 0 ≤ k ∧ k ≤ 6
  · obtain ⟨z, hz, rfl⟩ := pUm (n := 6) (by decide) hk
    by_cases h8 : nb < 8
    · skip
      refine pOp.mut (v := nI nb) (pAddB (M 0) nb (nI z)) I ?_ (fun M1 hF h0 => ?_)
      · skip
        refine fv_P.of (ls := [some (.ref 0), some (.int (nI z))]) (by decide) (Nat.le_of_ble_eq_true rfl) rfl ?_
        refine x_iload_n (pc := 0) dX6_bird_0 rfl rfl ?_
        refine x_bipush (pc := 1) (v := 6) dX6_bird_1 rfl ?_
        refine x_Si (pc := 3) ks_X6_51 dX6_bird_3 (hX6_isUpTo) rfl rfl rfl (Nat.le_of_ble_eq_true rfl) ?_
        refine x_ifb_ne (pc := 6) dX6_bird_6 (tgt := 16) rfl (fun h6 => ?_) (fun h6 => ?_)
        ·
          refine x_aload_n (pc := 16) dX6_bird_16 rfl rfl ?_
          refine x_geta (pc := 17) fl_X6_12 dX6_bird_17 (tb_fv) rfl ?_
          refine x_geti (pc := 20) fl_X6_60 dX6_bird_20 (tb_st (by assumption)) rfl (hB) ?_
          refine x_bipush (pc := 23) (v := 8) dX6_bird_23 rfl ?_
          refine x_icmp_lt (pc := 25) dX6_bird_25 (tgt := 35) rfl (fun h25 => ?_) (fun h25 => ?_)
          ·
            refine x_aload_n (pc := 35) dX6_bird_35 rfl rfl ?_
            refine x_geta (pc := 36) fl_X6_12 dX6_bird_36 (tb_fv) rfl ?_
            refine x_iload_n (pc := 39) dX6_bird_39 rfl rfl ?_
            refine x_Vi (pc := 40) ks_X6_65 dX6_bird_40 (tb_st (by assumption)) rfl rfl (hX4_addBird hs0 hB h8) rfl rfl rfl (Nat.le_of_ble_eq_true rfl) ?_
            refine x_iret (pc := 43) dX6_bird_43 rfl (by first | rfl | exact fv_nz _) ?_
            exact ⟨rfl, pFr.rfl'.s (by decide), fv_s_same _ _ _⟩
          ·
            exact absurd (nI_lt (b := 8) h8 (by omega)) h25
        ·
          contradiction
      · skip
        have e22 : M1 22 = M 22 := hF 22 (by decide)
        have hG1 : pGd (M1 22) nb nm := by rw [e22]; exact hG2
        have hE1 : pEq nb nm (M1 22) (M 0) := by rw [e22]; exact hE
        have hB1 := hG1.1
        have hM1 := hG1.2.2.1
        skip
        refine fv_P.of (ls := [some (.ref 106), some (.int (nI z))]) (by decide) (Nat.le_of_ble_eq_true rfl) rfl ?_
        refine x_iload_n (pc := 0) dX7_bird_0 rfl rfl ?_
        refine x_iconst (pc := 1) (v := 0) dX7_bird_1 rfl ?_
        refine x_bipush (pc := 2) (v := 6) dX7_bird_2 rfl ?_
        refine x_Si (pc := 4) ks_X7_60 dX7_bird_4 (hX7_in1) rfl rfl rfl (Nat.le_of_ble_eq_true rfl) ?_
        refine x_ifb_ne (pc := 7) dX7_bird_7 (tgt := 16) rfl (fun h7 => ?_) (fun h7 => ?_)
        ·
          refine x_aload_n (pc := 16) dX7_bird_16 rfl rfl ?_
          refine x_geta (pc := 17) fl_X7_9 dX7_bird_17 (tb_106) rfl ?_
          refine x_iconst (pc := 20) (v := 1) dX7_bird_20 rfl ?_
          refine x_iale (pc := 21) dX7_bird_21 (tb_107) ((rfl : (1 : Int32) = nI 1)) (by decide) (by first | decide | assumption) (hB1) ?_
          refine x_bipush (pc := 22) (v := 8) dX7_bird_22 rfl ?_
          refine x_icmp_ne (pc := 24) dX7_bird_24 (tgt := 33) rfl (fun h24 => ?_) (fun h24 => ?_)
          ·
            refine x_aload_n (pc := 33) dX7_bird_33 rfl rfl ?_
            refine x_iload_n (pc := 34) dX7_bird_34 rfl rfl ?_
            refine x_Vv (pc := 35) ks_X7_117 dX7_bird_35 (tb_106) rfl rfl (hX7_addsBird hB1 h8) rfl rfl rfl (Nat.le_of_ble_eq_true rfl) ?_
            refine x_aload_n (pc := 38) dX7_bird_38 rfl rfl ?_
            refine x_geta (pc := 39) fl_X7_9 dX7_bird_39 (tb_106) rfl ?_
            refine x_iconst (pc := 42) (v := 1) dX7_bird_42 rfl ?_
            refine x_iale (pc := 43) dX7_bird_43 (tb_107) ((rfl : (1 : Int32) = nI 1)) (by decide) (by first | decide | assumption) (show _ = nI (nb + 1) from by rw [fv_s_same]; unfold pAddB; rw [fv_u_same, nI_1]) ?_
            refine x_iconst (pc := 44) (v := 1) dX7_bird_44 rfl ?_
            refine x_isub (pc := 45) dX7_bird_45 ?_
            refine x_iret (pc := 46) dX7_bird_46 rfl (by first | rfl | exact fv_nz _) ?_
            exact ⟨by rw [nI_pred], pFr.rfl'.s (by decide), nb + 1, nm, pGd_addB hG h8 (by omega), by rw [fv_s_same]; exact pAddB_cg hE1, t, ht, by rw [pAddB_0]; exact eT⟩
          ·
            exact absurd ((nI_eq (b := 8) (by omega) (by omega)).mp h24) (by omega)
        ·
          contradiction
    · have e8 : nb = 8 := by omega
      refine pOp.bad (v := -1000002) 1 I ?_ (fun M1 hF => ?_)
      · skip
        refine fv_F.of (ls := [some (.ref 0), some (.int (nI z))]) (by decide) (Nat.le_of_ble_eq_true rfl) rfl ?_
        refine x_iload_n (pc := 0) dX6_bird_0 rfl rfl ?_
        refine x_bipush (pc := 1) (v := 6) dX6_bird_1 rfl ?_
        refine x_Si (pc := 3) ks_X6_51 dX6_bird_3 (hX6_isUpTo) rfl rfl rfl (Nat.le_of_ble_eq_true rfl) ?_
        refine x_ifb_ne (pc := 6) dX6_bird_6 (tgt := 16) rfl (fun h6 => ?_) (fun h6 => ?_)
        ·
          refine x_aload_n (pc := 16) dX6_bird_16 rfl rfl ?_
          refine x_geta (pc := 17) fl_X6_12 dX6_bird_17 (tb_fv) rfl ?_
          refine x_geti (pc := 20) fl_X6_60 dX6_bird_20 (tb_st (by assumption)) rfl (hB.trans (congrArg nI e8)) ?_
          refine x_bipush (pc := 23) (v := 8) dX6_bird_23 rfl ?_
          refine x_icmp_lt (pc := 25) dX6_bird_25 (tgt := 35) rfl (fun h25 => ?_) (fun h25 => ?_)
          ·
            exact absurd h25 Int32.lt_irrefl
          ·
            refine x_aload_n (pc := 28) dX6_bird_28 rfl rfl ?_
            refine x_ldc (pc := 29) kc_X6_64 dX6_bird_29 ?_
            refine x_Vi (pc := 31) ks_X6_56 dX6_bird_31 (tb_fv) rfl rfl (hX6_fin 1 (-1000002) (by decide +kernel) (by decide)) rfl rfl rfl (Nat.le_of_ble_eq_true rfl) ?_
            refine x_iret (pc := 34) dX6_bird_34 rfl (by first | rfl | exact fv_nz _) ?_
            exact ⟨rfl, rfl⟩
        ·
          contradiction
      · skip
        have e22 : M1 22 = M 22 := hF 22 (by decide)
        have hG1 : pGd (M1 22) nb nm := by rw [e22]; exact hG2
        have hE1 : pEq nb nm (M1 22) (M 0) := by rw [e22]; exact hE
        have hB1 := hG1.1
        have hM1 := hG1.2.2.1
        refine fv_F.of (ls := [some (.ref 106), some (.int (nI z))]) (by decide) (Nat.le_of_ble_eq_true rfl) rfl ?_
        refine x_iload_n (pc := 0) dX7_bird_0 rfl rfl ?_
        refine x_iconst (pc := 1) (v := 0) dX7_bird_1 rfl ?_
        refine x_bipush (pc := 2) (v := 6) dX7_bird_2 rfl ?_
        refine x_Si (pc := 4) ks_X7_60 dX7_bird_4 (hX7_in1) rfl rfl rfl (Nat.le_of_ble_eq_true rfl) ?_
        refine x_ifb_ne (pc := 7) dX7_bird_7 (tgt := 16) rfl (fun h7 => ?_) (fun h7 => ?_)
        ·
          refine x_aload_n (pc := 16) dX7_bird_16 rfl rfl ?_
          refine x_geta (pc := 17) fl_X7_9 dX7_bird_17 (tb_106) rfl ?_
          refine x_iconst (pc := 20) (v := 1) dX7_bird_20 rfl ?_
          refine x_iale (pc := 21) dX7_bird_21 (tb_107) ((rfl : (1 : Int32) = nI 1)) (by decide) (by first | decide | assumption) (hB1.trans (congrArg nI e8)) ?_
          refine x_bipush (pc := 22) (v := 8) dX7_bird_22 rfl ?_
          refine x_icmp_ne (pc := 24) dX7_bird_24 (tgt := 33) rfl (fun h24 => ?_) (fun h24 => ?_)
          ·
            exact absurd rfl h24
          ·
            refine x_aload_n (pc := 27) dX7_bird_27 rfl rfl ?_
            refine x_iconst (pc := 28) (v := 1) dX7_bird_28 rfl ?_
            refine x_Vi (pc := 29) ks_X7_114 dX7_bird_29 (tb_106) rfl rfl (hX7_noL 1 (-1000002) (by decide) (by decide +kernel)) rfl rfl rfl (Nat.le_of_ble_eq_true rfl) ?_
            refine x_iret (pc := 32) dX7_bird_32 rfl (by first | rfl | exact fv_nz _) ?_
            exact ⟨rfl, rfl⟩
        ·
          contradiction
  · skip
    refine pOp.bad (v := -1000001) 0 I ?_ (fun M1 hF => ?_)
    · skip
      refine fv_F.of (ls := [some (.ref 0), some (.int k)]) (by decide) (Nat.le_of_ble_eq_true rfl) rfl ?_
      refine x_iload_n (pc := 0) dX6_bird_0 rfl rfl ?_
      refine x_bipush (pc := 1) (v := 6) dX6_bird_1 rfl ?_
      refine x_Si (pc := 3) ks_X6_51 dX6_bird_3 (hX6_isUpTo) rfl rfl rfl (Nat.le_of_ble_eq_true rfl) ?_
      refine x_ifb_ne (pc := 6) dX6_bird_6 (tgt := 16) rfl (fun h6 => ?_) (fun h6 => ?_)
      ·
        contradiction
      ·
        refine x_aload_n (pc := 9) dX6_bird_9 rfl rfl ?_
        refine x_ldc (pc := 10) kc_X6_55 dX6_bird_10 ?_
        refine x_Vi (pc := 12) ks_X6_56 dX6_bird_12 (tb_fv) rfl rfl (hX6_fin 0 (-1000001) (by decide +kernel) (by decide)) rfl rfl rfl (Nat.le_of_ble_eq_true rfl) ?_
        refine x_iret (pc := 15) dX6_bird_15 rfl (by first | rfl | exact fv_nz _) ?_
        exact ⟨rfl, rfl⟩
    · skip
      have e22 : M1 22 = M 22 := hF 22 (by decide)
      have hG1 : pGd (M1 22) nb nm := by rw [e22]; exact hG2
      have hE1 : pEq nb nm (M1 22) (M 0) := by rw [e22]; exact hE
      have hB1 := hG1.1
      have hM1 := hG1.2.2.1
      refine fv_F.of (ls := [some (.ref 106), some (.int k)]) (by decide) (Nat.le_of_ble_eq_true rfl) rfl ?_
      refine x_iload_n (pc := 0) dX7_bird_0 rfl rfl ?_
      refine x_iconst (pc := 1) (v := 0) dX7_bird_1 rfl ?_
      refine x_bipush (pc := 2) (v := 6) dX7_bird_2 rfl ?_
      refine x_Si (pc := 4) ks_X7_60 dX7_bird_4 (hX7_in1) rfl rfl rfl (Nat.le_of_ble_eq_true rfl) ?_
      refine x_ifb_ne (pc := 7) dX7_bird_7 (tgt := 16) rfl (fun h7 => ?_) (fun h7 => ?_)
      ·
        contradiction
      ·
        refine x_aload_n (pc := 10) dX7_bird_10 rfl rfl ?_
        refine x_iconst (pc := 11) (v := 0) dX7_bird_11 rfl ?_
        refine x_Vi (pc := 12) ks_X7_114 dX7_bird_12 (tb_106) rfl rfl (hX7_noL 0 (-1000001) (by decide) (by decide +kernel)) rfl rfl rfl (Nat.le_of_ble_eq_true rfl) ?_
        refine x_iret (pc := 15) dX7_bird_15 rfl (by first | rfl | exact fv_nz _) ?_
        exact ⟨rfl, rfl⟩
theorem op_motion {E : fv_E} {k : Int32} {M : fv_M} (I : pInv M) : pOp E mX6_motion mX7_motion [.int k] M := by
  obtain ⟨nb, nm, hG, hE, t, ht, eT⟩ := I.1
  have hs0 : 0 < 3 := by decide
  have hs1 : 1 < 3 := by decide
  have hB := hG.1
  have hb := hG.2.1
  have hM := hG.2.2.1
  have hn := hG.2.2.2.1
  have hK := hG.K
  have hC := hG.C
  have hG2 : pGd (M 22) nb nm := hG.cg hE
  by_cases hk : 0 ≤ k ∧ k ≤ 3
  · obtain ⟨z, hz, rfl⟩ := pUm (n := 3) (by decide) hk
    by_cases h8 : nm < 8
    · skip
      refine pOp.mut (v := nI nm) (pAddM (M 0) nm (nI z)) I ?_ (fun M1 hF h0 => ?_)
      · skip
        refine fv_P.of (ls := [some (.ref 0), some (.int (nI z))]) (by decide) (Nat.le_of_ble_eq_true rfl) rfl ?_
        refine x_iload_n (pc := 0) dX6_motion_0 rfl rfl ?_
        refine x_iconst (pc := 1) (v := 3) dX6_motion_1 rfl ?_
        refine x_Si (pc := 2) ks_X6_51 dX6_motion_2 (hX6_isUpTo) rfl rfl rfl (Nat.le_of_ble_eq_true rfl) ?_
        refine x_ifb_ne (pc := 5) dX6_motion_5 (tgt := 15) rfl (fun h5 => ?_) (fun h5 => ?_)
        ·
          refine x_aload_n (pc := 15) dX6_motion_15 rfl rfl ?_
          refine x_geta (pc := 16) fl_X6_12 dX6_motion_16 (tb_fv) rfl ?_
          refine x_geti (pc := 19) fl_X6_88 dX6_motion_19 (tb_st (by assumption)) rfl (hM) ?_
          refine x_bipush (pc := 22) (v := 8) dX6_motion_22 rfl ?_
          refine x_icmp_lt (pc := 24) dX6_motion_24 (tgt := 34) rfl (fun h24 => ?_) (fun h24 => ?_)
          ·
            refine x_aload_n (pc := 34) dX6_motion_34 rfl rfl ?_
            refine x_geta (pc := 35) fl_X6_12 dX6_motion_35 (tb_fv) rfl ?_
            refine x_iload_n (pc := 38) dX6_motion_38 rfl rfl ?_
            refine x_Vi (pc := 39) ks_X6_91 dX6_motion_39 (tb_st (by assumption)) rfl rfl (hX4_addMotion hs0 hM h8) rfl rfl rfl (Nat.le_of_ble_eq_true rfl) ?_
            refine x_iret (pc := 42) dX6_motion_42 rfl (by first | rfl | exact fv_nz _) ?_
            exact ⟨rfl, pFr.rfl'.s (by decide), fv_s_same _ _ _⟩
          ·
            exact absurd (nI_lt (b := 8) h8 (by omega)) h24
        ·
          contradiction
      · skip
        have e22 : M1 22 = M 22 := hF 22 (by decide)
        have hG1 : pGd (M1 22) nb nm := by rw [e22]; exact hG2
        have hE1 : pEq nb nm (M1 22) (M 0) := by rw [e22]; exact hE
        have hB1 := hG1.1
        have hM1 := hG1.2.2.1
        skip
        refine fv_P.of (ls := [some (.ref 106), some (.int (nI z))]) (by decide) (Nat.le_of_ble_eq_true rfl) rfl ?_
        refine x_iload_n (pc := 0) dX7_motion_0 rfl rfl ?_
        refine x_iconst (pc := 1) (v := 0) dX7_motion_1 rfl ?_
        refine x_iconst (pc := 2) (v := 3) dX7_motion_2 rfl ?_
        refine x_Si (pc := 3) ks_X7_60 dX7_motion_3 (hX7_in1) rfl rfl rfl (Nat.le_of_ble_eq_true rfl) ?_
        refine x_ifb_ne (pc := 6) dX7_motion_6 (tgt := 15) rfl (fun h6 => ?_) (fun h6 => ?_)
        ·
          refine x_aload_n (pc := 15) dX7_motion_15 rfl rfl ?_
          refine x_geta (pc := 16) fl_X7_9 dX7_motion_16 (tb_106) rfl ?_
          refine x_iconst (pc := 19) (v := 2) dX7_motion_19 rfl ?_
          refine x_iale (pc := 20) dX7_motion_20 (tb_107) ((rfl : (2 : Int32) = nI 2)) (by decide) (by first | decide | assumption) (hM1) ?_
          refine x_bipush (pc := 21) (v := 8) dX7_motion_21 rfl ?_
          refine x_icmp_ne (pc := 23) dX7_motion_23 (tgt := 32) rfl (fun h23 => ?_) (fun h23 => ?_)
          ·
            refine x_aload_n (pc := 32) dX7_motion_32 rfl rfl ?_
            refine x_iload_n (pc := 33) dX7_motion_33 rfl rfl ?_
            refine x_Vv (pc := 34) ks_X7_123 dX7_motion_34 (tb_106) rfl rfl (hX7_addsMotion hM1 h8) rfl rfl rfl (Nat.le_of_ble_eq_true rfl) ?_
            refine x_aload_n (pc := 37) dX7_motion_37 rfl rfl ?_
            refine x_geta (pc := 38) fl_X7_9 dX7_motion_38 (tb_106) rfl ?_
            refine x_iconst (pc := 41) (v := 2) dX7_motion_41 rfl ?_
            refine x_iale (pc := 42) dX7_motion_42 (tb_107) ((rfl : (2 : Int32) = nI 2)) (by decide) (by first | decide | assumption) (show _ = nI (nm + 1) from by rw [fv_s_same]; unfold pAddM; rw [fv_u_same, nI_1]) ?_
            refine x_iconst (pc := 43) (v := 1) dX7_motion_43 rfl ?_
            refine x_isub (pc := 44) dX7_motion_44 ?_
            refine x_iret (pc := 45) dX7_motion_45 rfl (by first | rfl | exact fv_nz _) ?_
            exact ⟨by rw [nI_pred], pFr.rfl'.s (by decide), nb, nm + 1, pGd_addM hG h8 (by omega), by rw [fv_s_same]; exact pAddM_cg hE1, t, ht, by rw [pAddM_0]; exact eT⟩
          ·
            exact absurd ((nI_eq (b := 8) (by omega) (by omega)).mp h23) (by omega)
        ·
          contradiction
    · have e8 : nm = 8 := by omega
      refine pOp.bad (v := -1000002) 1 I ?_ (fun M1 hF => ?_)
      · skip
        refine fv_F.of (ls := [some (.ref 0), some (.int (nI z))]) (by decide) (Nat.le_of_ble_eq_true rfl) rfl ?_
        refine x_iload_n (pc := 0) dX6_motion_0 rfl rfl ?_
        refine x_iconst (pc := 1) (v := 3) dX6_motion_1 rfl ?_
        refine x_Si (pc := 2) ks_X6_51 dX6_motion_2 (hX6_isUpTo) rfl rfl rfl (Nat.le_of_ble_eq_true rfl) ?_
        refine x_ifb_ne (pc := 5) dX6_motion_5 (tgt := 15) rfl (fun h5 => ?_) (fun h5 => ?_)
        ·
          refine x_aload_n (pc := 15) dX6_motion_15 rfl rfl ?_
          refine x_geta (pc := 16) fl_X6_12 dX6_motion_16 (tb_fv) rfl ?_
          refine x_geti (pc := 19) fl_X6_88 dX6_motion_19 (tb_st (by assumption)) rfl (hM.trans (congrArg nI e8)) ?_
          refine x_bipush (pc := 22) (v := 8) dX6_motion_22 rfl ?_
          refine x_icmp_lt (pc := 24) dX6_motion_24 (tgt := 34) rfl (fun h24 => ?_) (fun h24 => ?_)
          ·
            exact absurd h24 Int32.lt_irrefl
          ·
            refine x_aload_n (pc := 27) dX6_motion_27 rfl rfl ?_
            refine x_ldc (pc := 28) kc_X6_64 dX6_motion_28 ?_
            refine x_Vi (pc := 30) ks_X6_56 dX6_motion_30 (tb_fv) rfl rfl (hX6_fin 1 (-1000002) (by decide +kernel) (by decide)) rfl rfl rfl (Nat.le_of_ble_eq_true rfl) ?_
            refine x_iret (pc := 33) dX6_motion_33 rfl (by first | rfl | exact fv_nz _) ?_
            exact ⟨rfl, rfl⟩
        ·
          contradiction
      · skip
        have e22 : M1 22 = M 22 := hF 22 (by decide)
        have hG1 : pGd (M1 22) nb nm := by rw [e22]; exact hG2
        have hE1 : pEq nb nm (M1 22) (M 0) := by rw [e22]; exact hE
        have hB1 := hG1.1
        have hM1 := hG1.2.2.1
        refine fv_F.of (ls := [some (.ref 106), some (.int (nI z))]) (by decide) (Nat.le_of_ble_eq_true rfl) rfl ?_
        refine x_iload_n (pc := 0) dX7_motion_0 rfl rfl ?_
        refine x_iconst (pc := 1) (v := 0) dX7_motion_1 rfl ?_
        refine x_iconst (pc := 2) (v := 3) dX7_motion_2 rfl ?_
        refine x_Si (pc := 3) ks_X7_60 dX7_motion_3 (hX7_in1) rfl rfl rfl (Nat.le_of_ble_eq_true rfl) ?_
        refine x_ifb_ne (pc := 6) dX7_motion_6 (tgt := 15) rfl (fun h6 => ?_) (fun h6 => ?_)
        ·
          refine x_aload_n (pc := 15) dX7_motion_15 rfl rfl ?_
          refine x_geta (pc := 16) fl_X7_9 dX7_motion_16 (tb_106) rfl ?_
          refine x_iconst (pc := 19) (v := 2) dX7_motion_19 rfl ?_
          refine x_iale (pc := 20) dX7_motion_20 (tb_107) ((rfl : (2 : Int32) = nI 2)) (by decide) (by first | decide | assumption) (hM1.trans (congrArg nI e8)) ?_
          refine x_bipush (pc := 21) (v := 8) dX7_motion_21 rfl ?_
          refine x_icmp_ne (pc := 23) dX7_motion_23 (tgt := 32) rfl (fun h23 => ?_) (fun h23 => ?_)
          ·
            exact absurd rfl h23
          ·
            refine x_aload_n (pc := 26) dX7_motion_26 rfl rfl ?_
            refine x_iconst (pc := 27) (v := 1) dX7_motion_27 rfl ?_
            refine x_Vi (pc := 28) ks_X7_114 dX7_motion_28 (tb_106) rfl rfl (hX7_noL 1 (-1000002) (by decide) (by decide +kernel)) rfl rfl rfl (Nat.le_of_ble_eq_true rfl) ?_
            refine x_iret (pc := 31) dX7_motion_31 rfl (by first | rfl | exact fv_nz _) ?_
            exact ⟨rfl, rfl⟩
        ·
          contradiction
  · skip
    refine pOp.bad (v := -1000001) 0 I ?_ (fun M1 hF => ?_)
    · skip
      refine fv_F.of (ls := [some (.ref 0), some (.int k)]) (by decide) (Nat.le_of_ble_eq_true rfl) rfl ?_
      refine x_iload_n (pc := 0) dX6_motion_0 rfl rfl ?_
      refine x_iconst (pc := 1) (v := 3) dX6_motion_1 rfl ?_
      refine x_Si (pc := 2) ks_X6_51 dX6_motion_2 (hX6_isUpTo) rfl rfl rfl (Nat.le_of_ble_eq_true rfl) ?_
      refine x_ifb_ne (pc := 5) dX6_motion_5 (tgt := 15) rfl (fun h5 => ?_) (fun h5 => ?_)
      ·
        contradiction
      ·
        refine x_aload_n (pc := 8) dX6_motion_8 rfl rfl ?_
        refine x_ldc (pc := 9) kc_X6_55 dX6_motion_9 ?_
        refine x_Vi (pc := 11) ks_X6_56 dX6_motion_11 (tb_fv) rfl rfl (hX6_fin 0 (-1000001) (by decide +kernel) (by decide)) rfl rfl rfl (Nat.le_of_ble_eq_true rfl) ?_
        refine x_iret (pc := 14) dX6_motion_14 rfl (by first | rfl | exact fv_nz _) ?_
        exact ⟨rfl, rfl⟩
    · skip
      have e22 : M1 22 = M 22 := hF 22 (by decide)
      have hG1 : pGd (M1 22) nb nm := by rw [e22]; exact hG2
      have hE1 : pEq nb nm (M1 22) (M 0) := by rw [e22]; exact hE
      have hB1 := hG1.1
      have hM1 := hG1.2.2.1
      refine fv_F.of (ls := [some (.ref 106), some (.int k)]) (by decide) (Nat.le_of_ble_eq_true rfl) rfl ?_
      refine x_iload_n (pc := 0) dX7_motion_0 rfl rfl ?_
      refine x_iconst (pc := 1) (v := 0) dX7_motion_1 rfl ?_
      refine x_iconst (pc := 2) (v := 3) dX7_motion_2 rfl ?_
      refine x_Si (pc := 3) ks_X7_60 dX7_motion_3 (hX7_in1) rfl rfl rfl (Nat.le_of_ble_eq_true rfl) ?_
      refine x_ifb_ne (pc := 6) dX7_motion_6 (tgt := 15) rfl (fun h6 => ?_) (fun h6 => ?_)
      ·
        contradiction
      ·
        refine x_aload_n (pc := 9) dX7_motion_9 rfl rfl ?_
        refine x_iconst (pc := 10) (v := 0) dX7_motion_10 rfl ?_
        refine x_Vi (pc := 11) ks_X7_114 dX7_motion_11 (tb_106) rfl rfl (hX7_noL 0 (-1000001) (by decide) (by decide +kernel)) rfl rfl rfl (Nat.le_of_ble_eq_true rfl) ?_
        refine x_iret (pc := 14) dX7_motion_14 rfl (by first | rfl | exact fv_nz _) ?_
        exact ⟨rfl, rfl⟩
theorem op_change {E : fv_E} {b q v : Int32} {M : fv_M} (I : pInv M) : pOp E mX6_change mX7_change [.int b, .int q, .int v] M := by
  obtain ⟨nb, nm, hG, hE, t, ht, eT⟩ := I.1
  have hs0 : 0 < 3 := by decide
  have hs1 : 1 < 3 := by decide
  have hB := hG.1
  have hb := hG.2.1
  have hM := hG.2.2.1
  have hn := hG.2.2.2.1
  have hK := hG.K
  have hC := hG.C
  have hG2 : pGd (M 22) nb nm := hG.cg hE
  by_cases hbb : 0 ≤ b ∧ b ≤ nI nb - 1
  · by_cases hq : 0 ≤ q ∧ q ≤ 6
    · obtain ⟨k, hk, rfl⟩ := pUx (by omega) hbb
      obtain ⟨z, hz, rfl⟩ := pUm (n := 6) (by decide) hq
      have hb8 : k < 8 := by omega
      by_cases hv : 0 ≤ v ∧ v ≤ (if nI z = 0 then 6 else if nI z = 2 then 9 else 99)
      · have hlim : ∃ x, x < (if z = 0 then 7 else if z = 2 then 10 else 100) ∧ v = nI x := by
          by_cases z0 : z = 0
          · subst z0; exact (pUm (n := 6) (by decide) hv).imp (fun x hx => ⟨by rw [if_pos rfl]; omega, hx.2⟩)
          by_cases z2 : z = 2
          · subst z2; exact (pUm (n := 9) (by decide) hv).imp (fun x hx => ⟨by rw [if_neg (by decide), if_pos rfl]; omega, hx.2⟩)
          · have n0 : ¬ nI z = 0 := fun q => z0 ((nI_eq (b := 0) (by omega) (by omega)).mp q)
            have n2 : ¬ nI z = 2 := fun q => z2 ((nI_eq (b := 2) (by omega) (by omega)).mp q)
            rw [if_neg n0, if_neg n2] at hv
            exact (pUm (n := 99) (by decide) hv).imp (fun x hx => ⟨by rw [if_neg z0, if_neg z2]; omega, hx.2⟩)
        refine pOp.mut (v := M 0 (fB k z)) (fv_u (M 0) (fB k z) v) I ?_ (fun M1 hF h0 => ?_)
        · have hfe : pFeat (M 0) k z = M 0 (fB k z) := by unfold pFeat; rw [if_pos (by omega)]
          refine fv_P.of (ls := [some (.ref 0), some (.int (nI k)), some (.int (nI z)), some (.int v), none]) (by decide) (Nat.le_of_ble_eq_true rfl) rfl ?_
          refine x_aload_n (pc := 0) dX6_change_0 rfl rfl ?_
          refine x_geta (pc := 1) fl_X6_12 dX6_change_1 (tb_fv) rfl ?_
          refine x_iload_n (pc := 4) dX6_change_4 rfl rfl ?_
          refine x_Vi (pc := 5) ks_X6_68 dX6_change_5 (tb_st (by assumption)) rfl rfl (hHb hB) rfl rfl rfl (Nat.le_of_ble_eq_true rfl) ?_
          refine x_ifb_eq (pc := 8) dX6_change_8 (tgt := 31) rfl (fun h8 => ?_) (fun h8 => ?_)
          ·
            contradiction
          ·
            refine x_iload_n (pc := 11) dX6_change_11 rfl rfl ?_
            refine x_bipush (pc := 12) (v := 6) dX6_change_12 rfl ?_
            refine x_Si (pc := 14) ks_X6_51 dX6_change_14 (hX6_isUpTo) rfl rfl rfl (Nat.le_of_ble_eq_true rfl) ?_
            refine x_ifb_eq (pc := 17) dX6_change_17 (tgt := 31) rfl (fun h17 => ?_) (fun h17 => ?_)
            ·
              contradiction
            ·
              refine x_iload_n (pc := 20) dX6_change_20 rfl rfl ?_
              refine x_iload_n (pc := 21) dX6_change_21 rfl rfl ?_
              refine x_Si (pc := 22) ks_X6_81 dX6_change_22 (hX0_mostOf) rfl rfl rfl (Nat.le_of_ble_eq_true rfl) ?_
              refine x_Si (pc := 25) ks_X6_51 dX6_change_25 (hX6_isUpTo) rfl rfl rfl (Nat.le_of_ble_eq_true rfl) ?_
              refine x_ifb_ne (pc := 28) dX6_change_28 (tgt := 38) rfl (fun h28 => ?_) (fun h28 => ?_)
              ·
                refine x_aload_n (pc := 38) dX6_change_38 rfl rfl ?_
                refine x_geta (pc := 39) fl_X6_12 dX6_change_39 (tb_fv) rfl ?_
                refine x_geta (pc := 42) fl_X6_72 dX6_change_42 (tb_st (by assumption)) rfl ?_
                refine x_iload_n (pc := 45) dX6_change_45 rfl rfl ?_
                refine x_bird (pc := 46) dX6_change_46 (by assumption) (rfl) (by first | assumption | decide | omega) ?_
                refine x_iload_n (pc := 47) dX6_change_47 rfl rfl ?_
                refine x_Vi (pc := 48) ks_X6_76 dX6_change_48 (tb_b (by assumption) (by assumption)) rfl rfl ((hX0_feature hs0 hb8 (by omega)).v hfe) rfl rfl rfl (Nat.le_of_ble_eq_true rfl) ?_
                refine x_istore4 (pc := 51) dX6_change_51 rfl ?_
                refine x_aload_n (pc := 53) dX6_change_53 rfl rfl ?_
                refine x_geta (pc := 54) fl_X6_12 dX6_change_54 (tb_fv) rfl ?_
                refine x_geta (pc := 57) fl_X6_72 dX6_change_57 (tb_st (by assumption)) rfl ?_
                refine x_iload_n (pc := 60) dX6_change_60 rfl rfl ?_
                refine x_bird (pc := 61) dX6_change_61 (by assumption) (rfl) (by first | assumption | decide | omega) ?_
                refine x_iload_n (pc := 62) dX6_change_62 rfl rfl ?_
                refine x_iload_n (pc := 63) dX6_change_63 rfl rfl ?_
                refine x_Vv (pc := 64) ks_X6_84 dX6_change_64 (tb_b (by assumption) (by assumption)) rfl rfl (hX0_setFeature hs0 hb8 (by omega)) rfl rfl rfl (Nat.le_of_ble_eq_true rfl) ?_
                refine x_iload (pc := 67) dX6_change_67 rfl ?_
                refine x_iret (pc := 69) dX6_change_69 rfl (by first | rfl | exact fv_nz _) ?_
                exact ⟨rfl, pFr.rfl'.s (by decide), fv_s_same _ _ _⟩
              ·
                contradiction
        · skip
          have e22 : M1 22 = M 22 := hF 22 (by decide)
          have hG1 : pGd (M1 22) nb nm := by rw [e22]; exact hG2
          have hE1 : pEq nb nm (M1 22) (M 0) := by rw [e22]; exact hE
          have hB1 := hG1.1
          have hM1 := hG1.2.2.1
          skip
          refine fv_P.of (ls := [some (.ref 106), some (.int (nI k)), some (.int (nI z)), some (.int v), none]) (by decide) (Nat.le_of_ble_eq_true rfl) rfl ?_
          refine x_aload_n (pc := 0) dX7_change_0 rfl rfl ?_
          refine x_iload_n (pc := 1) dX7_change_1 rfl rfl ?_
          refine x_Vi (pc := 2) ks_X7_120 dX7_change_2 (tb_106) rfl rfl (hX7_isBird (x := nI nb) hB1) rfl rfl rfl (Nat.le_of_ble_eq_true rfl) ?_
          refine x_ifb_eq (pc := 5) dX7_change_5 (tgt := 47) rfl (fun h5 => ?_) (fun h5 => ?_)
          ·
            contradiction
          ·
            refine x_iload_n (pc := 8) dX7_change_8 rfl rfl ?_
            refine x_iconst (pc := 9) (v := 0) dX7_change_9 rfl ?_
            refine x_bipush (pc := 10) (v := 6) dX7_change_10 rfl ?_
            refine x_Si (pc := 12) ks_X7_60 dX7_change_12 (hX7_in1) rfl rfl rfl (Nat.le_of_ble_eq_true rfl) ?_
            refine x_ifb_eq (pc := 15) dX7_change_15 (tgt := 47) rfl (fun h15 => ?_) (fun h15 => ?_)
            ·
              contradiction
            ·
              refine x_iload_n (pc := 18) dX7_change_18 rfl rfl ?_
              refine x_iconst (pc := 19) (v := 0) dX7_change_19 rfl ?_
              refine x_iload_n (pc := 20) dX7_change_20 rfl rfl ?_
              refine x_if_ne (pc := 21) dX7_change_21 (tgt := 29) rfl (fun h21 => ?_) (fun h21 => ?_)
              ·
                refine x_iload_n (pc := 29) dX7_change_29 rfl rfl ?_
                refine x_iconst (pc := 30) (v := 2) dX7_change_30 rfl ?_
                refine x_icmp_ne (pc := 31) dX7_change_31 (tgt := 39) rfl (fun h31 => ?_) (fun h31 => ?_)
                ·
                  refine x_bipush (pc := 39) (v := 99) dX7_change_39 rfl ?_
                  refine x_Si (pc := 41) ks_X7_60 dX7_change_41 (fv_F.v (b := bI (0 ≤ v ∧ v ≤ (if nI z = 0 then 6 else if nI z = 2 then 9 else 99))) hX7_in1 (bI_congr (by first | rw [if_pos h21] | rw [if_neg h21, if_pos h31] | rw [if_neg h21, if_neg h31]))) rfl rfl rfl (Nat.le_of_ble_eq_true rfl) ?_
                  refine x_ifb_ne (pc := 44) dX7_change_44 (tgt := 53) rfl (fun h44 => ?_) (fun h44 => ?_)
                  ·
                    refine x_aload_n (pc := 53) dX7_change_53 rfl rfl ?_
                    refine x_iload_n (pc := 54) dX7_change_54 rfl rfl ?_
                    refine x_iload_n (pc := 55) dX7_change_55 rfl rfl ?_
                    refine x_Vi (pc := 56) ks_X7_64 dX7_change_56 (tb_106) rfl rfl ((hX7_get hb8 (by omega)).v (hE1.b hk (by omega))) rfl rfl rfl (Nat.le_of_ble_eq_true rfl) ?_
                    refine x_istore4 (pc := 59) dX7_change_59 rfl ?_
                    refine x_aload_n (pc := 61) dX7_change_61 rfl rfl ?_
                    refine x_iload_n (pc := 62) dX7_change_62 rfl rfl ?_
                    refine x_iload_n (pc := 63) dX7_change_63 rfl rfl ?_
                    refine x_iload_n (pc := 64) dX7_change_64 rfl rfl ?_
                    refine x_Vv (pc := 65) ks_X7_100 dX7_change_65 (tb_106) rfl rfl (hX7_puts hb8 (by omega)) rfl rfl rfl (Nat.le_of_ble_eq_true rfl) ?_
                    refine x_iload (pc := 68) dX7_change_68 rfl ?_
                    refine x_iret (pc := 70) dX7_change_70 rfl (by first | rfl | exact fv_nz _) ?_
                    exact ⟨rfl, pFr.rfl'.s (by decide), nb, nm, by rw [fv_s_same]; exact pI1.u ht eT hE1 (pGd_ub hG hk (by omega) hlim) (by unfold fB; omega)⟩
                  ·
                    contradiction
                ·
                  refine x_bipush (pc := 34) (v := 9) dX7_change_34 rfl ?_
                  refine x_goto (pc := 36) dX7_change_36 (tgt := 41) rfl ?_
                  refine x_Si (pc := 41) ks_X7_60 dX7_change_41 (fv_F.v (b := bI (0 ≤ v ∧ v ≤ (if nI z = 0 then 6 else if nI z = 2 then 9 else 99))) hX7_in1 (bI_congr (by first | rw [if_pos h21] | rw [if_neg h21, if_pos h31] | rw [if_neg h21, if_neg h31]))) rfl rfl rfl (Nat.le_of_ble_eq_true rfl) ?_
                  refine x_ifb_ne (pc := 44) dX7_change_44 (tgt := 53) rfl (fun h44 => ?_) (fun h44 => ?_)
                  ·
                    refine x_aload_n (pc := 53) dX7_change_53 rfl rfl ?_
                    refine x_iload_n (pc := 54) dX7_change_54 rfl rfl ?_
                    refine x_iload_n (pc := 55) dX7_change_55 rfl rfl ?_
                    refine x_Vi (pc := 56) ks_X7_64 dX7_change_56 (tb_106) rfl rfl ((hX7_get hb8 (by omega)).v (hE1.b hk (by omega))) rfl rfl rfl (Nat.le_of_ble_eq_true rfl) ?_
                    refine x_istore4 (pc := 59) dX7_change_59 rfl ?_
                    refine x_aload_n (pc := 61) dX7_change_61 rfl rfl ?_
                    refine x_iload_n (pc := 62) dX7_change_62 rfl rfl ?_
                    refine x_iload_n (pc := 63) dX7_change_63 rfl rfl ?_
                    refine x_iload_n (pc := 64) dX7_change_64 rfl rfl ?_
                    refine x_Vv (pc := 65) ks_X7_100 dX7_change_65 (tb_106) rfl rfl (hX7_puts hb8 (by omega)) rfl rfl rfl (Nat.le_of_ble_eq_true rfl) ?_
                    refine x_iload (pc := 68) dX7_change_68 rfl ?_
                    refine x_iret (pc := 70) dX7_change_70 rfl (by first | rfl | exact fv_nz _) ?_
                    exact ⟨rfl, pFr.rfl'.s (by decide), nb, nm, by rw [fv_s_same]; exact pI1.u ht eT hE1 (pGd_ub hG hk (by omega) hlim) (by unfold fB; omega)⟩
                  ·
                    contradiction
              ·
                refine x_bipush (pc := 24) (v := 6) dX7_change_24 rfl ?_
                refine x_goto (pc := 26) dX7_change_26 (tgt := 41) rfl ?_
                refine x_Si (pc := 41) ks_X7_60 dX7_change_41 (fv_F.v (b := bI (0 ≤ v ∧ v ≤ (if nI z = 0 then 6 else if nI z = 2 then 9 else 99))) hX7_in1 (bI_congr (by first | rw [if_pos h21] | rw [if_neg h21, if_pos h31] | rw [if_neg h21, if_neg h31]))) rfl rfl rfl (Nat.le_of_ble_eq_true rfl) ?_
                refine x_ifb_ne (pc := 44) dX7_change_44 (tgt := 53) rfl (fun h44 => ?_) (fun h44 => ?_)
                ·
                  refine x_aload_n (pc := 53) dX7_change_53 rfl rfl ?_
                  refine x_iload_n (pc := 54) dX7_change_54 rfl rfl ?_
                  refine x_iload_n (pc := 55) dX7_change_55 rfl rfl ?_
                  refine x_Vi (pc := 56) ks_X7_64 dX7_change_56 (tb_106) rfl rfl ((hX7_get hb8 (by omega)).v (hE1.b hk (by omega))) rfl rfl rfl (Nat.le_of_ble_eq_true rfl) ?_
                  refine x_istore4 (pc := 59) dX7_change_59 rfl ?_
                  refine x_aload_n (pc := 61) dX7_change_61 rfl rfl ?_
                  refine x_iload_n (pc := 62) dX7_change_62 rfl rfl ?_
                  refine x_iload_n (pc := 63) dX7_change_63 rfl rfl ?_
                  refine x_iload_n (pc := 64) dX7_change_64 rfl rfl ?_
                  refine x_Vv (pc := 65) ks_X7_100 dX7_change_65 (tb_106) rfl rfl (hX7_puts hb8 (by omega)) rfl rfl rfl (Nat.le_of_ble_eq_true rfl) ?_
                  refine x_iload (pc := 68) dX7_change_68 rfl ?_
                  refine x_iret (pc := 70) dX7_change_70 rfl (by first | rfl | exact fv_nz _) ?_
                  exact ⟨rfl, pFr.rfl'.s (by decide), nb, nm, by rw [fv_s_same]; exact pI1.u ht eT hE1 (pGd_ub hG hk (by omega) hlim) (by unfold fB; omega)⟩
                ·
                  contradiction
      · skip
        refine pOp.bad (v := -1000001) 0 I ?_ (fun M1 hF => ?_)
        · skip
          refine fv_F.of (ls := [some (.ref 0), some (.int (nI k)), some (.int (nI z)), some (.int v), none]) (by decide) (Nat.le_of_ble_eq_true rfl) rfl ?_
          refine x_aload_n (pc := 0) dX6_change_0 rfl rfl ?_
          refine x_geta (pc := 1) fl_X6_12 dX6_change_1 (tb_fv) rfl ?_
          refine x_iload_n (pc := 4) dX6_change_4 rfl rfl ?_
          refine x_Vi (pc := 5) ks_X6_68 dX6_change_5 (tb_st (by assumption)) rfl rfl (hHb hB) rfl rfl rfl (Nat.le_of_ble_eq_true rfl) ?_
          refine x_ifb_eq (pc := 8) dX6_change_8 (tgt := 31) rfl (fun h8 => ?_) (fun h8 => ?_)
          ·
            contradiction
          ·
            refine x_iload_n (pc := 11) dX6_change_11 rfl rfl ?_
            refine x_bipush (pc := 12) (v := 6) dX6_change_12 rfl ?_
            refine x_Si (pc := 14) ks_X6_51 dX6_change_14 (hX6_isUpTo) rfl rfl rfl (Nat.le_of_ble_eq_true rfl) ?_
            refine x_ifb_eq (pc := 17) dX6_change_17 (tgt := 31) rfl (fun h17 => ?_) (fun h17 => ?_)
            ·
              contradiction
            ·
              refine x_iload_n (pc := 20) dX6_change_20 rfl rfl ?_
              refine x_iload_n (pc := 21) dX6_change_21 rfl rfl ?_
              refine x_Si (pc := 22) ks_X6_81 dX6_change_22 (hX0_mostOf) rfl rfl rfl (Nat.le_of_ble_eq_true rfl) ?_
              refine x_Si (pc := 25) ks_X6_51 dX6_change_25 (hX6_isUpTo) rfl rfl rfl (Nat.le_of_ble_eq_true rfl) ?_
              refine x_ifb_ne (pc := 28) dX6_change_28 (tgt := 38) rfl (fun h28 => ?_) (fun h28 => ?_)
              ·
                contradiction
              ·
                refine x_aload_n (pc := 31) dX6_change_31 rfl rfl ?_
                refine x_ldc (pc := 32) kc_X6_55 dX6_change_32 ?_
                refine x_Vi (pc := 34) ks_X6_56 dX6_change_34 (tb_fv) rfl rfl (hX6_fin 0 (-1000001) (by decide +kernel) (by decide)) rfl rfl rfl (Nat.le_of_ble_eq_true rfl) ?_
                refine x_iret (pc := 37) dX6_change_37 rfl (by first | rfl | exact fv_nz _) ?_
                exact ⟨rfl, rfl⟩
        · skip
          have e22 : M1 22 = M 22 := hF 22 (by decide)
          have hG1 : pGd (M1 22) nb nm := by rw [e22]; exact hG2
          have hE1 : pEq nb nm (M1 22) (M 0) := by rw [e22]; exact hE
          have hB1 := hG1.1
          have hM1 := hG1.2.2.1
          refine fv_F.of (ls := [some (.ref 106), some (.int (nI k)), some (.int (nI z)), some (.int v), none]) (by decide) (Nat.le_of_ble_eq_true rfl) rfl ?_
          refine x_aload_n (pc := 0) dX7_change_0 rfl rfl ?_
          refine x_iload_n (pc := 1) dX7_change_1 rfl rfl ?_
          refine x_Vi (pc := 2) ks_X7_120 dX7_change_2 (tb_106) rfl rfl (hX7_isBird (x := nI nb) hB1) rfl rfl rfl (Nat.le_of_ble_eq_true rfl) ?_
          refine x_ifb_eq (pc := 5) dX7_change_5 (tgt := 47) rfl (fun h5 => ?_) (fun h5 => ?_)
          ·
            contradiction
          ·
            refine x_iload_n (pc := 8) dX7_change_8 rfl rfl ?_
            refine x_iconst (pc := 9) (v := 0) dX7_change_9 rfl ?_
            refine x_bipush (pc := 10) (v := 6) dX7_change_10 rfl ?_
            refine x_Si (pc := 12) ks_X7_60 dX7_change_12 (hX7_in1) rfl rfl rfl (Nat.le_of_ble_eq_true rfl) ?_
            refine x_ifb_eq (pc := 15) dX7_change_15 (tgt := 47) rfl (fun h15 => ?_) (fun h15 => ?_)
            ·
              contradiction
            ·
              refine x_iload_n (pc := 18) dX7_change_18 rfl rfl ?_
              refine x_iconst (pc := 19) (v := 0) dX7_change_19 rfl ?_
              refine x_iload_n (pc := 20) dX7_change_20 rfl rfl ?_
              refine x_if_ne (pc := 21) dX7_change_21 (tgt := 29) rfl (fun h21 => ?_) (fun h21 => ?_)
              ·
                refine x_iload_n (pc := 29) dX7_change_29 rfl rfl ?_
                refine x_iconst (pc := 30) (v := 2) dX7_change_30 rfl ?_
                refine x_icmp_ne (pc := 31) dX7_change_31 (tgt := 39) rfl (fun h31 => ?_) (fun h31 => ?_)
                ·
                  refine x_bipush (pc := 39) (v := 99) dX7_change_39 rfl ?_
                  refine x_Si (pc := 41) ks_X7_60 dX7_change_41 (fv_F.v (b := bI (0 ≤ v ∧ v ≤ (if nI z = 0 then 6 else if nI z = 2 then 9 else 99))) hX7_in1 (bI_congr (by first | rw [if_pos h21] | rw [if_neg h21, if_pos h31] | rw [if_neg h21, if_neg h31]))) rfl rfl rfl (Nat.le_of_ble_eq_true rfl) ?_
                  refine x_ifb_ne (pc := 44) dX7_change_44 (tgt := 53) rfl (fun h44 => ?_) (fun h44 => ?_)
                  ·
                    contradiction
                  ·
                    refine x_aload_n (pc := 47) dX7_change_47 rfl rfl ?_
                    refine x_iconst (pc := 48) (v := 0) dX7_change_48 rfl ?_
                    refine x_Vi (pc := 49) ks_X7_114 dX7_change_49 (tb_106) rfl rfl (hX7_noL 0 (-1000001) (by decide) (by decide +kernel)) rfl rfl rfl (Nat.le_of_ble_eq_true rfl) ?_
                    refine x_iret (pc := 52) dX7_change_52 rfl (by first | rfl | exact fv_nz _) ?_
                    exact ⟨rfl, rfl⟩
                ·
                  refine x_bipush (pc := 34) (v := 9) dX7_change_34 rfl ?_
                  refine x_goto (pc := 36) dX7_change_36 (tgt := 41) rfl ?_
                  refine x_Si (pc := 41) ks_X7_60 dX7_change_41 (fv_F.v (b := bI (0 ≤ v ∧ v ≤ (if nI z = 0 then 6 else if nI z = 2 then 9 else 99))) hX7_in1 (bI_congr (by first | rw [if_pos h21] | rw [if_neg h21, if_pos h31] | rw [if_neg h21, if_neg h31]))) rfl rfl rfl (Nat.le_of_ble_eq_true rfl) ?_
                  refine x_ifb_ne (pc := 44) dX7_change_44 (tgt := 53) rfl (fun h44 => ?_) (fun h44 => ?_)
                  ·
                    contradiction
                  ·
                    refine x_aload_n (pc := 47) dX7_change_47 rfl rfl ?_
                    refine x_iconst (pc := 48) (v := 0) dX7_change_48 rfl ?_
                    refine x_Vi (pc := 49) ks_X7_114 dX7_change_49 (tb_106) rfl rfl (hX7_noL 0 (-1000001) (by decide) (by decide +kernel)) rfl rfl rfl (Nat.le_of_ble_eq_true rfl) ?_
                    refine x_iret (pc := 52) dX7_change_52 rfl (by first | rfl | exact fv_nz _) ?_
                    exact ⟨rfl, rfl⟩
              ·
                refine x_bipush (pc := 24) (v := 6) dX7_change_24 rfl ?_
                refine x_goto (pc := 26) dX7_change_26 (tgt := 41) rfl ?_
                refine x_Si (pc := 41) ks_X7_60 dX7_change_41 (fv_F.v (b := bI (0 ≤ v ∧ v ≤ (if nI z = 0 then 6 else if nI z = 2 then 9 else 99))) hX7_in1 (bI_congr (by first | rw [if_pos h21] | rw [if_neg h21, if_pos h31] | rw [if_neg h21, if_neg h31]))) rfl rfl rfl (Nat.le_of_ble_eq_true rfl) ?_
                refine x_ifb_ne (pc := 44) dX7_change_44 (tgt := 53) rfl (fun h44 => ?_) (fun h44 => ?_)
                ·
                  contradiction
                ·
                  refine x_aload_n (pc := 47) dX7_change_47 rfl rfl ?_
                  refine x_iconst (pc := 48) (v := 0) dX7_change_48 rfl ?_
                  refine x_Vi (pc := 49) ks_X7_114 dX7_change_49 (tb_106) rfl rfl (hX7_noL 0 (-1000001) (by decide) (by decide +kernel)) rfl rfl rfl (Nat.le_of_ble_eq_true rfl) ?_
                  refine x_iret (pc := 52) dX7_change_52 rfl (by first | rfl | exact fv_nz _) ?_
                  exact ⟨rfl, rfl⟩
    · skip
      refine pOp.bad (v := -1000001) 0 I ?_ (fun M1 hF => ?_)
      · skip
        refine fv_F.of (ls := [some (.ref 0), some (.int b), some (.int q), some (.int v), none]) (by decide) (Nat.le_of_ble_eq_true rfl) rfl ?_
        refine x_aload_n (pc := 0) dX6_change_0 rfl rfl ?_
        refine x_geta (pc := 1) fl_X6_12 dX6_change_1 (tb_fv) rfl ?_
        refine x_iload_n (pc := 4) dX6_change_4 rfl rfl ?_
        refine x_Vi (pc := 5) ks_X6_68 dX6_change_5 (tb_st (by assumption)) rfl rfl (hHb hB) rfl rfl rfl (Nat.le_of_ble_eq_true rfl) ?_
        refine x_ifb_eq (pc := 8) dX6_change_8 (tgt := 31) rfl (fun h8 => ?_) (fun h8 => ?_)
        ·
          contradiction
        ·
          refine x_iload_n (pc := 11) dX6_change_11 rfl rfl ?_
          refine x_bipush (pc := 12) (v := 6) dX6_change_12 rfl ?_
          refine x_Si (pc := 14) ks_X6_51 dX6_change_14 (hX6_isUpTo) rfl rfl rfl (Nat.le_of_ble_eq_true rfl) ?_
          refine x_ifb_eq (pc := 17) dX6_change_17 (tgt := 31) rfl (fun h17 => ?_) (fun h17 => ?_)
          ·
            refine x_aload_n (pc := 31) dX6_change_31 rfl rfl ?_
            refine x_ldc (pc := 32) kc_X6_55 dX6_change_32 ?_
            refine x_Vi (pc := 34) ks_X6_56 dX6_change_34 (tb_fv) rfl rfl (hX6_fin 0 (-1000001) (by decide +kernel) (by decide)) rfl rfl rfl (Nat.le_of_ble_eq_true rfl) ?_
            refine x_iret (pc := 37) dX6_change_37 rfl (by first | rfl | exact fv_nz _) ?_
            exact ⟨rfl, rfl⟩
          ·
            contradiction
      · skip
        have e22 : M1 22 = M 22 := hF 22 (by decide)
        have hG1 : pGd (M1 22) nb nm := by rw [e22]; exact hG2
        have hE1 : pEq nb nm (M1 22) (M 0) := by rw [e22]; exact hE
        have hB1 := hG1.1
        have hM1 := hG1.2.2.1
        refine fv_F.of (ls := [some (.ref 106), some (.int b), some (.int q), some (.int v), none]) (by decide) (Nat.le_of_ble_eq_true rfl) rfl ?_
        refine x_aload_n (pc := 0) dX7_change_0 rfl rfl ?_
        refine x_iload_n (pc := 1) dX7_change_1 rfl rfl ?_
        refine x_Vi (pc := 2) ks_X7_120 dX7_change_2 (tb_106) rfl rfl (hX7_isBird (x := nI nb) hB1) rfl rfl rfl (Nat.le_of_ble_eq_true rfl) ?_
        refine x_ifb_eq (pc := 5) dX7_change_5 (tgt := 47) rfl (fun h5 => ?_) (fun h5 => ?_)
        ·
          contradiction
        ·
          refine x_iload_n (pc := 8) dX7_change_8 rfl rfl ?_
          refine x_iconst (pc := 9) (v := 0) dX7_change_9 rfl ?_
          refine x_bipush (pc := 10) (v := 6) dX7_change_10 rfl ?_
          refine x_Si (pc := 12) ks_X7_60 dX7_change_12 (hX7_in1) rfl rfl rfl (Nat.le_of_ble_eq_true rfl) ?_
          refine x_ifb_eq (pc := 15) dX7_change_15 (tgt := 47) rfl (fun h15 => ?_) (fun h15 => ?_)
          ·
            refine x_aload_n (pc := 47) dX7_change_47 rfl rfl ?_
            refine x_iconst (pc := 48) (v := 0) dX7_change_48 rfl ?_
            refine x_Vi (pc := 49) ks_X7_114 dX7_change_49 (tb_106) rfl rfl (hX7_noL 0 (-1000001) (by decide) (by decide +kernel)) rfl rfl rfl (Nat.le_of_ble_eq_true rfl) ?_
            refine x_iret (pc := 52) dX7_change_52 rfl (by first | rfl | exact fv_nz _) ?_
            exact ⟨rfl, rfl⟩
          ·
            contradiction
  · skip
    refine pOp.bad (v := -1000001) 0 I ?_ (fun M1 hF => ?_)
    · skip
      refine fv_F.of (ls := [some (.ref 0), some (.int b), some (.int q), some (.int v), none]) (by decide) (Nat.le_of_ble_eq_true rfl) rfl ?_
      refine x_aload_n (pc := 0) dX6_change_0 rfl rfl ?_
      refine x_geta (pc := 1) fl_X6_12 dX6_change_1 (tb_fv) rfl ?_
      refine x_iload_n (pc := 4) dX6_change_4 rfl rfl ?_
      refine x_Vi (pc := 5) ks_X6_68 dX6_change_5 (tb_st (by assumption)) rfl rfl (hHb hB) rfl rfl rfl (Nat.le_of_ble_eq_true rfl) ?_
      refine x_ifb_eq (pc := 8) dX6_change_8 (tgt := 31) rfl (fun h8 => ?_) (fun h8 => ?_)
      ·
        refine x_aload_n (pc := 31) dX6_change_31 rfl rfl ?_
        refine x_ldc (pc := 32) kc_X6_55 dX6_change_32 ?_
        refine x_Vi (pc := 34) ks_X6_56 dX6_change_34 (tb_fv) rfl rfl (hX6_fin 0 (-1000001) (by decide +kernel) (by decide)) rfl rfl rfl (Nat.le_of_ble_eq_true rfl) ?_
        refine x_iret (pc := 37) dX6_change_37 rfl (by first | rfl | exact fv_nz _) ?_
        exact ⟨rfl, rfl⟩
      ·
        contradiction
    · skip
      have e22 : M1 22 = M 22 := hF 22 (by decide)
      have hG1 : pGd (M1 22) nb nm := by rw [e22]; exact hG2
      have hE1 : pEq nb nm (M1 22) (M 0) := by rw [e22]; exact hE
      have hB1 := hG1.1
      have hM1 := hG1.2.2.1
      refine fv_F.of (ls := [some (.ref 106), some (.int b), some (.int q), some (.int v), none]) (by decide) (Nat.le_of_ble_eq_true rfl) rfl ?_
      refine x_aload_n (pc := 0) dX7_change_0 rfl rfl ?_
      refine x_iload_n (pc := 1) dX7_change_1 rfl rfl ?_
      refine x_Vi (pc := 2) ks_X7_120 dX7_change_2 (tb_106) rfl rfl (hX7_isBird (x := nI nb) hB1) rfl rfl rfl (Nat.le_of_ble_eq_true rfl) ?_
      refine x_ifb_eq (pc := 5) dX7_change_5 (tgt := 47) rfl (fun h5 => ?_) (fun h5 => ?_)
      ·
        refine x_aload_n (pc := 47) dX7_change_47 rfl rfl ?_
        refine x_iconst (pc := 48) (v := 0) dX7_change_48 rfl ?_
        refine x_Vi (pc := 49) ks_X7_114 dX7_change_49 (tb_106) rfl rfl (hX7_noL 0 (-1000001) (by decide) (by decide +kernel)) rfl rfl rfl (Nat.le_of_ble_eq_true rfl) ?_
        refine x_iret (pc := 52) dX7_change_52 rfl (by first | rfl | exact fv_nz _) ?_
        exact ⟨rfl, rfl⟩
      ·
        contradiction
theorem op_tell {E : fv_E} {m q v : Int32} {M : fv_M} (I : pInv M) : pOp E mX6_tell mX7_tell [.int m, .int q, .int v] M := by
  obtain ⟨nb, nm, hG, hE, t, ht, eT⟩ := I.1
  have hs0 : 0 < 3 := by decide
  have hs1 : 1 < 3 := by decide
  have hB := hG.1
  have hb := hG.2.1
  have hM := hG.2.2.1
  have hn := hG.2.2.2.1
  have hK := hG.K
  have hC := hG.C
  have hG2 : pGd (M 22) nb nm := hG.cg hE
  by_cases hm : 0 ≤ m ∧ m ≤ nI nm - 1
  · by_cases hq : 0 ≤ q ∧ q ≤ 4
    · obtain ⟨k, hk, rfl⟩ := pUx (by omega) hm
      obtain ⟨z, hz, rfl⟩ := pUm (n := 4) (by decide) hq
      have hb8 : k < 8 := by omega
      by_cases hv : 0 ≤ v ∧ v ≤ (if nI z = 0 then 3 else if nI z = 1 then 99 else if nI z = 2 then pAll nb else if nI z = 3 then 4 else 1)
      · have hlim : ∃ x, x < pMm z ∧ v = nI x := by
          match z, hz with
          | 0, _ => exact (pUm (n := 3) (by decide) hv).imp (fun x hx => ⟨by show x < 4; omega, hx.2⟩)
          | 1, _ => exact (pUm (n := 99) (by decide) hv).imp (fun x hx => ⟨by show x < 100; omega, hx.2⟩)
          | 2, _ =>
            obtain ⟨x, hx, e⟩ := pAllx hb hv
            exact ⟨x, Nat.lt_of_lt_of_le hx (pAll_of hb).2.1, e⟩
          | 3, _ => exact (pUm (n := 4) (by decide) hv).imp (fun x hx => ⟨by show x < 5; omega, hx.2⟩)
          | 4, _ => exact (pUm (n := 1) (by decide) hv).imp (fun x hx => ⟨by show x < 2; omega, hx.2⟩)
          | n + 5, h => omega
        refine pOp.mut (v := M 0 (fM k z)) (fv_u (M 0) (fM k z) v) I ?_ (fun M1 hF h0 => ?_)
        · skip
          refine fv_P.of (ls := [some (.ref 0), some (.int (nI k)), some (.int (nI z)), some (.int v), none]) (by decide) (Nat.le_of_ble_eq_true rfl) rfl ?_
          refine x_aload_n (pc := 0) dX6_tell_0 rfl rfl ?_
          refine x_geta (pc := 1) fl_X6_12 dX6_tell_1 (tb_fv) rfl ?_
          refine x_iload_n (pc := 4) dX6_tell_4 rfl rfl ?_
          refine x_Vi (pc := 5) ks_X6_94 dX6_tell_5 (tb_st (by assumption)) rfl rfl (hHm hM) rfl rfl rfl (Nat.le_of_ble_eq_true rfl) ?_
          refine x_ifb_eq (pc := 8) dX6_tell_8 (tgt := 37) rfl (fun h8 => ?_) (fun h8 => ?_)
          ·
            contradiction
          ·
            refine x_iload_n (pc := 11) dX6_tell_11 rfl rfl ?_
            refine x_iconst (pc := 12) (v := 4) dX6_tell_12 rfl ?_
            refine x_Si (pc := 13) ks_X6_51 dX6_tell_13 (hX6_isUpTo) rfl rfl rfl (Nat.le_of_ble_eq_true rfl) ?_
            refine x_ifb_eq (pc := 16) dX6_tell_16 (tgt := 37) rfl (fun h16 => ?_) (fun h16 => ?_)
            ·
              contradiction
            ·
              refine x_iload_n (pc := 19) dX6_tell_19 rfl rfl ?_
              refine x_iload_n (pc := 20) dX6_tell_20 rfl rfl ?_
              refine x_aload_n (pc := 21) dX6_tell_21 rfl rfl ?_
              refine x_geta (pc := 22) fl_X6_12 dX6_tell_22 (tb_fv) rfl ?_
              refine x_Vi (pc := 25) ks_X6_104 dX6_tell_25 (tb_st (by assumption)) rfl rfl (hX4_allBirds hs0 hB) rfl rfl rfl (Nat.le_of_ble_eq_true rfl) ?_
              refine x_Si (pc := 28) ks_X6_108 dX6_tell_28 (hX1_mostOf) rfl rfl rfl (Nat.le_of_ble_eq_true rfl) ?_
              refine x_Si (pc := 31) ks_X6_51 dX6_tell_31 (hX6_isUpTo) rfl rfl rfl (Nat.le_of_ble_eq_true rfl) ?_
              refine x_ifb_ne (pc := 34) dX6_tell_34 (tgt := 44) rfl (fun h34 => ?_) (fun h34 => ?_)
              ·
                refine x_aload_n (pc := 44) dX6_tell_44 rfl rfl ?_
                refine x_geta (pc := 45) fl_X6_12 dX6_tell_45 (tb_fv) rfl ?_
                refine x_geta (pc := 48) fl_X6_97 dX6_tell_48 (tb_st (by assumption)) rfl ?_
                refine x_iload_n (pc := 51) dX6_tell_51 rfl rfl ?_
                refine x_motion (pc := 52) dX6_tell_52 (by assumption) (rfl) (by first | assumption | decide | omega) ?_
                refine x_iload_n (pc := 53) dX6_tell_53 rfl rfl ?_
                refine x_Vi (pc := 54) ks_X6_101 dX6_tell_54 (tb_m (by assumption) (by assumption)) rfl rfl (hX1_feature hs0 hb8 (by omega)) rfl rfl rfl (Nat.le_of_ble_eq_true rfl) ?_
                refine x_istore4 (pc := 57) dX6_tell_57 rfl ?_
                refine x_aload_n (pc := 59) dX6_tell_59 rfl rfl ?_
                refine x_geta (pc := 60) fl_X6_12 dX6_tell_60 (tb_fv) rfl ?_
                refine x_geta (pc := 63) fl_X6_97 dX6_tell_63 (tb_st (by assumption)) rfl ?_
                refine x_iload_n (pc := 66) dX6_tell_66 rfl rfl ?_
                refine x_motion (pc := 67) dX6_tell_67 (by assumption) (rfl) (by first | assumption | decide | omega) ?_
                refine x_iload_n (pc := 68) dX6_tell_68 rfl rfl ?_
                refine x_iload_n (pc := 69) dX6_tell_69 rfl rfl ?_
                refine x_Vv (pc := 70) ks_X6_111 dX6_tell_70 (tb_m (by assumption) (by assumption)) rfl rfl (hX1_setFeature hs0 hb8 (by omega)) rfl rfl rfl (Nat.le_of_ble_eq_true rfl) ?_
                refine x_iload (pc := 73) dX6_tell_73 rfl ?_
                refine x_iret (pc := 75) dX6_tell_75 rfl (by first | rfl | exact fv_nz _) ?_
                exact ⟨rfl, pFr.rfl'.s (by decide), fv_s_same _ _ _⟩
              ·
                contradiction
        · skip
          have e22 : M1 22 = M 22 := hF 22 (by decide)
          have hG1 : pGd (M1 22) nb nm := by rw [e22]; exact hG2
          have hE1 : pEq nb nm (M1 22) (M 0) := by rw [e22]; exact hE
          have hB1 := hG1.1
          have hM1 := hG1.2.2.1
          skip
          refine fv_P.of (ls := [some (.ref 106), some (.int (nI k)), some (.int (nI z)), some (.int v), none]) (by decide) (Nat.le_of_ble_eq_true rfl) rfl ?_
          refine x_aload_n (pc := 0) dX7_tell_0 rfl rfl ?_
          refine x_iload_n (pc := 1) dX7_tell_1 rfl rfl ?_
          refine x_Vi (pc := 2) ks_X7_126 dX7_tell_2 (tb_106) rfl rfl (hX7_isMotion (x := nI nm) hM1) rfl rfl rfl (Nat.le_of_ble_eq_true rfl) ?_
          refine x_ifb_eq (pc := 5) dX7_tell_5 (tgt := 30) rfl (fun h5 => ?_) (fun h5 => ?_)
          ·
            contradiction
          ·
            refine x_iload_n (pc := 8) dX7_tell_8 rfl rfl ?_
            refine x_iconst (pc := 9) (v := 0) dX7_tell_9 rfl ?_
            refine x_iconst (pc := 10) (v := 4) dX7_tell_10 rfl ?_
            refine x_Si (pc := 11) ks_X7_60 dX7_tell_11 (hX7_in1) rfl rfl rfl (Nat.le_of_ble_eq_true rfl) ?_
            refine x_ifb_eq (pc := 14) dX7_tell_14 (tgt := 30) rfl (fun h14 => ?_) (fun h14 => ?_)
            ·
              contradiction
            ·
              refine x_iload_n (pc := 17) dX7_tell_17 rfl rfl ?_
              refine x_iconst (pc := 18) (v := 0) dX7_tell_18 rfl ?_
              refine x_aload_n (pc := 19) dX7_tell_19 rfl rfl ?_
              refine x_iload_n (pc := 20) dX7_tell_20 rfl rfl ?_
              refine x_Vi (pc := 21) ks_X7_133 dX7_tell_21 (tb_106) rfl rfl (hX7_greatest hB1) rfl rfl rfl (Nat.le_of_ble_eq_true rfl) ?_
              refine x_Si (pc := 24) ks_X7_60 dX7_tell_24 (hX7_in1) rfl rfl rfl (Nat.le_of_ble_eq_true rfl) ?_
              refine x_ifb_ne (pc := 27) dX7_tell_27 (tgt := 36) rfl (fun h27 => ?_) (fun h27 => ?_)
              ·
                refine x_aload_n (pc := 36) dX7_tell_36 rfl rfl ?_
                refine x_iload_n (pc := 37) dX7_tell_37 rfl rfl ?_
                refine x_iload_n (pc := 38) dX7_tell_38 rfl rfl ?_
                refine x_Vi (pc := 39) ks_X7_80 dX7_tell_39 (tb_106) rfl rfl ((hX7_of1 hb8 (by omega)).v (hE1.m hk (by omega))) rfl rfl rfl (Nat.le_of_ble_eq_true rfl) ?_
                refine x_istore4 (pc := 42) dX7_tell_42 rfl ?_
                refine x_aload_n (pc := 44) dX7_tell_44 rfl rfl ?_
                refine x_iload_n (pc := 45) dX7_tell_45 rfl rfl ?_
                refine x_iload_n (pc := 46) dX7_tell_46 rfl rfl ?_
                refine x_iload_n (pc := 47) dX7_tell_47 rfl rfl ?_
                refine x_Vv (pc := 48) ks_X7_107 dX7_tell_48 (tb_106) rfl rfl (hX7_puts1 hb8 (by omega)) rfl rfl rfl (Nat.le_of_ble_eq_true rfl) ?_
                refine x_iload (pc := 51) dX7_tell_51 rfl ?_
                refine x_iret (pc := 53) dX7_tell_53 rfl (by first | rfl | exact fv_nz _) ?_
                exact ⟨rfl, pFr.rfl'.s (by decide), nb, nm, by rw [fv_s_same]; exact pI1.u ht eT hE1 (pGd_um hG hk (by omega) hlim) (by unfold fM; omega)⟩
              ·
                contradiction
      · skip
        refine pOp.bad (v := -1000001) 0 I ?_ (fun M1 hF => ?_)
        · skip
          refine fv_F.of (ls := [some (.ref 0), some (.int (nI k)), some (.int (nI z)), some (.int v), none]) (by decide) (Nat.le_of_ble_eq_true rfl) rfl ?_
          refine x_aload_n (pc := 0) dX6_tell_0 rfl rfl ?_
          refine x_geta (pc := 1) fl_X6_12 dX6_tell_1 (tb_fv) rfl ?_
          refine x_iload_n (pc := 4) dX6_tell_4 rfl rfl ?_
          refine x_Vi (pc := 5) ks_X6_94 dX6_tell_5 (tb_st (by assumption)) rfl rfl (hHm hM) rfl rfl rfl (Nat.le_of_ble_eq_true rfl) ?_
          refine x_ifb_eq (pc := 8) dX6_tell_8 (tgt := 37) rfl (fun h8 => ?_) (fun h8 => ?_)
          ·
            contradiction
          ·
            refine x_iload_n (pc := 11) dX6_tell_11 rfl rfl ?_
            refine x_iconst (pc := 12) (v := 4) dX6_tell_12 rfl ?_
            refine x_Si (pc := 13) ks_X6_51 dX6_tell_13 (hX6_isUpTo) rfl rfl rfl (Nat.le_of_ble_eq_true rfl) ?_
            refine x_ifb_eq (pc := 16) dX6_tell_16 (tgt := 37) rfl (fun h16 => ?_) (fun h16 => ?_)
            ·
              contradiction
            ·
              refine x_iload_n (pc := 19) dX6_tell_19 rfl rfl ?_
              refine x_iload_n (pc := 20) dX6_tell_20 rfl rfl ?_
              refine x_aload_n (pc := 21) dX6_tell_21 rfl rfl ?_
              refine x_geta (pc := 22) fl_X6_12 dX6_tell_22 (tb_fv) rfl ?_
              refine x_Vi (pc := 25) ks_X6_104 dX6_tell_25 (tb_st (by assumption)) rfl rfl (hX4_allBirds hs0 hB) rfl rfl rfl (Nat.le_of_ble_eq_true rfl) ?_
              refine x_Si (pc := 28) ks_X6_108 dX6_tell_28 (hX1_mostOf) rfl rfl rfl (Nat.le_of_ble_eq_true rfl) ?_
              refine x_Si (pc := 31) ks_X6_51 dX6_tell_31 (hX6_isUpTo) rfl rfl rfl (Nat.le_of_ble_eq_true rfl) ?_
              refine x_ifb_ne (pc := 34) dX6_tell_34 (tgt := 44) rfl (fun h34 => ?_) (fun h34 => ?_)
              ·
                contradiction
              ·
                refine x_aload_n (pc := 37) dX6_tell_37 rfl rfl ?_
                refine x_ldc (pc := 38) kc_X6_55 dX6_tell_38 ?_
                refine x_Vi (pc := 40) ks_X6_56 dX6_tell_40 (tb_fv) rfl rfl (hX6_fin 0 (-1000001) (by decide +kernel) (by decide)) rfl rfl rfl (Nat.le_of_ble_eq_true rfl) ?_
                refine x_iret (pc := 43) dX6_tell_43 rfl (by first | rfl | exact fv_nz _) ?_
                exact ⟨rfl, rfl⟩
        · skip
          have e22 : M1 22 = M 22 := hF 22 (by decide)
          have hG1 : pGd (M1 22) nb nm := by rw [e22]; exact hG2
          have hE1 : pEq nb nm (M1 22) (M 0) := by rw [e22]; exact hE
          have hB1 := hG1.1
          have hM1 := hG1.2.2.1
          refine fv_F.of (ls := [some (.ref 106), some (.int (nI k)), some (.int (nI z)), some (.int v), none]) (by decide) (Nat.le_of_ble_eq_true rfl) rfl ?_
          refine x_aload_n (pc := 0) dX7_tell_0 rfl rfl ?_
          refine x_iload_n (pc := 1) dX7_tell_1 rfl rfl ?_
          refine x_Vi (pc := 2) ks_X7_126 dX7_tell_2 (tb_106) rfl rfl (hX7_isMotion (x := nI nm) hM1) rfl rfl rfl (Nat.le_of_ble_eq_true rfl) ?_
          refine x_ifb_eq (pc := 5) dX7_tell_5 (tgt := 30) rfl (fun h5 => ?_) (fun h5 => ?_)
          ·
            contradiction
          ·
            refine x_iload_n (pc := 8) dX7_tell_8 rfl rfl ?_
            refine x_iconst (pc := 9) (v := 0) dX7_tell_9 rfl ?_
            refine x_iconst (pc := 10) (v := 4) dX7_tell_10 rfl ?_
            refine x_Si (pc := 11) ks_X7_60 dX7_tell_11 (hX7_in1) rfl rfl rfl (Nat.le_of_ble_eq_true rfl) ?_
            refine x_ifb_eq (pc := 14) dX7_tell_14 (tgt := 30) rfl (fun h14 => ?_) (fun h14 => ?_)
            ·
              contradiction
            ·
              refine x_iload_n (pc := 17) dX7_tell_17 rfl rfl ?_
              refine x_iconst (pc := 18) (v := 0) dX7_tell_18 rfl ?_
              refine x_aload_n (pc := 19) dX7_tell_19 rfl rfl ?_
              refine x_iload_n (pc := 20) dX7_tell_20 rfl rfl ?_
              refine x_Vi (pc := 21) ks_X7_133 dX7_tell_21 (tb_106) rfl rfl (hX7_greatest hB1) rfl rfl rfl (Nat.le_of_ble_eq_true rfl) ?_
              refine x_Si (pc := 24) ks_X7_60 dX7_tell_24 (hX7_in1) rfl rfl rfl (Nat.le_of_ble_eq_true rfl) ?_
              refine x_ifb_ne (pc := 27) dX7_tell_27 (tgt := 36) rfl (fun h27 => ?_) (fun h27 => ?_)
              ·
                contradiction
              ·
                refine x_aload_n (pc := 30) dX7_tell_30 rfl rfl ?_
                refine x_iconst (pc := 31) (v := 0) dX7_tell_31 rfl ?_
                refine x_Vi (pc := 32) ks_X7_114 dX7_tell_32 (tb_106) rfl rfl (hX7_noL 0 (-1000001) (by decide) (by decide +kernel)) rfl rfl rfl (Nat.le_of_ble_eq_true rfl) ?_
                refine x_iret (pc := 35) dX7_tell_35 rfl (by first | rfl | exact fv_nz _) ?_
                exact ⟨rfl, rfl⟩
    · skip
      refine pOp.bad (v := -1000001) 0 I ?_ (fun M1 hF => ?_)
      · skip
        refine fv_F.of (ls := [some (.ref 0), some (.int m), some (.int q), some (.int v), none]) (by decide) (Nat.le_of_ble_eq_true rfl) rfl ?_
        refine x_aload_n (pc := 0) dX6_tell_0 rfl rfl ?_
        refine x_geta (pc := 1) fl_X6_12 dX6_tell_1 (tb_fv) rfl ?_
        refine x_iload_n (pc := 4) dX6_tell_4 rfl rfl ?_
        refine x_Vi (pc := 5) ks_X6_94 dX6_tell_5 (tb_st (by assumption)) rfl rfl (hHm hM) rfl rfl rfl (Nat.le_of_ble_eq_true rfl) ?_
        refine x_ifb_eq (pc := 8) dX6_tell_8 (tgt := 37) rfl (fun h8 => ?_) (fun h8 => ?_)
        ·
          contradiction
        ·
          refine x_iload_n (pc := 11) dX6_tell_11 rfl rfl ?_
          refine x_iconst (pc := 12) (v := 4) dX6_tell_12 rfl ?_
          refine x_Si (pc := 13) ks_X6_51 dX6_tell_13 (hX6_isUpTo) rfl rfl rfl (Nat.le_of_ble_eq_true rfl) ?_
          refine x_ifb_eq (pc := 16) dX6_tell_16 (tgt := 37) rfl (fun h16 => ?_) (fun h16 => ?_)
          ·
            refine x_aload_n (pc := 37) dX6_tell_37 rfl rfl ?_
            refine x_ldc (pc := 38) kc_X6_55 dX6_tell_38 ?_
            refine x_Vi (pc := 40) ks_X6_56 dX6_tell_40 (tb_fv) rfl rfl (hX6_fin 0 (-1000001) (by decide +kernel) (by decide)) rfl rfl rfl (Nat.le_of_ble_eq_true rfl) ?_
            refine x_iret (pc := 43) dX6_tell_43 rfl (by first | rfl | exact fv_nz _) ?_
            exact ⟨rfl, rfl⟩
          ·
            contradiction
      · skip
        have e22 : M1 22 = M 22 := hF 22 (by decide)
        have hG1 : pGd (M1 22) nb nm := by rw [e22]; exact hG2
        have hE1 : pEq nb nm (M1 22) (M 0) := by rw [e22]; exact hE
        have hB1 := hG1.1
        have hM1 := hG1.2.2.1
        refine fv_F.of (ls := [some (.ref 106), some (.int m), some (.int q), some (.int v), none]) (by decide) (Nat.le_of_ble_eq_true rfl) rfl ?_
        refine x_aload_n (pc := 0) dX7_tell_0 rfl rfl ?_
        refine x_iload_n (pc := 1) dX7_tell_1 rfl rfl ?_
        refine x_Vi (pc := 2) ks_X7_126 dX7_tell_2 (tb_106) rfl rfl (hX7_isMotion (x := nI nm) hM1) rfl rfl rfl (Nat.le_of_ble_eq_true rfl) ?_
        refine x_ifb_eq (pc := 5) dX7_tell_5 (tgt := 30) rfl (fun h5 => ?_) (fun h5 => ?_)
        ·
          contradiction
        ·
          refine x_iload_n (pc := 8) dX7_tell_8 rfl rfl ?_
          refine x_iconst (pc := 9) (v := 0) dX7_tell_9 rfl ?_
          refine x_iconst (pc := 10) (v := 4) dX7_tell_10 rfl ?_
          refine x_Si (pc := 11) ks_X7_60 dX7_tell_11 (hX7_in1) rfl rfl rfl (Nat.le_of_ble_eq_true rfl) ?_
          refine x_ifb_eq (pc := 14) dX7_tell_14 (tgt := 30) rfl (fun h14 => ?_) (fun h14 => ?_)
          ·
            refine x_aload_n (pc := 30) dX7_tell_30 rfl rfl ?_
            refine x_iconst (pc := 31) (v := 0) dX7_tell_31 rfl ?_
            refine x_Vi (pc := 32) ks_X7_114 dX7_tell_32 (tb_106) rfl rfl (hX7_noL 0 (-1000001) (by decide) (by decide +kernel)) rfl rfl rfl (Nat.le_of_ble_eq_true rfl) ?_
            refine x_iret (pc := 35) dX7_tell_35 rfl (by first | rfl | exact fv_nz _) ?_
            exact ⟨rfl, rfl⟩
          ·
            contradiction
  · skip
    refine pOp.bad (v := -1000001) 0 I ?_ (fun M1 hF => ?_)
    · skip
      refine fv_F.of (ls := [some (.ref 0), some (.int m), some (.int q), some (.int v), none]) (by decide) (Nat.le_of_ble_eq_true rfl) rfl ?_
      refine x_aload_n (pc := 0) dX6_tell_0 rfl rfl ?_
      refine x_geta (pc := 1) fl_X6_12 dX6_tell_1 (tb_fv) rfl ?_
      refine x_iload_n (pc := 4) dX6_tell_4 rfl rfl ?_
      refine x_Vi (pc := 5) ks_X6_94 dX6_tell_5 (tb_st (by assumption)) rfl rfl (hHm hM) rfl rfl rfl (Nat.le_of_ble_eq_true rfl) ?_
      refine x_ifb_eq (pc := 8) dX6_tell_8 (tgt := 37) rfl (fun h8 => ?_) (fun h8 => ?_)
      ·
        refine x_aload_n (pc := 37) dX6_tell_37 rfl rfl ?_
        refine x_ldc (pc := 38) kc_X6_55 dX6_tell_38 ?_
        refine x_Vi (pc := 40) ks_X6_56 dX6_tell_40 (tb_fv) rfl rfl (hX6_fin 0 (-1000001) (by decide +kernel) (by decide)) rfl rfl rfl (Nat.le_of_ble_eq_true rfl) ?_
        refine x_iret (pc := 43) dX6_tell_43 rfl (by first | rfl | exact fv_nz _) ?_
        exact ⟨rfl, rfl⟩
      ·
        contradiction
    · skip
      have e22 : M1 22 = M 22 := hF 22 (by decide)
      have hG1 : pGd (M1 22) nb nm := by rw [e22]; exact hG2
      have hE1 : pEq nb nm (M1 22) (M 0) := by rw [e22]; exact hE
      have hB1 := hG1.1
      have hM1 := hG1.2.2.1
      refine fv_F.of (ls := [some (.ref 106), some (.int m), some (.int q), some (.int v), none]) (by decide) (Nat.le_of_ble_eq_true rfl) rfl ?_
      refine x_aload_n (pc := 0) dX7_tell_0 rfl rfl ?_
      refine x_iload_n (pc := 1) dX7_tell_1 rfl rfl ?_
      refine x_Vi (pc := 2) ks_X7_126 dX7_tell_2 (tb_106) rfl rfl (hX7_isMotion (x := nI nm) hM1) rfl rfl rfl (Nat.le_of_ble_eq_true rfl) ?_
      refine x_ifb_eq (pc := 5) dX7_tell_5 (tgt := 30) rfl (fun h5 => ?_) (fun h5 => ?_)
      ·
        refine x_aload_n (pc := 30) dX7_tell_30 rfl rfl ?_
        refine x_iconst (pc := 31) (v := 0) dX7_tell_31 rfl ?_
        refine x_Vi (pc := 32) ks_X7_114 dX7_tell_32 (tb_106) rfl rfl (hX7_noL 0 (-1000001) (by decide) (by decide +kernel)) rfl rfl rfl (Nat.le_of_ble_eq_true rfl) ?_
        refine x_iret (pc := 35) dX7_tell_35 rfl (by first | rfl | exact fv_nz _) ?_
        exact ⟨rfl, rfl⟩
      ·
        contradiction
theorem op_vote {E : fv_E} {m : Int32} {M : fv_M} (I : pInv M) : pOp E mX6_vote mX7_vote [.int m] M := by
  obtain ⟨nb, nm, hG, hE, t, ht, eT⟩ := I.1
  have hs0 : 0 < 3 := by decide
  have hs1 : 1 < 3 := by decide
  have hB := hG.1
  have hb := hG.2.1
  have hM := hG.2.2.1
  have hn := hG.2.2.2.1
  have hK := hG.K
  have hC := hG.C
  have hG2 : pGd (M 22) nb nm := hG.cg hE
  by_cases hm : 0 ≤ m ∧ m ≤ nI nm - 1
  · obtain ⟨k, hk, rfl⟩ := pUx (by omega) hm
    have hc := pCo_of hC hk
    refine pOp.mut (v := bI (pVp (M 0) k (pCo (M 0) k) nb)) (pVo nb k (M 0)) I ?_ (fun M1 hF h0 => ?_)
    · skip
      refine fv_P.of (ls := [some (.ref 0), some (.int (nI k))]) (by decide) (Nat.le_of_ble_eq_true rfl) rfl ?_
      refine x_aload_n (pc := 0) dX6_vote_0 rfl rfl ?_
      refine x_geta (pc := 1) fl_X6_12 dX6_vote_1 (tb_fv) rfl ?_
      refine x_iload_n (pc := 4) dX6_vote_4 rfl rfl ?_
      refine x_Vi (pc := 5) ks_X6_94 dX6_vote_5 (tb_st (by assumption)) rfl rfl (hHm hM) rfl rfl rfl (Nat.le_of_ble_eq_true rfl) ?_
      refine x_ifb_ne (pc := 8) dX6_vote_8 (tgt := 18) rfl (fun h8 => ?_) (fun h8 => ?_)
      ·
        refine x_aload_n (pc := 18) dX6_vote_18 rfl rfl ?_
        refine x_geta (pc := 19) fl_X6_12 dX6_vote_19 (tb_fv) rfl ?_
        refine x_aload_n (pc := 22) dX6_vote_22 rfl rfl ?_
        refine x_geta (pc := 23) fl_X6_12 dX6_vote_23 (tb_fv) rfl ?_
        refine x_geta (pc := 26) fl_X6_97 dX6_vote_26 (tb_st (by assumption)) rfl ?_
        refine x_iload_n (pc := 29) dX6_vote_29 rfl rfl ?_
        refine x_motion (pc := 30) dX6_vote_30 (by assumption) (rfl) (by first | assumption | decide | omega) ?_
        refine x_Vi (pc := 31) ks_X6_127 dX6_vote_31 (tb_st (by assumption)) rfl rfl (hX4_castVote hs0 hB hb hK (by omega) hc.1 hc.2) rfl rfl rfl (Nat.le_of_ble_eq_true rfl) ?_
        refine x_ifb_eq (pc := 34) dX6_vote_34 (tgt := 41) rfl (fun h34 => ?_) (fun h34 => ?_)
        ·
          refine x_iconst (pc := 41) (v := 0) dX6_vote_41 rfl ?_
          refine x_iret (pc := 42) dX6_vote_42 rfl (by first | rfl | exact fv_nz _) ?_
          first | exact ⟨fv_rt h34, pFr.rfl'.s (by decide), fv_s_same _ _ _⟩ | exact ⟨fv_rf h34, pFr.rfl'.s (by decide), fv_s_same _ _ _⟩
        ·
          refine x_iconst (pc := 37) (v := 1) dX6_vote_37 rfl ?_
          refine x_goto (pc := 38) dX6_vote_38 (tgt := 42) rfl ?_
          refine x_iret (pc := 42) dX6_vote_42 rfl (by first | rfl | exact fv_nz _) ?_
          first | exact ⟨fv_rt h34, pFr.rfl'.s (by decide), fv_s_same _ _ _⟩ | exact ⟨fv_rf h34, pFr.rfl'.s (by decide), fv_s_same _ _ _⟩
      ·
        contradiction
    · skip
      have e22 : M1 22 = M 22 := hF 22 (by decide)
      have hG1 : pGd (M1 22) nb nm := by rw [e22]; exact hG2
      have hE1 : pEq nb nm (M1 22) (M 0) := by rw [e22]; exact hE
      have hB1 := hG1.1
      have hM1 := hG1.2.2.1
      have hvp : bI (pVp (M1 22) k (pCo (M1 22) k) nb) = bI (pVp (M 0) k (pCo (M 0) k) nb) := bI_congr (by rw [pCo_cg hE1 hk]; exact pVp_cg hE1 hk hc.2)
      have hvo : pI1 (pVo nb k (M 0)) (pVo nb k (M1 22)) nb nm := ⟨pGd_vote hG hk, pVo_cg hE1 hk hC, t, ht, (pVote_keep (fun b h => by unfold fB; omega) (by omega) (by unfold fM; omega) (fun b h => by unfold fB; omega)).trans eT⟩
      refine fv_P.of (ls := [some (.ref 106), some (.int (nI k))]) (by decide) (Nat.le_of_ble_eq_true rfl) rfl ?_
      refine x_aload_n (pc := 0) dX7_vote_0 rfl rfl ?_
      refine x_iload_n (pc := 1) dX7_vote_1 rfl rfl ?_
      refine x_Vi (pc := 2) ks_X7_126 dX7_vote_2 (tb_106) rfl rfl (hX7_isMotion (x := nI nm) hM1) rfl rfl rfl (Nat.le_of_ble_eq_true rfl) ?_
      refine x_ifb_eq (pc := 5) dX7_vote_5 (tgt := 24) rfl (fun h5 => ?_) (fun h5 => ?_)
      ·
        contradiction
      ·
        refine x_aload_n (pc := 8) dX7_vote_8 rfl rfl ?_
        refine x_iload_n (pc := 9) dX7_vote_9 rfl rfl ?_
        refine x_Vip (pc := 10) ks_X7_136 dX7_vote_10 (tb_106) rfl rfl ((hX7_vote1 hG1 hk).v hvp) rfl rfl rfl (Nat.le_of_ble_eq_true rfl) (fun M2 h2 => ?_)
        refine x_ifb_eq (pc := 13) dX7_vote_13 (tgt := 20) rfl (fun h13 => ?_) (fun h13 => ?_)
        ·
          refine x_iconst (pc := 20) (v := 0) dX7_vote_20 rfl ?_
          refine x_goto (pc := 21) dX7_vote_21 (tgt := 29) rfl ?_
          refine x_iret (pc := 29) dX7_vote_29 rfl (by first | rfl | exact fv_nz _) ?_
          first | exact ⟨fv_rt h13, h2.1.mono (by decide), nb, nm, by rw [h2.2]; exact hvo⟩ | exact ⟨fv_rf h13, h2.1.mono (by decide), nb, nm, by rw [h2.2]; exact hvo⟩
        ·
          refine x_iconst (pc := 16) (v := 1) dX7_vote_16 rfl ?_
          refine x_goto (pc := 17) dX7_vote_17 (tgt := 29) rfl ?_
          refine x_iret (pc := 29) dX7_vote_29 rfl (by first | rfl | exact fv_nz _) ?_
          first | exact ⟨fv_rt h13, h2.1.mono (by decide), nb, nm, by rw [h2.2]; exact hvo⟩ | exact ⟨fv_rf h13, h2.1.mono (by decide), nb, nm, by rw [h2.2]; exact hvo⟩
  · skip
    refine pOp.bad (v := -1000001) 0 I ?_ (fun M1 hF => ?_)
    · skip
      refine fv_F.of (ls := [some (.ref 0), some (.int m)]) (by decide) (Nat.le_of_ble_eq_true rfl) rfl ?_
      refine x_aload_n (pc := 0) dX6_vote_0 rfl rfl ?_
      refine x_geta (pc := 1) fl_X6_12 dX6_vote_1 (tb_fv) rfl ?_
      refine x_iload_n (pc := 4) dX6_vote_4 rfl rfl ?_
      refine x_Vi (pc := 5) ks_X6_94 dX6_vote_5 (tb_st (by assumption)) rfl rfl (hHm hM) rfl rfl rfl (Nat.le_of_ble_eq_true rfl) ?_
      refine x_ifb_ne (pc := 8) dX6_vote_8 (tgt := 18) rfl (fun h8 => ?_) (fun h8 => ?_)
      ·
        contradiction
      ·
        refine x_aload_n (pc := 11) dX6_vote_11 rfl rfl ?_
        refine x_ldc (pc := 12) kc_X6_55 dX6_vote_12 ?_
        refine x_Vi (pc := 14) ks_X6_56 dX6_vote_14 (tb_fv) rfl rfl (hX6_fin 0 (-1000001) (by decide +kernel) (by decide)) rfl rfl rfl (Nat.le_of_ble_eq_true rfl) ?_
        refine x_iret (pc := 17) dX6_vote_17 rfl (by first | rfl | exact fv_nz _) ?_
        exact ⟨rfl, rfl⟩
    · skip
      have e22 : M1 22 = M 22 := hF 22 (by decide)
      have hG1 : pGd (M1 22) nb nm := by rw [e22]; exact hG2
      have hE1 : pEq nb nm (M1 22) (M 0) := by rw [e22]; exact hE
      have hB1 := hG1.1
      have hM1 := hG1.2.2.1
      refine fv_F.of (ls := [some (.ref 106), some (.int m)]) (by decide) (Nat.le_of_ble_eq_true rfl) rfl ?_
      refine x_aload_n (pc := 0) dX7_vote_0 rfl rfl ?_
      refine x_iload_n (pc := 1) dX7_vote_1 rfl rfl ?_
      refine x_Vi (pc := 2) ks_X7_126 dX7_vote_2 (tb_106) rfl rfl (hX7_isMotion (x := nI nm) hM1) rfl rfl rfl (Nat.le_of_ble_eq_true rfl) ?_
      refine x_ifb_eq (pc := 5) dX7_vote_5 (tgt := 24) rfl (fun h5 => ?_) (fun h5 => ?_)
      ·
        refine x_aload_n (pc := 24) dX7_vote_24 rfl rfl ?_
        refine x_iconst (pc := 25) (v := 0) dX7_vote_25 rfl ?_
        refine x_Vi (pc := 26) ks_X7_114 dX7_vote_26 (tb_106) rfl rfl (hX7_noL 0 (-1000001) (by decide) (by decide +kernel)) rfl rfl rfl (Nat.le_of_ble_eq_true rfl) ?_
        refine x_iret (pc := 29) dX7_vote_29 rfl (by first | rfl | exact fv_nz _) ?_
        exact ⟨rfl, rfl⟩
      ·
        contradiction
theorem op_seed {E : fv_E} {v : Int32} {M : fv_M} (I : pInv M) : pOp E mX6_seed mX7_seed [.int v] M := by
  obtain ⟨nb, nm, hG, hE, t, ht, eT⟩ := I.1
  have hs0 : 0 < 3 := by decide
  have hs1 : 1 < 3 := by decide
  have hB := hG.1
  have hb := hG.2.1
  have hM := hG.2.2.1
  have hn := hG.2.2.2.1
  have hK := hG.K
  have hC := hG.C
  have hG2 : pGd (M 22) nb nm := hG.cg hE
  refine pOp.mut (v := M 0 3) (fv_u (M 0) 3 v) I ?_ (fun M1 hF h0 => ?_)
  · skip
    refine fv_P.of (ls := [some (.ref 0), some (.int v), none]) (by decide) (Nat.le_of_ble_eq_true rfl) rfl ?_
    refine x_aload_n (pc := 0) dX6_seed_0 rfl rfl ?_
    refine x_geta (pc := 1) fl_X6_12 dX6_seed_1 (tb_fv) rfl ?_
    refine x_geti (pc := 4) fl_X6_228 dX6_seed_4 (tb_st (by assumption)) rfl (rfl) ?_
    refine x_istore_n2 (pc := 7) dX6_seed_7 rfl ?_
    refine x_aload_n (pc := 8) dX6_seed_8 rfl rfl ?_
    refine x_geta (pc := 9) fl_X6_12 dX6_seed_9 (tb_fv) rfl ?_
    refine x_iload_n (pc := 12) dX6_seed_12 rfl rfl ?_
    refine x_put (pc := 13) fl_X6_228 dX6_seed_13 (tb_st (by assumption)) rfl rfl rfl ?_
    refine x_iload_n (pc := 16) dX6_seed_16 rfl rfl ?_
    refine x_iret (pc := 17) dX6_seed_17 rfl (by first | rfl | exact fv_nz _) ?_
    exact ⟨rfl, pFr.rfl'.s (by decide), fv_s_same _ _ _⟩
  · skip
    have e22 : M1 22 = M 22 := hF 22 (by decide)
    have hG1 : pGd (M1 22) nb nm := by rw [e22]; exact hG2
    have hE1 : pEq nb nm (M1 22) (M 0) := by rw [e22]; exact hE
    have hB1 := hG1.1
    have hM1 := hG1.2.2.1
    have hG3 : pGd (fv_u (M 0) 3 v) nb nm := pGd_u hG (by decide) (by decide) (fun b hb => pG1_of (fun j j1 j2 => by unfold fB at j1; exact fv_u_ne _ _ (by omega)) (hG.2.2.2.2.1 b hb)) (fun m hm => pG2_of (fun j j1 j2 => by unfold fM at j1; exact fv_u_ne _ _ (by omega)) (hG.2.2.2.2.2.1 m hm)) (fun c _ e => by omega) (fun c _ e => by omega) (fun e => by omega)
    refine fv_P.of (ls := [some (.ref 106), some (.int v), none]) (by decide) (Nat.le_of_ble_eq_true rfl) rfl ?_
    refine x_aload_n (pc := 0) dX7_seed_0 rfl rfl ?_
    refine x_geta (pc := 1) fl_X7_9 dX7_seed_1 (tb_106) rfl ?_
    refine x_iconst (pc := 4) (v := 3) dX7_seed_4 rfl ?_
    refine x_iale (pc := 5) dX7_seed_5 (tb_107) ((rfl : (3 : Int32) = nI 3)) (by decide) (by first | decide | assumption) (hE1.n (j := 3) (by decide)) ?_
    refine x_istore_n2 (pc := 6) dX7_seed_6 rfl ?_
    refine x_aload_n (pc := 7) dX7_seed_7 rfl rfl ?_
    refine x_geta (pc := 8) fl_X7_9 dX7_seed_8 (tb_106) rfl ?_
    refine x_iconst (pc := 11) (v := 3) dX7_seed_11 rfl ?_
    refine x_iload_n (pc := 12) dX7_seed_12 rfl rfl ?_
    refine x_iast (pc := 13) dX7_seed_13 (tb_107) ((rfl : (3 : Int32) = nI 3)) (by decide) (by first | decide | assumption) ?_
    refine x_iload_n (pc := 14) dX7_seed_14 rfl rfl ?_
    refine x_iret (pc := 15) dX7_seed_15 rfl (by first | rfl | exact fv_nz _) ?_
    exact ⟨rfl, pFr.rfl'.s (by decide), nb, nm, by rw [fv_s_same]; exact pI1.u ht eT hE1 hG3 (by decide)⟩
