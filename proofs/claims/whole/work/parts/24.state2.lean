abbrev pWa (σ : Nat → Int32) (n m : Nat) : Int32 := pAll n &&& (σ (fM m 2) ^^^ -1)
theorem hX4_dropOf {E : fv_E} {d s nb m c b : Nat} {M : fv_M} (hs : s < 3) (hB : M s 1 = nI nb) (hb : nb ≤ 8) (hK : pKd (M s) nb) (hm : m < 8) (hcol : M s (fM m 0) = nI c) (hc : c < 4) (hbn : b < nb) : fv_F E (d + 2) mX4_dropOf [.ref (aSt s), .int (nI b), .ref (aM s m)] M (some (.int (pDr (M s) b m c (pCr (M s) (if pIn (M s (fM m 2)) b then M s (fM m 2) else pWa (M s) nb m) nb)))) M := by
  refine fv_F.of (ls := [some (.ref (aSt s)), some (.int (nI b)), some (.ref (aM s m)), none]) (by decide) (Nat.le_of_ble_eq_true rfl) rfl ?_
  refine x_aload_n (pc := 0) dX4_dropOf_0 rfl rfl ?_
  refine x_geti (pc := 1) fl_X4_100 dX4_dropOf_1 (tb_m (by assumption) (by assumption)) rfl (rfl) ?_
  refine x_iload_n (pc := 4) dX4_dropOf_4 rfl rfl ?_
  refine x_Si (pc := 5) ks_X4_90 dX4_dropOf_5 (hX4_isIn) rfl rfl rfl (Nat.le_of_ble_eq_true rfl) ?_
  refine x_ifb_eq (pc := 8) dX4_dropOf_8 (tgt := 18) rfl (fun h8 => ?_) (fun h8 => ?_)
  ·
    refine x_aload_n (pc := 18) dX4_dropOf_18 rfl rfl ?_
    refine x_aload_n (pc := 19) dX4_dropOf_19 rfl rfl ?_
    refine x_Vi (pc := 20) ks_X4_103 dX4_dropOf_20 (tb_st (by assumption)) rfl rfl (hX4_againstIt hs hB hm) rfl rfl rfl (Nat.le_of_ble_eq_true rfl) ?_
    refine x_istore_n3 (pc := 23) dX4_dropOf_23 rfl ?_
    refine x_aload_n (pc := 24) dX4_dropOf_24 rfl rfl ?_
    refine x_geta (pc := 25) fl_X4_11 dX4_dropOf_25 (tb_st (by assumption)) rfl ?_
    refine x_iload_n (pc := 28) dX4_dropOf_28 rfl rfl ?_
    refine x_bird (pc := 29) dX4_dropOf_29 (by assumption) (rfl) (by first | assumption | decide | omega) ?_
    refine x_aload_n (pc := 30) dX4_dropOf_30 rfl rfl ?_
    refine x_aload_n (pc := 31) dX4_dropOf_31 rfl rfl ?_
    refine x_iload_n (pc := 32) dX4_dropOf_32 rfl rfl ?_
    refine x_Vi (pc := 33) ks_X4_107 dX4_dropOf_33 (tb_st (by assumption)) rfl rfl (hX4_crowsAmong hs hB hb hK) rfl rfl rfl (Nat.le_of_ble_eq_true rfl) ?_
    refine x_Vi (pc := 36) ks_X4_111 dX4_dropOf_36 (tb_b hs (by omega)) rfl rfl (hX0_dropFor hs (by omega) hm hcol hc) rfl rfl rfl (Nat.le_of_ble_eq_true rfl) ?_
    refine x_iret (pc := 39) dX4_dropOf_39 rfl (by first | rfl | exact fv_nz _) ?_
    refine ⟨?_, rfl⟩
    first | (rw [if_pos h8]; done) | (rw [if_neg h8]; done)
  ·
    refine x_aload_n (pc := 11) dX4_dropOf_11 rfl rfl ?_
    refine x_geti (pc := 12) fl_X4_100 dX4_dropOf_12 (tb_m (by assumption) (by assumption)) rfl (rfl) ?_
    refine x_goto (pc := 15) dX4_dropOf_15 (tgt := 23) rfl ?_
    refine x_istore_n3 (pc := 23) dX4_dropOf_23 rfl ?_
    refine x_aload_n (pc := 24) dX4_dropOf_24 rfl rfl ?_
    refine x_geta (pc := 25) fl_X4_11 dX4_dropOf_25 (tb_st (by assumption)) rfl ?_
    refine x_iload_n (pc := 28) dX4_dropOf_28 rfl rfl ?_
    refine x_bird (pc := 29) dX4_dropOf_29 (by assumption) (rfl) (by first | assumption | decide | omega) ?_
    refine x_aload_n (pc := 30) dX4_dropOf_30 rfl rfl ?_
    refine x_aload_n (pc := 31) dX4_dropOf_31 rfl rfl ?_
    refine x_iload_n (pc := 32) dX4_dropOf_32 rfl rfl ?_
    refine x_Vi (pc := 33) ks_X4_107 dX4_dropOf_33 (tb_st (by assumption)) rfl rfl (hX4_crowsAmong hs hB hb hK) rfl rfl rfl (Nat.le_of_ble_eq_true rfl) ?_
    refine x_Vi (pc := 36) ks_X4_111 dX4_dropOf_36 (tb_b hs (by omega)) rfl rfl (hX0_dropFor hs (by omega) hm hcol hc) rfl rfl rfl (Nat.le_of_ble_eq_true rfl) ?_
    refine x_iret (pc := 39) dX4_dropOf_39 rfl (by first | rfl | exact fv_nz _) ?_
    refine ⟨?_, rfl⟩
    first | (rw [if_pos h8]; done) | (rw [if_neg h8]; done)
theorem hX4_droppedFor {E : fv_E} {d s nb m c : Nat} {M : fv_M} (hs : s < 3) (hB : M s 1 = nI nb) (hb : nb ≤ 8) (hK : pKd (M s) nb) (hm : m < 8) (hcol : M s (fM m 0) = nI c) (hc : c < 4) : fv_F E (d + 3) mX4_droppedFor [.ref (aSt s), .ref (aM s m)] M (some (.int (pSd (M s) nb m c (M s (fM m 2))))) M := by
  refine fv_F.of (ls := [some (.ref (aSt s)), some (.ref (aM s m))]) (by decide) (Nat.le_of_ble_eq_true rfl) rfl ?_
  refine x_aload_n (pc := 0) dX4_droppedFor_0 rfl rfl ?_
  refine x_aload_n (pc := 1) dX4_droppedFor_1 rfl rfl ?_
  refine x_aload_n (pc := 2) dX4_droppedFor_2 rfl rfl ?_
  refine x_geti (pc := 3) fl_X4_100 dX4_droppedFor_3 (tb_m (by assumption) (by assumption)) rfl (rfl) ?_
  refine x_Vi (pc := 6) ks_X4_115 dX4_droppedFor_6 (tb_st (by assumption)) rfl rfl (hX4_droppedBy hs hB hb hK hm hcol hc) rfl rfl rfl (Nat.le_of_ble_eq_true rfl) ?_
  refine x_iret (pc := 9) dX4_droppedFor_9 rfl (by first | rfl | exact fv_nz _) ?_
  exact ⟨rfl, rfl⟩
theorem hX4_droppedAgainst {E : fv_E} {d s nb m c : Nat} {M : fv_M} (hs : s < 3) (hB : M s 1 = nI nb) (hb : nb ≤ 8) (hK : pKd (M s) nb) (hm : m < 8) (hcol : M s (fM m 0) = nI c) (hc : c < 4) : fv_F E (d + 3) mX4_droppedAgainst [.ref (aSt s), .ref (aM s m)] M (some (.int (pSd (M s) nb m c (pWa (M s) nb m)))) M := by
  refine fv_F.of (ls := [some (.ref (aSt s)), some (.ref (aM s m))]) (by decide) (Nat.le_of_ble_eq_true rfl) rfl ?_
  refine x_aload_n (pc := 0) dX4_droppedAgainst_0 rfl rfl ?_
  refine x_aload_n (pc := 1) dX4_droppedAgainst_1 rfl rfl ?_
  refine x_aload_n (pc := 2) dX4_droppedAgainst_2 rfl rfl ?_
  refine x_aload_n (pc := 3) dX4_droppedAgainst_3 rfl rfl ?_
  refine x_Vi (pc := 4) ks_X4_103 dX4_droppedAgainst_4 (tb_st (by assumption)) rfl rfl (hX4_againstIt hs hB hm) rfl rfl rfl (Nat.le_of_ble_eq_true rfl) ?_
  refine x_Vi (pc := 7) ks_X4_115 dX4_droppedAgainst_7 (tb_st (by assumption)) rfl rfl (hX4_droppedBy hs hB hb hK hm hcol hc) rfl rfl rfl (Nat.le_of_ble_eq_true rfl) ?_
  refine x_iret (pc := 10) dX4_droppedAgainst_10 rfl (by first | rfl | exact fv_nz _) ?_
  exact ⟨rfl, rfl⟩
theorem hX4_droppedInAll {E : fv_E} {d s nb m c : Nat} {M : fv_M} (hs : s < 3) (hB : M s 1 = nI nb) (hb : nb ≤ 8) (hK : pKd (M s) nb) (hm : m < 8) (hcol : M s (fM m 0) = nI c) (hc : c < 4) : fv_F E (d + 4) mX4_droppedInAll [.ref (aSt s), .ref (aM s m)] M (some (.int (pSd (M s) nb m c (M s (fM m 2)) + pSd (M s) nb m c (pWa (M s) nb m)))) M := by
  refine fv_F.of (ls := [some (.ref (aSt s)), some (.ref (aM s m))]) (by decide) (Nat.le_of_ble_eq_true rfl) rfl ?_
  refine x_aload_n (pc := 0) dX4_droppedInAll_0 rfl rfl ?_
  refine x_aload_n (pc := 1) dX4_droppedInAll_1 rfl rfl ?_
  refine x_Vi (pc := 2) ks_X4_118 dX4_droppedInAll_2 (tb_st (by assumption)) rfl rfl (hX4_droppedFor hs hB hb hK hm hcol hc) rfl rfl rfl (Nat.le_of_ble_eq_true rfl) ?_
  refine x_aload_n (pc := 5) dX4_droppedInAll_5 rfl rfl ?_
  refine x_aload_n (pc := 6) dX4_droppedInAll_6 rfl rfl ?_
  refine x_Vi (pc := 7) ks_X4_121 dX4_droppedInAll_7 (tb_st (by assumption)) rfl rfl (hX4_droppedAgainst hs hB hb hK hm hcol hc) rfl rfl rfl (Nat.le_of_ble_eq_true rfl) ?_
  refine x_iadd (pc := 10) dX4_droppedInAll_10 ?_
  refine x_iret (pc := 11) dX4_droppedInAll_11 rfl (by first | rfl | exact fv_nz _) ?_
  exact ⟨rfl, rfl⟩
/-- would motion m of colour c pass? -/
abbrev pPs (σ : Nat → Int32) (n m c : Nat) : Prop := pSd σ n m c (pWa σ n m) < pSd σ n m c (σ (fM m 2)) ∧ σ (fM m 1) ≤ pSd σ n m c (σ (fM m 2)) + pSd σ n m c (pWa σ n m)
theorem hX4_wouldPass {E : fv_E} {d s nb m c : Nat} {M : fv_M} (hs : s < 3) (hB : M s 1 = nI nb) (hb : nb ≤ 8) (hK : pKd (M s) nb) (hm : m < 8) (hcol : M s (fM m 0) = nI c) (hc : c < 4) : fv_F E (d + 4) mX4_wouldPass [.ref (aSt s), .ref (aM s m)] M (some (.int (bI (pPs (M s) nb m c)))) M := by
  refine fv_F.of (ls := [some (.ref (aSt s)), some (.ref (aM s m))]) (by decide) (Nat.le_of_ble_eq_true rfl) rfl ?_
  refine x_aload_n (pc := 0) dX4_wouldPass_0 rfl rfl ?_
  refine x_aload_n (pc := 1) dX4_wouldPass_1 rfl rfl ?_
  refine x_aload_n (pc := 2) dX4_wouldPass_2 rfl rfl ?_
  refine x_Vi (pc := 3) ks_X4_118 dX4_wouldPass_3 (tb_st (by assumption)) rfl rfl (hX4_droppedFor hs hB hb hK hm hcol hc) rfl rfl rfl (Nat.le_of_ble_eq_true rfl) ?_
  refine x_aload_n (pc := 6) dX4_wouldPass_6 rfl rfl ?_
  refine x_aload_n (pc := 7) dX4_wouldPass_7 rfl rfl ?_
  refine x_Vi (pc := 8) ks_X4_121 dX4_wouldPass_8 (tb_st (by assumption)) rfl rfl (hX4_droppedAgainst hs hB hb hK hm hcol hc) rfl rfl rfl (Nat.le_of_ble_eq_true rfl) ?_
  refine x_Vi (pc := 11) ks_X4_124 dX4_wouldPass_11 (tb_m (by assumption) (by assumption)) rfl rfl (hX1_isCarriedBy hs hm) rfl rfl rfl (Nat.le_of_ble_eq_true rfl) ?_
  refine x_iret (pc := 14) dX4_wouldPass_14 rfl (by first | rfl | exact fv_nz _) ?_
  exact ⟨rfl, rfl⟩
/-- colours of motions are colours -/
def pCl (σ : Nat → Int32) (n : Nat) : Prop := ∀ m, m < n → ∃ c, c < 4 ∧ σ (fM m 0) = nI c
def pCo (σ : Nat → Int32) (m : Nat) : Nat := (σ (fM m 0)).toNatClampNeg
theorem pCo_of {σ : Nat → Int32} {n m : Nat} (h : pCl σ n) (hm : m < n) : σ (fM m 0) = nI (pCo σ m) ∧ pCo σ m < 4 := by
  obtain ⟨c, hc, e⟩ := h m hm
  unfold pCo
  rw [e, nI_clamp (by omega)]
  exact ⟨rfl, hc⟩
abbrev pP (σ : Nat → Int32) (n m : Nat) : Prop := pPs σ n m (pCo σ m)
def pPn (σ : Nat → Int32) (nb nm : Nat) : Int32 := sN (fun m => bI (pP σ nb m)) nm
theorem pPn_t {σ : Nat → Int32} {nb j : Nat} (h : pP σ nb j) : pPn σ nb j + Int32.ofInt 1 = pPn σ nb (j + 1) := by
  show _ = pPn σ nb j + bI (pP σ nb j)
  rw [bI_t h]; rfl
theorem pPn_f {σ : Nat → Int32} {nb j : Nat} (h : ¬ pP σ nb j) : pPn σ nb j = pPn σ nb (j + 1) := by
  show _ = pPn σ nb j + bI (pP σ nb j)
  rw [bI_f h, Int32.add_zero]
theorem hX4_passingNow {E : fv_E} {d s nb nm : Nat} {M : fv_M} (hs : s < 3) (hB : M s 1 = nI nb) (hb : nb ≤ 8) (hK : pKd (M s) nb) (hM : M s 2 = nI nm) (hn : nm ≤ 8) (hC : pCl (M s) nm) : fv_F E (d + 5) mX4_passingNow [.ref (aSt s)] M (some (.int (pPn (M s) nb nm))) M := by
  refine fv_F.of (ls := [some (.ref (aSt s)), none, none]) (by decide) (Nat.le_of_ble_eq_true rfl) rfl ?_
  refine x_iconst (pc := 0) (v := 0) dX4_passingNow_0 rfl ?_
  refine x_istore_n1 (pc := 1) dX4_passingNow_1 rfl ?_
  refine x_iconst (pc := 2) (v := 0) dX4_passingNow_2 rfl ?_
  refine x_istore_n2 (pc := 3) dX4_passingNow_3 rfl ?_
  refine x_loop (fun j => [some (.ref (aSt s)), some (.int (pPn (M s) nb j)), some (.int (nI j))]) (fun j => M) (nm) (rfl) (rfl) (fun j hj hn4 => ?_) ?_
  ·
    replace hn4 : fv_X E mX4_passingNow _ _ 4 ([some (.ref (aSt s)), some (.int (pPn (M s) nb (j + 1))), some (.int (nI (j + 1)))]) ([]) (M) := hn4
    show fv_X E mX4_passingNow _ _ 4 ([some (.ref (aSt s)), some (.int (pPn (M s) nb j)), some (.int (nI j))]) ([]) (M)
    refine x_iload_n (pc := 4) dX4_passingNow_4 rfl rfl ?_
    refine x_aload_n (pc := 5) dX4_passingNow_5 rfl rfl ?_
    refine x_geti (pc := 6) fl_X4_34 dX4_passingNow_6 (tb_st (by assumption)) rfl (hM) ?_
    refine x_icmp_ge (pc := 9) dX4_passingNow_9 (tgt := 34) rfl (fun h9 => ?_) (fun h9 => ?_)
    ·
      exact absurd h9 (nI_ge hj (by first | decide | omega))
    ·
      refine x_aload_n (pc := 12) dX4_passingNow_12 rfl rfl ?_
      refine x_aload_n (pc := 13) dX4_passingNow_13 rfl rfl ?_
      refine x_geta (pc := 14) fl_X4_19 dX4_passingNow_14 (tb_st (by assumption)) rfl ?_
      refine x_iload_n (pc := 17) dX4_passingNow_17 rfl rfl ?_
      refine x_motion (pc := 18) dX4_passingNow_18 (by assumption) (rfl) (by first | assumption | decide | omega) ?_
      refine x_Vi (pc := 19) ks_X4_127 dX4_passingNow_19 (tb_st (by assumption)) rfl rfl (hX4_wouldPass hs hB hb hK (by omega) (pCo_of hC hj).1 (pCo_of hC hj).2) rfl rfl rfl (Nat.le_of_ble_eq_true rfl) ?_
      refine x_ifb_eq (pc := 22) dX4_passingNow_22 (tgt := 28) rfl (fun h22 => ?_) (fun h22 => ?_)
      ·
        rw [pPn_f h22]
        refine x_iinc2 (pc := 28) dX4_passingNow_28 (by first | exact fv_inc _ | exact fv_dec _ | rfl) rfl ?_
        refine x_goto (pc := 31) dX4_passingNow_31 (tgt := 4) rfl ?_
        exact hn4
      ·
        refine x_iinc1 (pc := 25) dX4_passingNow_25 (pPn_t h22) rfl ?_
        refine x_iinc2 (pc := 28) dX4_passingNow_28 (by first | exact fv_inc _ | exact fv_dec _ | rfl) rfl ?_
        refine x_goto (pc := 31) dX4_passingNow_31 (tgt := 4) rfl ?_
        exact hn4
  ·
    show fv_X E mX4_passingNow _ _ 4 ([some (.ref (aSt s)), some (.int (pPn (M s) nb (nm))), some (.int (nI (nm)))]) ([]) (M)
    refine x_iload_n (pc := 4) dX4_passingNow_4 rfl rfl ?_
    refine x_aload_n (pc := 5) dX4_passingNow_5 rfl rfl ?_
    refine x_geti (pc := 6) fl_X4_34 dX4_passingNow_6 (tb_st (by assumption)) rfl (hM) ?_
    refine x_icmp_ge (pc := 9) dX4_passingNow_9 (tgt := 34) rfl (fun h9 => ?_) (fun h9 => ?_)
    ·
      refine x_iload_n (pc := 34) dX4_passingNow_34 rfl rfl ?_
      refine x_iret (pc := 35) dX4_passingNow_35 rfl (by first | rfl | exact fv_nz _) ?_
      exact ⟨rfl, rfl⟩
    ·
      exact absurd (Int32.le_refl _) h9
def pAf (σ : Nat → Int32) (n : Nat) : Int32 := sN (fun b => pFe σ b) n
theorem hX4_allFeathers {E : fv_E} {d s nb : Nat} {M : fv_M} (hs : s < 3) (hB : M s 1 = nI nb) (hb : nb ≤ 8) : fv_F E (d + 1) mX4_allFeathers [.ref (aSt s)] M (some (.int (pAf (M s) nb))) M := by
  refine fv_F.of (ls := [some (.ref (aSt s)), none, none]) (by decide) (Nat.le_of_ble_eq_true rfl) rfl ?_
  refine x_iconst (pc := 0) (v := 0) dX4_allFeathers_0 rfl ?_
  refine x_istore_n1 (pc := 1) dX4_allFeathers_1 rfl ?_
  refine x_iconst (pc := 2) (v := 0) dX4_allFeathers_2 rfl ?_
  refine x_istore_n2 (pc := 3) dX4_allFeathers_3 rfl ?_
  refine x_loop (fun j => [some (.ref (aSt s)), some (.int (pAf (M s) j)), some (.int (nI j))]) (fun j => M) (nb) (rfl) (rfl) (fun j hj hn4 => ?_) ?_
  ·
    replace hn4 : fv_X E mX4_allFeathers _ _ 4 ([some (.ref (aSt s)), some (.int (pAf (M s) (j + 1))), some (.int (nI (j + 1)))]) ([]) (M) := hn4
    show fv_X E mX4_allFeathers _ _ 4 ([some (.ref (aSt s)), some (.int (pAf (M s) j)), some (.int (nI j))]) ([]) (M)
    refine x_iload_n (pc := 4) dX4_allFeathers_4 rfl rfl ?_
    refine x_aload_n (pc := 5) dX4_allFeathers_5 rfl rfl ?_
    refine x_geti (pc := 6) fl_X4_30 dX4_allFeathers_6 (tb_st (by assumption)) rfl (hB) ?_
    refine x_icmp_ge (pc := 9) dX4_allFeathers_9 (tgt := 30) rfl (fun h9 => ?_) (fun h9 => ?_)
    ·
      exact absurd h9 (nI_ge hj (by first | decide | omega))
    ·
      refine x_iload_n (pc := 12) dX4_allFeathers_12 rfl rfl ?_
      refine x_aload_n (pc := 13) dX4_allFeathers_13 rfl rfl ?_
      refine x_geta (pc := 14) fl_X4_11 dX4_allFeathers_14 (tb_st (by assumption)) rfl ?_
      refine x_iload_n (pc := 17) dX4_allFeathers_17 rfl rfl ?_
      refine x_bird (pc := 18) dX4_allFeathers_18 (by assumption) (rfl) (by first | assumption | decide | omega) ?_
      refine x_Vi (pc := 19) ks_X4_75 dX4_allFeathers_19 (tb_b hs (by omega)) rfl rfl (hX0_allFeathers hs (by omega)) rfl rfl rfl (Nat.le_of_ble_eq_true rfl) ?_
      refine x_iadd (pc := 22) dX4_allFeathers_22 ?_
      refine x_istore_n1 (pc := 23) dX4_allFeathers_23 rfl ?_
      refine x_iinc2 (pc := 24) dX4_allFeathers_24 (by first | exact fv_inc _ | exact fv_dec _ | rfl) rfl ?_
      refine x_goto (pc := 27) dX4_allFeathers_27 (tgt := 4) rfl ?_
      exact hn4
  ·
    show fv_X E mX4_allFeathers _ _ 4 ([some (.ref (aSt s)), some (.int (pAf (M s) (nb))), some (.int (nI (nb)))]) ([]) (M)
    refine x_iload_n (pc := 4) dX4_allFeathers_4 rfl rfl ?_
    refine x_aload_n (pc := 5) dX4_allFeathers_5 rfl rfl ?_
    refine x_geti (pc := 6) fl_X4_30 dX4_allFeathers_6 (tb_st (by assumption)) rfl (hB) ?_
    refine x_icmp_ge (pc := 9) dX4_allFeathers_9 (tgt := 30) rfl (fun h9 => ?_) (fun h9 => ?_)
    ·
      refine x_iload_n (pc := 30) dX4_allFeathers_30 rfl rfl ?_
      refine x_iret (pc := 31) dX4_allFeathers_31 rfl (by first | rfl | exact fv_nz _) ?_
      exact ⟨rfl, rfl⟩
    ·
      exact absurd (Int32.le_refl _) h9
def pLw (σ : Nat → Int32) (n : Nat) : Int32 := oN (fun m => σ (fM m 4) <<< (nI m &&& 31)) n
theorem hX4_laws {E : fv_E} {d s nm : Nat} {M : fv_M} (hs : s < 3) (hM : M s 2 = nI nm) (hn : nm ≤ 8) : fv_F E d mX4_laws [.ref (aSt s)] M (some (.int (pLw (M s) nm))) M := by
  refine fv_F.of (ls := [some (.ref (aSt s)), none, none]) (by decide) (Nat.le_of_ble_eq_true rfl) rfl ?_
  refine x_iconst (pc := 0) (v := 0) dX4_laws_0 rfl ?_
  refine x_istore_n1 (pc := 1) dX4_laws_1 rfl ?_
  refine x_iconst (pc := 2) (v := 0) dX4_laws_2 rfl ?_
  refine x_istore_n2 (pc := 3) dX4_laws_3 rfl ?_
  refine x_loop (fun j => [some (.ref (aSt s)), some (.int (pLw (M s) j)), some (.int (nI j))]) (fun j => M) (nm) (rfl) (rfl) (fun j hj hn4 => ?_) ?_
  ·
    replace hn4 : fv_X E mX4_laws _ _ 4 ([some (.ref (aSt s)), some (.int (pLw (M s) (j + 1))), some (.int (nI (j + 1)))]) ([]) (M) := hn4
    show fv_X E mX4_laws _ _ 4 ([some (.ref (aSt s)), some (.int (pLw (M s) j)), some (.int (nI j))]) ([]) (M)
    refine x_iload_n (pc := 4) dX4_laws_4 rfl rfl ?_
    refine x_aload_n (pc := 5) dX4_laws_5 rfl rfl ?_
    refine x_geti (pc := 6) fl_X4_34 dX4_laws_6 (tb_st (by assumption)) rfl (hM) ?_
    refine x_icmp_ge (pc := 9) dX4_laws_9 (tgt := 32) rfl (fun h9 => ?_) (fun h9 => ?_)
    ·
      exact absurd h9 (nI_ge hj (by first | decide | omega))
    ·
      refine x_iload_n (pc := 12) dX4_laws_12 rfl rfl ?_
      refine x_aload_n (pc := 13) dX4_laws_13 rfl rfl ?_
      refine x_geta (pc := 14) fl_X4_19 dX4_laws_14 (tb_st (by assumption)) rfl ?_
      refine x_iload_n (pc := 17) dX4_laws_17 rfl rfl ?_
      refine x_motion (pc := 18) dX4_laws_18 (by assumption) (rfl) (by first | assumption | decide | omega) ?_
      refine x_geti (pc := 19) fl_X4_79 dX4_laws_19 (tb_m hs (by omega)) rfl (rfl) ?_
      refine x_iload_n (pc := 22) dX4_laws_22 rfl rfl ?_
      refine x_ishl (pc := 23) dX4_laws_23 ?_
      refine x_ior (pc := 24) dX4_laws_24 ?_
      refine x_istore_n1 (pc := 25) dX4_laws_25 rfl ?_
      refine x_iinc2 (pc := 26) dX4_laws_26 (by first | exact fv_inc _ | exact fv_dec _ | rfl) rfl ?_
      refine x_goto (pc := 29) dX4_laws_29 (tgt := 4) rfl ?_
      exact hn4
  ·
    show fv_X E mX4_laws _ _ 4 ([some (.ref (aSt s)), some (.int (pLw (M s) (nm))), some (.int (nI (nm)))]) ([]) (M)
    refine x_iload_n (pc := 4) dX4_laws_4 rfl rfl ?_
    refine x_aload_n (pc := 5) dX4_laws_5 rfl rfl ?_
    refine x_geti (pc := 6) fl_X4_34 dX4_laws_6 (tb_st (by assumption)) rfl (hM) ?_
    refine x_icmp_ge (pc := 9) dX4_laws_9 (tgt := 32) rfl (fun h9 => ?_) (fun h9 => ?_)
    ·
      refine x_iload_n (pc := 32) dX4_laws_32 rfl rfl ?_
      refine x_iret (pc := 33) dX4_laws_33 rfl (by first | rfl | exact fv_nz _) ?_
      exact ⟨rfl, rfl⟩
    ·
      exact absurd (Int32.le_refl _) h9
def pFy (σ : Nat → Int32) (n : Nat) : Int32 := oN (fun b => if σ (fB b 1) ≤ pFe σ b then 1 <<< (nI b &&& 31) else 0) n
theorem pFy_t {σ : Nat → Int32} {j : Nat} (h : σ (fB j 1) ≤ pFe σ j) : pFy σ j ||| (1 <<< (nI j &&& 31)) = pFy σ (j + 1) := by
  show _ = pFy σ j ||| (if σ (fB j 1) ≤ pFe σ j then 1 <<< (nI j &&& 31) else 0)
  rw [if_pos h]
theorem pFy_f {σ : Nat → Int32} {j : Nat} (h : ¬ σ (fB j 1) ≤ pFe σ j) : pFy σ j = pFy σ (j + 1) := by
  show _ = pFy σ j ||| (if σ (fB j 1) ≤ pFe σ j then 1 <<< (nI j &&& 31) else 0)
  rw [if_neg h, Int32.or_zero]
theorem hX4_flyers {E : fv_E} {d s nb : Nat} {M : fv_M} (hs : s < 3) (hB : M s 1 = nI nb) (hb : nb ≤ 8) : fv_F E (d + 2) mX4_flyers [.ref (aSt s)] M (some (.int (pFy (M s) nb))) M := by
  refine fv_F.of (ls := [some (.ref (aSt s)), none, none]) (by decide) (Nat.le_of_ble_eq_true rfl) rfl ?_
  refine x_iconst (pc := 0) (v := 0) dX4_flyers_0 rfl ?_
  refine x_istore_n1 (pc := 1) dX4_flyers_1 rfl ?_
  refine x_iconst (pc := 2) (v := 0) dX4_flyers_2 rfl ?_
  refine x_istore_n2 (pc := 3) dX4_flyers_3 rfl ?_
  refine x_loop (fun j => [some (.ref (aSt s)), some (.int (pFy (M s) j)), some (.int (nI j))]) (fun j => M) (nb) (rfl) (rfl) (fun j hj hn4 => ?_) ?_
  ·
    replace hn4 : fv_X E mX4_flyers _ _ 4 ([some (.ref (aSt s)), some (.int (pFy (M s) (j + 1))), some (.int (nI (j + 1)))]) ([]) (M) := hn4
    show fv_X E mX4_flyers _ _ 4 ([some (.ref (aSt s)), some (.int (pFy (M s) j)), some (.int (nI j))]) ([]) (M)
    refine x_iload_n (pc := 4) dX4_flyers_4 rfl rfl ?_
    refine x_aload_n (pc := 5) dX4_flyers_5 rfl rfl ?_
    refine x_geti (pc := 6) fl_X4_30 dX4_flyers_6 (tb_st (by assumption)) rfl (hB) ?_
    refine x_icmp_ge (pc := 9) dX4_flyers_9 (tgt := 36) rfl (fun h9 => ?_) (fun h9 => ?_)
    ·
      exact absurd h9 (nI_ge hj (by first | decide | omega))
    ·
      refine x_aload_n (pc := 12) dX4_flyers_12 rfl rfl ?_
      refine x_geta (pc := 13) fl_X4_11 dX4_flyers_13 (tb_st (by assumption)) rfl ?_
      refine x_iload_n (pc := 16) dX4_flyers_16 rfl rfl ?_
      refine x_bird (pc := 17) dX4_flyers_17 (by assumption) (rfl) (by first | assumption | decide | omega) ?_
      refine x_Vi (pc := 18) ks_X4_82 dX4_flyers_18 (tb_b hs (by omega)) rfl rfl (hX0_canFly hs (by omega)) rfl rfl rfl (Nat.le_of_ble_eq_true rfl) ?_
      refine x_ifb_eq (pc := 21) dX4_flyers_21 (tgt := 30) rfl (fun h21 => ?_) (fun h21 => ?_)
      ·
        rw [pFy_f h21]
        refine x_iinc2 (pc := 30) dX4_flyers_30 (by first | exact fv_inc _ | exact fv_dec _ | rfl) rfl ?_
        refine x_goto (pc := 33) dX4_flyers_33 (tgt := 4) rfl ?_
        exact hn4
      ·
        refine x_iload_n (pc := 24) dX4_flyers_24 rfl rfl ?_
        refine x_iconst (pc := 25) (v := 1) dX4_flyers_25 rfl ?_
        refine x_iload_n (pc := 26) dX4_flyers_26 rfl rfl ?_
        refine x_ishl (pc := 27) dX4_flyers_27 ?_
        refine x_ior (pc := 28) dX4_flyers_28 ?_
        rw [pFy_t h21]
        refine x_istore_n1 (pc := 29) dX4_flyers_29 rfl ?_
        refine x_iinc2 (pc := 30) dX4_flyers_30 (by first | exact fv_inc _ | exact fv_dec _ | rfl) rfl ?_
        refine x_goto (pc := 33) dX4_flyers_33 (tgt := 4) rfl ?_
        exact hn4
  ·
    show fv_X E mX4_flyers _ _ 4 ([some (.ref (aSt s)), some (.int (pFy (M s) (nb))), some (.int (nI (nb)))]) ([]) (M)
    refine x_iload_n (pc := 4) dX4_flyers_4 rfl rfl ?_
    refine x_aload_n (pc := 5) dX4_flyers_5 rfl rfl ?_
    refine x_geti (pc := 6) fl_X4_30 dX4_flyers_6 (tb_st (by assumption)) rfl (hB) ?_
    refine x_icmp_ge (pc := 9) dX4_flyers_9 (tgt := 36) rfl (fun h9 => ?_) (fun h9 => ?_)
    ·
      refine x_iload_n (pc := 36) dX4_flyers_36 rfl rfl ?_
      refine x_iret (pc := 37) dX4_flyers_37 rfl (by first | rfl | exact fv_nz _) ?_
      exact ⟨rfl, rfl⟩
    ·
      exact absurd (Int32.le_refl _) h9
def pSt (σ : Nat → Int32) (n : Nat) : Int32 := sN (fun k => bI (¬ σ (104 + k) = -1)) n
theorem pSt_t {σ : Nat → Int32} {j : Nat} (h : ¬ σ (104 + j) = -1) : pSt σ j + Int32.ofInt 1 = pSt σ (j + 1) := by
  show _ = pSt σ j + bI (¬ σ (104 + j) = -1)
  rw [bI_t h]; rfl
theorem pSt_f {σ : Nat → Int32} {j : Nat} (h : σ (104 + j) = -1) : pSt σ j = pSt σ (j + 1) := by
  show _ = pSt σ j + bI (¬ σ (104 + j) = -1)
  rw [bI_f (fun h2 => h2 h), Int32.add_zero]
theorem hX4_spotsTaken {E : fv_E} {d s : Nat} {M : fv_M} (hs : s < 3) : fv_F E d mX4_spotsTaken [.ref (aSt s)] M (some (.int (pSt (M s) 10))) M := by
  refine fv_F.of (ls := [some (.ref (aSt s)), none, none]) (by decide) (Nat.le_of_ble_eq_true rfl) rfl ?_
  refine x_iconst (pc := 0) (v := 0) dX4_spotsTaken_0 rfl ?_
  refine x_istore_n1 (pc := 1) dX4_spotsTaken_1 rfl ?_
  refine x_iconst (pc := 2) (v := 0) dX4_spotsTaken_2 rfl ?_
  refine x_istore_n2 (pc := 3) dX4_spotsTaken_3 rfl ?_
  refine x_loop (fun j => [some (.ref (aSt s)), some (.int (pSt (M s) j)), some (.int (nI j))]) (fun j => M) (10) (rfl) (rfl) (fun j hj hn4 => ?_) ?_
  ·
    replace hn4 : fv_X E mX4_spotsTaken _ _ 4 ([some (.ref (aSt s)), some (.int (pSt (M s) (j + 1))), some (.int (nI (j + 1)))]) ([]) (M) := hn4
    show fv_X E mX4_spotsTaken _ _ 4 ([some (.ref (aSt s)), some (.int (pSt (M s) j)), some (.int (nI j))]) ([]) (M)
    refine x_iload_n (pc := 4) dX4_spotsTaken_4 rfl rfl ?_
    refine x_bipush (pc := 5) (v := 10) dX4_spotsTaken_5 rfl ?_
    refine x_icmp_ge (pc := 7) dX4_spotsTaken_7 (tgt := 29) rfl (fun h7 => ?_) (fun h7 => ?_)
    ·
      exact absurd h7 (nI_ge hj (by first | decide | omega))
    ·
      refine x_aload_n (pc := 10) dX4_spotsTaken_10 rfl rfl ?_
      refine x_geta (pc := 11) fl_X4_27 dX4_spotsTaken_11 (tb_st (by assumption)) rfl ?_
      refine x_iload_n (pc := 14) dX4_spotsTaken_14 rfl rfl ?_
      refine x_iald (pc := 15) dX4_spotsTaken_15 (tb_sp (by assumption)) (rfl) (by first | assumption | decide | omega) (by decide) ?_
      refine x_iconst (pc := 16) (v := (-1)) dX4_spotsTaken_16 fv_m1 ?_
      refine x_icmp_eq (pc := 17) dX4_spotsTaken_17 (tgt := 23) rfl (fun h17 => ?_) (fun h17 => ?_)
      ·
        rw [pSt_f h17]
        refine x_iinc2 (pc := 23) dX4_spotsTaken_23 (by first | exact fv_inc _ | exact fv_dec _ | rfl) rfl ?_
        refine x_goto (pc := 26) dX4_spotsTaken_26 (tgt := 4) rfl ?_
        exact hn4
      ·
        refine x_iinc1 (pc := 20) dX4_spotsTaken_20 (pSt_t h17) rfl ?_
        refine x_iinc2 (pc := 23) dX4_spotsTaken_23 (by first | exact fv_inc _ | exact fv_dec _ | rfl) rfl ?_
        refine x_goto (pc := 26) dX4_spotsTaken_26 (tgt := 4) rfl ?_
        exact hn4
  ·
    show fv_X E mX4_spotsTaken _ _ 4 ([some (.ref (aSt s)), some (.int (pSt (M s) (10))), some (.int (nI (10)))]) ([]) (M)
    refine x_iload_n (pc := 4) dX4_spotsTaken_4 rfl rfl ?_
    refine x_bipush (pc := 5) (v := 10) dX4_spotsTaken_5 rfl ?_
    refine x_icmp_ge (pc := 7) dX4_spotsTaken_7 (tgt := 29) rfl (fun h7 => ?_) (fun h7 => ?_)
    ·
      refine x_iload_n (pc := 29) dX4_spotsTaken_29 rfl rfl ?_
      refine x_iret (pc := 30) dX4_spotsTaken_30 rfl (by first | rfl | exact fv_nz _) ?_
      exact ⟨rfl, rfl⟩
    ·
      exact absurd (Int32.le_refl _) h7
def pZ (z : Int32) : Int32 := z * 1103515245 + 12345
theorem hX4_draw {E : fv_E} {d s : Nat} {M : fv_M} (hs : s < 3) : fv_F E d mX4_draw [.ref (aSt s)] M (some (.int (((pZ (M s 3)).toUInt32 >>> (Int32.toUInt32 8 &&& Int32.toUInt32 31)).toInt32))) (fv_s M s (fv_u (M s) 3 (pZ (M s 3)))) := by
  refine fv_F.of (ls := [some (.ref (aSt s))]) (by decide) (Nat.le_of_ble_eq_true rfl) rfl ?_
  refine x_aload_n (pc := 0) dX4_draw_0 rfl rfl ?_
  refine x_aload_n (pc := 1) dX4_draw_1 rfl rfl ?_
  refine x_geti (pc := 2) fl_X4_40 dX4_draw_2 (tb_st (by assumption)) rfl (rfl) ?_
  refine x_ldc (pc := 5) kc_X4_89 dX4_draw_5 ?_
  refine x_imul (pc := 7) dX4_draw_7 ?_
  refine x_sipush (pc := 8) (v := 12345) dX4_draw_8 rfl ?_
  refine x_iadd (pc := 11) dX4_draw_11 ?_
  refine x_put (pc := 12) fl_X4_40 dX4_draw_12 (tb_st (by assumption)) rfl rfl rfl ?_
  refine x_aload_n (pc := 15) dX4_draw_15 rfl rfl ?_
  refine x_geti (pc := 16) fl_X4_40 dX4_draw_16 (tb_st (by assumption)) rfl (rfl) ?_
  refine x_bipush (pc := 19) (v := 8) dX4_draw_19 rfl ?_
  refine x_iushr (pc := 21) dX4_draw_21 ?_
  refine x_iret (pc := 22) dX4_draw_22 rfl (by first | rfl | exact fv_nz _) ?_
  exact ⟨by rw [fv_s_same, fv_u_same]; rfl, rfl⟩
