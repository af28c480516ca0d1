abbrev pCrow (σ : Nat → Int32) (b : Nat) : Prop := σ (fB b 0) = 2 ∨ σ (fB b 0) = 3 ∨ σ (fB b 0) = 4
def pKd (σ : Nat → Int32) (n : Nat) : Prop := ∀ b, b < n → ∃ k, k < 7 ∧ σ (fB b 0) = nI k
theorem pCrow_iff : ((List.range 7).all fun k => decide (2 ∈ pCh k ↔ (nI k = 2 ∨ nI k = 3 ∨ nI k = 4))) = true := by decide +kernel
theorem hX0_isCrow {E : fv_E} {d s i : Nat} {M : fv_M} (hs : s < 3) (hi : i < 8) (h : ∃ k, k < 7 ∧ M s (fB i 0) = nI k) : fv_F E d mX0_isA [.ref (aB s i), .int 2] M (some (.int (bI (pCrow (M s) i)))) M := by
  obtain ⟨k, hk, e⟩ := h
  have h1 := hX0_isA (E := E) (d := d) (M := M) hs hi e hk (a := 2) (by decide)
  have h2 : bI (2 ∈ pCh k) = bI (pCrow (M s) i) := bI_congr (by rw [of_decide_eq_true (fv_all1 pCrow_iff hk)]; unfold pCrow; rw [e])
  rw [h2] at h1
  exact h1
def pAll (n : Nat) : Int32 := 1 <<< (nI n &&& 31) - 1
theorem hX4_allBirds {E : fv_E} {d s nb : Nat} {M : fv_M} (hs : s < 3) (hB : M s 1 = nI nb) : fv_F E d mX4_allBirds [.ref (aSt s)] M (some (.int (pAll nb))) M := by
  refine fv_F.of (ls := [some (.ref (aSt s))]) (by decide) (Nat.le_of_ble_eq_true rfl) rfl ?_
  refine x_iconst (pc := 0) (v := 1) dX4_allBirds_0 rfl ?_
  refine x_aload_n (pc := 1) dX4_allBirds_1 rfl rfl ?_
  refine x_geti (pc := 2) fl_X4_30 dX4_allBirds_2 (tb_st (by assumption)) rfl (hB) ?_
  refine x_ishl (pc := 5) dX4_allBirds_5 ?_
  refine x_iconst (pc := 6) (v := 1) dX4_allBirds_6 rfl ?_
  refine x_isub (pc := 7) dX4_allBirds_7 ?_
  refine x_iret (pc := 8) dX4_allBirds_8 rfl (by first | rfl | exact fv_nz _) ?_
  exact ⟨rfl, rfl⟩
theorem hX4_allMotions {E : fv_E} {d s nm : Nat} {M : fv_M} (hs : s < 3) (hM : M s 2 = nI nm) : fv_F E d mX4_allMotions [.ref (aSt s)] M (some (.int (pAll nm))) M := by
  refine fv_F.of (ls := [some (.ref (aSt s))]) (by decide) (Nat.le_of_ble_eq_true rfl) rfl ?_
  refine x_iconst (pc := 0) (v := 1) dX4_allMotions_0 rfl ?_
  refine x_aload_n (pc := 1) dX4_allMotions_1 rfl rfl ?_
  refine x_geti (pc := 2) fl_X4_34 dX4_allMotions_2 (tb_st (by assumption)) rfl (hM) ?_
  refine x_ishl (pc := 5) dX4_allMotions_5 ?_
  refine x_iconst (pc := 6) (v := 1) dX4_allMotions_6 rfl ?_
  refine x_isub (pc := 7) dX4_allMotions_7 ?_
  refine x_iret (pc := 8) dX4_allMotions_8 rfl (by first | rfl | exact fv_nz _) ?_
  exact ⟨rfl, rfl⟩
theorem hX4_isIn {E : fv_E} {d k : Nat} {w : Int32} {M : fv_M} : fv_F E d mX4_isIn [.int w, .int (nI k)] M (some (.int (bI (pIn w k)))) M := by
  refine fv_F.of (ls := [some (.int w), some (.int (nI k))]) (by decide) (Nat.le_of_ble_eq_true rfl) rfl ?_
  refine x_iload_n (pc := 0) dX4_isIn_0 rfl rfl ?_
  refine x_iload_n (pc := 1) dX4_isIn_1 rfl rfl ?_
  refine x_ishr (pc := 2) dX4_isIn_2 ?_
  refine x_iconst (pc := 3) (v := 1) dX4_isIn_3 rfl ?_
  refine x_iand (pc := 4) dX4_isIn_4 ?_
  refine x_if_eq (pc := 5) dX4_isIn_5 (tgt := 12) rfl (fun h5 => ?_) (fun h5 => ?_)
  ·
    refine x_iconst (pc := 12) (v := 0) dX4_isIn_12 rfl ?_
    refine x_iret (pc := 13) dX4_isIn_13 rfl (by first | rfl | exact fv_nz _) ?_
    refine ⟨?_, rfl⟩
    first | exact fv_rt h5 | exact fv_rf (fun h => h h5)
  ·
    refine x_iconst (pc := 8) (v := 1) dX4_isIn_8 rfl ?_
    refine x_goto (pc := 9) dX4_isIn_9 (tgt := 13) rfl ?_
    refine x_iret (pc := 13) dX4_isIn_13 rfl (by first | rfl | exact fv_nz _) ?_
    refine ⟨?_, rfl⟩
    first | exact fv_rt h5 | exact fv_rf (fun h => h h5)
def pCr (σ : Nat → Int32) (w : Int32) (n : Nat) : Int32 := sN (fun b => bI (pIn w b ∧ pCrow σ b)) n
theorem pCr_t {σ : Nat → Int32} {w : Int32} {j : Nat} (h1 : pIn w j) (h2 : pCrow σ j) : pCr σ w j + Int32.ofInt 1 = pCr σ w (j + 1) := by
  show _ = pCr σ w j + bI (pIn w j ∧ pCrow σ j)
  rw [bI_t ⟨h1, h2⟩]; rfl
theorem pCr_f {σ : Nat → Int32} {w : Int32} {j : Nat} (h : ¬ (pIn w j ∧ pCrow σ j)) : pCr σ w j = pCr σ w (j + 1) := by
  show _ = pCr σ w j + bI (pIn w j ∧ pCrow σ j)
  rw [bI_f h, Int32.add_zero]
theorem hX4_crowsAmong {E : fv_E} {d s nb : Nat} {w : Int32} {M : fv_M} (hs : s < 3) (hB : M s 1 = nI nb) (hb : nb ≤ 8) (hK : pKd (M s) nb) : fv_F E (d + 1) mX4_crowsAmong [.ref (aSt s), .int w] M (some (.int (pCr (M s) w nb))) M := by
  refine fv_F.of (ls := [some (.ref (aSt s)), some (.int w), none, none]) (by decide) (Nat.le_of_ble_eq_true rfl) rfl ?_
  refine x_iconst (pc := 0) (v := 0) dX4_crowsAmong_0 rfl ?_
  refine x_istore_n2 (pc := 1) dX4_crowsAmong_1 rfl ?_
  refine x_iconst (pc := 2) (v := 0) dX4_crowsAmong_2 rfl ?_
  refine x_istore_n3 (pc := 3) dX4_crowsAmong_3 rfl ?_
  refine x_loop (fun j => [some (.ref (aSt s)), some (.int w), some (.int (pCr (M s) w j)), some (.int (nI j))]) (fun j => M) (nb) (rfl) (rfl) (fun j hj hn4 => ?_) ?_
  ·
    replace hn4 : fv_X E mX4_crowsAmong _ _ 4 ([some (.ref (aSt s)), some (.int w), some (.int (pCr (M s) w (j + 1))), some (.int (nI (j + 1)))]) ([]) (M) := hn4
    show fv_X E mX4_crowsAmong _ _ 4 ([some (.ref (aSt s)), some (.int w), some (.int (pCr (M s) w j)), some (.int (nI j))]) ([]) (M)
    refine x_iload_n (pc := 4) dX4_crowsAmong_4 rfl rfl ?_
    refine x_aload_n (pc := 5) dX4_crowsAmong_5 rfl rfl ?_
    refine x_geti (pc := 6) fl_X4_30 dX4_crowsAmong_6 (tb_st (by assumption)) rfl (hB) ?_
    refine x_icmp_ge (pc := 9) dX4_crowsAmong_9 (tgt := 42) rfl (fun h9 => ?_) (fun h9 => ?_)
    ·
      exact absurd h9 (nI_ge hj (by first | decide | omega))
    ·
      refine x_iload_n (pc := 12) dX4_crowsAmong_12 rfl rfl ?_
      refine x_iload_n (pc := 13) dX4_crowsAmong_13 rfl rfl ?_
      refine x_Si (pc := 14) ks_X4_90 dX4_crowsAmong_14 (hX4_isIn) rfl rfl rfl (Nat.le_of_ble_eq_true rfl) ?_
      refine x_ifb_eq (pc := 17) dX4_crowsAmong_17 (tgt := 36) rfl (fun h17 => ?_) (fun h17 => ?_)
      ·
        rw [pCr_f (fun h => h17 h.1)]
        refine x_iinc3 (pc := 36) dX4_crowsAmong_36 (by first | exact fv_inc _ | exact fv_dec _ | rfl) rfl ?_
        refine x_goto (pc := 39) dX4_crowsAmong_39 (tgt := 4) rfl ?_
        exact hn4
      ·
        refine x_aload_n (pc := 20) dX4_crowsAmong_20 rfl rfl ?_
        refine x_geta (pc := 21) fl_X4_11 dX4_crowsAmong_21 (tb_st (by assumption)) rfl ?_
        refine x_iload_n (pc := 24) dX4_crowsAmong_24 rfl rfl ?_
        refine x_bird (pc := 25) dX4_crowsAmong_25 (by assumption) (rfl) (by first | assumption | decide | omega) ?_
        refine x_iconst (pc := 26) (v := 2) dX4_crowsAmong_26 rfl ?_
        refine x_Vi (pc := 27) ks_X4_93 dX4_crowsAmong_27 (tb_b hs (by omega)) rfl rfl (hX0_isCrow hs (by omega) (hK j hj)) rfl rfl rfl (Nat.le_of_ble_eq_true rfl) ?_
        refine x_ifb_eq (pc := 30) dX4_crowsAmong_30 (tgt := 36) rfl (fun h30 => ?_) (fun h30 => ?_)
        ·
          rw [pCr_f (fun h => h30 h.2)]
          refine x_iinc3 (pc := 36) dX4_crowsAmong_36 (by first | exact fv_inc _ | exact fv_dec _ | rfl) rfl ?_
          refine x_goto (pc := 39) dX4_crowsAmong_39 (tgt := 4) rfl ?_
          exact hn4
        ·
          refine x_iinc2 (pc := 33) dX4_crowsAmong_33 (pCr_t h17 h30) rfl ?_
          refine x_iinc3 (pc := 36) dX4_crowsAmong_36 (by first | exact fv_inc _ | exact fv_dec _ | rfl) rfl ?_
          refine x_goto (pc := 39) dX4_crowsAmong_39 (tgt := 4) rfl ?_
          exact hn4
  ·
    show fv_X E mX4_crowsAmong _ _ 4 ([some (.ref (aSt s)), some (.int w), some (.int (pCr (M s) w (nb))), some (.int (nI (nb)))]) ([]) (M)
    refine x_iload_n (pc := 4) dX4_crowsAmong_4 rfl rfl ?_
    refine x_aload_n (pc := 5) dX4_crowsAmong_5 rfl rfl ?_
    refine x_geti (pc := 6) fl_X4_30 dX4_crowsAmong_6 (tb_st (by assumption)) rfl (hB) ?_
    refine x_icmp_ge (pc := 9) dX4_crowsAmong_9 (tgt := 42) rfl (fun h9 => ?_) (fun h9 => ?_)
    ·
      refine x_iload_n (pc := 42) dX4_crowsAmong_42 rfl rfl ?_
      refine x_iret (pc := 43) dX4_crowsAmong_43 rfl (by first | rfl | exact fv_nz _) ?_
      exact ⟨rfl, rfl⟩
    ·
      exact absurd (Int32.le_refl _) h9
theorem hX4_againstIt {E : fv_E} {d s nb m : Nat} {M : fv_M} (hs : s < 3) (hB : M s 1 = nI nb) (hm : m < 8) : fv_F E (d + 1) mX4_againstIt [.ref (aSt s), .ref (aM s m)] M (some (.int (pAll nb &&& (M s (fM m 2) ^^^ -1)))) M := by
  refine fv_F.of (ls := [some (.ref (aSt s)), some (.ref (aM s m))]) (by decide) (Nat.le_of_ble_eq_true rfl) rfl ?_
  refine x_aload_n (pc := 0) dX4_againstIt_0 rfl rfl ?_
  refine x_Vi (pc := 1) ks_X4_97 dX4_againstIt_1 (tb_st (by assumption)) rfl rfl (hX4_allBirds hs hB) rfl rfl rfl (Nat.le_of_ble_eq_true rfl) ?_
  refine x_aload_n (pc := 4) dX4_againstIt_4 rfl rfl ?_
  refine x_geti (pc := 5) fl_X4_100 dX4_againstIt_5 (tb_m (by assumption) (by assumption)) rfl (rfl) ?_
  refine x_iconst (pc := 8) (v := (-1)) dX4_againstIt_8 fv_m1 ?_
  refine x_ixor (pc := 9) dX4_againstIt_9 ?_
  refine x_iand (pc := 10) dX4_againstIt_10 ?_
  refine x_iret (pc := 11) dX4_againstIt_11 rfl (by first | rfl | exact fv_nz _) ?_
  exact ⟨rfl, rfl⟩
/-- dropped by a side, when so many crows are on it -/
def pSdK (σ : Nat → Int32) (m c : Nat) (w cr : Int32) (n : Nat) : Int32 := sN (fun b => if pIn w b then pDr σ b m c cr else 0) n
theorem pSdK_t {σ : Nat → Int32} {m c j : Nat} {w cr : Int32} (h : pIn w j) : pSdK σ m c w cr j + pDr σ j m c cr = pSdK σ m c w cr (j + 1) := by
  show _ = pSdK σ m c w cr j + (if pIn w j then pDr σ j m c cr else 0)
  rw [if_pos h]
theorem pSdK_f {σ : Nat → Int32} {m c j : Nat} {w cr : Int32} (h : ¬ pIn w j) : pSdK σ m c w cr j = pSdK σ m c w cr (j + 1) := by
  show _ = pSdK σ m c w cr j + (if pIn w j then pDr σ j m c cr else 0)
  rw [if_neg h, Int32.add_zero]
def pSd (σ : Nat → Int32) (n m c : Nat) (w : Int32) : Int32 := pSdK σ m c w (pCr σ w n) n
theorem hX4_droppedBy {E : fv_E} {d s nb m c : Nat} {w : Int32} {M : fv_M} (hs : s < 3) (hB : M s 1 = nI nb) (hb : nb ≤ 8) (hK : pKd (M s) nb) (hm : m < 8) (hcol : M s (fM m 0) = nI c) (hc : c < 4) : fv_F E (d + 2) mX4_droppedBy [.ref (aSt s), .ref (aM s m), .int w] M (some (.int (pSd (M s) nb m c w))) M := by
  refine fv_F.of (ls := [some (.ref (aSt s)), some (.ref (aM s m)), some (.int w), none, none, none]) (by decide) (Nat.le_of_ble_eq_true rfl) rfl ?_
  refine x_aload_n (pc := 0) dX4_droppedBy_0 rfl rfl ?_
  refine x_iload_n (pc := 1) dX4_droppedBy_1 rfl rfl ?_
  refine x_Vi (pc := 2) ks_X4_107 dX4_droppedBy_2 (tb_st (by assumption)) rfl rfl (hX4_crowsAmong hs hB hb hK) rfl rfl rfl (Nat.le_of_ble_eq_true rfl) ?_
  refine x_istore_n3 (pc := 5) dX4_droppedBy_5 rfl ?_
  refine x_iconst (pc := 6) (v := 0) dX4_droppedBy_6 rfl ?_
  refine x_istore4 (pc := 7) dX4_droppedBy_7 rfl ?_
  refine x_iconst (pc := 9) (v := 0) dX4_droppedBy_9 rfl ?_
  refine x_istore5 (pc := 10) dX4_droppedBy_10 rfl ?_
  refine x_loop (fun j => [some (.ref (aSt s)), some (.ref (aM s m)), some (.int w), some (.int (pCr (M s) w nb)), some (.int (pSdK (M s) m c w (pCr (M s) w nb) j)), some (.int (nI j))]) (fun j => M) (nb) (rfl) (rfl) (fun j hj hn12 => ?_) ?_
  ·
    replace hn12 : fv_X E mX4_droppedBy _ _ 12 ([some (.ref (aSt s)), some (.ref (aM s m)), some (.int w), some (.int (pCr (M s) w nb)), some (.int (pSdK (M s) m c w (pCr (M s) w nb) (j + 1))), some (.int (nI (j + 1)))]) ([]) (M) := hn12
    show fv_X E mX4_droppedBy _ _ 12 ([some (.ref (aSt s)), some (.ref (aM s m)), some (.int w), some (.int (pCr (M s) w nb)), some (.int (pSdK (M s) m c w (pCr (M s) w nb) j)), some (.int (nI j))]) ([]) (M)
    refine x_iload (pc := 12) dX4_droppedBy_12 rfl ?_
    refine x_aload_n (pc := 14) dX4_droppedBy_14 rfl rfl ?_
    refine x_geti (pc := 15) fl_X4_30 dX4_droppedBy_15 (tb_st (by assumption)) rfl (hB) ?_
    refine x_icmp_ge (pc := 18) dX4_droppedBy_18 (tgt := 53) rfl (fun h18 => ?_) (fun h18 => ?_)
    ·
      exact absurd h18 (nI_ge hj (by first | decide | omega))
    ·
      refine x_iload_n (pc := 21) dX4_droppedBy_21 rfl rfl ?_
      refine x_iload (pc := 22) dX4_droppedBy_22 rfl ?_
      refine x_Si (pc := 24) ks_X4_90 dX4_droppedBy_24 (hX4_isIn) rfl rfl rfl (Nat.le_of_ble_eq_true rfl) ?_
      refine x_ifb_eq (pc := 27) dX4_droppedBy_27 (tgt := 47) rfl (fun h27 => ?_) (fun h27 => ?_)
      ·
        rw [pSdK_f h27]
        refine x_iinc5 (pc := 47) dX4_droppedBy_47 (by first | exact fv_inc _ | exact fv_dec _ | rfl) rfl ?_
        refine x_goto (pc := 50) dX4_droppedBy_50 (tgt := 12) rfl ?_
        exact hn12
      ·
        refine x_iload (pc := 30) dX4_droppedBy_30 rfl ?_
        refine x_aload_n (pc := 32) dX4_droppedBy_32 rfl rfl ?_
        refine x_geta (pc := 33) fl_X4_11 dX4_droppedBy_33 (tb_st (by assumption)) rfl ?_
        refine x_iload (pc := 36) dX4_droppedBy_36 rfl ?_
        refine x_bird (pc := 38) dX4_droppedBy_38 (by assumption) (rfl) (by first | assumption | decide | omega) ?_
        refine x_aload_n (pc := 39) dX4_droppedBy_39 rfl rfl ?_
        refine x_iload_n (pc := 40) dX4_droppedBy_40 rfl rfl ?_
        refine x_Vi (pc := 41) ks_X4_111 dX4_droppedBy_41 (tb_b hs (by omega)) rfl rfl (hX0_dropFor hs (by omega) hm hcol hc) rfl rfl rfl (Nat.le_of_ble_eq_true rfl) ?_
        refine x_iadd (pc := 44) dX4_droppedBy_44 ?_
        rw [pSdK_t h27]
        refine x_istore4 (pc := 45) dX4_droppedBy_45 rfl ?_
        refine x_iinc5 (pc := 47) dX4_droppedBy_47 (by first | exact fv_inc _ | exact fv_dec _ | rfl) rfl ?_
        refine x_goto (pc := 50) dX4_droppedBy_50 (tgt := 12) rfl ?_
        exact hn12
  ·
    show fv_X E mX4_droppedBy _ _ 12 ([some (.ref (aSt s)), some (.ref (aM s m)), some (.int w), some (.int (pCr (M s) w nb)), some (.int (pSdK (M s) m c w (pCr (M s) w nb) (nb))), some (.int (nI (nb)))]) ([]) (M)
    refine x_iload (pc := 12) dX4_droppedBy_12 rfl ?_
    refine x_aload_n (pc := 14) dX4_droppedBy_14 rfl rfl ?_
    refine x_geti (pc := 15) fl_X4_30 dX4_droppedBy_15 (tb_st (by assumption)) rfl (hB) ?_
    refine x_icmp_ge (pc := 18) dX4_droppedBy_18 (tgt := 53) rfl (fun h18 => ?_) (fun h18 => ?_)
    ·
      refine x_iload (pc := 53) dX4_droppedBy_53 rfl ?_
      refine x_iret (pc := 55) dX4_droppedBy_55 rfl (by first | rfl | exact fv_nz _) ?_
      exact ⟨rfl, rfl⟩
    ·
      exact absurd (Int32.le_refl _) h18
