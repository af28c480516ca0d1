abbrev pBo (b : Nat → Nat) (L k most j : Nat) : Prop := ¬ pWi b L (pTS b L j) = k ∨ pNum b L (pAd b L j) most
def pBj (b : Nat → Nat) (L k most j : Nat) : Nat := if pWi b L (pTS b L j) = k then pNj b L most (pAd b L j) else j
def pBst (b : Nat → Nat) (L k most x j : Nat) (σ : Nat → Int32) : Nat → Int32 := if pWi b L (pTS b L j) = k ∧ pNum b L (pAd b L j) most then fv_u σ x (nI (pVn b L (pTS b L (pAd b L j)))) else σ
theorem pBj_le {b : Nat → Nat} {L k most j : Nat} (h : j ≤ pTn b L) : pBj b L k most j ≤ pTn b L := by
  unfold pBj
  by_cases q : pWi b L (pTS b L j) = k
  · rw [if_pos q]; exact pNj_le (pAd_le h)
  · rw [if_neg q]; exact h
theorem hX5_readBirdFeature {E : fv_E} {d L j i k w most : Nat} {b : Nat → Nat} {M : fv_M} {σ : Nat → Int32} (hT : pTJ b L M) (hj : j ≤ pTn b L) (hi : i < 8) (hk : k < 15) (hw7 : w < 7) (hm : most ≤ 999) (hmo : (if nI w = 0 then 6 else if nI w = 2 then 9 else 99) = nI most) : fv_F E (d + 6) mX5_readBirdFeature [.ref 88, .ref (aB 1 i), .ref (1000 + k), .int (nI w)] (pMS M σ j) (some (.int (bI (pBo b L k most j)))) (pMS M (pBst b L k most (fB i w) j σ) (pBj b L k most j)) := by
  have h13 : (1 : Nat) < 3 := by decide
  have hW := hA_tW (E := E) (d := d) (k := k) (σ := σ) hT hj hk
  have hj1 := pAd_le hj
  by_cases hw : pWi b L (pTS b L j) = k
  · rw [show pWk b L k j = pAd b L j from if_pos hw] at hW
    have hN := hA_tN (E := E) (d := d + 4) (most := most) (σ := σ) hT hj1 hm
    rw [show pBj b L k most j = pNj b L most (pAd b L j) from if_pos hw]
    by_cases hp : pNum b L (pAd b L j) most
    · rw [pNu_n hp] at hN
      rw [show pBst b L k most (fB i w) j σ = fv_u σ (fB i w) (nI (pVn b L (pTS b L (pAd b L j)))) from if_pos ⟨hw, hp⟩, bI_t (.inr hp)]
      have hs := (hX0_setFeature (E := E) (d := d + 4) (s := 1) (i := i) (w := w) (v := nI (pVn b L (pTS b L (pAd b L j)))) (M := pMS M σ (pNj b L most (pAd b L j))) h13 hi hw7).m pMS_w
      have hv := pVn_le (b := b) (L := L) (s := pTS b L (pAd b L j))
      refine fv_F.of (ls := [some (.ref 88), some (.ref (aB 1 i)), some (.ref (1000 + k)), some (.int (nI w)), none]) (by decide) (Nat.le_of_ble_eq_true rfl) rfl ?_
      refine x_aload_n (pc := 0) dX5_readBirdFeature_0 rfl rfl ?_
      refine x_aload_n (pc := 1) dX5_readBirdFeature_1 rfl rfl ?_
      refine x_Vi (pc := 2) ks_X5_89 dX5_readBirdFeature_2 (tb_88) rfl rfl (hW) rfl rfl rfl (Nat.le_of_ble_eq_true rfl) ?_
      refine x_ifb_ne (pc := 5) dX5_readBirdFeature_5 (tgt := 10) rfl (fun h5 => ?_) (fun h5 => ?_)
      ·
        refine x_aload_n (pc := 10) dX5_readBirdFeature_10 rfl rfl ?_
        refine x_iload_n (pc := 11) dX5_readBirdFeature_11 rfl rfl ?_
        refine x_Si (pc := 12) ks_X5_144 dX5_readBirdFeature_12 ((hX0_mostOf (w := nI w)).v hmo) rfl rfl rfl (Nat.le_of_ble_eq_true rfl) ?_
        refine x_Vi (pc := 15) ks_X5_136 dX5_readBirdFeature_15 (tb_88) rfl rfl (hN) rfl rfl rfl (Nat.le_of_ble_eq_true rfl) ?_
        refine x_istore4 (pc := 18) dX5_readBirdFeature_18 rfl ?_
        refine x_iload (pc := 20) dX5_readBirdFeature_20 rfl ?_
        refine x_if_ge (pc := 22) dX5_readBirdFeature_22 (tgt := 27) rfl (fun h22 => ?_) (fun h22 => ?_)
        ·
          refine x_aload_n (pc := 27) dX5_readBirdFeature_27 rfl rfl ?_
          refine x_iload_n (pc := 28) dX5_readBirdFeature_28 rfl rfl ?_
          refine x_iload (pc := 29) dX5_readBirdFeature_29 rfl ?_
          refine x_Vv (pc := 31) ks_X5_147 dX5_readBirdFeature_31 (tb_b (by assumption) (by assumption)) rfl rfl (hs) rfl rfl rfl (Nat.le_of_ble_eq_true rfl) ?_
          refine x_iconst (pc := 34) (v := 1) dX5_readBirdFeature_34 rfl ?_
          refine x_iret (pc := 35) dX5_readBirdFeature_35 rfl (by first | rfl | exact fv_nz _) ?_
          exact ⟨rfl, rfl⟩
        ·
          exact absurd (nI_pos' (by omega)) h22
      ·
        exact absurd hw h5
    · rw [pNu_f hp] at hN
      rw [show pBst b L k most (fB i w) j σ = σ from if_neg (fun z => hp z.2), bI_f (fun z => z.elim (fun z => z hw) hp)]
      refine fv_F.of (ls := [some (.ref 88), some (.ref (aB 1 i)), some (.ref (1000 + k)), some (.int (nI w)), none]) (by decide) (Nat.le_of_ble_eq_true rfl) rfl ?_
      refine x_aload_n (pc := 0) dX5_readBirdFeature_0 rfl rfl ?_
      refine x_aload_n (pc := 1) dX5_readBirdFeature_1 rfl rfl ?_
      refine x_Vi (pc := 2) ks_X5_89 dX5_readBirdFeature_2 (tb_88) rfl rfl (hW) rfl rfl rfl (Nat.le_of_ble_eq_true rfl) ?_
      refine x_ifb_ne (pc := 5) dX5_readBirdFeature_5 (tgt := 10) rfl (fun h5 => ?_) (fun h5 => ?_)
      ·
        refine x_aload_n (pc := 10) dX5_readBirdFeature_10 rfl rfl ?_
        refine x_iload_n (pc := 11) dX5_readBirdFeature_11 rfl rfl ?_
        refine x_Si (pc := 12) ks_X5_144 dX5_readBirdFeature_12 ((hX0_mostOf (w := nI w)).v hmo) rfl rfl rfl (Nat.le_of_ble_eq_true rfl) ?_
        refine x_Vi (pc := 15) ks_X5_136 dX5_readBirdFeature_15 (tb_88) rfl rfl (hN) rfl rfl rfl (Nat.le_of_ble_eq_true rfl) ?_
        refine x_istore4 (pc := 18) dX5_readBirdFeature_18 rfl ?_
        refine x_iload (pc := 20) dX5_readBirdFeature_20 rfl ?_
        refine x_if_ge (pc := 22) dX5_readBirdFeature_22 (tgt := 27) rfl (fun h22 => ?_) (fun h22 => ?_)
        ·
          exact absurd h22 (by decide)
        ·
          refine x_iconst (pc := 25) (v := 0) dX5_readBirdFeature_25 rfl ?_
          refine x_iret (pc := 26) dX5_readBirdFeature_26 rfl (by first | rfl | exact fv_nz _) ?_
          exact ⟨rfl, rfl⟩
      ·
        exact absurd hw h5
  · rw [show pWk b L k j = j from if_neg hw] at hW
    rw [show pBj b L k most j = j from if_neg hw, show pBst b L k most (fB i w) j σ = σ from if_neg (fun z => hw z.1), bI_t (.inl hw)]
    refine fv_F.of (ls := [some (.ref 88), some (.ref (aB 1 i)), some (.ref (1000 + k)), some (.int (nI w)), none]) (by decide) (Nat.le_of_ble_eq_true rfl) rfl ?_
    refine x_aload_n (pc := 0) dX5_readBirdFeature_0 rfl rfl ?_
    refine x_aload_n (pc := 1) dX5_readBirdFeature_1 rfl rfl ?_
    refine x_Vi (pc := 2) ks_X5_89 dX5_readBirdFeature_2 (tb_88) rfl rfl (hW) rfl rfl rfl (Nat.le_of_ble_eq_true rfl) ?_
    refine x_ifb_ne (pc := 5) dX5_readBirdFeature_5 (tgt := 10) rfl (fun h5 => ?_) (fun h5 => ?_)
    ·
      exact absurd h5 hw
    ·
      refine x_iconst (pc := 8) (v := 1) dX5_readBirdFeature_8 rfl ?_
      refine x_iret (pc := 9) dX5_readBirdFeature_9 rfl (by first | rfl | exact fv_nz _) ?_
      exact ⟨rfl, rfl⟩
theorem hX5_readMotionFeature {E : fv_E} {d L j i k w most : Nat} {a : Int32} {b : Nat → Nat} {M : fv_M} {σ : Nat → Int32} (hT : pTJ b L M) (hj : j ≤ pTn b L) (hi : i < 8) (hk : k < 15) (hw5 : w < 5) (hm : most ≤ 999) (hmo : (if nI w = 0 then 3 else if nI w = 1 then 99 else if nI w = 2 then a else if nI w = 3 then 4 else 1) = nI most) : fv_F E (d + 6) mX5_readMotionFeature [.ref 88, .ref (aM 1 i), .ref (1000 + k), .int (nI w), .int a] (pMS M σ j) (some (.int (bI (pBo b L k most j)))) (pMS M (pBst b L k most (fM i w) j σ) (pBj b L k most j)) := by
  have h13 : (1 : Nat) < 3 := by decide
  have hW := hA_tW (E := E) (d := d) (k := k) (σ := σ) hT hj hk
  have hj1 := pAd_le hj
  by_cases hw : pWi b L (pTS b L j) = k
  · rw [show pWk b L k j = pAd b L j from if_pos hw] at hW
    have hN := hA_tN (E := E) (d := d + 4) (most := most) (σ := σ) hT hj1 hm
    rw [show pBj b L k most j = pNj b L most (pAd b L j) from if_pos hw]
    by_cases hp : pNum b L (pAd b L j) most
    · rw [pNu_n hp] at hN
      rw [show pBst b L k most (fM i w) j σ = fv_u σ (fM i w) (nI (pVn b L (pTS b L (pAd b L j)))) from if_pos ⟨hw, hp⟩, bI_t (.inr hp)]
      have hs := (hX1_setFeature (E := E) (d := d + 5) (s := 1) (m := i) (w := w) (v := nI (pVn b L (pTS b L (pAd b L j)))) (M := pMS M σ (pNj b L most (pAd b L j))) h13 hi hw5).m pMS_w
      have hv := pVn_le (b := b) (L := L) (s := pTS b L (pAd b L j))
      refine fv_F.of (ls := [some (.ref 88), some (.ref (aM 1 i)), some (.ref (1000 + k)), some (.int (nI w)), some (.int a), none]) (by decide) (Nat.le_of_ble_eq_true rfl) rfl ?_
      refine x_aload_n (pc := 0) dX5_readMotionFeature_0 rfl rfl ?_
      refine x_aload_n (pc := 1) dX5_readMotionFeature_1 rfl rfl ?_
      refine x_Vi (pc := 2) ks_X5_89 dX5_readMotionFeature_2 (tb_88) rfl rfl (hW) rfl rfl rfl (Nat.le_of_ble_eq_true rfl) ?_
      refine x_ifb_ne (pc := 5) dX5_readMotionFeature_5 (tgt := 10) rfl (fun h5 => ?_) (fun h5 => ?_)
      ·
        refine x_aload_n (pc := 10) dX5_readMotionFeature_10 rfl rfl ?_
        refine x_iload_n (pc := 11) dX5_readMotionFeature_11 rfl rfl ?_
        refine x_iload (pc := 12) dX5_readMotionFeature_12 rfl ?_
        refine x_Si (pc := 14) ks_X5_176 dX5_readMotionFeature_14 ((hX1_mostOf (w := nI w) (a := a)).v hmo) rfl rfl rfl (Nat.le_of_ble_eq_true rfl) ?_
        refine x_Vi (pc := 17) ks_X5_136 dX5_readMotionFeature_17 (tb_88) rfl rfl (hN) rfl rfl rfl (Nat.le_of_ble_eq_true rfl) ?_
        refine x_istore5 (pc := 20) dX5_readMotionFeature_20 rfl ?_
        refine x_iload (pc := 22) dX5_readMotionFeature_22 rfl ?_
        refine x_if_ge (pc := 24) dX5_readMotionFeature_24 (tgt := 29) rfl (fun h24 => ?_) (fun h24 => ?_)
        ·
          refine x_aload_n (pc := 29) dX5_readMotionFeature_29 rfl rfl ?_
          refine x_iload_n (pc := 30) dX5_readMotionFeature_30 rfl rfl ?_
          refine x_iload (pc := 31) dX5_readMotionFeature_31 rfl ?_
          refine x_Vv (pc := 33) ks_X5_178 dX5_readMotionFeature_33 (tb_m (by assumption) (by assumption)) rfl rfl (hs) rfl rfl rfl (Nat.le_of_ble_eq_true rfl) ?_
          refine x_iconst (pc := 36) (v := 1) dX5_readMotionFeature_36 rfl ?_
          refine x_iret (pc := 37) dX5_readMotionFeature_37 rfl (by first | rfl | exact fv_nz _) ?_
          exact ⟨rfl, rfl⟩
        ·
          exact absurd (nI_pos' (by omega)) h24
      ·
        exact absurd hw h5
    · rw [pNu_f hp] at hN
      rw [show pBst b L k most (fM i w) j σ = σ from if_neg (fun z => hp z.2), bI_f (fun z => z.elim (fun z => z hw) hp)]
      refine fv_F.of (ls := [some (.ref 88), some (.ref (aM 1 i)), some (.ref (1000 + k)), some (.int (nI w)), some (.int a), none]) (by decide) (Nat.le_of_ble_eq_true rfl) rfl ?_
      refine x_aload_n (pc := 0) dX5_readMotionFeature_0 rfl rfl ?_
      refine x_aload_n (pc := 1) dX5_readMotionFeature_1 rfl rfl ?_
      refine x_Vi (pc := 2) ks_X5_89 dX5_readMotionFeature_2 (tb_88) rfl rfl (hW) rfl rfl rfl (Nat.le_of_ble_eq_true rfl) ?_
      refine x_ifb_ne (pc := 5) dX5_readMotionFeature_5 (tgt := 10) rfl (fun h5 => ?_) (fun h5 => ?_)
      ·
        refine x_aload_n (pc := 10) dX5_readMotionFeature_10 rfl rfl ?_
        refine x_iload_n (pc := 11) dX5_readMotionFeature_11 rfl rfl ?_
        refine x_iload (pc := 12) dX5_readMotionFeature_12 rfl ?_
        refine x_Si (pc := 14) ks_X5_176 dX5_readMotionFeature_14 ((hX1_mostOf (w := nI w) (a := a)).v hmo) rfl rfl rfl (Nat.le_of_ble_eq_true rfl) ?_
        refine x_Vi (pc := 17) ks_X5_136 dX5_readMotionFeature_17 (tb_88) rfl rfl (hN) rfl rfl rfl (Nat.le_of_ble_eq_true rfl) ?_
        refine x_istore5 (pc := 20) dX5_readMotionFeature_20 rfl ?_
        refine x_iload (pc := 22) dX5_readMotionFeature_22 rfl ?_
        refine x_if_ge (pc := 24) dX5_readMotionFeature_24 (tgt := 29) rfl (fun h24 => ?_) (fun h24 => ?_)
        ·
          exact absurd h24 (by decide)
        ·
          refine x_iconst (pc := 27) (v := 0) dX5_readMotionFeature_27 rfl ?_
          refine x_iret (pc := 28) dX5_readMotionFeature_28 rfl (by first | rfl | exact fv_nz _) ?_
          exact ⟨rfl, rfl⟩
      ·
        exact absurd hw h5
  · rw [show pWk b L k j = j from if_neg hw] at hW
    rw [show pBj b L k most j = j from if_neg hw, show pBst b L k most (fM i w) j σ = σ from if_neg (fun z => hw z.1), bI_t (.inl hw)]
    refine fv_F.of (ls := [some (.ref 88), some (.ref (aM 1 i)), some (.ref (1000 + k)), some (.int (nI w)), some (.int a), none]) (by decide) (Nat.le_of_ble_eq_true rfl) rfl ?_
    refine x_aload_n (pc := 0) dX5_readMotionFeature_0 rfl rfl ?_
    refine x_aload_n (pc := 1) dX5_readMotionFeature_1 rfl rfl ?_
    refine x_Vi (pc := 2) ks_X5_89 dX5_readMotionFeature_2 (tb_88) rfl rfl (hW) rfl rfl rfl (Nat.le_of_ble_eq_true rfl) ?_
    refine x_ifb_ne (pc := 5) dX5_readMotionFeature_5 (tgt := 10) rfl (fun h5 => ?_) (fun h5 => ?_)
    ·
      exact absurd h5 hw
    ·
      refine x_iconst (pc := 8) (v := 1) dX5_readMotionFeature_8 rfl ?_
      refine x_iret (pc := 9) dX5_readMotionFeature_9 rfl (by first | rfl | exact fv_nz _) ?_
      exact ⟨rfl, rfl⟩
def pLs1 (b : Nat → Nat) (L j : Nat) (σ : Nat → Int32) : Nat → Int32 := if pNum b L j 999 then fv_u σ 0 (nI (pVn b L (pTS b L j))) else σ
theorem hX5_readSeason {E : fv_E} {d L j : Nat} {b : Nat → Nat} {M : fv_M} {σ : Nat → Int32} (hT : pTJ b L M) (hj : j ≤ pTn b L) : fv_F E (d + 2) mX5_readSeason [.ref 88, .ref (aSt 1)] (pMS M σ j) (some (.int (bI (pNum b L j 999)))) (pMS M (pLs1 b L j σ) (pNj b L 999 j)) := by
  have h13 : (1 : Nat) < 3 := by decide
  have hN := hA_tN (E := E) (d := d) (most := 999) (σ := σ) hT hj (by decide)
  unfold pLs1
  by_cases hp : pNum b L j 999
  · rw [pNu_n hp] at hN
    rw [if_pos hp, bI_t hp]
    refine fv_F.of (ls := [some (.ref 88), some (.ref (aSt 1)), none]) (by decide) (Nat.le_of_ble_eq_true rfl) rfl ?_
    refine x_aload_n (pc := 0) dX5_readSeason_0 rfl rfl ?_
    refine x_sipush (pc := 1) (v := 999) dX5_readSeason_1 rfl ?_
    refine x_Vi (pc := 4) ks_X5_136 dX5_readSeason_4 (tb_88) rfl rfl (hN) rfl rfl rfl (Nat.le_of_ble_eq_true rfl) ?_
    refine x_istore_n2 (pc := 7) dX5_readSeason_7 rfl ?_
    refine x_iload_n (pc := 8) dX5_readSeason_8 rfl rfl ?_
    refine x_if_ge (pc := 9) dX5_readSeason_9 (tgt := 14) rfl (fun h9 => ?_) (fun h9 => ?_)
    ·
      refine x_aload_n (pc := 14) dX5_readSeason_14 rfl rfl ?_
      refine x_iload_n (pc := 15) dX5_readSeason_15 rfl rfl ?_
      refine x_put (pc := 16) fl_X5_179 dX5_readSeason_16 (tb_st (by assumption)) rfl rfl rfl ?_
      rw [pMS_1, pMS_w]
      refine x_iconst (pc := 19) (v := 1) dX5_readSeason_19 rfl ?_
      refine x_iret (pc := 20) dX5_readSeason_20 rfl (by first | rfl | exact fv_nz _) ?_
      exact ⟨rfl, rfl⟩
    ·
      exact absurd (nI_pos' (by have := hp.2; omega)) h9
  · rw [pNu_f hp] at hN
    rw [if_neg hp, bI_f hp]
    refine fv_F.of (ls := [some (.ref 88), some (.ref (aSt 1)), none]) (by decide) (Nat.le_of_ble_eq_true rfl) rfl ?_
    refine x_aload_n (pc := 0) dX5_readSeason_0 rfl rfl ?_
    refine x_sipush (pc := 1) (v := 999) dX5_readSeason_1 rfl ?_
    refine x_Vi (pc := 4) ks_X5_136 dX5_readSeason_4 (tb_88) rfl rfl (hN) rfl rfl rfl (Nat.le_of_ble_eq_true rfl) ?_
    refine x_istore_n2 (pc := 7) dX5_readSeason_7 rfl ?_
    refine x_iload_n (pc := 8) dX5_readSeason_8 rfl rfl ?_
    refine x_if_ge (pc := 9) dX5_readSeason_9 (tgt := 14) rfl (fun h9 => ?_) (fun h9 => ?_)
    ·
      exact absurd h9 (by decide)
    ·
      refine x_iconst (pc := 12) (v := 0) dX5_readSeason_12 rfl ?_
      refine x_iret (pc := 13) dX5_readSeason_13 rfl (by first | rfl | exact fv_nz _) ?_
      exact ⟨rfl, rfl⟩
