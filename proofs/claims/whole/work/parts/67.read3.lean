def pRj (b : Nat → Nat) (L j : Nat) : Nat := if pWi b L (pTS b L j) = 7 then pAi b L (pAd b L j) (pGn b L (pAd b L j)) else j
def pRs (b : Nat → Nat) (L i j : Nat) (σ : Nat → Int32) : Nat → Int32 := if pWi b L (pTS b L j) = 7 then pGs b L i (pAd b L j) σ (pGn b L (pAd b L j)) else σ
abbrev pRo (b : Nat → Nat) (L j : Nat) : Prop := ¬ pWi b L (pTS b L j) = 7 ∨ pGo b L (pAd b L j)
theorem pRj_le {b : Nat → Nat} {L j : Nat} (h : j ≤ pTn b L) : pRj b L j ≤ pTn b L := by
  unfold pRj
  by_cases q : pWi b L (pTS b L j) = 7
  · rw [if_pos q]; exact pAi_le (pAd_le h) _
  · rw [if_neg q]; exact h
theorem hA_rF {E : fv_E} {d L j i : Nat} {b : Nat → Nat} {M : fv_M} {σ : Nat → Int32} (hT : pTJ b L M) (hj : j ≤ pTn b L) (hi : i < 8) : fv_F E (d + 6) mX5_readFeathers [.ref 88, .ref (aB 1 i)] (pMS M σ j) (some (.int (bI (pRo b L j)))) (pMS M (pRs b L i j σ) (pRj b L j)) := by
  refine (hX5_readFeathers hT hj hi).m ?_
  unfold pRs pRj
  by_cases q : pWi b L (pTS b L j) = 7
  · rw [if_pos q, if_pos q, if_pos q]
  · rw [if_neg q, if_neg q, if_neg q]
/-- a bird's item: places, whether in order, the place left at, the state -/
def pB2 (b : Nat → Nat) (L j : Nat) : Nat := pRj b L (pAd b L j)
def pB3 (b : Nat → Nat) (L j : Nat) : Nat := pBj b L 8 99 (pB2 b L j)
def pB4 (b : Nat → Nat) (L j : Nat) : Nat := pBj b L 9 9 (pB3 b L j)
abbrev pBdo (b : Nat → Nat) (L nb j : Nat) : Prop := nb < 8 ∧ pRo b L (pAd b L j) ∧ pBo b L 8 99 (pB2 b L j) ∧ pBo b L 9 9 (pB3 b L j)
def pBdj (b : Nat → Nat) (L nb j : Nat) : Nat := if nb < 8 then (if pRo b L (pAd b L j) then (if pBo b L 8 99 (pB2 b L j) then pB4 b L j else pB3 b L j) else pB2 b L j) else j
def pBds (b : Nat → Nat) (L nb κ j : Nat) (σ : Nat → Int32) : Nat → Int32 := pBst b L 9 9 (fB nb 2) (pB3 b L j) (pBst b L 8 99 (fB nb 1) (pB2 b L j) (pRs b L nb (pAd b L j) (pAddB σ nb (nI κ))))
/-- what a reader leaves: the place; the state, if in order -/
def pRes (M : fv_M) (j : Nat) (ok : Prop) (σ : Nat → Int32) (M' : fv_M) : Prop := ∃ τ, M' = pMS M τ j ∧ (ok → τ = σ)
theorem hX5_readBird {E : fv_E} {d L j κ nb : Nat} {b : Nat → Nat} {M : fv_M} {σ : Nat → Int32} (hT : pTJ b L M) (hj : j ≤ pTn b L) (hB : σ 1 = nI nb) (hb : nb ≤ 8) : fv_P E (d + 7) mX5_readBird [.ref 88, .ref (aSt 1), .int (nI κ)] (pMS M σ j) (some (.int (bI (pBdo b L nb j)))) (pRes M (pBdj b L nb j) (pBdo b L nb j) (pBds b L nb κ j σ)) := by
  have h13 : (1 : Nat) < 3 := by decide
  by_cases hn : nb < 8
  · have hj1 := pAd_le hj
    have hj2 : pB2 b L j ≤ pTn b L := pRj_le hj1
    have hj3 : pB3 b L j ≤ pTn b L := pBj_le hj2
    have hA := (hX4_addBird (E := E) (d := d + 4) (s := 1) (k := nI κ) (M := pMS M σ j) h13 (by rw [pMS_1]; exact hB) hn).m pMS_w
    rw [pMS_1] at hA
    have hV := hA_adv (E := E) (d := d + 6) (σ := pAddB σ nb (nI κ)) hT hj
    have hF := hA_rF (E := E) (d := d) (i := nb) (σ := pAddB σ nb (nI κ)) hT hj1 hn
    rw [show pRj b L (pAd b L j) = pB2 b L j from rfl] at hF
    have h8 := hX5_readBirdFeature (E := E) (d := d) (i := nb) (k := 8) (w := 1) (most := 99) (σ := pRs b L nb (pAd b L j) (pAddB σ nb (nI κ))) hT hj2 hn (by decide) (by decide) (by decide) (by decide)
    rw [show pBj b L 8 99 (pB2 b L j) = pB3 b L j from rfl] at h8
    have h9 := hX5_readBirdFeature (E := E) (d := d) (i := nb) (k := 9) (w := 2) (most := 9) (σ := pBst b L 8 99 (fB nb 1) (pB2 b L j) (pRs b L nb (pAd b L j) (pAddB σ nb (nI κ)))) hT hj3 hn (by decide) (by decide) (by decide) (by decide)
    rw [show pBj b L 9 9 (pB3 b L j) = pB4 b L j from rfl] at h9
    have hjo : pBdj b L nb j = if pRo b L (pAd b L j) then (if pBo b L 8 99 (pB2 b L j) then pB4 b L j else pB3 b L j) else pB2 b L j := if_pos hn
    rw [hjo]
    refine fv_P.of (ls := [some (.ref 88), some (.ref (aSt 1)), some (.int (nI κ)), none, none]) (by decide) (Nat.le_of_ble_eq_true rfl) rfl ?_
    refine x_aload_n (pc := 0) dX5_readBird_0 rfl rfl ?_
    refine x_iload_n (pc := 1) dX5_readBird_1 rfl rfl ?_
    refine x_Vi (pc := 2) ks_X5_113 dX5_readBird_2 (tb_st (by assumption)) rfl rfl (hA) rfl rfl rfl (Nat.le_of_ble_eq_true rfl) ?_
    refine x_istore_n3 (pc := 5) dX5_readBird_5 rfl ?_
    refine x_iload_n (pc := 6) dX5_readBird_6 rfl rfl ?_
    refine x_if_ge (pc := 7) dX5_readBird_7 (tgt := 12) rfl (fun h7 => ?_) (fun h7 => ?_)
    ·
      refine x_aload_n (pc := 12) dX5_readBird_12 rfl rfl ?_
      refine x_Vv (pc := 13) ks_X5_38 dX5_readBird_13 (tb_88) rfl rfl (hV) rfl rfl rfl (Nat.le_of_ble_eq_true rfl) ?_
      refine x_aload_n (pc := 16) dX5_readBird_16 rfl rfl ?_
      refine x_geta (pc := 17) fl_X5_118 dX5_readBird_17 (tb_st (by assumption)) rfl ?_
      refine x_iload_n (pc := 20) dX5_readBird_20 rfl rfl ?_
      refine x_bird (pc := 21) dX5_readBird_21 (by assumption) (rfl) (by first | assumption | decide | omega) ?_
      refine x_astore4 (pc := 22) dX5_readBird_22 rfl ?_
      refine x_aload_n (pc := 24) dX5_readBird_24 rfl rfl ?_
      refine x_aload (pc := 25) dX5_readBird_25 rfl ?_
      refine x_Vi (pc := 27) ks_X5_122 dX5_readBird_27 (tb_88) rfl rfl (hF) rfl rfl rfl (Nat.le_of_ble_eq_true rfl) ?_
      refine x_ifb_eq (pc := 30) dX5_readBird_30 (tgt := 61) rfl (fun h30 => ?_) (fun h30 => ?_)
      ·
        rw [if_neg h30, bI_f (fun z => h30 z.2.1)]
        refine x_iconst (pc := 61) (v := 0) dX5_readBird_61 rfl ?_
        refine x_iret (pc := 62) dX5_readBird_62 rfl (by first | rfl | exact fv_nz _) ?_
        first | exact ⟨rfl, _, rfl, fun z => rfl⟩ | exact ⟨rfl, _, rfl, fun z => absurd z.2.1 h30⟩ | exact ⟨rfl, _, rfl, fun z => absurd z.2.2.1 h42⟩ | exact ⟨rfl, _, rfl, fun z => absurd z.2.2.2 h54⟩
      ·
        rw [if_pos h30]
        refine x_aload_n (pc := 33) dX5_readBird_33 rfl rfl ?_
        refine x_aload (pc := 34) dX5_readBird_34 rfl ?_
        refine x_ldcs (pc := 36) (k := 8) dX5_readBird_36 (by decide) rfl rfl ?_
        refine x_iconst (pc := 38) (v := 1) dX5_readBird_38 rfl ?_
        refine x_Vi (pc := 39) ks_X5_128 dX5_readBird_39 (tb_88) rfl rfl (h8) rfl rfl rfl (Nat.le_of_ble_eq_true rfl) ?_
        refine x_ifb_eq (pc := 42) dX5_readBird_42 (tgt := 61) rfl (fun h42 => ?_) (fun h42 => ?_)
        ·
          rw [if_neg h42, bI_f (fun z => h42 z.2.2.1)]
          refine x_iconst (pc := 61) (v := 0) dX5_readBird_61 rfl ?_
          refine x_iret (pc := 62) dX5_readBird_62 rfl (by first | rfl | exact fv_nz _) ?_
          first | exact ⟨rfl, _, rfl, fun z => rfl⟩ | exact ⟨rfl, _, rfl, fun z => absurd z.2.1 h30⟩ | exact ⟨rfl, _, rfl, fun z => absurd z.2.2.1 h42⟩ | exact ⟨rfl, _, rfl, fun z => absurd z.2.2.2 h54⟩
        ·
          rw [if_pos h42]
          refine x_aload_n (pc := 45) dX5_readBird_45 rfl rfl ?_
          refine x_aload (pc := 46) dX5_readBird_46 rfl ?_
          refine x_ldcs (pc := 48) (k := 9) dX5_readBird_48 (by decide) rfl rfl ?_
          refine x_iconst (pc := 50) (v := 2) dX5_readBird_50 rfl ?_
          refine x_Vi (pc := 51) ks_X5_128 dX5_readBird_51 (tb_88) rfl rfl (h9) rfl rfl rfl (Nat.le_of_ble_eq_true rfl) ?_
          refine x_ifb_eq (pc := 54) dX5_readBird_54 (tgt := 61) rfl (fun h54 => ?_) (fun h54 => ?_)
          ·
            rw [bI_f (fun z => h54 z.2.2.2)]
            refine x_iconst (pc := 61) (v := 0) dX5_readBird_61 rfl ?_
            refine x_iret (pc := 62) dX5_readBird_62 rfl (by first | rfl | exact fv_nz _) ?_
            first | exact ⟨rfl, _, rfl, fun z => rfl⟩ | exact ⟨rfl, _, rfl, fun z => absurd z.2.1 h30⟩ | exact ⟨rfl, _, rfl, fun z => absurd z.2.2.1 h42⟩ | exact ⟨rfl, _, rfl, fun z => absurd z.2.2.2 h54⟩
          ·
            rw [bI_t ⟨hn, h30, h42, h54⟩]
            refine x_iconst (pc := 57) (v := 1) dX5_readBird_57 rfl ?_
            refine x_goto (pc := 58) dX5_readBird_58 (tgt := 62) rfl ?_
            refine x_iret (pc := 62) dX5_readBird_62 rfl (by first | rfl | exact fv_nz _) ?_
            first | exact ⟨rfl, _, rfl, fun z => rfl⟩ | exact ⟨rfl, _, rfl, fun z => absurd z.2.1 h30⟩ | exact ⟨rfl, _, rfl, fun z => absurd z.2.2.1 h42⟩ | exact ⟨rfl, _, rfl, fun z => absurd z.2.2.2 h54⟩
    ·
      exact absurd (nI_pos' (by omega)) h7
  · have e8 : nb = 8 := by omega
    have hA := hX4_addBirdF (E := E) (d := d + 4) (s := 1) (k := nI κ) (M := pMS M σ j) h13 (by rw [pMS_1, hB, e8])
    rw [show pBdj b L nb j = j from if_neg hn, bI_f (fun z => hn z.1)]
    refine fv_P.of (ls := [some (.ref 88), some (.ref (aSt 1)), some (.int (nI κ)), none, none]) (by decide) (Nat.le_of_ble_eq_true rfl) rfl ?_
    refine x_aload_n (pc := 0) dX5_readBird_0 rfl rfl ?_
    refine x_iload_n (pc := 1) dX5_readBird_1 rfl rfl ?_
    refine x_Vi (pc := 2) ks_X5_113 dX5_readBird_2 (tb_st (by assumption)) rfl rfl (hA) rfl rfl rfl (Nat.le_of_ble_eq_true rfl) ?_
    refine x_istore_n3 (pc := 5) dX5_readBird_5 rfl ?_
    refine x_iload_n (pc := 6) dX5_readBird_6 rfl rfl ?_
    refine x_if_ge (pc := 7) dX5_readBird_7 (tgt := 12) rfl (fun h7 => ?_) (fun h7 => ?_)
    ·
      exact absurd h7 (by decide)
    ·
      refine x_iconst (pc := 10) (v := 0) dX5_readBird_10 rfl ?_
      refine x_iret (pc := 11) dX5_readBird_11 rfl (by first | rfl | exact fv_nz _) ?_
      exact ⟨rfl, σ, rfl, fun z => absurd z.1 hn⟩
