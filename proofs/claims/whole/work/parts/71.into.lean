/-- a text from token j on: the answer, whether in order, the counts and the state -/
def pTx (b : Nat → Nat) (L : Nat) : Nat → Nat → Nat → Nat → Nat → (Nat → Int32) → Int32 × Bool × Nat × Nat × (Nat → Int32)
  | 0, _, _, nb, nm, σ => (-1 - nI 0, false, nb, nm, σ)
  | f + 1, k, j, nb, nm, σ =>
    if pIo b L nb nm j then
      if pTo b L (pTS b L (pIj b L nb nm j)) = 0 then (nI k, true, pInb b L nb j, pInm b L nm j, pIst b L nb nm j σ)
      else if pTo b L (pTS b L (pIj b L nb nm j)) = 3 then pTx b L f (k + 1) (pAd b L (pIj b L nb nm j)) (pInb b L nb j) (pInm b L nm j) (pIst b L nb nm j σ)
      else (-1 - nI (pTS b L (pIj b L nb nm j)), false, nb, nm, σ)
    else (-1 - nI (pTS b L (pIj b L nb nm j)), false, nb, nm, σ)
theorem pTx_s (b : Nat → Nat) (L f k j nb nm : Nat) (σ : Nat → Int32) : pTx b L (f + 1) k j nb nm σ = if pIo b L nb nm j then
      if pTo b L (pTS b L (pIj b L nb nm j)) = 0 then (nI k, true, pInb b L nb j, pInm b L nm j, pIst b L nb nm j σ)
      else if pTo b L (pTS b L (pIj b L nb nm j)) = 3 then pTx b L f (k + 1) (pAd b L (pIj b L nb nm j)) (pInb b L nb j) (pInm b L nm j) (pIst b L nb nm j σ)
      else (-1 - nI (pTS b L (pIj b L nb nm j)), false, nb, nm, σ)
    else (-1 - nI (pTS b L (pIj b L nb nm j)), false, nb, nm, σ) := rfl
theorem pMS_id {M : fv_M} {j : Nat} : pMS M (M 1) j = pMj M j := by
  unfold pMS
  rw [fv_s_id]
theorem pMS_fr {M : fv_M} {σ : Nat → Int32} {j : Nat} : pFr [1, 4, 6, 7, 8] M (pMS M σ j) := (pFr.rfl'.s (by decide)).s (by decide)
theorem hX5_readInto0 {E : fv_E} {d L nb nm N : Nat} (hN : 61 ≤ N) {b : Nat → Nat} {M : fv_M} (T : Nat → Nat → Nat → Nat → Nat → (Nat → Int32) → Int32 × Bool × Nat × Nat × (Nat → Int32)) (hTs : ∀ (f k j nb nm : Nat) (σ : Nat → Int32), T (f + 1) k j nb nm σ = if pIo b L nb nm j then (if pTo b L (pTS b L (pIj b L nb nm j)) = 0 then (nI k, true, pInb b L nb j, pInm b L nm j, pIst b L nb nm j σ) else if pTo b L (pTS b L (pIj b L nb nm j)) = 3 then T f (k + 1) (pAd b L (pIj b L nb nm j)) (pInb b L nb j) (pInm b L nm j) (pIst b L nb nm j σ) else (-1 - nI (pTS b L (pIj b L nb nm j)), false, nb, nm, σ)) else (-1 - nI (pTS b L (pIj b L nb nm j)), false, nb, nm, σ)) (hL : L ≤ 120) (h0 : M 4 0 = nI L) (hb : ∀ i, i < L → b i < 256 ∧ M 5 i = nI (b i)) (hB : M 1 1 = nI nb) (hb8 : nb ≤ 8) (hM : M 1 2 = nI nm) (hm8 : nm ≤ 8) : fv_P E (d + 9) mX5_readInto [.ref 88, .ref (aSt 1)] M (some (.int (T N 1 0 nb nm (M 1)).1)) (fun M' => pFr [1, 4, 6, 7, 8] M M' ∧ ((T N 1 0 nb nm (M 1)).2.1 = true → M' 1 = (T N 1 0 nb nm (M 1)).2.2.2.2)) := by
  have hS := hX5_split (E := E) (d := d + 7) hL h0 hb
  generalize hR : T N 1 0 nb nm (M 1) = R at *
  refine fv_P.of (ls := [some (.ref 88), some (.ref (aSt 1)), none]) (by decide) (Nat.le_of_ble_eq_true rfl) rfl ?_
  refine x_aload_n (pc := 0) dX5_readInto_0 rfl rfl ?_
  refine x_Vvp (pc := 1) ks_X5_28 dX5_readInto_1 (tb_88) rfl rfl (hS) rfl rfl rfl (Nat.le_of_ble_eq_true rfl) (fun M1 hM1 => ?_)
  refine x_aload_n (pc := 4) dX5_readInto_4 rfl rfl ?_
  refine x_iconst (pc := 5) (v := 0) dX5_readInto_5 rfl ?_
  refine x_put (pc := 6) fl_X5_31 dX5_readInto_6 (tb_88) rfl rfl rfl ?_
  refine x_iconst (pc := 9) (v := 1) dX5_readInto_9 rfl ?_
  refine x_istore_n2 (pc := 10) dX5_readInto_10 rfl ?_
  obtain ⟨hk, hF⟩ := hM1
  have hT : pTJ b L M1 := ⟨hk, hL, fun i hi => (hb i hi).1⟩
  have e1 : M1 1 = M 1 := hF 1 (by decide)
  have hFr : ∀ σ j, pFr [1, 4, 6, 7, 8] M (pMS M1 σ j) := fun σ j => (hF.mono (by decide)).tr pMS_fr
  have hn := (pTn_sp b L).1
  clear hS hF
  refine x_loopM (fun a : Nat × Nat × Nat × Nat × (Nat → Int32) => [some (.ref 88), some (.ref (aSt 1)), some (.int (nI a.1))]) (fun a M' => M' = pMS M1 a.2.2.2.2 a.2.1 ∧ a.2.1 ≤ pTn b L ∧ 1 ≤ a.1 ∧ 2 * (a.1 - 1) ≤ a.2.1 ∧ a.2.2.2.2 1 = nI a.2.2.1 ∧ a.2.2.1 ≤ 8 ∧ a.2.2.2.2 2 = nI a.2.2.2.1 ∧ a.2.2.2.1 ≤ 8 ∧ T (N + 1 - a.1) a.1 a.2.1 a.2.2.1 a.2.2.2.1 a.2.2.2.2 = R) (fun a => N + 1 - a.1) (1, 0, nb, nm, M 1) rfl ⟨by show _ = pMS M1 (M 1) 0; rw [← e1, pMS_id]; rfl, Nat.zero_le _, Nat.le_refl _, Nat.le_refl _, hB, hb8, hM, hm8, hR⟩ (fun a M' hI hL2 => ?_)
  obtain ⟨k, j, nb, nm, σ⟩ := a
  have hj : j ≤ pTn b L := hI.2.1
  have hk1 : 1 ≤ k := hI.2.2.1
  have hkj : 2 * (k - 1) ≤ j := hI.2.2.2.1
  have hB : σ 1 = nI nb := hI.2.2.2.2.1
  have hb8 : nb ≤ 8 := hI.2.2.2.2.2.1
  have hM : σ 2 = nI nm := hI.2.2.2.2.2.2.1
  have hm8 : nm ≤ 8 := hI.2.2.2.2.2.2.2.1
  have hRx : T (N + 1 - k) k j nb nm σ = R := hI.2.2.2.2.2.2.2.2
  obtain rfl : M' = pMS M1 σ j := hI.1
  have hk61 : k ≤ 61 := by omega
  have hk120 : ¬ (120 : Int32) < nI k := fun z => absurd ((nI_ltI (a := 120) (b := k) (by decide) (by omega)).mp z) (by omega)
  clear hI hR
  rw [show N + 1 - k = (N - k) + 1 by omega, hTs] at hRx
  have hj' := pIj_le (nb := nb) (nm := nm) hj
  have hgt := pIj_gt (b := b) (L := L) (nb := nb) (nm := nm) (j := j)
  have hcn := pIst_n (b := b) (L := L) (j := j) hB hM
  have hit := hX5_readItem (E := E) (d := d) hT hj hB hb8 hM hm8
  have hto := pTo_le (b := b) (L := L) (s := pTS b L (pIj b L nb nm j))
  have q0 : nI (pTo b L (pTS b L (pIj b L nb nm j))) = 0 ↔ pTo b L (pTS b L (pIj b L nb nm j)) = 0 := nI_eq (b := 0) (by omega) (by decide)
  have q3 : nI (pTo b L (pTS b L (pIj b L nb nm j))) = 3 ↔ pTo b L (pTS b L (pIj b L nb nm j)) = 3 := nI_eq (b := 3) (by omega) (by decide)
  show fv_X E mX5_readInto _ _ 11 [some (.ref 88), some (.ref (aSt 1)), some (.int (nI k))] [] (pMS M1 σ j)
  refine x_iload_n (pc := 11) dX5_readInto_11 rfl rfl ?_
  refine x_bipush (pc := 12) (v := 120) dX5_readInto_12 rfl ?_
  refine x_icmp_gt (pc := 14) dX5_readInto_14 (tgt := 86) rfl (fun h14 => ?_) (fun h14 => ?_)
  ·
    exact absurd h14 hk120
  ·
    refine x_aload_n (pc := 17) dX5_readInto_17 rfl rfl ?_
    refine x_aload_n (pc := 18) dX5_readInto_18 rfl rfl ?_
    refine x_Vip (pc := 19) ks_X5_34 dX5_readInto_19 (tb_88) rfl rfl (hit) rfl rfl rfl (Nat.le_of_ble_eq_true rfl) (fun M2 h2 => ?_)
    obtain ⟨τ, rfl, hτ⟩ := h2; obtain ⟨⟨⟨i1, i2, i3, i4⟩, qj, -⟩, vv⟩ := (⟨hT.at (σ := τ) hj', (hT.at (σ := τ) hj').1.2.2.2 _ hj'⟩ : _ ∧ _)
    refine x_ifb_ne (pc := 22) dX5_readInto_22 (tgt := 37) rfl (fun h22 => ?_) (fun h22 => ?_)
    ·
      rw [if_pos h22] at hRx; replace hgt := hgt h22; replace hcn := hcn h22; replace hτ := hτ h22; clear h22
      refine x_aload_n (pc := 37) dX5_readInto_37 rfl rfl ?_
      refine x_geta (pc := 38) fl_X5_19 dX5_readInto_38 (tb_88) rfl ?_
      refine x_aload_n (pc := 41) dX5_readInto_41 rfl rfl ?_
      refine x_geti (pc := 42) fl_X5_31 dX5_readInto_42 (tb_88) rfl (qj) ?_
      refine x_iale (pc := 45) dX5_readInto_45 (tb_90) (rfl) (by omega) (by first | decide | assumption) (show _ = nI (pTo b L (pTS b L (pIj b L nb nm j))) from by rw [Nat.zero_add]; exact vv.1) ?_
      refine x_if_ne (pc := 46) dX5_readInto_46 (tgt := 51) rfl (fun h46 => ?_) (fun h46 => ?_)
      ·
        rw [if_neg (fun z => h46 (q0.mpr z))] at hRx
        refine x_aload_n (pc := 51) dX5_readInto_51 rfl rfl ?_
        refine x_geta (pc := 52) fl_X5_19 dX5_readInto_52 (tb_88) rfl ?_
        refine x_aload_n (pc := 55) dX5_readInto_55 rfl rfl ?_
        refine x_geti (pc := 56) fl_X5_31 dX5_readInto_56 (tb_88) rfl (qj) ?_
        refine x_iale (pc := 59) dX5_readInto_59 (tb_90) (rfl) (by omega) (by first | decide | assumption) (show _ = nI (pTo b L (pTS b L (pIj b L nb nm j))) from by rw [Nat.zero_add]; exact vv.1) ?_
        refine x_iconst (pc := 60) (v := 3) dX5_readInto_60 rfl ?_
        refine x_icmp_eq (pc := 61) dX5_readInto_61 (tgt := 76) rfl (fun h61 => ?_) (fun h61 => ?_)
        ·
          rw [if_pos (q3.mp h61)] at hRx
          refine x_aload_n (pc := 76) dX5_readInto_76 rfl rfl ?_
          refine x_Vv (pc := 77) ks_X5_38 dX5_readInto_77 (tb_88) rfl rfl (hA_adv hT hj') rfl rfl rfl (Nat.le_of_ble_eq_true rfl) ?_
          refine x_iinc2 (pc := 80) dX5_readInto_80 (by first | exact fv_inc _ | exact fv_dec _ | rfl) rfl ?_
          refine x_goto (pc := 83) dX5_readInto_83 (tgt := 11) rfl ?_
          have e3 : pAd b L (pIj b L nb nm j) = pIj b L nb nm j + 1 := if_pos (Decidable.byContradiction (fun z => by have e3 := q3.mp h61; unfold pTo at e3; rw [if_neg z] at e3; cases e3))
          have hRx' : T (N + 1 - (k + 1)) (k + 1) (pAd b L (pIj b L nb nm j)) (pInb b L nb j) (pInm b L nm j) (pIst b L nb nm j σ) = R := by rw [show N + 1 - (k + 1) = N - k by omega]; exact hRx
          have hja := pAd_le hj'
          rw [hτ]
          clear hit vv i4 hτ
          have hk2 : 2 * (k + 1 - 1) ≤ pAd b L (pIj b L nb nm j) := by omega
          have hn1 : pInb b L nb j ≤ 8 := by omega
          have hn2 : pInm b L nm j ≤ 8 := by omega
          have hkk : N + 1 - (k + 1) < N + 1 - k := by omega
          have hk3 : 1 ≤ k + 1 := by omega
          have hcn1 := hcn.1
          have hcn2 := hcn.2.1
          clear hcn hgt hRx
          generalize pIst b L nb nm j σ = σ2 at *
          generalize pInb b L nb j = nb2 at *
          generalize pInm b L nm j = nm2 at *
          generalize pAd b L (pIj b L nb nm j) = j2 at *
          exact hL2 (k + 1, j2, nb2, nm2, σ2) (pMS M1 σ2 j2) hkk ⟨rfl, hja, hk3, hk2, hcn1, hn1, hcn2, hn2, hRx'⟩
        ·
          rw [if_neg (fun z => h61 (q3.mpr z))] at hRx
          refine x_iconst (pc := 64) (v := (-1)) dX5_readInto_64 fv_m1 ?_
          refine x_aload_n (pc := 65) dX5_readInto_65 rfl rfl ?_
          refine x_geta (pc := 66) fl_X5_22 dX5_readInto_66 (tb_88) rfl ?_
          refine x_aload_n (pc := 69) dX5_readInto_69 rfl rfl ?_
          refine x_geti (pc := 70) fl_X5_31 dX5_readInto_70 (tb_88) rfl (qj) ?_
          refine x_iale (pc := 73) dX5_readInto_73 (tb_91) (rfl) (by omega) (by first | decide | assumption) (show _ = nI (pTS b L (pIj b L nb nm j)) from by rw [Nat.zero_add]; exact vv.2.1) ?_
          refine x_isub (pc := 74) dX5_readInto_74 ?_
          refine x_iret (pc := 75) dX5_readInto_75 rfl (by first | rfl | exact fv_nz _) ?_
          exact ⟨by rw [← hRx], hFr _ _, fun z => by rw [← hRx] at z; cases z⟩
      ·
        rw [if_pos (q0.mp h46)] at hRx
        refine x_iload_n (pc := 49) dX5_readInto_49 rfl rfl ?_
        refine x_iret (pc := 50) dX5_readInto_50 rfl (by first | rfl | exact fv_nz _) ?_
        exact ⟨by rw [← hRx], hFr _ _, fun _ => by rw [← hRx]; exact hτ⟩
    ·
      rw [if_neg h22] at hRx
      refine x_iconst (pc := 25) (v := (-1)) dX5_readInto_25 fv_m1 ?_
      refine x_aload_n (pc := 26) dX5_readInto_26 rfl rfl ?_
      refine x_geta (pc := 27) fl_X5_22 dX5_readInto_27 (tb_88) rfl ?_
      refine x_aload_n (pc := 30) dX5_readInto_30 rfl rfl ?_
      refine x_geti (pc := 31) fl_X5_31 dX5_readInto_31 (tb_88) rfl (qj) ?_
      refine x_iale (pc := 34) dX5_readInto_34 (tb_91) (rfl) (by omega) (by first | decide | assumption) (show _ = nI (pTS b L (pIj b L nb nm j)) from by rw [Nat.zero_add]; exact vv.2.1) ?_
      refine x_isub (pc := 35) dX5_readInto_35 ?_
      refine x_iret (pc := 36) dX5_readInto_36 rfl (by first | rfl | exact fv_nz _) ?_
      exact ⟨by rw [← hRx], hFr _ _, fun z => by rw [← hRx] at z; cases z⟩
theorem hX5_readInto {E : fv_E} {d L nb nm : Nat} {b : Nat → Nat} {M : fv_M} (hL : L ≤ 120) (h0 : M 4 0 = nI L) (hb : ∀ i, i < L → b i < 256 ∧ M 5 i = nI (b i)) (hB : M 1 1 = nI nb) (hb8 : nb ≤ 8) (hM : M 1 2 = nI nm) (hm8 : nm ≤ 8) : ∀ N, 61 ≤ N → fv_P E (d + 9) mX5_readInto [.ref 88, .ref (aSt 1)] M (some (.int (pTx b L N 1 0 nb nm (M 1)).1)) (fun M' => pFr [1, 4, 6, 7, 8] M M' ∧ ((pTx b L N 1 0 nb nm (M 1)).2.1 = true → M' 1 = (pTx b L N 1 0 nb nm (M 1)).2.2.2.2)) := fun N hN => hX5_readInto0 hN (pTx b L) (pTx_s b L) hL h0 hb hB hb8 hM hm8
