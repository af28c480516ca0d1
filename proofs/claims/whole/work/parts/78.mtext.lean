theorem pN_fr {b : Nat → Nat} {L s : Nat} {M : fv_M} {σ : Nat → Int32} : pFr [21, 22] M (pN b L M σ s) := (pFr.rfl'.s (by decide)).s (by decide)
theorem hX7_text0 {E : fv_E} {L nb nm N : Nat} (hN : 61 ≤ N) {b : Nat → Nat} {M : fv_M} (T : Nat → Nat → Nat → Nat → Nat → (Nat → Int32) → Int32 × Bool × Nat × Nat × (Nat → Int32)) (hTs : ∀ (f k j nb nm : Nat) (σ : Nat → Int32), T (f + 1) k j nb nm σ = if pIo b L nb nm j then (if pTo b L (pTS b L (pIj b L nb nm j)) = 0 then (nI k, true, pInb b L nb j, pInm b L nm j, pIst b L nb nm j σ) else if pTo b L (pTS b L (pIj b L nb nm j)) = 3 then T f (k + 1) (pAd b L (pIj b L nb nm j)) (pInb b L nb j) (pInm b L nm j) (pIst b L nb nm j σ) else (-1 - nI (pTS b L (pIj b L nb nm j)), false, nb, nm, σ)) else (-1 - nI (pTS b L (pIj b L nb nm j)), false, nb, nm, σ)) (H : pHm b L M) (hB : M 22 1 = nI nb) (hb8 : nb ≤ 8) (hM : M 22 2 = nI nm) (hm8 : nm ≤ 8) : fv_P E 13 mX7_text [.ref 106] M (some (.int (T N 1 0 nb nm (M 22)).1)) (fun M2 => pFr [21, 22, 24] M M2 ∧ M2 21 12 = 0 ∧ M2 21 3 = M 21 3 ∧ ((T N 1 0 nb nm (M 22)).2.1 = true → M2 22 = (T N 1 0 nb nm (M 22)).2.2.2.2) ∧ ((T N 1 0 nb nm (M 22)).2.1 = false → ∀ i, i < 114 → M2 22 i = M 22 i)) := by
  have hL := H.1
  obtain ⟨Ma, hMa⟩ : ∃ Ma : fv_M, Ma = fv_s M 24 (pCpy (M 24) (M 22) 114) := ⟨_, rfl⟩
  obtain ⟨Mb, hMb⟩ : ∃ Mb : fv_M, Mb = fv_s Ma 21 (fv_u (Ma 21) 15 0) := ⟨_, rfl⟩
  have hsa := hX7_setsAside (E := E) (d := 12) (M := M)
  rw [← hMa] at hsa
  have b22 : Mb 22 = M 22 := by rw [hMb, hMa, fv_s_ne _ _ (by decide), fv_s_ne _ _ (by decide)]
  have b24 : Mb 24 = pCpy (M 24) (M 22) 114 := by rw [hMb, hMa, fv_s_ne _ _ (by decide), fv_s_same]
  have b3 : Mb 21 3 = M 21 3 := by rw [hMb, hMa, fv_s_same, fv_u_ne _ _ (by decide), fv_s_ne _ _ (by decide)]
  have b12 : Mb 21 12 = M 21 12 := by rw [hMb, hMa, fv_s_same, fv_u_ne _ _ (by decide), fv_s_ne _ _ (by decide)]
  have b15 : Mb 21 15 = nI 0 := by rw [hMb, fv_s_same, fv_u_same]; rfl
  have bF : pFr [21, 24] M Mb := by rw [hMb, hMa]; exact (pFr.rfl'.s (by decide)).s (by decide)
  have Hb : pHm b L Mb := by
    obtain ⟨h1, h2, h3, h4⟩ := H
    refine ⟨h1, b12.trans h2, ?_, ?_⟩
    · rw [bF 29 (by decide)]; exact h3
    · rw [bF 30 (by decide), bF 31 (by decide), bF 32 (by decide), bF 33 (by decide)]; exact h4
  have hnx : fv_F E 12 mX7_nextToken [.ref 106] Mb none (pNp b L Mb (M 22) 0) := (hX7_nextToken (E := E) (d := 10) (e := 0) hL Hb.2.1 Hb.2.2.1 b15 (Nat.zero_le _)).m (by
    show _ = pQ (fv_s Mb 22 (M 22)) _ _ _ _
    rw [← b22, fv_s_id]
    rfl)
  have hit0 := hX7_readsItem (E := E) (d := 7) (j := 0) (σ := M 22) Hb hB hb8 hM hm8
  generalize hR : T N 1 0 nb nm (M 22) = R at *
  have hfin : ∀ σ s, pFr [21, 22, 24] M (fv_s (pN b L Mb σ s) 21 (fv_u (pN b L Mb σ s 21) 12 0)) := fun σ s => ((bF.mono (by decide)).tr (pN_fr.mono (by decide))).s (by decide)
  have H62 : ∀ (σ : Nat → Int32) (s : Nat) (x : Int32) (y : Option Value), R.1 = -1 - nI s → R.2.1 = false → fv_X E mX7_text 13 (fun r' M2 => r' = some (.int R.1) ∧ (pFr [21, 22, 24] M M2 ∧ M2 21 12 = 0 ∧ M2 21 3 = M 21 3 ∧ (R.2.1 = true → M2 22 = R.2.2.2.2) ∧ (R.2.1 = false → ∀ i, i < 114 → M2 22 i = M 22 i))) 62 [some (.ref 106), some (.int x), y] [] (pN b L Mb σ s) := fun σ s x y e1 e2 => by
    have hlb := hX7_laysBack (E := E) (d := 12) (M := fv_s (pN b L Mb σ s) 21 (fv_u (pN b L Mb σ s 21) 12 0))
    have q24 : (fv_s (pN b L Mb σ s) 21 (fv_u (pN b L Mb σ s 21) 12 0)) 24 = pCpy (M 24) (M 22) 114 := b24
    rw [q24] at hlb
    refine x_iconst (pc := 62) (v := 0) dX7_text_62 rfl ?_
    refine x_istore_n2 (pc := 63) dX7_text_63 rfl ?_
    refine x_aload_n (pc := 64) dX7_text_64 rfl rfl ?_
    refine x_iconst (pc := 65) (v := 0) dX7_text_65 rfl ?_
    refine x_put (pc := 66) fl_X7_209 dX7_text_66 (tb_106) rfl rfl rfl ?_
    refine x_iload_n (pc := 69) dX7_text_69 rfl rfl ?_
    refine x_if_ne (pc := 70) dX7_text_70 (tgt := 84) rfl (fun h70 => ?_) (fun h70 => ?_)
    ·
      exact absurd rfl h70
    ·
      refine x_aload_n (pc := 73) dX7_text_73 rfl rfl ?_
      refine x_Vv (pc := 74) ks_X7_155 dX7_text_74 (tb_106) rfl rfl (hlb) rfl rfl rfl (Nat.le_of_ble_eq_true rfl) ?_
      refine x_iconst (pc := 77) (v := (-1)) dX7_text_77 fv_m1 ?_
      refine x_aload_n (pc := 78) dX7_text_78 rfl rfl ?_
      refine x_geti (pc := 79) fl_X7_215 dX7_text_79 (tb_106) rfl (show _ = nI s from rfl) ?_
      refine x_isub (pc := 82) dX7_text_82 ?_
      refine x_iret (pc := 83) dX7_text_83 rfl (by first | rfl | exact fv_nz _) ?_
      exact ⟨by rw [e1], (hfin σ s).s (by decide), rfl, b3, fun z => absurd (z.symm.trans e2) (by decide), fun _ i hi => by rw [fv_s_same, pCpy_lt hi, pCpy_lt hi]⟩
  refine fv_P.of (ls := [some (.ref 106), none, none]) (by decide) (Nat.le_of_ble_eq_true rfl) rfl ?_
  refine x_aload_n (pc := 0) dX7_text_0 rfl rfl ?_
  refine x_Vv (pc := 1) ks_X7_152 dX7_text_1 (tb_106) rfl rfl (hsa) rfl rfl rfl (Nat.le_of_ble_eq_true rfl) ?_
  refine x_aload_n (pc := 4) dX7_text_4 rfl rfl ?_
  refine x_iconst (pc := 5) (v := 0) dX7_text_5 rfl ?_
  refine x_put (pc := 6) fl_X7_212 dX7_text_6 (tb_106) rfl rfl rfl ?_
  rw [← hMb]
  refine x_aload_n (pc := 9) dX7_text_9 rfl rfl ?_
  refine x_Vv (pc := 10) ks_X7_241 dX7_text_10 (tb_106) rfl rfl (hnx) rfl rfl rfl (Nat.le_of_ble_eq_true rfl) ?_
  refine x_iconst (pc := 13) (v := 1) dX7_text_13 rfl ?_
  refine x_istore_n1 (pc := 14) dX7_text_14 rfl ?_
  refine x_aload_n (pc := 15) dX7_text_15 rfl rfl ?_
  refine x_Vip (pc := 16) ks_X7_258 dX7_text_16 (tb_106) rfl rfl (hit0) rfl rfl rfl (Nat.le_of_ble_eq_true rfl) (fun M1 hM1 => ?_)
  refine x_istore_n2 (pc := 19) dX7_text_19 rfl ?_
  refine x_loopM (fun a : Nat × Nat × Nat × Nat × (Nat → Int32) => [some (.ref 106), some (.int (nI a.1)), some (.int (bI (pIm b L a.2.2.1 a.2.2.2.1 a.2.1)))]) (fun a M' => pResN b L Mb (pIj b L a.2.2.1 a.2.2.2.1 a.2.1) (pIo b L a.2.2.1 a.2.2.2.1 a.2.1) (pIst b L a.2.2.1 a.2.2.2.1 a.2.1 a.2.2.2.2) M' ∧ a.2.1 ≤ pTn b L ∧ 1 ≤ a.1 ∧ 2 * (a.1 - 1) ≤ a.2.1 ∧ a.2.2.2.2 1 = nI a.2.2.1 ∧ a.2.2.1 ≤ 8 ∧ a.2.2.2.2 2 = nI a.2.2.2.1 ∧ a.2.2.2.1 ≤ 8 ∧ T (N + 1 - a.1) a.1 a.2.1 a.2.2.1 a.2.2.2.1 a.2.2.2.2 = R) (fun a => N + 1 - a.1) (1, 0, nb, nm, M 22) rfl ⟨hM1, Nat.zero_le _, Nat.le_refl _, Nat.le_refl _, hB, hb8, hM, hm8, hR⟩ (fun a M' hI hL2 => ?_)
  obtain ⟨k, j, nb, nm, σ⟩ := a
  have hj : j ≤ pTn b L := hI.2.1
  have hk1 : 1 ≤ k := hI.2.2.1
  have hkj : 2 * (k - 1) ≤ j := hI.2.2.2.1
  have hB : σ 1 = nI nb := hI.2.2.2.2.1
  have hb8 : nb ≤ 8 := hI.2.2.2.2.2.1
  have hM : σ 2 = nI nm := hI.2.2.2.2.2.2.1
  have hm8 : nm ≤ 8 := hI.2.2.2.2.2.2.2.1
  have hRx : T (N + 1 - k) k j nb nm σ = R := hI.2.2.2.2.2.2.2.2
  obtain ⟨τ, hMe, hτ⟩ : pResN b L Mb (pIj b L nb nm j) (pIo b L nb nm j) (pIst b L nb nm j σ) M' := hI.1
  clear hI hR hit0
  have hn := (pTn_sp b L).1
  have hk61 : k ≤ 61 := by omega
  rw [show N + 1 - k = (N - k) + 1 by omega, hTs] at hRx
  have hj' := pIj_le (nb := nb) (nm := nm) hj
  show fv_X E mX7_text _ _ 20 [some (.ref 106), some (.int (nI k)), some (.int (bI (pIm b L nb nm j)))] [] M'
  rw [hMe]
  have hyl := pYt_le (b := b) (L := L) (s := pTS b L (pIj b L nb nm j))
  have r13 : pNp b L Mb τ (pIj b L nb nm j) 21 13 = nI (pYt b L (pTS b L (pIj b L nb nm j))) := rfl
  have y0 : nI (pYt b L (pTS b L (pIj b L nb nm j))) = 0 ↔ pTo b L (pTS b L (pIj b L nb nm j)) = 0 := (nI_eq (b := 0) (by omega) (by decide)).trans pYt_0
  have y3 : nI (pYt b L (pTS b L (pIj b L nb nm j))) = 3 ↔ pTo b L (pTS b L (pIj b L nb nm j)) = 3 := (nI_eq (b := 3) (by omega) (by decide)).trans pYt_3
  by_cases ho : pIo b L nb nm j
  · rw [if_pos ho] at hRx
    have hm := pIm_of ho
    have hgt := pIj_gt ho
    have hcn := pIst_n hB hM ho
    replace hτ := hτ ho
    subst hτ
    have hnx2 := hP_next (E := E) (d := 10) (σ := pIst b L nb nm j σ) (j := pIj b L nb nm j) Hb
    have hit2 := hX7_readsItem (E := E) (d := 7) (j := pAd b L (pIj b L nb nm j)) (σ := pIst b L nb nm j σ) (nb := pInb b L nb j) (nm := pInm b L nm j) Hb hcn.1 (by clear ho hm; omega) hcn.2.1 (by clear ho hm; omega)
    by_cases h3 : pTo b L (pTS b L (pIj b L nb nm j)) = 3
    · rw [if_neg (by omega), if_pos h3] at hRx
      have e3 : pAd b L (pIj b L nb nm j) = pIj b L nb nm j + 1 := if_pos (Decidable.byContradiction (fun z => by unfold pTo at h3; rw [if_neg z] at h3; cases h3))
      refine x_iload_n (pc := 20) dX7_text_20 rfl rfl ?_
      refine x_ifb_eq (pc := 21) dX7_text_21 (tgt := 47) rfl (fun h21 => ?_) (fun h21 => ?_)
      ·
        exact absurd hm h21
      ·
        refine x_aload_n (pc := 24) dX7_text_24 rfl rfl ?_
        refine x_geti (pc := 25) fl_X7_222 dX7_text_25 (tb_106) rfl (r13) ?_
        refine x_iconst (pc := 28) (v := 3) dX7_text_28 rfl ?_
        refine x_icmp_ne (pc := 29) dX7_text_29 (tgt := 47) rfl (fun h29 => ?_) (fun h29 => ?_)
        ·
          exact absurd (y3.mpr h3) h29
        ·
          refine x_aload_n (pc := 32) dX7_text_32 rfl rfl ?_
          refine x_Vv (pc := 33) ks_X7_241 dX7_text_33 (tb_106) rfl rfl (hnx2) rfl rfl rfl (Nat.le_of_ble_eq_true rfl) ?_
          refine x_aload_n (pc := 36) dX7_text_36 rfl rfl ?_
          refine x_Vip (pc := 37) ks_X7_258 dX7_text_37 (tb_106) rfl rfl (hit2) rfl rfl rfl (Nat.le_of_ble_eq_true rfl) (fun M3 hM3 => ?_)
          refine x_istore_n2 (pc := 40) dX7_text_40 rfl ?_
          refine x_iinc1 (pc := 41) dX7_text_41 (by first | exact fv_inc _ | exact fv_dec _ | rfl) rfl ?_
          refine x_goto (pc := 44) dX7_text_44 (tgt := 20) rfl ?_
          clear ho hm
          exact hL2 (k + 1, pAd b L (pIj b L nb nm j), pInb b L nb j, pInm b L nm j, pIst b L nb nm j σ) M3 (by show N + 1 - (k + 1) < N + 1 - k; omega) ⟨hM3, pAd_le hj', (by omega : 1 ≤ k + 1), (by omega : 2 * (k + 1 - 1) ≤ pAd b L (pIj b L nb nm j)), hcn.1, (by omega : pInb b L nb j ≤ 8), hcn.2.1, (by omega : pInm b L nm j ≤ 8), by show T (N + 1 - (k + 1)) (k + 1) _ _ _ _ = R; rw [show N + 1 - (k + 1) = N - k by omega]; exact hRx⟩
    · by_cases h0 : pTo b L (pTS b L (pIj b L nb nm j)) = 0
      · rw [if_pos h0] at hRx
        refine x_iload_n (pc := 20) dX7_text_20 rfl rfl ?_
        refine x_ifb_eq (pc := 21) dX7_text_21 (tgt := 47) rfl (fun h21 => ?_) (fun h21 => ?_)
        ·
          exact absurd hm h21
        ·
          refine x_aload_n (pc := 24) dX7_text_24 rfl rfl ?_
          refine x_geti (pc := 25) fl_X7_222 dX7_text_25 (tb_106) rfl (r13) ?_
          refine x_iconst (pc := 28) (v := 3) dX7_text_28 rfl ?_
          refine x_icmp_ne (pc := 29) dX7_text_29 (tgt := 47) rfl (fun h29 => ?_) (fun h29 => ?_)
          ·
            refine x_iload_n (pc := 47) dX7_text_47 rfl rfl ?_
            refine x_ifb_eq (pc := 48) dX7_text_48 (tgt := 62) rfl (fun h48 => ?_) (fun h48 => ?_)
            ·
              exact absurd hm h48
            ·
              refine x_aload_n (pc := 51) dX7_text_51 rfl rfl ?_
              refine x_geti (pc := 52) fl_X7_222 dX7_text_52 (tb_106) rfl (r13) ?_
              refine x_if_ne (pc := 55) dX7_text_55 (tgt := 62) rfl (fun h55 => ?_) (fun h55 => ?_)
              ·
                exact absurd (y0.mpr h0) h55
              ·
                refine x_iconst (pc := 58) (v := 1) dX7_text_58 rfl ?_
                refine x_goto (pc := 59) dX7_text_59 (tgt := 63) rfl ?_
                refine x_istore_n2 (pc := 63) dX7_text_63 rfl ?_
                refine x_aload_n (pc := 64) dX7_text_64 rfl rfl ?_
                refine x_iconst (pc := 65) (v := 0) dX7_text_65 rfl ?_
                refine x_put (pc := 66) fl_X7_209 dX7_text_66 (tb_106) rfl rfl rfl ?_
                refine x_iload_n (pc := 69) dX7_text_69 rfl rfl ?_
                refine x_if_ne (pc := 70) dX7_text_70 (tgt := 84) rfl (fun h70 => ?_) (fun h70 => ?_)
                ·
                  refine x_iload_n (pc := 84) dX7_text_84 rfl rfl ?_
                  refine x_iret (pc := 85) dX7_text_85 rfl (by first | rfl | exact fv_nz _) ?_
                  exact ⟨by rw [← hRx], hfin _ _, rfl, b3, fun _ => by rw [← hRx]; rfl, fun z => by rw [← hRx] at z; cases z⟩
                ·
                  exact absurd h70 (by decide)
          ·
            exact absurd (y3.mp h29) h3
      · rw [if_neg h0, if_neg h3] at hRx
        refine x_iload_n (pc := 20) dX7_text_20 rfl rfl ?_
        refine x_ifb_eq (pc := 21) dX7_text_21 (tgt := 47) rfl (fun h21 => ?_) (fun h21 => ?_)
        ·
          exact absurd hm h21
        ·
          refine x_aload_n (pc := 24) dX7_text_24 rfl rfl ?_
          refine x_geti (pc := 25) fl_X7_222 dX7_text_25 (tb_106) rfl (r13) ?_
          refine x_iconst (pc := 28) (v := 3) dX7_text_28 rfl ?_
          refine x_icmp_ne (pc := 29) dX7_text_29 (tgt := 47) rfl (fun h29 => ?_) (fun h29 => ?_)
          ·
            refine x_iload_n (pc := 47) dX7_text_47 rfl rfl ?_
            refine x_ifb_eq (pc := 48) dX7_text_48 (tgt := 62) rfl (fun h48 => ?_) (fun h48 => ?_)
            ·
              exact absurd hm h48
            ·
              refine x_aload_n (pc := 51) dX7_text_51 rfl rfl ?_
              refine x_geti (pc := 52) fl_X7_222 dX7_text_52 (tb_106) rfl (r13) ?_
              refine x_if_ne (pc := 55) dX7_text_55 (tgt := 62) rfl (fun h55 => ?_) (fun h55 => ?_)
              ·
                exact H62 _ _ _ _ (by rw [← hRx]) (by rw [← hRx])
              ·
                exact absurd (y0.mp h55) h0
          ·
            exact absurd (y3.mp h29) h3
  · rw [if_neg ho] at hRx
    have K := fun x y => H62 τ (pTS b L (pIj b L nb nm j)) x y (by rw [← hRx]) (by rw [← hRx])
    by_cases hm : pIm b L nb nm j
    · have e4 := pIm_no hm ho
      have r4 : pNp b L Mb τ (pIj b L nb nm j) 21 13 = 4 := congrArg nI e4
      refine x_iload_n (pc := 20) dX7_text_20 rfl rfl ?_
      refine x_ifb_eq (pc := 21) dX7_text_21 (tgt := 47) rfl (fun h21 => ?_) (fun h21 => ?_)
      ·
        exact absurd hm h21
      ·
        refine x_aload_n (pc := 24) dX7_text_24 rfl rfl ?_
        refine x_geti (pc := 25) fl_X7_222 dX7_text_25 (tb_106) rfl (r4) ?_
        refine x_iconst (pc := 28) (v := 3) dX7_text_28 rfl ?_
        refine x_icmp_ne (pc := 29) dX7_text_29 (tgt := 47) rfl (fun h29 => ?_) (fun h29 => ?_)
        ·
          refine x_iload_n (pc := 47) dX7_text_47 rfl rfl ?_
          refine x_ifb_eq (pc := 48) dX7_text_48 (tgt := 62) rfl (fun h48 => ?_) (fun h48 => ?_)
          ·
            exact absurd hm h48
          ·
            refine x_aload_n (pc := 51) dX7_text_51 rfl rfl ?_
            refine x_geti (pc := 52) fl_X7_222 dX7_text_52 (tb_106) rfl (r4) ?_
            refine x_if_ne (pc := 55) dX7_text_55 (tgt := 62) rfl (fun h55 => ?_) (fun h55 => ?_)
            ·
              exact K _ _
            ·
              exact absurd h55 (by decide)
        ·
          exact absurd h29 (by decide)
    · skip
      refine x_iload_n (pc := 20) dX7_text_20 rfl rfl ?_
      refine x_ifb_eq (pc := 21) dX7_text_21 (tgt := 47) rfl (fun h21 => ?_) (fun h21 => ?_)
      ·
        refine x_iload_n (pc := 47) dX7_text_47 rfl rfl ?_
        refine x_ifb_eq (pc := 48) dX7_text_48 (tgt := 62) rfl (fun h48 => ?_) (fun h48 => ?_)
        ·
          exact K _ _
        ·
          exact absurd h48 hm
      ·
        exact absurd h21 hm
