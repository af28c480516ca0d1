theorem pAddM_c {σ : Nat → Int32} {n : Nat} {v c : Int32} : fv_u (pAddM σ n v) (fM n 0) c = pAddM σ n c := by
  funext j
  unfold pAddM pBeg fv_u fM
  by_cases h0 : j = 64 + 5 * n + 0
  · have h1 : ¬ j = 2 := by omega
    have h2 : ¬ j = 64 + 5 * n + 4 := by omega
    have h3 : ¬ j = 64 + 5 * n + 3 := by omega
    have h4 : ¬ j = 64 + 5 * n + 2 := by omega
    have h5 : ¬ j = 64 + 5 * n + 1 := by omega
    rw [if_pos h0, if_neg h1, if_neg h2, if_neg h3, if_neg h4, if_neg h5, if_pos h0]
  · rw [if_neg h0, if_neg h0, if_neg h0]
theorem pAddM_1 {σ : Nat → Int32} {n : Nat} {c : Int32} : pAddM σ n c 1 = σ 1 := (fv_u_ne _ _ (by decide)).trans (pBeg_ne (.inl (by unfold fM; omega)))
def pM2 (b : Nat → Nat) (L j : Nat) : Nat := pAd b L (pAd b L j)
def pM3 (b : Nat → Nat) (L j : Nat) : Nat := pBj b L 11 99 (pM2 b L j)
def pM4 (b : Nat → Nat) (L nb j : Nat) : Nat := pBj b L 12 (2 ^ nb - 1) (pM3 b L j)
def pM5 (b : Nat → Nat) (L nb j : Nat) : Nat := pBj b L 13 4 (pM4 b L nb j)
abbrev pMmo (b : Nat → Nat) (L nb nm j : Nat) : Prop := nm < 8 ∧ pNum b L (pAd b L j) 3 ∧ pBo b L 11 99 (pM2 b L j) ∧ pBo b L 12 (2 ^ nb - 1) (pM3 b L j) ∧ pBo b L 13 4 (pM4 b L nb j)
def pMmj (b : Nat → Nat) (L nb nm j : Nat) : Nat := if nm < 8 then (if pNum b L (pAd b L j) 3 then (if pBo b L 11 99 (pM2 b L j) then (if pBo b L 12 (2 ^ nb - 1) (pM3 b L j) then pM5 b L nb j else pM4 b L nb j) else pM3 b L j) else pAd b L j) else j
def pMms (b : Nat → Nat) (L nb nm j : Nat) (σ : Nat → Int32) : Nat → Int32 := pBst b L 13 4 (fM nm 3) (pM4 b L nb j) (pBst b L 12 (2 ^ nb - 1) (fM nm 2) (pM3 b L j) (pBst b L 11 99 (fM nm 1) (pM2 b L j) (pAddM σ nm (nI (pVn b L (pTS b L (pAd b L j)))))))
theorem hX5_readMotion {E : fv_E} {d L j nb nm : Nat} {b : Nat → Nat} {M : fv_M} {σ : Nat → Int32} (hT : pTJ b L M) (hj : j ≤ pTn b L) (hB : σ 1 = nI nb) (hb : nb ≤ 8) (hM : σ 2 = nI nm) (hm : nm ≤ 8) : fv_P E (d + 7) mX5_readMotion [.ref 88, .ref (aSt 1)] (pMS M σ j) (some (.int (bI (pMmo b L nb nm j)))) (pRes M (pMmj b L nb nm j) (pMmo b L nb nm j) (pMms b L nb nm j σ)) := by
  have h13 : (1 : Nat) < 3 := by decide
  by_cases hn : nm < 8
  · have hj1 := pAd_le hj
    have hj2 : pM2 b L j ≤ pTn b L := pAd_le hj1
    have hj3 : pM3 b L j ≤ pTn b L := pBj_le hj2
    have hj4 : pM4 b L nb j ≤ pTn b L := pBj_le hj3
    have hA := (hX4_addMotion (E := E) (d := d + 5) (s := 1) (c := 0) (M := pMS M σ j) h13 (by rw [pMS_1]; exact hM) hn).m pMS_w
    rw [pMS_1] at hA
    have hV := hA_adv (E := E) (d := d + 6) (σ := pAddM σ nm 0) hT hj
    have hN := hA_tN (E := E) (d := d + 5) (most := 3) (σ := pAddM σ nm 0) hT hj1 (by decide)
    have hjo : pMmj b L nb nm j = if pNum b L (pAd b L j) 3 then (if pBo b L 11 99 (pM2 b L j) then (if pBo b L 12 (2 ^ nb - 1) (pM3 b L j) then pM5 b L nb j else pM4 b L nb j) else pM3 b L j) else pAd b L j := if_pos hn
    rw [hjo]
    by_cases hp : pNum b L (pAd b L j) 3
    · rw [if_pos hp]
      rw [pNu_n hp, show pNj b L 3 (pAd b L j) = pM2 b L j from if_pos hp] at hN
      have hpa := pAll_of hb
      have hAll := hX4_allBirds (E := E) (d := d + 6) (s := 1) (nb := nb) (M := pMS M (pAddM σ nm (nI (pVn b L (pTS b L (pAd b L j))))) (pM2 b L j)) h13 (by rw [pMS_1, pAddM_1]; exact hB)
      have h11 := hX5_readMotionFeature (E := E) (d := d) (i := nm) (k := 11) (w := 1) (most := 99) (a := pAll nb) (σ := pAddM σ nm (nI (pVn b L (pTS b L (pAd b L j))))) hT hj2 hn (by decide) (by decide) (by decide) rfl
      rw [show pBj b L 11 99 (pM2 b L j) = pM3 b L j from rfl] at h11
      have h12 := hX5_readMotionFeature (E := E) (d := d) (i := nm) (k := 12) (w := 2) (most := 2 ^ nb - 1) (a := pAll nb) (σ := pBst b L 11 99 (fM nm 1) (pM2 b L j) (pAddM σ nm (nI (pVn b L (pTS b L (pAd b L j)))))) hT hj3 hn (by decide) (by decide) (by omega) hpa.1
      rw [show pBj b L 12 (2 ^ nb - 1) (pM3 b L j) = pM4 b L nb j from rfl] at h12
      have h13' := hX5_readMotionFeature (E := E) (d := d) (i := nm) (k := 13) (w := 3) (most := 4) (a := pAll nb) (σ := pBst b L 12 (2 ^ nb - 1) (fM nm 2) (pM3 b L j) (pBst b L 11 99 (fM nm 1) (pM2 b L j) (pAddM σ nm (nI (pVn b L (pTS b L (pAd b L j))))))) hT hj4 hn (by decide) (by decide) (by decide) rfl
      rw [show pBj b L 13 4 (pM4 b L nb j) = pM5 b L nb j from rfl] at h13'
      refine fv_P.of (ls := [some (.ref 88), some (.ref (aSt 1)), none, none, none, none]) (by decide) (Nat.le_of_ble_eq_true rfl) rfl ?_
      refine x_aload_n (pc := 0) dX5_readMotion_0 rfl rfl ?_
      refine x_iconst (pc := 1) (v := 0) dX5_readMotion_1 rfl ?_
      refine x_Vi (pc := 2) ks_X5_151 dX5_readMotion_2 (tb_st (by assumption)) rfl rfl (hA) rfl rfl rfl (Nat.le_of_ble_eq_true rfl) ?_
      refine x_istore_n2 (pc := 5) dX5_readMotion_5 rfl ?_
      refine x_iload_n (pc := 6) dX5_readMotion_6 rfl rfl ?_
      refine x_if_ge (pc := 7) dX5_readMotion_7 (tgt := 12) rfl (fun h7 => ?_) (fun h7 => ?_)
      ·
        refine x_aload_n (pc := 12) dX5_readMotion_12 rfl rfl ?_
        refine x_Vv (pc := 13) ks_X5_38 dX5_readMotion_13 (tb_88) rfl rfl (hV) rfl rfl rfl (Nat.le_of_ble_eq_true rfl) ?_
        refine x_aload_n (pc := 16) dX5_readMotion_16 rfl rfl ?_
        refine x_iconst (pc := 17) (v := 3) dX5_readMotion_17 rfl ?_
        refine x_Vi (pc := 18) ks_X5_136 dX5_readMotion_18 (tb_88) rfl rfl (hN) rfl rfl rfl (Nat.le_of_ble_eq_true rfl) ?_
        refine x_istore_n3 (pc := 21) dX5_readMotion_21 rfl ?_
        refine x_iload_n (pc := 22) dX5_readMotion_22 rfl rfl ?_
        refine x_if_ge (pc := 23) dX5_readMotion_23 (tgt := 28) rfl (fun h23 => ?_) (fun h23 => ?_)
        ·
          refine x_aload_n (pc := 28) dX5_readMotion_28 rfl rfl ?_
          refine x_geta (pc := 29) fl_X5_154 dX5_readMotion_29 (tb_st (by assumption)) rfl ?_
          refine x_iload_n (pc := 32) dX5_readMotion_32 rfl rfl ?_
          refine x_motion (pc := 33) dX5_readMotion_33 (by assumption) (rfl) (hn) ?_
          refine x_astore4 (pc := 34) dX5_readMotion_34 rfl ?_
          refine x_aload (pc := 36) dX5_readMotion_36 rfl ?_
          refine x_iload_n (pc := 38) dX5_readMotion_38 rfl rfl ?_
          refine x_put (pc := 39) fl_X5_158 dX5_readMotion_39 (tb_m (by assumption) (by assumption)) rfl rfl rfl ?_
          rw [pMS_1, pMS_w, pAddM_c]
          refine x_aload_n (pc := 42) dX5_readMotion_42 rfl rfl ?_
          refine x_Vi (pc := 43) ks_X5_163 dX5_readMotion_43 (tb_st (by assumption)) rfl rfl (hAll) rfl rfl rfl (Nat.le_of_ble_eq_true rfl) ?_
          refine x_istore5 (pc := 46) dX5_readMotion_46 rfl ?_
          refine x_aload_n (pc := 48) dX5_readMotion_48 rfl rfl ?_
          refine x_aload (pc := 49) dX5_readMotion_49 rfl ?_
          refine x_ldcs (pc := 51) (k := 11) dX5_readMotion_51 (by decide) rfl rfl ?_
          refine x_iconst (pc := 53) (v := 1) dX5_readMotion_53 rfl ?_
          refine x_iload (pc := 54) dX5_readMotion_54 rfl ?_
          refine x_Vi (pc := 56) ks_X5_168 dX5_readMotion_56 (tb_88) rfl rfl (h11) rfl rfl rfl (Nat.le_of_ble_eq_true rfl) ?_
          refine x_ifb_eq (pc := 59) dX5_readMotion_59 (tgt := 94) rfl (fun h59 => ?_) (fun h59 => ?_)
          ·
            rw [if_neg h59, bI_f (fun z => h59 z.2.2.1)]
            refine x_iconst (pc := 94) (v := 0) dX5_readMotion_94 rfl ?_
            refine x_iret (pc := 95) dX5_readMotion_95 rfl (by first | rfl | exact fv_nz _) ?_
            first | exact ⟨rfl, _, rfl, fun z => rfl⟩ | exact ⟨rfl, _, rfl, fun z => absurd z.2.2.1 h59⟩ | exact ⟨rfl, _, rfl, fun z => absurd z.2.2.2.1 h73⟩ | exact ⟨rfl, _, rfl, fun z => absurd z.2.2.2.2 h87⟩
          ·
            rw [if_pos h59]
            refine x_aload_n (pc := 62) dX5_readMotion_62 rfl rfl ?_
            refine x_aload (pc := 63) dX5_readMotion_63 rfl ?_
            refine x_ldcs (pc := 65) (k := 12) dX5_readMotion_65 (by decide) rfl rfl ?_
            refine x_iconst (pc := 67) (v := 2) dX5_readMotion_67 rfl ?_
            refine x_iload (pc := 68) dX5_readMotion_68 rfl ?_
            refine x_Vi (pc := 70) ks_X5_168 dX5_readMotion_70 (tb_88) rfl rfl (h12) rfl rfl rfl (Nat.le_of_ble_eq_true rfl) ?_
            refine x_ifb_eq (pc := 73) dX5_readMotion_73 (tgt := 94) rfl (fun h73 => ?_) (fun h73 => ?_)
            ·
              rw [if_neg h73, bI_f (fun z => h73 z.2.2.2.1)]
              refine x_iconst (pc := 94) (v := 0) dX5_readMotion_94 rfl ?_
              refine x_iret (pc := 95) dX5_readMotion_95 rfl (by first | rfl | exact fv_nz _) ?_
              first | exact ⟨rfl, _, rfl, fun z => rfl⟩ | exact ⟨rfl, _, rfl, fun z => absurd z.2.2.1 h59⟩ | exact ⟨rfl, _, rfl, fun z => absurd z.2.2.2.1 h73⟩ | exact ⟨rfl, _, rfl, fun z => absurd z.2.2.2.2 h87⟩
            ·
              rw [if_pos h73]
              refine x_aload_n (pc := 76) dX5_readMotion_76 rfl rfl ?_
              refine x_aload (pc := 77) dX5_readMotion_77 rfl ?_
              refine x_ldcs (pc := 79) (k := 13) dX5_readMotion_79 (by decide) rfl rfl ?_
              refine x_iconst (pc := 81) (v := 3) dX5_readMotion_81 rfl ?_
              refine x_iload (pc := 82) dX5_readMotion_82 rfl ?_
              refine x_Vi (pc := 84) ks_X5_168 dX5_readMotion_84 (tb_88) rfl rfl (h13') rfl rfl rfl (Nat.le_of_ble_eq_true rfl) ?_
              refine x_ifb_eq (pc := 87) dX5_readMotion_87 (tgt := 94) rfl (fun h87 => ?_) (fun h87 => ?_)
              ·
                rw [bI_f (fun z => h87 z.2.2.2.2)]
                refine x_iconst (pc := 94) (v := 0) dX5_readMotion_94 rfl ?_
                refine x_iret (pc := 95) dX5_readMotion_95 rfl (by first | rfl | exact fv_nz _) ?_
                first | exact ⟨rfl, _, rfl, fun z => rfl⟩ | exact ⟨rfl, _, rfl, fun z => absurd z.2.2.1 h59⟩ | exact ⟨rfl, _, rfl, fun z => absurd z.2.2.2.1 h73⟩ | exact ⟨rfl, _, rfl, fun z => absurd z.2.2.2.2 h87⟩
              ·
                rw [bI_t ⟨hn, hp, h59, h73, h87⟩]
                refine x_iconst (pc := 90) (v := 1) dX5_readMotion_90 rfl ?_
                refine x_goto (pc := 91) dX5_readMotion_91 (tgt := 95) rfl ?_
                refine x_iret (pc := 95) dX5_readMotion_95 rfl (by first | rfl | exact fv_nz _) ?_
                first | exact ⟨rfl, _, rfl, fun z => rfl⟩ | exact ⟨rfl, _, rfl, fun z => absurd z.2.2.1 h59⟩ | exact ⟨rfl, _, rfl, fun z => absurd z.2.2.2.1 h73⟩ | exact ⟨rfl, _, rfl, fun z => absurd z.2.2.2.2 h87⟩
        ·
          exact absurd (nI_pos' (by have := hp.2; omega)) h23
      ·
        exact absurd (nI_pos' (by omega)) h7
    · rw [if_neg hp, bI_f (fun z => hp z.2.1)]
      rw [pNu_f hp, show pNj b L 3 (pAd b L j) = pAd b L j from if_neg hp] at hN
      refine fv_P.of (ls := [some (.ref 88), some (.ref (aSt 1)), none, none, none, none]) (by decide) (Nat.le_of_ble_eq_true rfl) rfl ?_
      refine x_aload_n (pc := 0) dX5_readMotion_0 rfl rfl ?_
      refine x_iconst (pc := 1) (v := 0) dX5_readMotion_1 rfl ?_
      refine x_Vi (pc := 2) ks_X5_151 dX5_readMotion_2 (tb_st (by assumption)) rfl rfl (hA) rfl rfl rfl (Nat.le_of_ble_eq_true rfl) ?_
      refine x_istore_n2 (pc := 5) dX5_readMotion_5 rfl ?_
      refine x_iload_n (pc := 6) dX5_readMotion_6 rfl rfl ?_
      refine x_if_ge (pc := 7) dX5_readMotion_7 (tgt := 12) rfl (fun h7 => ?_) (fun h7 => ?_)
      ·
        refine x_aload_n (pc := 12) dX5_readMotion_12 rfl rfl ?_
        refine x_Vv (pc := 13) ks_X5_38 dX5_readMotion_13 (tb_88) rfl rfl (hV) rfl rfl rfl (Nat.le_of_ble_eq_true rfl) ?_
        refine x_aload_n (pc := 16) dX5_readMotion_16 rfl rfl ?_
        refine x_iconst (pc := 17) (v := 3) dX5_readMotion_17 rfl ?_
        refine x_Vi (pc := 18) ks_X5_136 dX5_readMotion_18 (tb_88) rfl rfl (hN) rfl rfl rfl (Nat.le_of_ble_eq_true rfl) ?_
        refine x_istore_n3 (pc := 21) dX5_readMotion_21 rfl ?_
        refine x_iload_n (pc := 22) dX5_readMotion_22 rfl rfl ?_
        refine x_if_ge (pc := 23) dX5_readMotion_23 (tgt := 28) rfl (fun h23 => ?_) (fun h23 => ?_)
        ·
          exact absurd h23 (by decide)
        ·
          refine x_iconst (pc := 26) (v := 0) dX5_readMotion_26 rfl ?_
          refine x_iret (pc := 27) dX5_readMotion_27 rfl (by first | rfl | exact fv_nz _) ?_
          exact ⟨rfl, _, rfl, fun z => absurd z.2.1 hp⟩
      ·
        exact absurd (nI_pos' (by omega)) h7
  · have e8 : nm = 8 := by omega
    have hA := hX4_addMotionF (E := E) (d := d + 5) (s := 1) (c := 0) (M := pMS M σ j) h13 (by rw [pMS_1, hM, e8])
    rw [show pMmj b L nb nm j = j from if_neg hn, bI_f (fun z => hn z.1)]
    refine fv_P.of (ls := [some (.ref 88), some (.ref (aSt 1)), none, none, none, none]) (by decide) (Nat.le_of_ble_eq_true rfl) rfl ?_
    refine x_aload_n (pc := 0) dX5_readMotion_0 rfl rfl ?_
    refine x_iconst (pc := 1) (v := 0) dX5_readMotion_1 rfl ?_
    refine x_Vi (pc := 2) ks_X5_151 dX5_readMotion_2 (tb_st (by assumption)) rfl rfl (hA) rfl rfl rfl (Nat.le_of_ble_eq_true rfl) ?_
    refine x_istore_n2 (pc := 5) dX5_readMotion_5 rfl ?_
    refine x_iload_n (pc := 6) dX5_readMotion_6 rfl rfl ?_
    refine x_if_ge (pc := 7) dX5_readMotion_7 (tgt := 12) rfl (fun h7 => ?_) (fun h7 => ?_)
    ·
      exact absurd h7 (by decide)
    ·
      refine x_iconst (pc := 10) (v := 0) dX5_readMotion_10 rfl ?_
      refine x_iret (pc := 11) dX5_readMotion_11 rfl (by first | rfl | exact fv_nz _) ?_
      exact ⟨rfl, σ, rfl, fun z => absurd z.1 hn⟩
