theorem hX7_rm0 {E : fv_E} {d L j nb nm : Nat} {x : Int32} {b : Nat → Nat} {M : fv_M} {σ : Nat → Int32} {Φ : Option Value → fv_M → Prop} (H : pHm b L M) (hn : nm < 8) (hB : σ 1 = nI nb) (hb : nb ≤ 8) (hk : pBo b L 11 99 j → fv_X E mX7_readsMotion (d + 4) Φ 44 [some (.ref 106), some (.int x), some (.int (nI nm)), some (.int (nI 1)), none] [] (pNp b L M (pBst b L 11 99 (fM nm 1) j σ) (pBj b L 11 99 j))) (hf : ¬ pBo b L 11 99 j → Φ (some (.int 0)) (pNp b L M σ (pBj b L 11 99 j))) : fv_X E mX7_readsMotion (d + 4) Φ 44 [some (.ref 106), some (.int x), some (.int (nI nm)), some (.int (nI 0)), none] [] (pNp b L M σ j) := by
  have hpa := pAll_of hb
  have hW := hN_w3 (E := E) (d := d + 3) (M := M) (σ := σ) (s := pTS b L j) H
  have hV := hP_next (E := E) (d := d + 1) (σ := σ) (j := j) H
  have hN := hP_tN (E := E) (d := d) (most := 99) (σ := σ) (j := pAd b L j) H (by omega)
  have hGr := (hX7_greatest (E := E) (d := d + 2) (nb := nb) (q := nI 1) (M := pNp b L M σ (pAd b L j)) hB).v (show _ = nI 99 from rfl)
  have hfw : (1 : Int32) + nI 0 = nI 1 := by decide +kernel
  by_cases hw : pWi b L (pTS b L j) = 11
  · rw [if_pos (show 11 ≤ pWi b L (pTS b L j) ∧ pWi b L (pTS b L j) < 14 by omega), show pWi b L (pTS b L j) - 11 = 0 by omega] at hW
    rw [show pBj b L 11 99 j = pNj b L 99 (pAd b L j) from if_pos hw] at hk hf
    by_cases hp : pNum b L (pAd b L j) 99
    · have K := hk (.inr hp)
      rw [show pBst b L 11 99 (fM nm 1) j σ = fv_u σ (fM nm 1) (nI (pVn b L (pTS b L (pAd b L j)))) from if_pos ⟨hw, hp⟩] at K
      rw [pNu_n hp] at hN
      have hvl := pVn_le (b := b) (L := L) (s := pTS b L (pAd b L j))
      have hP := (hX7_puts1 (E := E) (d := d + 3) (k := nm) (f := 1) (v := nI (pVn b L (pTS b L (pAd b L j)))) (M := pNp b L M σ (pNj b L 99 (pAd b L j))) hn (by decide)).m pN_w
      rw [pNp_22] at hP
      refine x_iload_n (pc := 44) dX7_readsMotion_44 rfl rfl ?_
      refine x_iconst (pc := 45) (v := 3) dX7_readsMotion_45 rfl ?_
      refine x_icmp_ge (pc := 46) dX7_readsMotion_46 (tgt := 102) rfl (fun h46 => ?_) (fun h46 => ?_)
      ·
        exact absurd h46 (by decide)
      ·
        refine x_aload_n (pc := 49) dX7_readsMotion_49 rfl rfl ?_
        refine x_aload_n (pc := 50) dX7_readsMotion_50 rfl rfl ?_
        refine x_geta (pc := 51) fl_X7_44 dX7_readsMotion_51 (tb_106) rfl ?_
        refine x_Vi (pc := 54) ks_X7_244 dX7_readsMotion_54 (tb_106) rfl rfl (hW) rfl rfl rfl (Nat.le_of_ble_eq_true rfl) ?_
        refine x_iload_n (pc := 57) dX7_readsMotion_57 rfl rfl ?_
        refine x_icmp_ne (pc := 58) dX7_readsMotion_58 (tgt := 96) rfl (fun h58 => ?_) (fun h58 => ?_)
        ·
          exact absurd rfl h58
        ·
          refine x_aload_n (pc := 61) dX7_readsMotion_61 rfl rfl ?_
          refine x_Vv (pc := 62) ks_X7_241 dX7_readsMotion_62 (tb_106) rfl rfl (hV) rfl rfl rfl (Nat.le_of_ble_eq_true rfl) ?_
          refine x_aload_n (pc := 65) dX7_readsMotion_65 rfl rfl ?_
          refine x_iconst (pc := 66) (v := 0) dX7_readsMotion_66 rfl ?_
          refine x_aload_n (pc := 67) dX7_readsMotion_67 rfl rfl ?_
          refine x_iconst (pc := 68) (v := 1) dX7_readsMotion_68 rfl ?_
          refine x_iload_n (pc := 69) dX7_readsMotion_69 rfl rfl ?_
          refine x_iadd (pc := 70) dX7_readsMotion_70 ?_
          rw [hfw]
          refine x_Vi (pc := 71) ks_X7_133 dX7_readsMotion_71 (tb_106) rfl rfl (hGr) rfl rfl rfl (Nat.le_of_ble_eq_true rfl) ?_
          refine x_Vi (pc := 74) ks_X7_248 dX7_readsMotion_74 (tb_106) rfl rfl (hN) rfl rfl rfl (Nat.le_of_ble_eq_true rfl) ?_
          refine x_istore4 (pc := 77) dX7_readsMotion_77 rfl ?_
          refine x_iload (pc := 79) dX7_readsMotion_79 rfl ?_
          refine x_if_ge (pc := 81) dX7_readsMotion_81 (tgt := 86) rfl (fun h81 => ?_) (fun h81 => ?_)
          ·
            refine x_aload_n (pc := 86) dX7_readsMotion_86 rfl rfl ?_
            refine x_iload_n (pc := 87) dX7_readsMotion_87 rfl rfl ?_
            refine x_iconst (pc := 88) (v := 1) dX7_readsMotion_88 rfl ?_
            refine x_iload_n (pc := 89) dX7_readsMotion_89 rfl rfl ?_
            refine x_iadd (pc := 90) dX7_readsMotion_90 ?_
            rw [hfw]
            refine x_iload (pc := 91) dX7_readsMotion_91 rfl ?_
            refine x_Vv (pc := 93) ks_X7_107 dX7_readsMotion_93 (tb_106) rfl rfl (hP) rfl rfl rfl (Nat.le_of_ble_eq_true rfl) ?_
            refine x_iinc3 (pc := 96) dX7_readsMotion_96 (by first | exact fv_inc _ | exact fv_dec _ | rfl) rfl ?_
            refine x_goto (pc := 99) dX7_readsMotion_99 (tgt := 44) rfl ?_
            exact x_fg4 K
          ·
            exact absurd (nI_pos' (by omega)) h81
    · have K := hf (fun z => z.elim (fun z => z hw) hp)
      rw [pNu_f hp] at hN
      refine x_iload_n (pc := 44) dX7_readsMotion_44 rfl rfl ?_
      refine x_iconst (pc := 45) (v := 3) dX7_readsMotion_45 rfl ?_
      refine x_icmp_ge (pc := 46) dX7_readsMotion_46 (tgt := 102) rfl (fun h46 => ?_) (fun h46 => ?_)
      ·
        exact absurd h46 (by decide)
      ·
        refine x_aload_n (pc := 49) dX7_readsMotion_49 rfl rfl ?_
        refine x_aload_n (pc := 50) dX7_readsMotion_50 rfl rfl ?_
        refine x_geta (pc := 51) fl_X7_44 dX7_readsMotion_51 (tb_106) rfl ?_
        refine x_Vi (pc := 54) ks_X7_244 dX7_readsMotion_54 (tb_106) rfl rfl (hW) rfl rfl rfl (Nat.le_of_ble_eq_true rfl) ?_
        refine x_iload_n (pc := 57) dX7_readsMotion_57 rfl rfl ?_
        refine x_icmp_ne (pc := 58) dX7_readsMotion_58 (tgt := 96) rfl (fun h58 => ?_) (fun h58 => ?_)
        ·
          exact absurd rfl h58
        ·
          refine x_aload_n (pc := 61) dX7_readsMotion_61 rfl rfl ?_
          refine x_Vv (pc := 62) ks_X7_241 dX7_readsMotion_62 (tb_106) rfl rfl (hV) rfl rfl rfl (Nat.le_of_ble_eq_true rfl) ?_
          refine x_aload_n (pc := 65) dX7_readsMotion_65 rfl rfl ?_
          refine x_iconst (pc := 66) (v := 0) dX7_readsMotion_66 rfl ?_
          refine x_aload_n (pc := 67) dX7_readsMotion_67 rfl rfl ?_
          refine x_iconst (pc := 68) (v := 1) dX7_readsMotion_68 rfl ?_
          refine x_iload_n (pc := 69) dX7_readsMotion_69 rfl rfl ?_
          refine x_iadd (pc := 70) dX7_readsMotion_70 ?_
          rw [hfw]
          refine x_Vi (pc := 71) ks_X7_133 dX7_readsMotion_71 (tb_106) rfl rfl (hGr) rfl rfl rfl (Nat.le_of_ble_eq_true rfl) ?_
          refine x_Vi (pc := 74) ks_X7_248 dX7_readsMotion_74 (tb_106) rfl rfl (hN) rfl rfl rfl (Nat.le_of_ble_eq_true rfl) ?_
          refine x_istore4 (pc := 77) dX7_readsMotion_77 rfl ?_
          refine x_iload (pc := 79) dX7_readsMotion_79 rfl ?_
          refine x_if_ge (pc := 81) dX7_readsMotion_81 (tgt := 86) rfl (fun h81 => ?_) (fun h81 => ?_)
          ·
            exact absurd h81 (by decide)
          ·
            refine x_iconst (pc := 84) (v := 0) dX7_readsMotion_84 rfl ?_
            refine x_iret (pc := 85) dX7_readsMotion_85 rfl (by first | rfl | exact fv_nz _) ?_
            exact K
  · have hne : ¬ (if 11 ≤ pWi b L (pTS b L j) ∧ pWi b L (pTS b L j) < 14 then nI (pWi b L (pTS b L j) - 11) else -1) = nI 0 := by
      by_cases z : 11 ≤ pWi b L (pTS b L j) ∧ pWi b L (pTS b L j) < 14
      · rw [if_pos z]; exact fun q => absurd ((nI_eq (by omega) (by decide)).mp q) (by omega)
      · rw [if_neg z]; decide
    have K := hk (.inl hw)
    rw [show pBj b L 11 99 j = j from if_neg hw, show pBst b L 11 99 (fM nm 1) j σ = σ from if_neg (fun z => hw z.1)] at K
    refine x_iload_n (pc := 44) dX7_readsMotion_44 rfl rfl ?_
    refine x_iconst (pc := 45) (v := 3) dX7_readsMotion_45 rfl ?_
    refine x_icmp_ge (pc := 46) dX7_readsMotion_46 (tgt := 102) rfl (fun h46 => ?_) (fun h46 => ?_)
    ·
      exact absurd h46 (by decide)
    ·
      refine x_aload_n (pc := 49) dX7_readsMotion_49 rfl rfl ?_
      refine x_aload_n (pc := 50) dX7_readsMotion_50 rfl rfl ?_
      refine x_geta (pc := 51) fl_X7_44 dX7_readsMotion_51 (tb_106) rfl ?_
      refine x_Vi (pc := 54) ks_X7_244 dX7_readsMotion_54 (tb_106) rfl rfl (hW) rfl rfl rfl (Nat.le_of_ble_eq_true rfl) ?_
      refine x_iload_n (pc := 57) dX7_readsMotion_57 rfl rfl ?_
      refine x_icmp_ne (pc := 58) dX7_readsMotion_58 (tgt := 96) rfl (fun h58 => ?_) (fun h58 => ?_)
      ·
        refine x_iinc3 (pc := 96) dX7_readsMotion_96 (by first | exact fv_inc _ | exact fv_dec _ | rfl) rfl ?_
        refine x_goto (pc := 99) dX7_readsMotion_99 (tgt := 44) rfl ?_
        exact K
      ·
        exact absurd h58 hne
theorem hX7_rm1 {E : fv_E} {d L j nb nm : Nat} {x : Int32} {b : Nat → Nat} {M : fv_M} {σ : Nat → Int32} {Φ : Option Value → fv_M → Prop} (H : pHm b L M) (hn : nm < 8) (hB : σ 1 = nI nb) (hb : nb ≤ 8) (hk : pBo b L 12 (2 ^ nb - 1) j → fv_X E mX7_readsMotion (d + 4) Φ 44 [some (.ref 106), some (.int x), some (.int (nI nm)), some (.int (nI 2)), none] [] (pNp b L M (pBst b L 12 (2 ^ nb - 1) (fM nm 2) j σ) (pBj b L 12 (2 ^ nb - 1) j))) (hf : ¬ pBo b L 12 (2 ^ nb - 1) j → Φ (some (.int 0)) (pNp b L M σ (pBj b L 12 (2 ^ nb - 1) j))) : fv_X E mX7_readsMotion (d + 4) Φ 44 [some (.ref 106), some (.int x), some (.int (nI nm)), some (.int (nI 1)), none] [] (pNp b L M σ j) := by
  have hpa := pAll_of hb
  have hW := hN_w3 (E := E) (d := d + 3) (M := M) (σ := σ) (s := pTS b L j) H
  have hV := hP_next (E := E) (d := d + 1) (σ := σ) (j := j) H
  have hN := hP_tN (E := E) (d := d) (most := (2 ^ nb - 1)) (σ := σ) (j := pAd b L j) H (by omega)
  have hGr := (hX7_greatest (E := E) (d := d + 2) (nb := nb) (q := nI 2) (M := pNp b L M σ (pAd b L j)) hB).v (show _ = nI (2 ^ nb - 1) from hpa.1)
  have hfw : (1 : Int32) + nI 1 = nI 2 := by decide +kernel
  by_cases hw : pWi b L (pTS b L j) = 12
  · rw [if_pos (show 11 ≤ pWi b L (pTS b L j) ∧ pWi b L (pTS b L j) < 14 by omega), show pWi b L (pTS b L j) - 11 = 1 by omega] at hW
    rw [show pBj b L 12 (2 ^ nb - 1) j = pNj b L (2 ^ nb - 1) (pAd b L j) from if_pos hw] at hk hf
    by_cases hp : pNum b L (pAd b L j) (2 ^ nb - 1)
    · have K := hk (.inr hp)
      rw [show pBst b L 12 (2 ^ nb - 1) (fM nm 2) j σ = fv_u σ (fM nm 2) (nI (pVn b L (pTS b L (pAd b L j)))) from if_pos ⟨hw, hp⟩] at K
      rw [pNu_n hp] at hN
      have hvl := pVn_le (b := b) (L := L) (s := pTS b L (pAd b L j))
      have hP := (hX7_puts1 (E := E) (d := d + 3) (k := nm) (f := 2) (v := nI (pVn b L (pTS b L (pAd b L j)))) (M := pNp b L M σ (pNj b L (2 ^ nb - 1) (pAd b L j))) hn (by decide)).m pN_w
      rw [pNp_22] at hP
      refine x_iload_n (pc := 44) dX7_readsMotion_44 rfl rfl ?_
      refine x_iconst (pc := 45) (v := 3) dX7_readsMotion_45 rfl ?_
      refine x_icmp_ge (pc := 46) dX7_readsMotion_46 (tgt := 102) rfl (fun h46 => ?_) (fun h46 => ?_)
      ·
        exact absurd h46 (by decide)
      ·
        refine x_aload_n (pc := 49) dX7_readsMotion_49 rfl rfl ?_
        refine x_aload_n (pc := 50) dX7_readsMotion_50 rfl rfl ?_
        refine x_geta (pc := 51) fl_X7_44 dX7_readsMotion_51 (tb_106) rfl ?_
        refine x_Vi (pc := 54) ks_X7_244 dX7_readsMotion_54 (tb_106) rfl rfl (hW) rfl rfl rfl (Nat.le_of_ble_eq_true rfl) ?_
        refine x_iload_n (pc := 57) dX7_readsMotion_57 rfl rfl ?_
        refine x_icmp_ne (pc := 58) dX7_readsMotion_58 (tgt := 96) rfl (fun h58 => ?_) (fun h58 => ?_)
        ·
          exact absurd rfl h58
        ·
          refine x_aload_n (pc := 61) dX7_readsMotion_61 rfl rfl ?_
          refine x_Vv (pc := 62) ks_X7_241 dX7_readsMotion_62 (tb_106) rfl rfl (hV) rfl rfl rfl (Nat.le_of_ble_eq_true rfl) ?_
          refine x_aload_n (pc := 65) dX7_readsMotion_65 rfl rfl ?_
          refine x_iconst (pc := 66) (v := 0) dX7_readsMotion_66 rfl ?_
          refine x_aload_n (pc := 67) dX7_readsMotion_67 rfl rfl ?_
          refine x_iconst (pc := 68) (v := 1) dX7_readsMotion_68 rfl ?_
          refine x_iload_n (pc := 69) dX7_readsMotion_69 rfl rfl ?_
          refine x_iadd (pc := 70) dX7_readsMotion_70 ?_
          rw [hfw]
          refine x_Vi (pc := 71) ks_X7_133 dX7_readsMotion_71 (tb_106) rfl rfl (hGr) rfl rfl rfl (Nat.le_of_ble_eq_true rfl) ?_
          refine x_Vi (pc := 74) ks_X7_248 dX7_readsMotion_74 (tb_106) rfl rfl (hN) rfl rfl rfl (Nat.le_of_ble_eq_true rfl) ?_
          refine x_istore4 (pc := 77) dX7_readsMotion_77 rfl ?_
          refine x_iload (pc := 79) dX7_readsMotion_79 rfl ?_
          refine x_if_ge (pc := 81) dX7_readsMotion_81 (tgt := 86) rfl (fun h81 => ?_) (fun h81 => ?_)
          ·
            refine x_aload_n (pc := 86) dX7_readsMotion_86 rfl rfl ?_
            refine x_iload_n (pc := 87) dX7_readsMotion_87 rfl rfl ?_
            refine x_iconst (pc := 88) (v := 1) dX7_readsMotion_88 rfl ?_
            refine x_iload_n (pc := 89) dX7_readsMotion_89 rfl rfl ?_
            refine x_iadd (pc := 90) dX7_readsMotion_90 ?_
            rw [hfw]
            refine x_iload (pc := 91) dX7_readsMotion_91 rfl ?_
            refine x_Vv (pc := 93) ks_X7_107 dX7_readsMotion_93 (tb_106) rfl rfl (hP) rfl rfl rfl (Nat.le_of_ble_eq_true rfl) ?_
            refine x_iinc3 (pc := 96) dX7_readsMotion_96 (by first | exact fv_inc _ | exact fv_dec _ | rfl) rfl ?_
            refine x_goto (pc := 99) dX7_readsMotion_99 (tgt := 44) rfl ?_
            exact x_fg4 K
          ·
            exact absurd (nI_pos' (by omega)) h81
    · have K := hf (fun z => z.elim (fun z => z hw) hp)
      rw [pNu_f hp] at hN
      refine x_iload_n (pc := 44) dX7_readsMotion_44 rfl rfl ?_
      refine x_iconst (pc := 45) (v := 3) dX7_readsMotion_45 rfl ?_
      refine x_icmp_ge (pc := 46) dX7_readsMotion_46 (tgt := 102) rfl (fun h46 => ?_) (fun h46 => ?_)
      ·
        exact absurd h46 (by decide)
      ·
        refine x_aload_n (pc := 49) dX7_readsMotion_49 rfl rfl ?_
        refine x_aload_n (pc := 50) dX7_readsMotion_50 rfl rfl ?_
        refine x_geta (pc := 51) fl_X7_44 dX7_readsMotion_51 (tb_106) rfl ?_
        refine x_Vi (pc := 54) ks_X7_244 dX7_readsMotion_54 (tb_106) rfl rfl (hW) rfl rfl rfl (Nat.le_of_ble_eq_true rfl) ?_
        refine x_iload_n (pc := 57) dX7_readsMotion_57 rfl rfl ?_
        refine x_icmp_ne (pc := 58) dX7_readsMotion_58 (tgt := 96) rfl (fun h58 => ?_) (fun h58 => ?_)
        ·
          exact absurd rfl h58
        ·
          refine x_aload_n (pc := 61) dX7_readsMotion_61 rfl rfl ?_
          refine x_Vv (pc := 62) ks_X7_241 dX7_readsMotion_62 (tb_106) rfl rfl (hV) rfl rfl rfl (Nat.le_of_ble_eq_true rfl) ?_
          refine x_aload_n (pc := 65) dX7_readsMotion_65 rfl rfl ?_
          refine x_iconst (pc := 66) (v := 0) dX7_readsMotion_66 rfl ?_
          refine x_aload_n (pc := 67) dX7_readsMotion_67 rfl rfl ?_
          refine x_iconst (pc := 68) (v := 1) dX7_readsMotion_68 rfl ?_
          refine x_iload_n (pc := 69) dX7_readsMotion_69 rfl rfl ?_
          refine x_iadd (pc := 70) dX7_readsMotion_70 ?_
          rw [hfw]
          refine x_Vi (pc := 71) ks_X7_133 dX7_readsMotion_71 (tb_106) rfl rfl (hGr) rfl rfl rfl (Nat.le_of_ble_eq_true rfl) ?_
          refine x_Vi (pc := 74) ks_X7_248 dX7_readsMotion_74 (tb_106) rfl rfl (hN) rfl rfl rfl (Nat.le_of_ble_eq_true rfl) ?_
          refine x_istore4 (pc := 77) dX7_readsMotion_77 rfl ?_
          refine x_iload (pc := 79) dX7_readsMotion_79 rfl ?_
          refine x_if_ge (pc := 81) dX7_readsMotion_81 (tgt := 86) rfl (fun h81 => ?_) (fun h81 => ?_)
          ·
            exact absurd h81 (by decide)
          ·
            refine x_iconst (pc := 84) (v := 0) dX7_readsMotion_84 rfl ?_
            refine x_iret (pc := 85) dX7_readsMotion_85 rfl (by first | rfl | exact fv_nz _) ?_
            exact K
  · have hne : ¬ (if 11 ≤ pWi b L (pTS b L j) ∧ pWi b L (pTS b L j) < 14 then nI (pWi b L (pTS b L j) - 11) else -1) = nI 1 := by
      by_cases z : 11 ≤ pWi b L (pTS b L j) ∧ pWi b L (pTS b L j) < 14
      · rw [if_pos z]; exact fun q => absurd ((nI_eq (by omega) (by decide)).mp q) (by omega)
      · rw [if_neg z]; decide
    have K := hk (.inl hw)
    rw [show pBj b L 12 (2 ^ nb - 1) j = j from if_neg hw, show pBst b L 12 (2 ^ nb - 1) (fM nm 2) j σ = σ from if_neg (fun z => hw z.1)] at K
    refine x_iload_n (pc := 44) dX7_readsMotion_44 rfl rfl ?_
    refine x_iconst (pc := 45) (v := 3) dX7_readsMotion_45 rfl ?_
    refine x_icmp_ge (pc := 46) dX7_readsMotion_46 (tgt := 102) rfl (fun h46 => ?_) (fun h46 => ?_)
    ·
      exact absurd h46 (by decide)
    ·
      refine x_aload_n (pc := 49) dX7_readsMotion_49 rfl rfl ?_
      refine x_aload_n (pc := 50) dX7_readsMotion_50 rfl rfl ?_
      refine x_geta (pc := 51) fl_X7_44 dX7_readsMotion_51 (tb_106) rfl ?_
      refine x_Vi (pc := 54) ks_X7_244 dX7_readsMotion_54 (tb_106) rfl rfl (hW) rfl rfl rfl (Nat.le_of_ble_eq_true rfl) ?_
      refine x_iload_n (pc := 57) dX7_readsMotion_57 rfl rfl ?_
      refine x_icmp_ne (pc := 58) dX7_readsMotion_58 (tgt := 96) rfl (fun h58 => ?_) (fun h58 => ?_)
      ·
        refine x_iinc3 (pc := 96) dX7_readsMotion_96 (by first | exact fv_inc _ | exact fv_dec _ | rfl) rfl ?_
        refine x_goto (pc := 99) dX7_readsMotion_99 (tgt := 44) rfl ?_
        exact K
      ·
        exact absurd h58 hne
theorem hX7_rm2 {E : fv_E} {d L j nb nm : Nat} {x : Int32} {b : Nat → Nat} {M : fv_M} {σ : Nat → Int32} {Φ : Option Value → fv_M → Prop} (H : pHm b L M) (hn : nm < 8) (hB : σ 1 = nI nb) (hb : nb ≤ 8) (hk : pBo b L 13 4 j → fv_X E mX7_readsMotion (d + 4) Φ 44 [some (.ref 106), some (.int x), some (.int (nI nm)), some (.int (nI 3)), none] [] (pNp b L M (pBst b L 13 4 (fM nm 3) j σ) (pBj b L 13 4 j))) (hf : ¬ pBo b L 13 4 j → Φ (some (.int 0)) (pNp b L M σ (pBj b L 13 4 j))) : fv_X E mX7_readsMotion (d + 4) Φ 44 [some (.ref 106), some (.int x), some (.int (nI nm)), some (.int (nI 2)), none] [] (pNp b L M σ j) := by
  have hpa := pAll_of hb
  have hW := hN_w3 (E := E) (d := d + 3) (M := M) (σ := σ) (s := pTS b L j) H
  have hV := hP_next (E := E) (d := d + 1) (σ := σ) (j := j) H
  have hN := hP_tN (E := E) (d := d) (most := 4) (σ := σ) (j := pAd b L j) H (by omega)
  have hGr := (hX7_greatest (E := E) (d := d + 2) (nb := nb) (q := nI 3) (M := pNp b L M σ (pAd b L j)) hB).v (show _ = nI 4 from rfl)
  have hfw : (1 : Int32) + nI 2 = nI 3 := by decide +kernel
  by_cases hw : pWi b L (pTS b L j) = 13
  · rw [if_pos (show 11 ≤ pWi b L (pTS b L j) ∧ pWi b L (pTS b L j) < 14 by omega), show pWi b L (pTS b L j) - 11 = 2 by omega] at hW
    rw [show pBj b L 13 4 j = pNj b L 4 (pAd b L j) from if_pos hw] at hk hf
    by_cases hp : pNum b L (pAd b L j) 4
    · have K := hk (.inr hp)
      rw [show pBst b L 13 4 (fM nm 3) j σ = fv_u σ (fM nm 3) (nI (pVn b L (pTS b L (pAd b L j)))) from if_pos ⟨hw, hp⟩] at K
      rw [pNu_n hp] at hN
      have hvl := pVn_le (b := b) (L := L) (s := pTS b L (pAd b L j))
      have hP := (hX7_puts1 (E := E) (d := d + 3) (k := nm) (f := 3) (v := nI (pVn b L (pTS b L (pAd b L j)))) (M := pNp b L M σ (pNj b L 4 (pAd b L j))) hn (by decide)).m pN_w
      rw [pNp_22] at hP
      refine x_iload_n (pc := 44) dX7_readsMotion_44 rfl rfl ?_
      refine x_iconst (pc := 45) (v := 3) dX7_readsMotion_45 rfl ?_
      refine x_icmp_ge (pc := 46) dX7_readsMotion_46 (tgt := 102) rfl (fun h46 => ?_) (fun h46 => ?_)
      ·
        exact absurd h46 (by decide)
      ·
        refine x_aload_n (pc := 49) dX7_readsMotion_49 rfl rfl ?_
        refine x_aload_n (pc := 50) dX7_readsMotion_50 rfl rfl ?_
        refine x_geta (pc := 51) fl_X7_44 dX7_readsMotion_51 (tb_106) rfl ?_
        refine x_Vi (pc := 54) ks_X7_244 dX7_readsMotion_54 (tb_106) rfl rfl (hW) rfl rfl rfl (Nat.le_of_ble_eq_true rfl) ?_
        refine x_iload_n (pc := 57) dX7_readsMotion_57 rfl rfl ?_
        refine x_icmp_ne (pc := 58) dX7_readsMotion_58 (tgt := 96) rfl (fun h58 => ?_) (fun h58 => ?_)
        ·
          exact absurd rfl h58
        ·
          refine x_aload_n (pc := 61) dX7_readsMotion_61 rfl rfl ?_
          refine x_Vv (pc := 62) ks_X7_241 dX7_readsMotion_62 (tb_106) rfl rfl (hV) rfl rfl rfl (Nat.le_of_ble_eq_true rfl) ?_
          refine x_aload_n (pc := 65) dX7_readsMotion_65 rfl rfl ?_
          refine x_iconst (pc := 66) (v := 0) dX7_readsMotion_66 rfl ?_
          refine x_aload_n (pc := 67) dX7_readsMotion_67 rfl rfl ?_
          refine x_iconst (pc := 68) (v := 1) dX7_readsMotion_68 rfl ?_
          refine x_iload_n (pc := 69) dX7_readsMotion_69 rfl rfl ?_
          refine x_iadd (pc := 70) dX7_readsMotion_70 ?_
          rw [hfw]
          refine x_Vi (pc := 71) ks_X7_133 dX7_readsMotion_71 (tb_106) rfl rfl (hGr) rfl rfl rfl (Nat.le_of_ble_eq_true rfl) ?_
          refine x_Vi (pc := 74) ks_X7_248 dX7_readsMotion_74 (tb_106) rfl rfl (hN) rfl rfl rfl (Nat.le_of_ble_eq_true rfl) ?_
          refine x_istore4 (pc := 77) dX7_readsMotion_77 rfl ?_
          refine x_iload (pc := 79) dX7_readsMotion_79 rfl ?_
          refine x_if_ge (pc := 81) dX7_readsMotion_81 (tgt := 86) rfl (fun h81 => ?_) (fun h81 => ?_)
          ·
            refine x_aload_n (pc := 86) dX7_readsMotion_86 rfl rfl ?_
            refine x_iload_n (pc := 87) dX7_readsMotion_87 rfl rfl ?_
            refine x_iconst (pc := 88) (v := 1) dX7_readsMotion_88 rfl ?_
            refine x_iload_n (pc := 89) dX7_readsMotion_89 rfl rfl ?_
            refine x_iadd (pc := 90) dX7_readsMotion_90 ?_
            rw [hfw]
            refine x_iload (pc := 91) dX7_readsMotion_91 rfl ?_
            refine x_Vv (pc := 93) ks_X7_107 dX7_readsMotion_93 (tb_106) rfl rfl (hP) rfl rfl rfl (Nat.le_of_ble_eq_true rfl) ?_
            refine x_iinc3 (pc := 96) dX7_readsMotion_96 (by first | exact fv_inc _ | exact fv_dec _ | rfl) rfl ?_
            refine x_goto (pc := 99) dX7_readsMotion_99 (tgt := 44) rfl ?_
            exact x_fg4 K
          ·
            exact absurd (nI_pos' (by omega)) h81
    · have K := hf (fun z => z.elim (fun z => z hw) hp)
      rw [pNu_f hp] at hN
      refine x_iload_n (pc := 44) dX7_readsMotion_44 rfl rfl ?_
      refine x_iconst (pc := 45) (v := 3) dX7_readsMotion_45 rfl ?_
      refine x_icmp_ge (pc := 46) dX7_readsMotion_46 (tgt := 102) rfl (fun h46 => ?_) (fun h46 => ?_)
      ·
        exact absurd h46 (by decide)
      ·
        refine x_aload_n (pc := 49) dX7_readsMotion_49 rfl rfl ?_
        refine x_aload_n (pc := 50) dX7_readsMotion_50 rfl rfl ?_
        refine x_geta (pc := 51) fl_X7_44 dX7_readsMotion_51 (tb_106) rfl ?_
        refine x_Vi (pc := 54) ks_X7_244 dX7_readsMotion_54 (tb_106) rfl rfl (hW) rfl rfl rfl (Nat.le_of_ble_eq_true rfl) ?_
        refine x_iload_n (pc := 57) dX7_readsMotion_57 rfl rfl ?_
        refine x_icmp_ne (pc := 58) dX7_readsMotion_58 (tgt := 96) rfl (fun h58 => ?_) (fun h58 => ?_)
        ·
          exact absurd rfl h58
        ·
          refine x_aload_n (pc := 61) dX7_readsMotion_61 rfl rfl ?_
          refine x_Vv (pc := 62) ks_X7_241 dX7_readsMotion_62 (tb_106) rfl rfl (hV) rfl rfl rfl (Nat.le_of_ble_eq_true rfl) ?_
          refine x_aload_n (pc := 65) dX7_readsMotion_65 rfl rfl ?_
          refine x_iconst (pc := 66) (v := 0) dX7_readsMotion_66 rfl ?_
          refine x_aload_n (pc := 67) dX7_readsMotion_67 rfl rfl ?_
          refine x_iconst (pc := 68) (v := 1) dX7_readsMotion_68 rfl ?_
          refine x_iload_n (pc := 69) dX7_readsMotion_69 rfl rfl ?_
          refine x_iadd (pc := 70) dX7_readsMotion_70 ?_
          rw [hfw]
          refine x_Vi (pc := 71) ks_X7_133 dX7_readsMotion_71 (tb_106) rfl rfl (hGr) rfl rfl rfl (Nat.le_of_ble_eq_true rfl) ?_
          refine x_Vi (pc := 74) ks_X7_248 dX7_readsMotion_74 (tb_106) rfl rfl (hN) rfl rfl rfl (Nat.le_of_ble_eq_true rfl) ?_
          refine x_istore4 (pc := 77) dX7_readsMotion_77 rfl ?_
          refine x_iload (pc := 79) dX7_readsMotion_79 rfl ?_
          refine x_if_ge (pc := 81) dX7_readsMotion_81 (tgt := 86) rfl (fun h81 => ?_) (fun h81 => ?_)
          ·
            exact absurd h81 (by decide)
          ·
            refine x_iconst (pc := 84) (v := 0) dX7_readsMotion_84 rfl ?_
            refine x_iret (pc := 85) dX7_readsMotion_85 rfl (by first | rfl | exact fv_nz _) ?_
            exact K
  · have hne : ¬ (if 11 ≤ pWi b L (pTS b L j) ∧ pWi b L (pTS b L j) < 14 then nI (pWi b L (pTS b L j) - 11) else -1) = nI 2 := by
      by_cases z : 11 ≤ pWi b L (pTS b L j) ∧ pWi b L (pTS b L j) < 14
      · rw [if_pos z]; exact fun q => absurd ((nI_eq (by omega) (by decide)).mp q) (by omega)
      · rw [if_neg z]; decide
    have K := hk (.inl hw)
    rw [show pBj b L 13 4 j = j from if_neg hw, show pBst b L 13 4 (fM nm 3) j σ = σ from if_neg (fun z => hw z.1)] at K
    refine x_iload_n (pc := 44) dX7_readsMotion_44 rfl rfl ?_
    refine x_iconst (pc := 45) (v := 3) dX7_readsMotion_45 rfl ?_
    refine x_icmp_ge (pc := 46) dX7_readsMotion_46 (tgt := 102) rfl (fun h46 => ?_) (fun h46 => ?_)
    ·
      exact absurd h46 (by decide)
    ·
      refine x_aload_n (pc := 49) dX7_readsMotion_49 rfl rfl ?_
      refine x_aload_n (pc := 50) dX7_readsMotion_50 rfl rfl ?_
      refine x_geta (pc := 51) fl_X7_44 dX7_readsMotion_51 (tb_106) rfl ?_
      refine x_Vi (pc := 54) ks_X7_244 dX7_readsMotion_54 (tb_106) rfl rfl (hW) rfl rfl rfl (Nat.le_of_ble_eq_true rfl) ?_
      refine x_iload_n (pc := 57) dX7_readsMotion_57 rfl rfl ?_
      refine x_icmp_ne (pc := 58) dX7_readsMotion_58 (tgt := 96) rfl (fun h58 => ?_) (fun h58 => ?_)
      ·
        refine x_iinc3 (pc := 96) dX7_readsMotion_96 (by first | exact fv_inc _ | exact fv_dec _ | rfl) rfl ?_
        refine x_goto (pc := 99) dX7_readsMotion_99 (tgt := 44) rfl ?_
        exact K
      ·
        exact absurd h58 hne
theorem pBst_1 {b : Nat → Nat} {L k most j m f : Nat} {σ : Nat → Int32} {x : Int32} (h : σ 1 = x) : pBst b L k most (fM m f) j σ 1 = x := (pBst_ne (by unfold fM; omega)).trans h
theorem hX7_readsMotion {E : fv_E} {d L j nb nm : Nat} {b : Nat → Nat} {M : fv_M} {σ : Nat → Int32} (H : pHm b L M) (hB : σ 1 = nI nb) (hb : nb ≤ 8) (hM : σ 2 = nI nm) (hm : nm ≤ 8) : fv_P E (d + 4) mX7_readsMotion [.ref 106] (pNp b L M σ j) (some (.int (bI (pMmo b L nb nm j)))) (pResN b L M (pMmj b L nb nm j) (pMmo b L nb nm j) (pMms b L nb nm j σ)) := by
  by_cases hn : nm < 8
  · have q8 : nI nm = 8 ↔ nm = 8 := nI_eq (b := 8) (by omega) (by decide)
    have hV := hP_next (E := E) (d := d + 1) (σ := σ) (j := j) H
    have hN := hP_tN (E := E) (d := d) (most := 3) (σ := σ) (j := pAd b L j) H (by decide)
    have hjo : pMmj b L nb nm j = if pNum b L (pAd b L j) 3 then (if pBo b L 11 99 (pM2 b L j) then (if pBo b L 12 (2 ^ nb - 1) (pM3 b L j) then pM5 b L nb j else pM4 b L nb j) else pM3 b L j) else pAd b L j := if_pos hn
    by_cases hp : pNum b L (pAd b L j) 3
    · rw [if_pos hp] at hjo
      rw [pNu_n hp, show pNj b L 3 (pAd b L j) = pM2 b L j from if_pos hp] at hN
      have hvl := pVn_le (b := b) (L := L) (s := pTS b L (pAd b L j))
      have hA := (hX7_addsMotion (E := E) (d := d + 2) (c := nI (pVn b L (pTS b L (pAd b L j)))) (M := pNp b L M σ (pM2 b L j)) hM hn).m pN_w
      rw [pNp_22] at hA
      have K : fv_X E mX7_readsMotion (d + 4) (fun r' M' => r' = some (.int (bI (pMmo b L nb nm j))) ∧ pResN b L M (pMmj b L nb nm j) (pMmo b L nb nm j) (pMms b L nb nm j σ) M') 44 [some (.ref 106), some (.int (nI (pVn b L (pTS b L (pAd b L j))))), some (.int (nI nm)), some (.int (nI 0)), none] [] (pNp b L M (pAddM σ nm (nI (pVn b L (pTS b L (pAd b L j))))) (pM2 b L j)) := by
        have hB1 : pAddM σ nm (nI (pVn b L (pTS b L (pAd b L j)))) 1 = nI nb := pAddM_1.trans hB
        refine hX7_rm0 H hn hB1 hb (fun h11 => hX7_rm1 H hn (pBst_1 hB1) hb (fun h12 => hX7_rm2 H hn (pBst_1 (pBst_1 hB1)) hb (fun h13 => ?_) (fun h13 => ?_)) (fun h12 => ?_)) (fun h11 => ?_)
        · skip
          refine x_iload_n (pc := 44) dX7_readsMotion_44 rfl rfl ?_
          refine x_iconst (pc := 45) (v := 3) dX7_readsMotion_45 rfl ?_
          refine x_icmp_ge (pc := 46) dX7_readsMotion_46 (tgt := 102) rfl (fun h46 => ?_) (fun h46 => ?_)
          ·
            refine x_iconst (pc := 102) (v := 1) dX7_readsMotion_102 rfl ?_
            refine x_iret (pc := 103) dX7_readsMotion_103 rfl (by first | rfl | exact fv_nz _) ?_
            exact ⟨by rw [bI_t ⟨hn, hp, h11, h12, h13⟩], _, by rw [hjo, if_pos h11, if_pos (show pBo b L 12 (2 ^ nb - 1) (pM3 b L j) from h12)]; rfl, fun _ => rfl⟩
          ·
            exact absurd (by decide) h46
        · exact ⟨by rw [bI_f (fun z => h13 z.2.2.2.2)], _, by rw [hjo, if_pos h11, if_pos (show pBo b L 12 (2 ^ nb - 1) (pM3 b L j) from h12)]; rfl, fun z => absurd z.2.2.2.2 h13⟩
        · exact ⟨by rw [bI_f (fun z => h12 z.2.2.2.1)], _, by rw [hjo, if_pos h11, if_neg (show ¬ pBo b L 12 (2 ^ nb - 1) (pM3 b L j) from h12)]; rfl, fun z => absurd z.2.2.2.1 h12⟩
        · exact ⟨by rw [bI_f (fun z => h11 z.2.2.1)], _, by rw [hjo, if_neg h11]; rfl, fun z => absurd z.2.2.1 h11⟩
      refine fv_P.of (ls := [some (.ref 106), none, none, none, none]) (by decide) (Nat.le_of_ble_eq_true rfl) rfl ?_
      refine x_aload_n (pc := 0) dX7_readsMotion_0 rfl rfl ?_
      refine x_geta (pc := 1) fl_X7_9 dX7_readsMotion_1 (tb_106) rfl ?_
      refine x_iconst (pc := 4) (v := 2) dX7_readsMotion_4 rfl ?_
      refine x_iale (pc := 5) dX7_readsMotion_5 (tb_107) ((rfl : (2 : Int32) = nI 2)) (by decide) (by first | decide | assumption) (hM) ?_
      refine x_bipush (pc := 6) (v := 8) dX7_readsMotion_6 rfl ?_
      refine x_icmp_ne (pc := 8) dX7_readsMotion_8 (tgt := 13) rfl (fun h8 => ?_) (fun h8 => ?_)
      ·
        refine x_aload_n (pc := 13) dX7_readsMotion_13 rfl rfl ?_
        refine x_Vv (pc := 14) ks_X7_241 dX7_readsMotion_14 (tb_106) rfl rfl (hV) rfl rfl rfl (Nat.le_of_ble_eq_true rfl) ?_
        refine x_aload_n (pc := 17) dX7_readsMotion_17 rfl rfl ?_
        refine x_iconst (pc := 18) (v := 0) dX7_readsMotion_18 rfl ?_
        refine x_iconst (pc := 19) (v := 3) dX7_readsMotion_19 rfl ?_
        refine x_Vi (pc := 20) ks_X7_248 dX7_readsMotion_20 (tb_106) rfl rfl (hN) rfl rfl rfl (Nat.le_of_ble_eq_true rfl) ?_
        refine x_istore_n1 (pc := 23) dX7_readsMotion_23 rfl ?_
        refine x_iload_n (pc := 24) dX7_readsMotion_24 rfl rfl ?_
        refine x_if_ge (pc := 25) dX7_readsMotion_25 (tgt := 30) rfl (fun h25 => ?_) (fun h25 => ?_)
        ·
          refine x_aload_n (pc := 30) dX7_readsMotion_30 rfl rfl ?_
          refine x_geta (pc := 31) fl_X7_9 dX7_readsMotion_31 (tb_106) rfl ?_
          refine x_iconst (pc := 34) (v := 2) dX7_readsMotion_34 rfl ?_
          refine x_iale (pc := 35) dX7_readsMotion_35 (tb_107) ((rfl : (2 : Int32) = nI 2)) (by decide) (by first | decide | assumption) (hM) ?_
          refine x_istore_n2 (pc := 36) dX7_readsMotion_36 rfl ?_
          refine x_aload_n (pc := 37) dX7_readsMotion_37 rfl rfl ?_
          refine x_iload_n (pc := 38) dX7_readsMotion_38 rfl rfl ?_
          refine x_Vv (pc := 39) ks_X7_123 dX7_readsMotion_39 (tb_106) rfl rfl (hA) rfl rfl rfl (Nat.le_of_ble_eq_true rfl) ?_
          refine x_iconst (pc := 42) (v := 0) dX7_readsMotion_42 rfl ?_
          refine x_istore_n3 (pc := 43) dX7_readsMotion_43 rfl ?_
          exact K
        ·
          exact absurd (nI_pos' (by omega)) h25
      ·
        exact absurd (q8.mp h8) (by omega)
    · rw [if_neg hp] at hjo
      rw [bI_f (p := pMmo b L nb nm j) (fun z => hp z.2.1), hjo]
      rw [pNu_f hp, show pNj b L 3 (pAd b L j) = pAd b L j from if_neg hp] at hN
      refine fv_P.of (ls := [some (.ref 106), none, none, none, none]) (by decide) (Nat.le_of_ble_eq_true rfl) rfl ?_
      refine x_aload_n (pc := 0) dX7_readsMotion_0 rfl rfl ?_
      refine x_geta (pc := 1) fl_X7_9 dX7_readsMotion_1 (tb_106) rfl ?_
      refine x_iconst (pc := 4) (v := 2) dX7_readsMotion_4 rfl ?_
      refine x_iale (pc := 5) dX7_readsMotion_5 (tb_107) ((rfl : (2 : Int32) = nI 2)) (by decide) (by first | decide | assumption) (hM) ?_
      refine x_bipush (pc := 6) (v := 8) dX7_readsMotion_6 rfl ?_
      refine x_icmp_ne (pc := 8) dX7_readsMotion_8 (tgt := 13) rfl (fun h8 => ?_) (fun h8 => ?_)
      ·
        refine x_aload_n (pc := 13) dX7_readsMotion_13 rfl rfl ?_
        refine x_Vv (pc := 14) ks_X7_241 dX7_readsMotion_14 (tb_106) rfl rfl (hV) rfl rfl rfl (Nat.le_of_ble_eq_true rfl) ?_
        refine x_aload_n (pc := 17) dX7_readsMotion_17 rfl rfl ?_
        refine x_iconst (pc := 18) (v := 0) dX7_readsMotion_18 rfl ?_
        refine x_iconst (pc := 19) (v := 3) dX7_readsMotion_19 rfl ?_
        refine x_Vi (pc := 20) ks_X7_248 dX7_readsMotion_20 (tb_106) rfl rfl (hN) rfl rfl rfl (Nat.le_of_ble_eq_true rfl) ?_
        refine x_istore_n1 (pc := 23) dX7_readsMotion_23 rfl ?_
        refine x_iload_n (pc := 24) dX7_readsMotion_24 rfl rfl ?_
        refine x_if_ge (pc := 25) dX7_readsMotion_25 (tgt := 30) rfl (fun h25 => ?_) (fun h25 => ?_)
        ·
          exact absurd h25 (by decide)
        ·
          refine x_iconst (pc := 28) (v := 0) dX7_readsMotion_28 rfl ?_
          refine x_iret (pc := 29) dX7_readsMotion_29 rfl (by first | rfl | exact fv_nz _) ?_
          exact ⟨rfl, _, rfl, fun z => absurd z.2.1 hp⟩
      ·
        exact absurd (q8.mp h8) (by omega)
  · have e8 : nm = 8 := by omega
    have hM8 : σ 2 = 8 := by rw [hM, e8]; rfl
    rw [bI_f (p := pMmo b L nb nm j) (fun z => hn z.1), show pMmj b L nb nm j = j from if_neg hn]
    refine fv_P.of (ls := [some (.ref 106), none, none, none, none]) (by decide) (Nat.le_of_ble_eq_true rfl) rfl ?_
    refine x_aload_n (pc := 0) dX7_readsMotion_0 rfl rfl ?_
    refine x_geta (pc := 1) fl_X7_9 dX7_readsMotion_1 (tb_106) rfl ?_
    refine x_iconst (pc := 4) (v := 2) dX7_readsMotion_4 rfl ?_
    refine x_iale (pc := 5) dX7_readsMotion_5 (tb_107) ((rfl : (2 : Int32) = nI 2)) (by decide) (by first | decide | assumption) (hM8) ?_
    refine x_bipush (pc := 6) (v := 8) dX7_readsMotion_6 rfl ?_
    refine x_icmp_ne (pc := 8) dX7_readsMotion_8 (tgt := 13) rfl (fun h8 => ?_) (fun h8 => ?_)
    ·
      exact absurd rfl h8
    ·
      refine x_iconst (pc := 11) (v := 0) dX7_readsMotion_11 rfl ?_
      refine x_iret (pc := 12) dX7_readsMotion_12 rfl (by first | rfl | exact fv_nz _) ?_
      exact ⟨rfl, σ, rfl, fun z => absurd z.1 hn⟩
abbrev pIm (b : Nat → Nat) (L nb nm j : Nat) : Prop := (pWi b L (pTS b L j) < 7 ∧ pBmo b L nb j) ∨ (pWi b L (pTS b L j) = 10 ∧ pMmo b L nb nm j) ∨ (pWi b L (pTS b L j) = 14 ∧ pNum b L (pAd b L j) 999)
theorem pIm_of {b : Nat → Nat} {L nb nm j : Nat} (h : pIo b L nb nm j) : pIm b L nb nm j := h.elim (fun h => .inl ⟨h.1, h.2.1, pRm_of h.2.2.1, h.2.2.2⟩) .inr
theorem pIm_no {b : Nat → Nat} {L nb nm j : Nat} (h : pIm b L nb nm j) (h2 : ¬ pIo b L nb nm j) : pYt b L (pTS b L (pIj b L nb nm j)) = 4 := by
  rcases h with ⟨h7, hn, hR, h8, h9⟩ | h
  · have hno : ¬ pRo b L (pAd b L j) := fun z => h2 (.inl ⟨h7, hn, z, h8, h9⟩)
    have e : pIj b L nb nm j = pB2 b L j := (if_pos h7).trans ((if_pos hn).trans (if_neg hno))
    rw [e]
    exact (pB_no hR hno).1
  · exact absurd (.inr h) h2
theorem pResN.to {b : Nat → Nat} {L : Nat} {M M' : fv_M} {j j2 : Nat} {ok ok2 : Prop} {σ σ2 : Nat → Int32} (h : pResN b L M j ok σ M') (hj : j = j2) (ho : ok2 → ok) (hs : σ = σ2) : pResN b L M j2 ok2 σ2 M' := by
  subst hj; subst hs
  obtain ⟨τ, e, z⟩ := h
  exact ⟨τ, e, fun q => z (ho q)⟩
theorem hX7_readsItem {E : fv_E} {d L j nb nm : Nat} {b : Nat → Nat} {M : fv_M} {σ : Nat → Int32} (H : pHm b L M) (hB : σ 1 = nI nb) (hb : nb ≤ 8) (hM : σ 2 = nI nm) (hm : nm ≤ 8) : fv_P E (d + 5) mX7_readsItem [.ref 106] (pNp b L M σ j) (some (.int (bI (pIm b L nb nm j)))) (pResN b L M (pIj b L nb nm j) (pIo b L nb nm j) (pIst b L nb nm j σ)) := by
  have hW := hN_w0 (E := E) (d := d + 4) (M := M) (σ := σ) (s := pTS b L j) H
  have hW2 := hN_w2 (E := E) (d := d + 4) (M := M) (σ := σ) (s := pTS b L j) H
  unfold pIj pIst
  by_cases h7 : pWi b L (pTS b L j) < 7
  · rw [if_pos h7] at hW
    rw [if_pos h7, if_pos h7]
    have e : pBmo b L nb j ↔ pIm b L nb nm j := ⟨fun q => .inl ⟨h7, q⟩, fun q => q.elim (fun q => q.2) (fun q => q.elim (fun q => absurd q.1 (by omega)) (fun q => absurd q.1 (by omega)))⟩
    have e2 : pIo b L nb nm j → pBdo b L nb j := fun q => q.elim (fun q => q.2) (fun q => q.elim (fun q => absurd q.1 (by omega)) (fun q => absurd q.1 (by omega)))
    have h := (hX7_readsBird (E := E) (d := d) (κ := pWi b L (pTS b L j)) (j := j) H hB hb).v (bI_congr e)
    refine fv_P.of (ls := [some (.ref 106), none, none, none]) (by decide) (Nat.le_of_ble_eq_true rfl) rfl ?_
    refine x_aload_n (pc := 0) dX7_readsItem_0 rfl rfl ?_
    refine x_aload_n (pc := 1) dX7_readsItem_1 rfl rfl ?_
    refine x_geta (pc := 2) fl_X7_34 dX7_readsItem_2 (tb_106) rfl ?_
    refine x_Vi (pc := 5) ks_X7_244 dX7_readsItem_5 (tb_106) rfl rfl (hW) rfl rfl rfl (Nat.le_of_ble_eq_true rfl) ?_
    refine x_istore_n1 (pc := 8) dX7_readsItem_8 rfl ?_
    refine x_iload_n (pc := 9) dX7_readsItem_9 rfl rfl ?_
    refine x_if_lt (pc := 10) dX7_readsItem_10 (tgt := 19) rfl (fun h10 => ?_) (fun h10 => ?_)
    ·
      exact absurd h10 (nI_pos (by omega))
    ·
      refine x_aload_n (pc := 13) dX7_readsItem_13 rfl rfl ?_
      refine x_iload_n (pc := 14) dX7_readsItem_14 rfl rfl ?_
      refine x_Vip (pc := 15) ks_X7_251 dX7_readsItem_15 (tb_106) rfl rfl (h) rfl rfl rfl (Nat.le_of_ble_eq_true rfl) (fun M2 h2 => ?_)
      refine x_iret (pc := 18) dX7_readsItem_18 rfl (by first | rfl | exact fv_nz _) ?_
      exact ⟨rfl, h2.to rfl e2 rfl⟩
  · rw [if_neg h7] at hW
    rw [if_neg h7, if_neg h7]
    by_cases h10w : pWi b L (pTS b L j) = 10
    · rw [if_pos h10w, if_pos h10w]
      rw [if_neg (show ¬ pWi b L (pTS b L j) = 14 by omega), if_pos h10w] at hW2
      have e : pMmo b L nb nm j ↔ pIm b L nb nm j := ⟨fun q => .inr (.inl ⟨h10w, q⟩), fun q => q.elim (fun q => absurd q.1 h7) (fun q => q.elim (fun q => q.2) (fun q => absurd q.1 (by omega)))⟩
      have e2 : pIo b L nb nm j → pMmo b L nb nm j := fun q => e.mpr (pIm_of q)
      have h := (hX7_readsMotion (E := E) (d := d) (j := j) H hB hb hM hm).v (bI_congr e)
      refine fv_P.of (ls := [some (.ref 106), none, none, none]) (by decide) (Nat.le_of_ble_eq_true rfl) rfl ?_
      refine x_aload_n (pc := 0) dX7_readsItem_0 rfl rfl ?_
      refine x_aload_n (pc := 1) dX7_readsItem_1 rfl rfl ?_
      refine x_geta (pc := 2) fl_X7_34 dX7_readsItem_2 (tb_106) rfl ?_
      refine x_Vi (pc := 5) ks_X7_244 dX7_readsItem_5 (tb_106) rfl rfl (hW) rfl rfl rfl (Nat.le_of_ble_eq_true rfl) ?_
      refine x_istore_n1 (pc := 8) dX7_readsItem_8 rfl ?_
      refine x_iload_n (pc := 9) dX7_readsItem_9 rfl rfl ?_
      refine x_if_lt (pc := 10) dX7_readsItem_10 (tgt := 19) rfl (fun h10 => ?_) (fun h10 => ?_)
      ·
        refine x_aload_n (pc := 19) dX7_readsItem_19 rfl rfl ?_
        refine x_aload_n (pc := 20) dX7_readsItem_20 rfl rfl ?_
        refine x_geta (pc := 21) fl_X7_41 dX7_readsItem_21 (tb_106) rfl ?_
        refine x_Vi (pc := 24) ks_X7_244 dX7_readsItem_24 (tb_106) rfl rfl (hW2) rfl rfl rfl (Nat.le_of_ble_eq_true rfl) ?_
        refine x_istore_n2 (pc := 27) dX7_readsItem_27 rfl ?_
        refine x_iload_n (pc := 28) dX7_readsItem_28 rfl rfl ?_
        refine x_if_ne (pc := 29) dX7_readsItem_29 (tgt := 37) rfl (fun h29 => ?_) (fun h29 => ?_)
        ·
          exact absurd rfl h29
        ·
          refine x_aload_n (pc := 32) dX7_readsItem_32 rfl rfl ?_
          refine x_Vip (pc := 33) ks_X7_254 dX7_readsItem_33 (tb_106) rfl rfl (h) rfl rfl rfl (Nat.le_of_ble_eq_true rfl) (fun M2 h2 => ?_)
          refine x_iret (pc := 36) dX7_readsItem_36 rfl (by first | rfl | exact fv_nz _) ?_
          exact ⟨rfl, h2.to rfl e2 rfl⟩
      ·
        exact absurd (by decide) h10
    · rw [if_neg h10w, if_neg h10w]
      by_cases h14 : pWi b L (pTS b L j) = 14
      · rw [if_pos h14] at hW2
        rw [if_pos h14]
        have hV := hP_next (E := E) (d := d + 2) (σ := σ) (j := j) H
        have hN := hP_tN (E := E) (d := d + 1) (most := 999) (σ := σ) (j := pAd b L j) H (by decide)
        have hvl := pVn_le (b := b) (L := L) (s := pTS b L (pAd b L j))
        have e : pNum b L (pAd b L j) 999 ↔ pIm b L nb nm j := ⟨fun q => .inr (.inr ⟨h14, q⟩), fun q => q.elim (fun q => absurd q.1 h7) (fun q => q.elim (fun q => absurd q.1 h10w) (fun q => q.2))⟩
        by_cases hp : pNum b L (pAd b L j) 999
        · rw [pNu_n hp] at hN
          rw [bI_t (e.mp hp)]
          refine fv_P.of (ls := [some (.ref 106), none, none, none]) (by decide) (Nat.le_of_ble_eq_true rfl) rfl ?_
          refine x_aload_n (pc := 0) dX7_readsItem_0 rfl rfl ?_
          refine x_aload_n (pc := 1) dX7_readsItem_1 rfl rfl ?_
          refine x_geta (pc := 2) fl_X7_34 dX7_readsItem_2 (tb_106) rfl ?_
          refine x_Vi (pc := 5) ks_X7_244 dX7_readsItem_5 (tb_106) rfl rfl (hW) rfl rfl rfl (Nat.le_of_ble_eq_true rfl) ?_
          refine x_istore_n1 (pc := 8) dX7_readsItem_8 rfl ?_
          refine x_iload_n (pc := 9) dX7_readsItem_9 rfl rfl ?_
          refine x_if_lt (pc := 10) dX7_readsItem_10 (tgt := 19) rfl (fun h10 => ?_) (fun h10 => ?_)
          ·
            refine x_aload_n (pc := 19) dX7_readsItem_19 rfl rfl ?_
            refine x_aload_n (pc := 20) dX7_readsItem_20 rfl rfl ?_
            refine x_geta (pc := 21) fl_X7_41 dX7_readsItem_21 (tb_106) rfl ?_
            refine x_Vi (pc := 24) ks_X7_244 dX7_readsItem_24 (tb_106) rfl rfl (hW2) rfl rfl rfl (Nat.le_of_ble_eq_true rfl) ?_
            refine x_istore_n2 (pc := 27) dX7_readsItem_27 rfl ?_
            refine x_iload_n (pc := 28) dX7_readsItem_28 rfl rfl ?_
            refine x_if_ne (pc := 29) dX7_readsItem_29 (tgt := 37) rfl (fun h29 => ?_) (fun h29 => ?_)
            ·
              refine x_iload_n (pc := 37) dX7_readsItem_37 rfl rfl ?_
              refine x_if_ge (pc := 38) dX7_readsItem_38 (tgt := 43) rfl (fun h38 => ?_) (fun h38 => ?_)
              ·
                refine x_aload_n (pc := 43) dX7_readsItem_43 rfl rfl ?_
                refine x_Vv (pc := 44) ks_X7_241 dX7_readsItem_44 (tb_106) rfl rfl (hV) rfl rfl rfl (Nat.le_of_ble_eq_true rfl) ?_
                refine x_aload_n (pc := 47) dX7_readsItem_47 rfl rfl ?_
                refine x_iconst (pc := 48) (v := 0) dX7_readsItem_48 rfl ?_
                refine x_sipush (pc := 49) (v := 999) dX7_readsItem_49 rfl ?_
                refine x_Vi (pc := 52) ks_X7_248 dX7_readsItem_52 (tb_106) rfl rfl (hN) rfl rfl rfl (Nat.le_of_ble_eq_true rfl) ?_
                refine x_istore_n3 (pc := 55) dX7_readsItem_55 rfl ?_
                refine x_aload_n (pc := 56) dX7_readsItem_56 rfl rfl ?_
                refine x_geta (pc := 57) fl_X7_9 dX7_readsItem_57 (tb_106) rfl ?_
                refine x_iconst (pc := 60) (v := 0) dX7_readsItem_60 rfl ?_
                refine x_iload_n (pc := 61) dX7_readsItem_61 rfl rfl ?_
                refine x_if_ge (pc := 62) dX7_readsItem_62 (tgt := 74) rfl (fun h62 => ?_) (fun h62 => ?_)
                ·
                  refine x_iload_n (pc := 74) dX7_readsItem_74 rfl rfl ?_
                  refine x_iast (pc := 75) dX7_readsItem_75 (tb_107) (rfl) (by first | assumption | decide | omega) (by first | decide | assumption) ?_
                  refine x_iload_n (pc := 76) dX7_readsItem_76 rfl rfl ?_
                  refine x_if_lt (pc := 77) dX7_readsItem_77 (tgt := 84) rfl (fun h77 => ?_) (fun h77 => ?_)
                  ·
                    exact absurd h77 (nI_pos (by omega))
                  ·
                    refine x_iconst (pc := 80) (v := 1) dX7_readsItem_80 rfl ?_
                    refine x_goto (pc := 81) dX7_readsItem_81 (tgt := 85) rfl ?_
                    refine x_iret (pc := 85) dX7_readsItem_85 rfl (by first | rfl | exact fv_nz _) ?_
                    exact ⟨rfl, _, pN_w, fun _ => (if_pos hp).symm⟩
                ·
                  exact absurd (nI_pos' (by omega)) h62
              ·
                exact absurd (by decide) h38
            ·
              exact absurd h29 (by decide)
          ·
            exact absurd (by decide) h10
        · rw [pNu_f hp] at hN
          rw [bI_f (p := pIm b L nb nm j) (fun z => hp (e.mpr z))]
          refine fv_P.of (ls := [some (.ref 106), none, none, none]) (by decide) (Nat.le_of_ble_eq_true rfl) rfl ?_
          refine x_aload_n (pc := 0) dX7_readsItem_0 rfl rfl ?_
          refine x_aload_n (pc := 1) dX7_readsItem_1 rfl rfl ?_
          refine x_geta (pc := 2) fl_X7_34 dX7_readsItem_2 (tb_106) rfl ?_
          refine x_Vi (pc := 5) ks_X7_244 dX7_readsItem_5 (tb_106) rfl rfl (hW) rfl rfl rfl (Nat.le_of_ble_eq_true rfl) ?_
          refine x_istore_n1 (pc := 8) dX7_readsItem_8 rfl ?_
          refine x_iload_n (pc := 9) dX7_readsItem_9 rfl rfl ?_
          refine x_if_lt (pc := 10) dX7_readsItem_10 (tgt := 19) rfl (fun h10 => ?_) (fun h10 => ?_)
          ·
            refine x_aload_n (pc := 19) dX7_readsItem_19 rfl rfl ?_
            refine x_aload_n (pc := 20) dX7_readsItem_20 rfl rfl ?_
            refine x_geta (pc := 21) fl_X7_41 dX7_readsItem_21 (tb_106) rfl ?_
            refine x_Vi (pc := 24) ks_X7_244 dX7_readsItem_24 (tb_106) rfl rfl (hW2) rfl rfl rfl (Nat.le_of_ble_eq_true rfl) ?_
            refine x_istore_n2 (pc := 27) dX7_readsItem_27 rfl ?_
            refine x_iload_n (pc := 28) dX7_readsItem_28 rfl rfl ?_
            refine x_if_ne (pc := 29) dX7_readsItem_29 (tgt := 37) rfl (fun h29 => ?_) (fun h29 => ?_)
            ·
              refine x_iload_n (pc := 37) dX7_readsItem_37 rfl rfl ?_
              refine x_if_ge (pc := 38) dX7_readsItem_38 (tgt := 43) rfl (fun h38 => ?_) (fun h38 => ?_)
              ·
                refine x_aload_n (pc := 43) dX7_readsItem_43 rfl rfl ?_
                refine x_Vv (pc := 44) ks_X7_241 dX7_readsItem_44 (tb_106) rfl rfl (hV) rfl rfl rfl (Nat.le_of_ble_eq_true rfl) ?_
                refine x_aload_n (pc := 47) dX7_readsItem_47 rfl rfl ?_
                refine x_iconst (pc := 48) (v := 0) dX7_readsItem_48 rfl ?_
                refine x_sipush (pc := 49) (v := 999) dX7_readsItem_49 rfl ?_
                refine x_Vi (pc := 52) ks_X7_248 dX7_readsItem_52 (tb_106) rfl rfl (hN) rfl rfl rfl (Nat.le_of_ble_eq_true rfl) ?_
                refine x_istore_n3 (pc := 55) dX7_readsItem_55 rfl ?_
                refine x_aload_n (pc := 56) dX7_readsItem_56 rfl rfl ?_
                refine x_geta (pc := 57) fl_X7_9 dX7_readsItem_57 (tb_106) rfl ?_
                refine x_iconst (pc := 60) (v := 0) dX7_readsItem_60 rfl ?_
                refine x_iload_n (pc := 61) dX7_readsItem_61 rfl rfl ?_
                refine x_if_ge (pc := 62) dX7_readsItem_62 (tgt := 74) rfl (fun h62 => ?_) (fun h62 => ?_)
                ·
                  exact absurd h62 (by decide)
                ·
                  refine x_aload_n (pc := 65) dX7_readsItem_65 rfl rfl ?_
                  refine x_geta (pc := 66) fl_X7_9 dX7_readsItem_66 (tb_106) rfl ?_
                  refine x_iconst (pc := 69) (v := 0) dX7_readsItem_69 rfl ?_
                  refine x_iald (pc := 70) dX7_readsItem_70 (tb_107) ((rfl : (0 : Int32) = nI 0)) (by decide) (by first | decide | assumption) ?_
                  refine x_goto (pc := 71) dX7_readsItem_71 (tgt := 75) rfl ?_
                  refine x_iast (pc := 75) dX7_readsItem_75 (tb_107) (rfl) (by first | assumption | decide | omega) (by first | decide | assumption) ?_
                  refine x_iload_n (pc := 76) dX7_readsItem_76 rfl rfl ?_
                  refine x_if_lt (pc := 77) dX7_readsItem_77 (tgt := 84) rfl (fun h77 => ?_) (fun h77 => ?_)
                  ·
                    refine x_iconst (pc := 84) (v := 0) dX7_readsItem_84 rfl ?_
                    refine x_iret (pc := 85) dX7_readsItem_85 rfl (by first | rfl | exact fv_nz _) ?_
                    exact ⟨rfl, _, pN_w, fun z => absurd (e.mpr (pIm_of z)) hp⟩
                  ·
                    exact absurd (by decide) h77
              ·
                exact absurd (by decide) h38
            ·
              exact absurd h29 (by decide)
          ·
            exact absurd (by decide) h10
      · rw [if_neg h14, if_neg h10w] at hW2
        rw [if_neg h14, bI_f (p := pIm b L nb nm j) (fun q => q.elim (fun q => h7 q.1) (fun q => q.elim (fun q => h10w q.1) (fun q => h14 q.1)))]
        refine fv_P.of (ls := [some (.ref 106), none, none, none]) (by decide) (Nat.le_of_ble_eq_true rfl) rfl ?_
        refine x_aload_n (pc := 0) dX7_readsItem_0 rfl rfl ?_
        refine x_aload_n (pc := 1) dX7_readsItem_1 rfl rfl ?_
        refine x_geta (pc := 2) fl_X7_34 dX7_readsItem_2 (tb_106) rfl ?_
        refine x_Vi (pc := 5) ks_X7_244 dX7_readsItem_5 (tb_106) rfl rfl (hW) rfl rfl rfl (Nat.le_of_ble_eq_true rfl) ?_
        refine x_istore_n1 (pc := 8) dX7_readsItem_8 rfl ?_
        refine x_iload_n (pc := 9) dX7_readsItem_9 rfl rfl ?_
        refine x_if_lt (pc := 10) dX7_readsItem_10 (tgt := 19) rfl (fun h10 => ?_) (fun h10 => ?_)
        ·
          refine x_aload_n (pc := 19) dX7_readsItem_19 rfl rfl ?_
          refine x_aload_n (pc := 20) dX7_readsItem_20 rfl rfl ?_
          refine x_geta (pc := 21) fl_X7_41 dX7_readsItem_21 (tb_106) rfl ?_
          refine x_Vi (pc := 24) ks_X7_244 dX7_readsItem_24 (tb_106) rfl rfl (hW2) rfl rfl rfl (Nat.le_of_ble_eq_true rfl) ?_
          refine x_istore_n2 (pc := 27) dX7_readsItem_27 rfl ?_
          refine x_iload_n (pc := 28) dX7_readsItem_28 rfl rfl ?_
          refine x_if_ne (pc := 29) dX7_readsItem_29 (tgt := 37) rfl (fun h29 => ?_) (fun h29 => ?_)
          ·
            refine x_iload_n (pc := 37) dX7_readsItem_37 rfl rfl ?_
            refine x_if_ge (pc := 38) dX7_readsItem_38 (tgt := 43) rfl (fun h38 => ?_) (fun h38 => ?_)
            ·
              exact absurd h38 (by decide)
            ·
              refine x_iconst (pc := 41) (v := 0) dX7_readsItem_41 rfl ?_
              refine x_iret (pc := 42) dX7_readsItem_42 rfl (by first | rfl | exact fv_nz _) ?_
              exact ⟨rfl, σ, rfl, fun q => q.elim (fun q => absurd q.1 h7) (fun q => q.elim (fun q => absurd q.1 h10w) (fun q => absurd q.1 h14))⟩
          ·
            exact absurd h29 (by decide)
        ·
          exact absurd (by decide) h10
