theorem pYt_2 {b : Nat → Nat} {L s : Nat} : pYt b L s = 2 ↔ pTo b L s = 2 ∧ pVm b L s ≤ 999 := by
  unfold pYt
  by_cases h : pTo b L s = 2
  · rw [if_pos h]
    by_cases h2 : 999 < pVm b L s
    · rw [if_pos h2]; omega
    · rw [if_neg h2]; omega
  · rw [if_neg h]; omega
theorem pYt_3 {b : Nat → Nat} {L s : Nat} : pYt b L s = 3 ↔ pTo b L s = 3 := by
  unfold pYt
  by_cases h : pTo b L s = 2
  · rw [if_pos h]
    by_cases h2 : 999 < pVm b L s
    · rw [if_pos h2]; omega
    · rw [if_neg h2]; omega
  · rw [if_neg h]; omega
theorem pYt_0 {b : Nat → Nat} {L s : Nat} : pYt b L s = 0 ↔ pTo b L s = 0 := by
  unfold pYt
  by_cases h : pTo b L s = 2
  · rw [if_pos h]
    by_cases h2 : 999 < pVm b L s
    · rw [if_pos h2]; omega
    · rw [if_neg h2]; omega
  · rw [if_neg h]; omega
theorem pYt_4 {b : Nat → Nat} {L s : Nat} (h : pTo b L s = 2) (h2 : ¬ pYt b L s = 2) : pYt b L s = 4 := by
  unfold pYt at *
  rw [if_pos h] at *
  by_cases q : 999 < pVm b L s
  · rw [if_pos q]
  · rw [if_neg q] at h2; exact absurd rfl h2
theorem pN_val {b : Nat → Nat} {L s : Nat} {M : fv_M} {σ : Nat → Int32} : fv_comb (pN b L M σ s 21 16) (pN b L M σ s 21 (16 + 1)) = lN (pYv b L s) := pQ_val
abbrev pNp (b : Nat → Nat) (L : Nat) (M : fv_M) (σ : Nat → Int32) (j : Nat) : fv_M := pN b L M σ (pTS b L j)
theorem pNp_22 {b : Nat → Nat} {L j : Nat} {M : fv_M} {σ : Nat → Int32} : pNp b L M σ j 22 = σ := rfl
section RM
variable {E : fv_E} {d L j most : Nat} {b : Nat → Nat} {M : fv_M} {σ τ : Nat → Int32}
theorem hP_next (H : pHm b L M) : fv_F E (d + 2) mX7_nextToken [.ref 106] (pNp b L M σ j) none (pNp b L M σ (pAd b L j)) := (hN_next H (pTS_le j)).m (by show _ = pN b L M σ (pTS b L (pAd b L j)); rw [pAd_S]; rfl)
theorem hP_tN (H : pHm b L M) (hm : most ≤ 999) : fv_F E (d + 3) mX7_takesNumber [.ref 106, .int 0, .int (nI most)] (pNp b L M σ j) (some (.int (pNu b L most j))) (pNp b L M σ (pNj b L most j)) := by
  have hnx := hP_next (E := E) (d := d) (σ := σ) (j := j) H
  have hvm := pVm_n (b := b) (L := L) (s := pTS b L j)
  have hy2 := pYt_2 (b := b) (L := L) (s := pTS b L j)
  have hyl := pYt_le (b := b) (L := L) (s := pTS b L j)
  have hyv : pTo b L (pTS b L j) = 2 → pYv b L (pTS b L j) = pVm b L (pTS b L j) := fun h => by unfold pYv; rw [h]; rfl
  have q2 : nI (pYt b L (pTS b L j)) = 2 ↔ pYt b L (pTS b L j) = 2 := nI_eq (b := 2) (by omega) (by decide)
  unfold pNu pNj
  by_cases hp : pNum b L j most
  · rw [if_pos hp, if_pos hp]
    obtain ⟨p1, p2⟩ := hp
    have e1 : pYv b L (pTS b L j) = pVn b L (pTS b L j) := by rw [hyv p1]; omega
    have e2 := hy2.mpr ⟨p1, by omega⟩
    refine fv_F.of (ls := [some (.ref 106), some (.int 0), some (.int (nI most)), none]) (by decide) (Nat.le_of_ble_eq_true rfl) rfl ?_
    refine x_aload_n (pc := 0) dX7_takesNumber_0 rfl rfl ?_
    refine x_geti (pc := 1) fl_X7_222 dX7_takesNumber_1 (tb_106) rfl (show _ = nI (pYt b L (pTS b L j)) from rfl) ?_
    refine x_iconst (pc := 4) (v := 2) dX7_takesNumber_4 rfl ?_
    refine x_icmp_ne (pc := 5) dX7_takesNumber_5 (tgt := 29) rfl (fun h5 => ?_) (fun h5 => ?_)
    ·
      exact absurd (q2.mpr e2) h5
    ·
      refine x_aload_n (pc := 8) dX7_takesNumber_8 rfl rfl ?_
      refine x_getl (pc := 9) fl_X7_218 dX7_takesNumber_9 (tb_106) rfl ?_
      rw [pN_val, e1]
      refine x_l2i (pc := 12) dX7_takesNumber_12 ?_
      rw [lN_i]
      refine x_iload_n (pc := 13) dX7_takesNumber_13 rfl rfl ?_
      refine x_iload_n (pc := 14) dX7_takesNumber_14 rfl rfl ?_
      refine x_Si (pc := 15) ks_X7_60 dX7_takesNumber_15 (hX7_in1) rfl rfl rfl (Nat.le_of_ble_eq_true rfl) ?_
      refine x_ifb_eq (pc := 18) dX7_takesNumber_18 (tgt := 29) rfl (fun h18 => ?_) (fun h18 => ?_)
      ·
        exact absurd ⟨nI_pos' (by omega), nI_le p2 (by omega)⟩ h18
      ·
        refine x_aload_n (pc := 21) dX7_takesNumber_21 rfl rfl ?_
        refine x_getl (pc := 22) fl_X7_218 dX7_takesNumber_22 (tb_106) rfl ?_
        rw [pN_val, e1]
        refine x_l2i (pc := 25) dX7_takesNumber_25 ?_
        rw [lN_i]
        refine x_goto (pc := 26) dX7_takesNumber_26 (tgt := 30) rfl ?_
        refine x_istore_n3 (pc := 30) dX7_takesNumber_30 rfl ?_
        refine x_iload_n (pc := 31) dX7_takesNumber_31 rfl rfl ?_
        refine x_if_lt (pc := 32) dX7_takesNumber_32 (tgt := 39) rfl (fun h32 => ?_) (fun h32 => ?_)
        ·
          exact absurd h32 (nI_pos (by omega))
        ·
          refine x_aload_n (pc := 35) dX7_takesNumber_35 rfl rfl ?_
          refine x_Vv (pc := 36) ks_X7_241 dX7_takesNumber_36 (tb_106) rfl rfl (hnx) rfl rfl rfl (Nat.le_of_ble_eq_true rfl) ?_
          refine x_iload_n (pc := 39) dX7_takesNumber_39 rfl rfl ?_
          refine x_iret (pc := 40) dX7_takesNumber_40 rfl (by first | rfl | exact fv_nz _) ?_
          exact ⟨rfl, rfl⟩
  · rw [if_neg hp, if_neg hp]
    refine fv_F.of (ls := [some (.ref 106), some (.int 0), some (.int (nI most)), none]) (by decide) (Nat.le_of_ble_eq_true rfl) rfl ?_
    refine x_aload_n (pc := 0) dX7_takesNumber_0 rfl rfl ?_
    refine x_geti (pc := 1) fl_X7_222 dX7_takesNumber_1 (tb_106) rfl (show _ = nI (pYt b L (pTS b L j)) from rfl) ?_
    refine x_iconst (pc := 4) (v := 2) dX7_takesNumber_4 rfl ?_
    refine x_icmp_ne (pc := 5) dX7_takesNumber_5 (tgt := 29) rfl (fun h5 => ?_) (fun h5 => ?_)
    ·
      refine x_iconst (pc := 29) (v := (-1)) dX7_takesNumber_29 fv_m1 ?_
      refine x_istore_n3 (pc := 30) dX7_takesNumber_30 rfl ?_
      refine x_iload_n (pc := 31) dX7_takesNumber_31 rfl rfl ?_
      refine x_if_lt (pc := 32) dX7_takesNumber_32 (tgt := 39) rfl (fun h32 => ?_) (fun h32 => ?_)
      ·
        refine x_iload_n (pc := 39) dX7_takesNumber_39 rfl rfl ?_
        refine x_iret (pc := 40) dX7_takesNumber_40 rfl (by first | rfl | exact fv_nz _) ?_
        exact ⟨rfl, rfl⟩
      ·
        exact absurd (by decide) h32
    ·
      obtain ⟨z1, z2⟩ := hy2.mp (q2.mp h5); have hgt : ¬ pVn b L (pTS b L j) ≤ most := fun z => hp ⟨z1, z⟩; have e1 : pYv b L (pTS b L j) = pVn b L (pTS b L j) := by rw [hyv z1]; omega
      refine x_aload_n (pc := 8) dX7_takesNumber_8 rfl rfl ?_
      refine x_getl (pc := 9) fl_X7_218 dX7_takesNumber_9 (tb_106) rfl ?_
      rw [pN_val, e1]
      refine x_l2i (pc := 12) dX7_takesNumber_12 ?_
      rw [lN_i]
      refine x_iload_n (pc := 13) dX7_takesNumber_13 rfl rfl ?_
      refine x_iload_n (pc := 14) dX7_takesNumber_14 rfl rfl ?_
      refine x_Si (pc := 15) ks_X7_60 dX7_takesNumber_15 (hX7_in1) rfl rfl rfl (Nat.le_of_ble_eq_true rfl) ?_
      refine x_ifb_eq (pc := 18) dX7_takesNumber_18 (tgt := 29) rfl (fun h18 => ?_) (fun h18 => ?_)
      ·
        refine x_iconst (pc := 29) (v := (-1)) dX7_takesNumber_29 fv_m1 ?_
        refine x_istore_n3 (pc := 30) dX7_takesNumber_30 rfl ?_
        refine x_iload_n (pc := 31) dX7_takesNumber_31 rfl rfl ?_
        refine x_if_lt (pc := 32) dX7_takesNumber_32 (tgt := 39) rfl (fun h32 => ?_) (fun h32 => ?_)
        ·
          refine x_iload_n (pc := 39) dX7_takesNumber_39 rfl rfl ?_
          refine x_iret (pc := 40) dX7_takesNumber_40 rfl (by first | rfl | exact fv_nz _) ?_
          exact ⟨rfl, rfl⟩
        ·
          exact absurd (by decide) h32
      ·
        exact absurd ((nI_leI (by omega) (by omega)).mp h18.2) hgt
end RM
/-- what the model's reader leaves -/
def pResN (b : Nat → Nat) (L : Nat) (M : fv_M) (j : Nat) (ok : Prop) (σ : Nat → Int32) (M' : fv_M) : Prop := ∃ τ, M' = pNp b L M τ j ∧ (ok → τ = σ)
theorem hX7_rb1 {E : fv_E} {d L j nb : Nat} {x : Int32} {b : Nat → Nat} {M : fv_M} {σ : Nat → Int32} {Φ : Option Value → fv_M → Prop} (H : pHm b L M) (hn : nb < 8) (hk : pBo b L 8 99 j → fv_X E mX7_readsBird (d + 4) Φ 97 [some (.ref 106), some (.int x), some (.int (nI nb)), some (.int (nI 2)), none] [] (pNp b L M (pBst b L 8 99 (fB nb 1) j σ) (pBj b L 8 99 j))) (hf : ¬ pBo b L 8 99 j → Φ (some (.int 0)) (pNp b L M σ (pBj b L 8 99 j))) : fv_X E mX7_readsBird (d + 4) Φ 97 [some (.ref 106), some (.int x), some (.int (nI nb)), some (.int (nI 1)), none] [] (pNp b L M σ j) := by
  have hW := hN_w1 (E := E) (d := d + 3) (M := M) (σ := σ) (s := pTS b L j) H
  have hV := hP_next (E := E) (d := d + 1) (σ := σ) (j := j) H
  have hN := hP_tN (E := E) (d := d) (most := 99) (σ := σ) (j := pAd b L j) H (by decide)
  have hfw : (1 : Int32) + nI 1 - 1 = nI 1 := by decide +kernel
  by_cases hw : pWi b L (pTS b L j) = 8
  · rw [if_pos (show 7 ≤ pWi b L (pTS b L j) ∧ pWi b L (pTS b L j) < 10 by omega), show pWi b L (pTS b L j) - 7 = 1 by omega] at hW
    rw [show pBj b L 8 99 j = pNj b L 99 (pAd b L j) from if_pos hw] at hk hf
    by_cases hp : pNum b L (pAd b L j) 99
    · have K := hk (.inr hp)
      rw [show pBst b L 8 99 (fB nb 1) j σ = fv_u σ (fB nb 1) (nI (pVn b L (pTS b L (pAd b L j)))) from if_pos ⟨hw, hp⟩] at K
      rw [pNu_n hp] at hN
      have hP := (hX7_puts (E := E) (d := d + 3) (k := nb) (f := 1) (v := nI (pVn b L (pTS b L (pAd b L j)))) (M := pNp b L M σ (pNj b L 99 (pAd b L j))) hn (by decide)).m pN_w
      rw [pNp_22] at hP
      refine x_iload_n (pc := 97) dX7_readsBird_97 rfl rfl ?_
      refine x_iconst (pc := 98) (v := 3) dX7_readsBird_98 rfl ?_
      refine x_icmp_ge (pc := 99) dX7_readsBird_99 (tgt := 162) rfl (fun h99 => ?_) (fun h99 => ?_)
      ·
        exact absurd h99 (by decide)
      ·
        refine x_aload_n (pc := 102) dX7_readsBird_102 rfl rfl ?_
        refine x_aload_n (pc := 103) dX7_readsBird_103 rfl rfl ?_
        refine x_geta (pc := 104) fl_X7_38 dX7_readsBird_104 (tb_106) rfl ?_
        refine x_Vi (pc := 107) ks_X7_244 dX7_readsBird_107 (tb_106) rfl rfl (hW) rfl rfl rfl (Nat.le_of_ble_eq_true rfl) ?_
        refine x_iload_n (pc := 110) dX7_readsBird_110 rfl rfl ?_
        refine x_icmp_ne (pc := 111) dX7_readsBird_111 (tgt := 156) rfl (fun h111 => ?_) (fun h111 => ?_)
        ·
          exact absurd rfl h111
        ·
          refine x_aload_n (pc := 114) dX7_readsBird_114 rfl rfl ?_
          refine x_Vv (pc := 115) ks_X7_241 dX7_readsBird_115 (tb_106) rfl rfl (hV) rfl rfl rfl (Nat.le_of_ble_eq_true rfl) ?_
          refine x_aload_n (pc := 118) dX7_readsBird_118 rfl rfl ?_
          refine x_iconst (pc := 119) (v := 0) dX7_readsBird_119 rfl ?_
          refine x_iload_n (pc := 120) dX7_readsBird_120 rfl rfl ?_
          refine x_iconst (pc := 121) (v := 1) dX7_readsBird_121 rfl ?_
          refine x_icmp_ne (pc := 122) dX7_readsBird_122 (tgt := 130) rfl (fun h122 => ?_) (fun h122 => ?_)
          ·
            exact absurd rfl h122
          ·
            refine x_bipush (pc := 125) (v := 99) dX7_readsBird_125 rfl ?_
            refine x_goto (pc := 127) dX7_readsBird_127 (tgt := 132) rfl ?_
            refine x_Vi (pc := 132) ks_X7_248 dX7_readsBird_132 (tb_106) rfl rfl (hN) rfl rfl rfl (Nat.le_of_ble_eq_true rfl) ?_
            refine x_istore4 (pc := 135) dX7_readsBird_135 rfl ?_
            refine x_iload (pc := 137) dX7_readsBird_137 rfl ?_
            refine x_if_ge (pc := 139) dX7_readsBird_139 (tgt := 144) rfl (fun h139 => ?_) (fun h139 => ?_)
            ·
              refine x_aload_n (pc := 144) dX7_readsBird_144 rfl rfl ?_
              refine x_iload_n (pc := 145) dX7_readsBird_145 rfl rfl ?_
              refine x_iconst (pc := 146) (v := 1) dX7_readsBird_146 rfl ?_
              refine x_iload_n (pc := 147) dX7_readsBird_147 rfl rfl ?_
              refine x_iadd (pc := 148) dX7_readsBird_148 ?_
              refine x_iconst (pc := 149) (v := 1) dX7_readsBird_149 rfl ?_
              refine x_isub (pc := 150) dX7_readsBird_150 ?_
              rw [hfw]
              refine x_iload (pc := 151) dX7_readsBird_151 rfl ?_
              refine x_Vv (pc := 153) ks_X7_100 dX7_readsBird_153 (tb_106) rfl rfl (hP) rfl rfl rfl (Nat.le_of_ble_eq_true rfl) ?_
              refine x_iinc3 (pc := 156) dX7_readsBird_156 (by first | exact fv_inc _ | exact fv_dec _ | rfl) rfl ?_
              refine x_goto (pc := 159) dX7_readsBird_159 (tgt := 97) rfl ?_
              exact x_fg4 K
            ·
              exact absurd (nI_pos' (by have := hp.2; omega)) h139
    · have K := hf (fun z => z.elim (fun z => z hw) hp)
      rw [pNu_f hp] at hN
      refine x_iload_n (pc := 97) dX7_readsBird_97 rfl rfl ?_
      refine x_iconst (pc := 98) (v := 3) dX7_readsBird_98 rfl ?_
      refine x_icmp_ge (pc := 99) dX7_readsBird_99 (tgt := 162) rfl (fun h99 => ?_) (fun h99 => ?_)
      ·
        exact absurd h99 (by decide)
      ·
        refine x_aload_n (pc := 102) dX7_readsBird_102 rfl rfl ?_
        refine x_aload_n (pc := 103) dX7_readsBird_103 rfl rfl ?_
        refine x_geta (pc := 104) fl_X7_38 dX7_readsBird_104 (tb_106) rfl ?_
        refine x_Vi (pc := 107) ks_X7_244 dX7_readsBird_107 (tb_106) rfl rfl (hW) rfl rfl rfl (Nat.le_of_ble_eq_true rfl) ?_
        refine x_iload_n (pc := 110) dX7_readsBird_110 rfl rfl ?_
        refine x_icmp_ne (pc := 111) dX7_readsBird_111 (tgt := 156) rfl (fun h111 => ?_) (fun h111 => ?_)
        ·
          exact absurd rfl h111
        ·
          refine x_aload_n (pc := 114) dX7_readsBird_114 rfl rfl ?_
          refine x_Vv (pc := 115) ks_X7_241 dX7_readsBird_115 (tb_106) rfl rfl (hV) rfl rfl rfl (Nat.le_of_ble_eq_true rfl) ?_
          refine x_aload_n (pc := 118) dX7_readsBird_118 rfl rfl ?_
          refine x_iconst (pc := 119) (v := 0) dX7_readsBird_119 rfl ?_
          refine x_iload_n (pc := 120) dX7_readsBird_120 rfl rfl ?_
          refine x_iconst (pc := 121) (v := 1) dX7_readsBird_121 rfl ?_
          refine x_icmp_ne (pc := 122) dX7_readsBird_122 (tgt := 130) rfl (fun h122 => ?_) (fun h122 => ?_)
          ·
            exact absurd rfl h122
          ·
            refine x_bipush (pc := 125) (v := 99) dX7_readsBird_125 rfl ?_
            refine x_goto (pc := 127) dX7_readsBird_127 (tgt := 132) rfl ?_
            refine x_Vi (pc := 132) ks_X7_248 dX7_readsBird_132 (tb_106) rfl rfl (hN) rfl rfl rfl (Nat.le_of_ble_eq_true rfl) ?_
            refine x_istore4 (pc := 135) dX7_readsBird_135 rfl ?_
            refine x_iload (pc := 137) dX7_readsBird_137 rfl ?_
            refine x_if_ge (pc := 139) dX7_readsBird_139 (tgt := 144) rfl (fun h139 => ?_) (fun h139 => ?_)
            ·
              exact absurd h139 (by decide)
            ·
              refine x_iconst (pc := 142) (v := 0) dX7_readsBird_142 rfl ?_
              refine x_iret (pc := 143) dX7_readsBird_143 rfl (by first | rfl | exact fv_nz _) ?_
              exact K
  · have hne : ¬ (if 7 ≤ pWi b L (pTS b L j) ∧ pWi b L (pTS b L j) < 10 then nI (pWi b L (pTS b L j) - 7) else -1) = nI 1 := by
      by_cases z : 7 ≤ pWi b L (pTS b L j) ∧ pWi b L (pTS b L j) < 10
      · rw [if_pos z]; exact fun q => absurd ((nI_eq (by omega) (by decide)).mp q) (by omega)
      · rw [if_neg z]; decide
    have K := hk (.inl hw)
    rw [show pBj b L 8 99 j = j from if_neg hw, show pBst b L 8 99 (fB nb 1) j σ = σ from if_neg (fun z => hw z.1)] at K
    refine x_iload_n (pc := 97) dX7_readsBird_97 rfl rfl ?_
    refine x_iconst (pc := 98) (v := 3) dX7_readsBird_98 rfl ?_
    refine x_icmp_ge (pc := 99) dX7_readsBird_99 (tgt := 162) rfl (fun h99 => ?_) (fun h99 => ?_)
    ·
      exact absurd h99 (by decide)
    ·
      refine x_aload_n (pc := 102) dX7_readsBird_102 rfl rfl ?_
      refine x_aload_n (pc := 103) dX7_readsBird_103 rfl rfl ?_
      refine x_geta (pc := 104) fl_X7_38 dX7_readsBird_104 (tb_106) rfl ?_
      refine x_Vi (pc := 107) ks_X7_244 dX7_readsBird_107 (tb_106) rfl rfl (hW) rfl rfl rfl (Nat.le_of_ble_eq_true rfl) ?_
      refine x_iload_n (pc := 110) dX7_readsBird_110 rfl rfl ?_
      refine x_icmp_ne (pc := 111) dX7_readsBird_111 (tgt := 156) rfl (fun h111 => ?_) (fun h111 => ?_)
      ·
        refine x_iinc3 (pc := 156) dX7_readsBird_156 (by first | exact fv_inc _ | exact fv_dec _ | rfl) rfl ?_
        refine x_goto (pc := 159) dX7_readsBird_159 (tgt := 97) rfl ?_
        exact K
      ·
        exact absurd h111 hne
theorem hX7_rb2 {E : fv_E} {d L j nb : Nat} {x : Int32} {b : Nat → Nat} {M : fv_M} {σ : Nat → Int32} {Φ : Option Value → fv_M → Prop} (H : pHm b L M) (hn : nb < 8) (hk : pBo b L 9 9 j → fv_X E mX7_readsBird (d + 4) Φ 97 [some (.ref 106), some (.int x), some (.int (nI nb)), some (.int (nI 3)), none] [] (pNp b L M (pBst b L 9 9 (fB nb 2) j σ) (pBj b L 9 9 j))) (hf : ¬ pBo b L 9 9 j → Φ (some (.int 0)) (pNp b L M σ (pBj b L 9 9 j))) : fv_X E mX7_readsBird (d + 4) Φ 97 [some (.ref 106), some (.int x), some (.int (nI nb)), some (.int (nI 2)), none] [] (pNp b L M σ j) := by
  have hW := hN_w1 (E := E) (d := d + 3) (M := M) (σ := σ) (s := pTS b L j) H
  have hV := hP_next (E := E) (d := d + 1) (σ := σ) (j := j) H
  have hN := hP_tN (E := E) (d := d) (most := 9) (σ := σ) (j := pAd b L j) H (by decide)
  have hfw : (1 : Int32) + nI 2 - 1 = nI 2 := by decide +kernel
  by_cases hw : pWi b L (pTS b L j) = 9
  · rw [if_pos (show 7 ≤ pWi b L (pTS b L j) ∧ pWi b L (pTS b L j) < 10 by omega), show pWi b L (pTS b L j) - 7 = 2 by omega] at hW
    rw [show pBj b L 9 9 j = pNj b L 9 (pAd b L j) from if_pos hw] at hk hf
    by_cases hp : pNum b L (pAd b L j) 9
    · have K := hk (.inr hp)
      rw [show pBst b L 9 9 (fB nb 2) j σ = fv_u σ (fB nb 2) (nI (pVn b L (pTS b L (pAd b L j)))) from if_pos ⟨hw, hp⟩] at K
      rw [pNu_n hp] at hN
      have hP := (hX7_puts (E := E) (d := d + 3) (k := nb) (f := 2) (v := nI (pVn b L (pTS b L (pAd b L j)))) (M := pNp b L M σ (pNj b L 9 (pAd b L j))) hn (by decide)).m pN_w
      rw [pNp_22] at hP
      refine x_iload_n (pc := 97) dX7_readsBird_97 rfl rfl ?_
      refine x_iconst (pc := 98) (v := 3) dX7_readsBird_98 rfl ?_
      refine x_icmp_ge (pc := 99) dX7_readsBird_99 (tgt := 162) rfl (fun h99 => ?_) (fun h99 => ?_)
      ·
        exact absurd h99 (by decide)
      ·
        refine x_aload_n (pc := 102) dX7_readsBird_102 rfl rfl ?_
        refine x_aload_n (pc := 103) dX7_readsBird_103 rfl rfl ?_
        refine x_geta (pc := 104) fl_X7_38 dX7_readsBird_104 (tb_106) rfl ?_
        refine x_Vi (pc := 107) ks_X7_244 dX7_readsBird_107 (tb_106) rfl rfl (hW) rfl rfl rfl (Nat.le_of_ble_eq_true rfl) ?_
        refine x_iload_n (pc := 110) dX7_readsBird_110 rfl rfl ?_
        refine x_icmp_ne (pc := 111) dX7_readsBird_111 (tgt := 156) rfl (fun h111 => ?_) (fun h111 => ?_)
        ·
          exact absurd rfl h111
        ·
          refine x_aload_n (pc := 114) dX7_readsBird_114 rfl rfl ?_
          refine x_Vv (pc := 115) ks_X7_241 dX7_readsBird_115 (tb_106) rfl rfl (hV) rfl rfl rfl (Nat.le_of_ble_eq_true rfl) ?_
          refine x_aload_n (pc := 118) dX7_readsBird_118 rfl rfl ?_
          refine x_iconst (pc := 119) (v := 0) dX7_readsBird_119 rfl ?_
          refine x_iload_n (pc := 120) dX7_readsBird_120 rfl rfl ?_
          refine x_iconst (pc := 121) (v := 1) dX7_readsBird_121 rfl ?_
          refine x_icmp_ne (pc := 122) dX7_readsBird_122 (tgt := 130) rfl (fun h122 => ?_) (fun h122 => ?_)
          ·
            refine x_bipush (pc := 130) (v := 9) dX7_readsBird_130 rfl ?_
            refine x_Vi (pc := 132) ks_X7_248 dX7_readsBird_132 (tb_106) rfl rfl (hN) rfl rfl rfl (Nat.le_of_ble_eq_true rfl) ?_
            refine x_istore4 (pc := 135) dX7_readsBird_135 rfl ?_
            refine x_iload (pc := 137) dX7_readsBird_137 rfl ?_
            refine x_if_ge (pc := 139) dX7_readsBird_139 (tgt := 144) rfl (fun h139 => ?_) (fun h139 => ?_)
            ·
              refine x_aload_n (pc := 144) dX7_readsBird_144 rfl rfl ?_
              refine x_iload_n (pc := 145) dX7_readsBird_145 rfl rfl ?_
              refine x_iconst (pc := 146) (v := 1) dX7_readsBird_146 rfl ?_
              refine x_iload_n (pc := 147) dX7_readsBird_147 rfl rfl ?_
              refine x_iadd (pc := 148) dX7_readsBird_148 ?_
              refine x_iconst (pc := 149) (v := 1) dX7_readsBird_149 rfl ?_
              refine x_isub (pc := 150) dX7_readsBird_150 ?_
              rw [hfw]
              refine x_iload (pc := 151) dX7_readsBird_151 rfl ?_
              refine x_Vv (pc := 153) ks_X7_100 dX7_readsBird_153 (tb_106) rfl rfl (hP) rfl rfl rfl (Nat.le_of_ble_eq_true rfl) ?_
              refine x_iinc3 (pc := 156) dX7_readsBird_156 (by first | exact fv_inc _ | exact fv_dec _ | rfl) rfl ?_
              refine x_goto (pc := 159) dX7_readsBird_159 (tgt := 97) rfl ?_
              exact x_fg4 K
            ·
              exact absurd (nI_pos' (by have := hp.2; omega)) h139
          ·
            exact absurd h122 (by decide)
    · have K := hf (fun z => z.elim (fun z => z hw) hp)
      rw [pNu_f hp] at hN
      refine x_iload_n (pc := 97) dX7_readsBird_97 rfl rfl ?_
      refine x_iconst (pc := 98) (v := 3) dX7_readsBird_98 rfl ?_
      refine x_icmp_ge (pc := 99) dX7_readsBird_99 (tgt := 162) rfl (fun h99 => ?_) (fun h99 => ?_)
      ·
        exact absurd h99 (by decide)
      ·
        refine x_aload_n (pc := 102) dX7_readsBird_102 rfl rfl ?_
        refine x_aload_n (pc := 103) dX7_readsBird_103 rfl rfl ?_
        refine x_geta (pc := 104) fl_X7_38 dX7_readsBird_104 (tb_106) rfl ?_
        refine x_Vi (pc := 107) ks_X7_244 dX7_readsBird_107 (tb_106) rfl rfl (hW) rfl rfl rfl (Nat.le_of_ble_eq_true rfl) ?_
        refine x_iload_n (pc := 110) dX7_readsBird_110 rfl rfl ?_
        refine x_icmp_ne (pc := 111) dX7_readsBird_111 (tgt := 156) rfl (fun h111 => ?_) (fun h111 => ?_)
        ·
          exact absurd rfl h111
        ·
          refine x_aload_n (pc := 114) dX7_readsBird_114 rfl rfl ?_
          refine x_Vv (pc := 115) ks_X7_241 dX7_readsBird_115 (tb_106) rfl rfl (hV) rfl rfl rfl (Nat.le_of_ble_eq_true rfl) ?_
          refine x_aload_n (pc := 118) dX7_readsBird_118 rfl rfl ?_
          refine x_iconst (pc := 119) (v := 0) dX7_readsBird_119 rfl ?_
          refine x_iload_n (pc := 120) dX7_readsBird_120 rfl rfl ?_
          refine x_iconst (pc := 121) (v := 1) dX7_readsBird_121 rfl ?_
          refine x_icmp_ne (pc := 122) dX7_readsBird_122 (tgt := 130) rfl (fun h122 => ?_) (fun h122 => ?_)
          ·
            refine x_bipush (pc := 130) (v := 9) dX7_readsBird_130 rfl ?_
            refine x_Vi (pc := 132) ks_X7_248 dX7_readsBird_132 (tb_106) rfl rfl (hN) rfl rfl rfl (Nat.le_of_ble_eq_true rfl) ?_
            refine x_istore4 (pc := 135) dX7_readsBird_135 rfl ?_
            refine x_iload (pc := 137) dX7_readsBird_137 rfl ?_
            refine x_if_ge (pc := 139) dX7_readsBird_139 (tgt := 144) rfl (fun h139 => ?_) (fun h139 => ?_)
            ·
              exact absurd h139 (by decide)
            ·
              refine x_iconst (pc := 142) (v := 0) dX7_readsBird_142 rfl ?_
              refine x_iret (pc := 143) dX7_readsBird_143 rfl (by first | rfl | exact fv_nz _) ?_
              exact K
          ·
            exact absurd h122 (by decide)
  · have hne : ¬ (if 7 ≤ pWi b L (pTS b L j) ∧ pWi b L (pTS b L j) < 10 then nI (pWi b L (pTS b L j) - 7) else -1) = nI 2 := by
      by_cases z : 7 ≤ pWi b L (pTS b L j) ∧ pWi b L (pTS b L j) < 10
      · rw [if_pos z]; exact fun q => absurd ((nI_eq (by omega) (by decide)).mp q) (by omega)
      · rw [if_neg z]; decide
    have K := hk (.inl hw)
    rw [show pBj b L 9 9 j = j from if_neg hw, show pBst b L 9 9 (fB nb 2) j σ = σ from if_neg (fun z => hw z.1)] at K
    refine x_iload_n (pc := 97) dX7_readsBird_97 rfl rfl ?_
    refine x_iconst (pc := 98) (v := 3) dX7_readsBird_98 rfl ?_
    refine x_icmp_ge (pc := 99) dX7_readsBird_99 (tgt := 162) rfl (fun h99 => ?_) (fun h99 => ?_)
    ·
      exact absurd h99 (by decide)
    ·
      refine x_aload_n (pc := 102) dX7_readsBird_102 rfl rfl ?_
      refine x_aload_n (pc := 103) dX7_readsBird_103 rfl rfl ?_
      refine x_geta (pc := 104) fl_X7_38 dX7_readsBird_104 (tb_106) rfl ?_
      refine x_Vi (pc := 107) ks_X7_244 dX7_readsBird_107 (tb_106) rfl rfl (hW) rfl rfl rfl (Nat.le_of_ble_eq_true rfl) ?_
      refine x_iload_n (pc := 110) dX7_readsBird_110 rfl rfl ?_
      refine x_icmp_ne (pc := 111) dX7_readsBird_111 (tgt := 156) rfl (fun h111 => ?_) (fun h111 => ?_)
      ·
        refine x_iinc3 (pc := 156) dX7_readsBird_156 (by first | exact fv_inc _ | exact fv_dec _ | rfl) rfl ?_
        refine x_goto (pc := 159) dX7_readsBird_159 (tgt := 97) rfl ?_
        exact K
      ·
        exact absurd h111 hne
/-- feathers, the model's way -/
abbrev pGm (b : Nat → Nat) (L j : Nat) : Prop := pGn b L j = 4 ∨ (pGn b L j ≠ 0 ∧ pYt b L (pTS b L (pAi b L j (pGn b L j))) ≠ 2)
theorem hX7_rbF {E : fv_E} {d L J nb : Nat} {x : Int32} {b : Nat → Nat} {M : fv_M} {σ1 : Nat → Int32} {Φ : Option Value → fv_M → Prop} (H : pHm b L M) (hn : nb < 8) (Hg : pGm b L J → fv_X E mX7_readsBird (d + 4) Φ 95 [some (.ref 106), some (.int x), some (.int (nI nb)), none, none] [] (pNp b L M (pGs b L nb J σ1 (pGn b L J)) (pAi b L J (pGn b L J)))) (Hb : ¬ pGm b L J → Φ (some (.int 0)) (pNp b L M (pGs b L nb J σ1 (pGn b L J)) (pAi b L J (pGn b L J)))) : fv_X E mX7_readsBird (d + 4) Φ 46 [some (.ref 106), some (.int x), some (.int (nI nb)), some (.int 0), none] [] (pNp b L M σ1 J) := by
  obtain ⟨w1, w2, w3⟩ := wT_all (fun c => decide (pNum b L (pAi b L J c) 99)) 4
  have w2' : ∀ c, c < pGn b L J → pNum b L (pAi b L J c) 99 := fun c hc => of_decide_eq_true (w2 c hc)
  have w3' : pGn b L J < 4 → ¬ pNum b L (pAi b L J (pGn b L J)) 99 := fun hc => of_decide_eq_false (w3 hc)
  have w1' : pGn b L J ≤ 4 := w1
  clear w1 w2 w3
  unfold pGm at Hg Hb
  generalize pGn b L J = n at *
  refine x_loop (fun c => [some (.ref 106), some (.int x), some (.int (nI nb)), some (.int (nI c)), none]) (fun c => pNp b L M (pGs b L nb J σ1 c) (pAi b L J c)) n rfl rfl (fun c hc hL3 => ?_) ?_
  · show fv_X E mX7_readsBird _ _ 46 [some (.ref 106), some (.int x), some (.int (nI nb)), some (.int (nI c)), none] [] (pNp b L M (pGs b L nb J σ1 c) (pAi b L J c))
    replace hL3 : fv_X E mX7_readsBird _ _ 46 [some (.ref 106), some (.int x), some (.int (nI nb)), some (.int (nI (c + 1))), none] [] (pNp b L M (fv_u (pGs b L nb J σ1 c) (fB nb (3 + c)) (nI (pVn b L (pTS b L (pAi b L J c))))) (pAd b L (pAi b L J c))) := hL3
    have hp := w2' c hc
    have hNN := hP_tN (E := E) (d := d) (most := 99) (σ := pGs b L nb J σ1 c) (j := pAi b L J c) H (by decide)
    rw [pNu_n hp, show pNj b L 99 (pAi b L J c) = pAd b L (pAi b L J c) from if_pos hp] at hNN
    have hvm := pVm_n (b := b) (L := L) (s := pTS b L (pAi b L J c))
    have hy2 := pYt_2.mpr ⟨hp.1, (by have := hp.2; omega : pVm b L (pTS b L (pAi b L J c)) ≤ 999)⟩
    have hyn : pNp b L M (pGs b L nb J σ1 c) (pAi b L J c) 21 13 = 2 := congrArg nI hy2
    have h3c : (3 : Int32) + nI c = nI (3 + c) := nI_add 3 c
    have hP := (hX7_puts (E := E) (d := d + 3) (k := nb) (f := 3 + c) (v := nI (pVn b L (pTS b L (pAi b L J c)))) (M := pNp b L M (pGs b L nb J σ1 c) (pAd b L (pAi b L J c))) hn (by omega)).m pN_w
    rw [pNp_22] at hP
    refine x_iload_n (pc := 46) dX7_readsBird_46 rfl rfl ?_
    refine x_if_eq (pc := 47) dX7_readsBird_47 (tgt := 63) rfl (fun h47 => ?_) (fun h47 => ?_)
    ·
      refine x_aload_n (pc := 63) dX7_readsBird_63 rfl rfl ?_
      refine x_iconst (pc := 64) (v := 0) dX7_readsBird_64 rfl ?_
      refine x_bipush (pc := 65) (v := 99) dX7_readsBird_65 rfl ?_
      refine x_Vi (pc := 67) ks_X7_248 dX7_readsBird_67 (tb_106) rfl rfl (hNN) rfl rfl rfl (Nat.le_of_ble_eq_true rfl) ?_
      refine x_istore4 (pc := 70) dX7_readsBird_70 rfl ?_
      refine x_iload (pc := 72) dX7_readsBird_72 rfl ?_
      refine x_if_ge (pc := 74) dX7_readsBird_74 (tgt := 79) rfl (fun h74 => ?_) (fun h74 => ?_)
      ·
        refine x_aload_n (pc := 79) dX7_readsBird_79 rfl rfl ?_
        refine x_iload_n (pc := 80) dX7_readsBird_80 rfl rfl ?_
        refine x_iconst (pc := 81) (v := 3) dX7_readsBird_81 rfl ?_
        refine x_iload_n (pc := 82) dX7_readsBird_82 rfl rfl ?_
        refine x_iadd (pc := 83) dX7_readsBird_83 ?_
        rw [h3c]
        refine x_iload (pc := 84) dX7_readsBird_84 rfl ?_
        refine x_Vv (pc := 86) ks_X7_100 dX7_readsBird_86 (tb_106) rfl rfl (hP) rfl rfl rfl (Nat.le_of_ble_eq_true rfl) ?_
        refine x_iinc3 (pc := 89) dX7_readsBird_89 (by first | exact fv_inc _ | exact fv_dec _ | rfl) rfl ?_
        refine x_goto (pc := 92) dX7_readsBird_92 (tgt := 46) rfl ?_
        exact x_fg4 hL3
      ·
        exact absurd (nI_pos' (by have := hp.2; omega)) h74
    ·
      refine x_iload_n (pc := 50) dX7_readsBird_50 rfl rfl ?_
      refine x_iconst (pc := 51) (v := 4) dX7_readsBird_51 rfl ?_
      refine x_icmp_ge (pc := 52) dX7_readsBird_52 (tgt := 95) rfl (fun h52 => ?_) (fun h52 => ?_)
      ·
        exact absurd h52 (nI_ge (b := 4) (by omega) (by decide))
      ·
        refine x_aload_n (pc := 55) dX7_readsBird_55 rfl rfl ?_
        refine x_geti (pc := 56) fl_X7_222 dX7_readsBird_56 (tb_106) rfl (hyn) ?_
        refine x_iconst (pc := 59) (v := 2) dX7_readsBird_59 rfl ?_
        refine x_icmp_ne (pc := 60) dX7_readsBird_60 (tgt := 95) rfl (fun h60 => ?_) (fun h60 => ?_)
        ·
          exact absurd rfl h60
        ·
          refine x_aload_n (pc := 63) dX7_readsBird_63 rfl rfl ?_
          refine x_iconst (pc := 64) (v := 0) dX7_readsBird_64 rfl ?_
          refine x_bipush (pc := 65) (v := 99) dX7_readsBird_65 rfl ?_
          refine x_Vi (pc := 67) ks_X7_248 dX7_readsBird_67 (tb_106) rfl rfl (hNN) rfl rfl rfl (Nat.le_of_ble_eq_true rfl) ?_
          refine x_istore4 (pc := 70) dX7_readsBird_70 rfl ?_
          refine x_iload (pc := 72) dX7_readsBird_72 rfl ?_
          refine x_if_ge (pc := 74) dX7_readsBird_74 (tgt := 79) rfl (fun h74 => ?_) (fun h74 => ?_)
          ·
            refine x_aload_n (pc := 79) dX7_readsBird_79 rfl rfl ?_
            refine x_iload_n (pc := 80) dX7_readsBird_80 rfl rfl ?_
            refine x_iconst (pc := 81) (v := 3) dX7_readsBird_81 rfl ?_
            refine x_iload_n (pc := 82) dX7_readsBird_82 rfl rfl ?_
            refine x_iadd (pc := 83) dX7_readsBird_83 ?_
            rw [h3c]
            refine x_iload (pc := 84) dX7_readsBird_84 rfl ?_
            refine x_Vv (pc := 86) ks_X7_100 dX7_readsBird_86 (tb_106) rfl rfl (hP) rfl rfl rfl (Nat.le_of_ble_eq_true rfl) ?_
            refine x_iinc3 (pc := 89) dX7_readsBird_89 (by first | exact fv_inc _ | exact fv_dec _ | rfl) rfl ?_
            refine x_goto (pc := 92) dX7_readsBird_92 (tgt := 46) rfl ?_
            exact x_fg4 hL3
          ·
            exact absurd (nI_pos' (by have := hp.2; omega)) h74
  · show fv_X E mX7_readsBird _ _ 46 [some (.ref 106), some (.int x), some (.int (nI nb)), some (.int (nI n)), none] [] (pNp b L M (pGs b L nb J σ1 n) (pAi b L J n))
    have q0 : nI n = 0 ↔ n = 0 := nI_eq (b := 0) (by omega) (by decide)
    by_cases h4 : n = 4
    · have K := Hg (.inl h4)
      have hx4 : (4 : Int32) ≤ nI n := by rw [h4]; exact Int32.le_refl _
      refine x_iload_n (pc := 46) dX7_readsBird_46 rfl rfl ?_
      refine x_if_eq (pc := 47) dX7_readsBird_47 (tgt := 63) rfl (fun h47 => ?_) (fun h47 => ?_)
      ·
        exact absurd (q0.mp h47) (by omega)
      ·
        refine x_iload_n (pc := 50) dX7_readsBird_50 rfl rfl ?_
        refine x_iconst (pc := 51) (v := 4) dX7_readsBird_51 rfl ?_
        refine x_icmp_ge (pc := 52) dX7_readsBird_52 (tgt := 95) rfl (fun h52 => ?_) (fun h52 => ?_)
        ·
          exact x_fg3 K
        ·
          exact absurd hx4 h52
    · have hnp := w3' (by omega)
      have hNN := hP_tN (E := E) (d := d) (most := 99) (σ := pGs b L nb J σ1 n) (j := pAi b L J n) H (by decide)
      rw [pNu_f hnp, show pNj b L 99 (pAi b L J n) = pAi b L J n from if_neg hnp] at hNN
      have hyn : pNp b L M (pGs b L nb J σ1 n) (pAi b L J n) 21 13 = nI (pYt b L (pTS b L (pAi b L J n))) := rfl
      have hyl := pYt_le (b := b) (L := L) (s := pTS b L (pAi b L J n))
      have q2 : nI (pYt b L (pTS b L (pAi b L J n))) = 2 ↔ pYt b L (pTS b L (pAi b L J n)) = 2 := nI_eq (b := 2) (by omega) (by decide)
      refine x_iload_n (pc := 46) dX7_readsBird_46 rfl rfl ?_
      refine x_if_eq (pc := 47) dX7_readsBird_47 (tgt := 63) rfl (fun h47 => ?_) (fun h47 => ?_)
      ·
        have hbad : ¬ (n = 4 ∨ (n ≠ 0 ∧ pYt b L (pTS b L (pAi b L J n)) ≠ 2)) := fun z => z.elim h4 (fun z => z.1 (q0.mp h47))
        refine x_aload_n (pc := 63) dX7_readsBird_63 rfl rfl ?_
        refine x_iconst (pc := 64) (v := 0) dX7_readsBird_64 rfl ?_
        refine x_bipush (pc := 65) (v := 99) dX7_readsBird_65 rfl ?_
        refine x_Vi (pc := 67) ks_X7_248 dX7_readsBird_67 (tb_106) rfl rfl (hNN) rfl rfl rfl (Nat.le_of_ble_eq_true rfl) ?_
        refine x_istore4 (pc := 70) dX7_readsBird_70 rfl ?_
        refine x_iload (pc := 72) dX7_readsBird_72 rfl ?_
        refine x_if_ge (pc := 74) dX7_readsBird_74 (tgt := 79) rfl (fun h74 => ?_) (fun h74 => ?_)
        ·
          exact absurd h74 (by decide)
        ·
          refine x_iconst (pc := 77) (v := 0) dX7_readsBird_77 rfl ?_
          refine x_iret (pc := 78) dX7_readsBird_78 rfl (by first | rfl | exact fv_nz _) ?_
          exact Hb hbad
      ·
        refine x_iload_n (pc := 50) dX7_readsBird_50 rfl rfl ?_
        refine x_iconst (pc := 51) (v := 4) dX7_readsBird_51 rfl ?_
        refine x_icmp_ge (pc := 52) dX7_readsBird_52 (tgt := 95) rfl (fun h52 => ?_) (fun h52 => ?_)
        ·
          exact absurd h52 (nI_ge (b := 4) (by omega) (by decide))
        ·
          refine x_aload_n (pc := 55) dX7_readsBird_55 rfl rfl ?_
          refine x_geti (pc := 56) fl_X7_222 dX7_readsBird_56 (tb_106) rfl (hyn) ?_
          refine x_iconst (pc := 59) (v := 2) dX7_readsBird_59 rfl ?_
          refine x_icmp_ne (pc := 60) dX7_readsBird_60 (tgt := 95) rfl (fun h60 => ?_) (fun h60 => ?_)
          ·
            have K := Hg (.inr ⟨fun z => h47 (q0.mpr z), fun z => h60 (q2.mpr z)⟩)
            exact x_fg3 K
          ·
            have hbad : ¬ (n = 4 ∨ (n ≠ 0 ∧ pYt b L (pTS b L (pAi b L J n)) ≠ 2)) := fun z => z.elim h4 (fun z => z.2 (q2.mp h60))
            refine x_aload_n (pc := 63) dX7_readsBird_63 rfl rfl ?_
            refine x_iconst (pc := 64) (v := 0) dX7_readsBird_64 rfl ?_
            refine x_bipush (pc := 65) (v := 99) dX7_readsBird_65 rfl ?_
            refine x_Vi (pc := 67) ks_X7_248 dX7_readsBird_67 (tb_106) rfl rfl (hNN) rfl rfl rfl (Nat.le_of_ble_eq_true rfl) ?_
            refine x_istore4 (pc := 70) dX7_readsBird_70 rfl ?_
            refine x_iload (pc := 72) dX7_readsBird_72 rfl ?_
            refine x_if_ge (pc := 74) dX7_readsBird_74 (tgt := 79) rfl (fun h74 => ?_) (fun h74 => ?_)
            ·
              exact absurd h74 (by decide)
            ·
              refine x_iconst (pc := 77) (v := 0) dX7_readsBird_77 rfl ?_
              refine x_iret (pc := 78) dX7_readsBird_78 rfl (by first | rfl | exact fv_nz _) ?_
              exact Hb hbad
abbrev pRm (b : Nat → Nat) (L j : Nat) : Prop := ¬ pWi b L (pTS b L j) = 7 ∨ pGm b L (pAd b L j)
theorem pRm_of {b : Nat → Nat} {L j : Nat} (h : pRo b L j) : pRm b L j := h.elim .inl (fun h => .inr (h.elim .inl (fun h => .inr ⟨h.1, fun z => h.2 (pYt_2.mp z).1⟩)))
theorem pRm_no {b : Nat → Nat} {L j : Nat} (h : pRm b L j) (h2 : ¬ pRo b L j) : pTo b L (pTS b L (pRj b L j)) = 2 ∧ pYt b L (pTS b L (pRj b L j)) = 4 := by
  have hw : pWi b L (pTS b L j) = 7 := Decidable.not_not.mp (fun z => h2 (.inl z))
  have hg : ¬ pGo b L (pAd b L j) := fun z => h2 (.inr z)
  have hm : pGm b L (pAd b L j) := h.elim (fun z => absurd hw z) id
  rw [show pRj b L j = pAi b L (pAd b L j) (pGn b L (pAd b L j)) from if_pos hw]
  rcases hm with hm | ⟨m1, m2⟩
  · exact absurd (.inl hm) hg
  · have h2' : pTo b L (pTS b L (pAi b L (pAd b L j) (pGn b L (pAd b L j)))) = 2 := Decidable.not_not.mp (fun z => hg (.inr ⟨m1, z⟩))
    exact ⟨h2', pYt_4 h2' m2⟩
theorem pBj_2 {b : Nat → Nat} {L k most j : Nat} (hk : k < 15) (h : pTo b L (pTS b L j) = 2) : pBo b L k most j ∧ pBj b L k most j = j := by
  have hw : ¬ pWi b L (pTS b L j) = k := by rw [pWi_15 (by omega)]; omega
  exact ⟨.inl hw, if_neg hw⟩
abbrev pBmo (b : Nat → Nat) (L nb j : Nat) : Prop := nb < 8 ∧ pRm b L (pAd b L j) ∧ pBo b L 8 99 (pB2 b L j) ∧ pBo b L 9 9 (pB3 b L j)
section PBM
variable {b : Nat → Nat} {L nb j : Nat}
theorem pB_no (h : pRm b L (pAd b L j)) (h2 : ¬ pRo b L (pAd b L j)) : pYt b L (pTS b L (pB2 b L j)) = 4 ∧ pBo b L 8 99 (pB2 b L j) ∧ pB3 b L j = pB2 b L j ∧ pBo b L 9 9 (pB3 b L j) ∧ pB4 b L j = pB2 b L j := by
  obtain ⟨a1, a2⟩ := pRm_no h h2
  obtain ⟨c1, c2⟩ := pBj_2 (k := 8) (most := 99) (j := pB2 b L j) (by decide) a1
  have e3 : pB3 b L j = pB2 b L j := c2
  obtain ⟨c3, c4⟩ := pBj_2 (k := 9) (most := 9) (j := pB3 b L j) (by decide) (by rw [e3]; exact a1)
  exact ⟨a2, c1, e3, c3, (show pB4 b L j = pB3 b L j from c4).trans e3⟩
theorem pBdj4 (hn : nb < 8) (h : pRm b L (pAd b L j)) (h8 : pBo b L 8 99 (pB2 b L j)) : pBdj b L nb j = pB4 b L j := by
  unfold pBdj
  rw [if_pos hn]
  by_cases h2 : pRo b L (pAd b L j)
  · rw [if_pos h2, if_pos h8]
  · rw [if_neg h2]; exact (pB_no h h2).2.2.2.2.symm
theorem pBdj3 (hn : nb < 8) (h : pRm b L (pAd b L j)) (h8 : ¬ pBo b L 8 99 (pB2 b L j)) : pBdj b L nb j = pB3 b L j := by
  unfold pBdj
  rw [if_pos hn]
  by_cases h2 : pRo b L (pAd b L j)
  · rw [if_pos h2, if_neg h8]
  · exact absurd (pB_no h h2).2.1 h8
theorem pBdj2 (hn : nb < 8) (h : ¬ pRm b L (pAd b L j)) : pBdj b L nb j = pB2 b L j := by
  unfold pBdj
  rw [if_pos hn, if_neg (fun z => h (pRm_of z))]
end PBM
theorem hX7_readsBird {E : fv_E} {d L j κ nb : Nat} {b : Nat → Nat} {M : fv_M} {σ : Nat → Int32} (H : pHm b L M) (hB : σ 1 = nI nb) (hb : nb ≤ 8) : fv_P E (d + 4) mX7_readsBird [.ref 106, .int (nI κ)] (pNp b L M σ j) (some (.int (bI (pBmo b L nb j)))) (pResN b L M (pBdj b L nb j) (pBdo b L nb j) (pBds b L nb κ j σ)) := by
  by_cases hn : nb < 8
  · have q8 : nI nb = 8 ↔ nb = 8 := nI_eq (b := 8) (by omega) (by decide)
    have hA := (hX7_addsBird (E := E) (d := d + 2) (k := nI κ) (M := pNp b L M σ j) hB hn).m pN_w
    rw [pNp_22] at hA
    have hV := hP_next (E := E) (d := d + 1) (σ := pAddB σ nb (nI κ)) (j := j) H
    have hW := hN_w1 (E := E) (d := d + 3) (M := M) (σ := pAddB σ nb (nI κ)) (s := pTS b L (pAd b L j)) H
    have hV2 := hP_next (E := E) (d := d + 1) (σ := pAddB σ nb (nI κ)) (j := pAd b L j) H
    have hWl := pWi_le (b := b) (L := L) (s := pTS b L (pAd b L j))
    have H95 : ∀ σ2 j2, σ2 = pRs b L nb (pAd b L j) (pAddB σ nb (nI κ)) → j2 = pB2 b L j → pRm b L (pAd b L j) → fv_X E mX7_readsBird (d + 4) (fun r' M' => r' = some (.int (bI (pBmo b L nb j))) ∧ pResN b L M (pBdj b L nb j) (pBdo b L nb j) (pBds b L nb κ j σ) M') 95 [some (.ref 106), some (.int (nI κ)), some (.int (nI nb)), none, none] [] (pNp b L M σ2 j2) := fun σ2 j2 eσ ej hRm => by
      subst eσ
      subst ej
      refine x_iconst (pc := 95) (v := 1) dX7_readsBird_95 rfl ?_
      refine x_istore_n3 (pc := 96) dX7_readsBird_96 rfl ?_
      refine hX7_rb1 H hn (fun h8 => hX7_rb2 H hn (fun h9 => ?_) (fun h9 => ?_)) (fun h8 => ?_)
      · skip
        refine x_iload_n (pc := 97) dX7_readsBird_97 rfl rfl ?_
        refine x_iconst (pc := 98) (v := 3) dX7_readsBird_98 rfl ?_
        refine x_icmp_ge (pc := 99) dX7_readsBird_99 (tgt := 162) rfl (fun h99 => ?_) (fun h99 => ?_)
        ·
          refine x_iconst (pc := 162) (v := 1) dX7_readsBird_162 rfl ?_
          refine x_iret (pc := 163) dX7_readsBird_163 rfl (by first | rfl | exact fv_nz _) ?_
          exact ⟨by rw [bI_t ⟨hn, hRm, h8, h9⟩], _, by rw [pBdj4 hn hRm h8]; rfl, fun _ => rfl⟩
        ·
          exact absurd (by decide) h99
      · exact ⟨by rw [bI_f (fun z => h9 z.2.2.2)], _, by rw [pBdj4 hn hRm h8]; rfl, fun z => absurd z.2.2.2 h9⟩
      · exact ⟨by rw [bI_f (fun z => h8 z.2.2.1)], _, by rw [pBdj3 hn hRm h8]; rfl, fun z => absurd z.2.2.1 h8⟩
    by_cases hw : pWi b L (pTS b L (pAd b L j)) = 7
    · rw [if_pos (show 7 ≤ pWi b L (pTS b L (pAd b L j)) ∧ pWi b L (pTS b L (pAd b L j)) < 10 by omega), show pWi b L (pTS b L (pAd b L j)) - 7 = 0 by omega] at hW
      have H95 := H95 (pGs b L nb (pAd b L (pAd b L j)) (pAddB σ nb (nI κ)) (pGn b L (pAd b L (pAd b L j)))) (pAi b L (pAd b L (pAd b L j)) (pGn b L (pAd b L (pAd b L j)))) (show pRs b L nb (pAd b L j) (pAddB σ nb (nI κ)) = _ from if_pos hw).symm (show pB2 b L j = _ from if_pos hw).symm
      have hno : ¬ pGm b L (pAd b L (pAd b L j)) → pBdj b L nb j = pAi b L (pAd b L (pAd b L j)) (pGn b L (pAd b L (pAd b L j))) ∧ ¬ pRm b L (pAd b L j) := fun hg => by
        have hR : ¬ pRm b L (pAd b L j) := fun z => z.elim (fun z => z hw) hg
        exact ⟨(pBdj2 hn hR).trans (if_pos hw), hR⟩
      have hyes : pGm b L (pAd b L (pAd b L j)) → pRm b L (pAd b L j) := fun hg => .inr hg
      refine fv_P.of (ls := [some (.ref 106), some (.int (nI κ)), none, none, none]) (by decide) (Nat.le_of_ble_eq_true rfl) rfl ?_
      refine x_aload_n (pc := 0) dX7_readsBird_0 rfl rfl ?_
      refine x_geta (pc := 1) fl_X7_9 dX7_readsBird_1 (tb_106) rfl ?_
      refine x_iconst (pc := 4) (v := 1) dX7_readsBird_4 rfl ?_
      refine x_iale (pc := 5) dX7_readsBird_5 (tb_107) ((rfl : (1 : Int32) = nI 1)) (by decide) (by first | decide | assumption) (hB) ?_
      refine x_bipush (pc := 6) (v := 8) dX7_readsBird_6 rfl ?_
      refine x_icmp_ne (pc := 8) dX7_readsBird_8 (tgt := 13) rfl (fun h8 => ?_) (fun h8 => ?_)
      ·
        refine x_aload_n (pc := 13) dX7_readsBird_13 rfl rfl ?_
        refine x_geta (pc := 14) fl_X7_9 dX7_readsBird_14 (tb_106) rfl ?_
        refine x_iconst (pc := 17) (v := 1) dX7_readsBird_17 rfl ?_
        refine x_iale (pc := 18) dX7_readsBird_18 (tb_107) ((rfl : (1 : Int32) = nI 1)) (by decide) (by first | decide | assumption) (hB) ?_
        refine x_istore_n2 (pc := 19) dX7_readsBird_19 rfl ?_
        refine x_aload_n (pc := 20) dX7_readsBird_20 rfl rfl ?_
        refine x_iload_n (pc := 21) dX7_readsBird_21 rfl rfl ?_
        refine x_Vv (pc := 22) ks_X7_117 dX7_readsBird_22 (tb_106) rfl rfl (hA) rfl rfl rfl (Nat.le_of_ble_eq_true rfl) ?_
        refine x_aload_n (pc := 25) dX7_readsBird_25 rfl rfl ?_
        refine x_Vv (pc := 26) ks_X7_241 dX7_readsBird_26 (tb_106) rfl rfl (hV) rfl rfl rfl (Nat.le_of_ble_eq_true rfl) ?_
        refine x_aload_n (pc := 29) dX7_readsBird_29 rfl rfl ?_
        refine x_aload_n (pc := 30) dX7_readsBird_30 rfl rfl ?_
        refine x_geta (pc := 31) fl_X7_38 dX7_readsBird_31 (tb_106) rfl ?_
        refine x_Vi (pc := 34) ks_X7_244 dX7_readsBird_34 (tb_106) rfl rfl (hW) rfl rfl rfl (Nat.le_of_ble_eq_true rfl) ?_
        refine x_if_ne (pc := 37) dX7_readsBird_37 (tgt := 95) rfl (fun h37 => ?_) (fun h37 => ?_)
        ·
          exact absurd rfl h37
        ·
          refine x_aload_n (pc := 40) dX7_readsBird_40 rfl rfl ?_
          refine x_Vv (pc := 41) ks_X7_241 dX7_readsBird_41 (tb_106) rfl rfl (hV2) rfl rfl rfl (Nat.le_of_ble_eq_true rfl) ?_
          refine x_iconst (pc := 44) (v := 0) dX7_readsBird_44 rfl ?_
          refine x_istore_n3 (pc := 45) dX7_readsBird_45 rfl ?_
          exact hX7_rbF H hn (fun hg => H95 (hyes hg)) (fun hg => ⟨by rw [bI_f (fun z => (hno hg).2 z.2.1)], _, by rw [(hno hg).1], fun z => absurd (pRm_of z.2.1) (hno hg).2⟩)
      ·
        exact absurd (q8.mp h8) (by omega)
    · have hW0 : ¬ (if 7 ≤ pWi b L (pTS b L (pAd b L j)) ∧ pWi b L (pTS b L (pAd b L j)) < 10 then nI (pWi b L (pTS b L (pAd b L j)) - 7) else -1) = 0 := by
        by_cases z : 7 ≤ pWi b L (pTS b L (pAd b L j)) ∧ pWi b L (pTS b L (pAd b L j)) < 10
        · rw [if_pos z]; exact fun q => absurd ((nI_eq (b := 0) (by omega) (by decide)).mp q) (by omega)
        · rw [if_neg z]; decide
      have K := H95 (pAddB σ nb (nI κ)) (pAd b L j) (show pRs b L nb (pAd b L j) (pAddB σ nb (nI κ)) = _ from if_neg hw).symm (show pB2 b L j = _ from if_neg hw).symm (.inl hw)
      clear H95
      refine fv_P.of (ls := [some (.ref 106), some (.int (nI κ)), none, none, none]) (by decide) (Nat.le_of_ble_eq_true rfl) rfl ?_
      refine x_aload_n (pc := 0) dX7_readsBird_0 rfl rfl ?_
      refine x_geta (pc := 1) fl_X7_9 dX7_readsBird_1 (tb_106) rfl ?_
      refine x_iconst (pc := 4) (v := 1) dX7_readsBird_4 rfl ?_
      refine x_iale (pc := 5) dX7_readsBird_5 (tb_107) ((rfl : (1 : Int32) = nI 1)) (by decide) (by first | decide | assumption) (hB) ?_
      refine x_bipush (pc := 6) (v := 8) dX7_readsBird_6 rfl ?_
      refine x_icmp_ne (pc := 8) dX7_readsBird_8 (tgt := 13) rfl (fun h8 => ?_) (fun h8 => ?_)
      ·
        refine x_aload_n (pc := 13) dX7_readsBird_13 rfl rfl ?_
        refine x_geta (pc := 14) fl_X7_9 dX7_readsBird_14 (tb_106) rfl ?_
        refine x_iconst (pc := 17) (v := 1) dX7_readsBird_17 rfl ?_
        refine x_iale (pc := 18) dX7_readsBird_18 (tb_107) ((rfl : (1 : Int32) = nI 1)) (by decide) (by first | decide | assumption) (hB) ?_
        refine x_istore_n2 (pc := 19) dX7_readsBird_19 rfl ?_
        refine x_aload_n (pc := 20) dX7_readsBird_20 rfl rfl ?_
        refine x_iload_n (pc := 21) dX7_readsBird_21 rfl rfl ?_
        refine x_Vv (pc := 22) ks_X7_117 dX7_readsBird_22 (tb_106) rfl rfl (hA) rfl rfl rfl (Nat.le_of_ble_eq_true rfl) ?_
        refine x_aload_n (pc := 25) dX7_readsBird_25 rfl rfl ?_
        refine x_Vv (pc := 26) ks_X7_241 dX7_readsBird_26 (tb_106) rfl rfl (hV) rfl rfl rfl (Nat.le_of_ble_eq_true rfl) ?_
        refine x_aload_n (pc := 29) dX7_readsBird_29 rfl rfl ?_
        refine x_aload_n (pc := 30) dX7_readsBird_30 rfl rfl ?_
        refine x_geta (pc := 31) fl_X7_38 dX7_readsBird_31 (tb_106) rfl ?_
        refine x_Vi (pc := 34) ks_X7_244 dX7_readsBird_34 (tb_106) rfl rfl (hW) rfl rfl rfl (Nat.le_of_ble_eq_true rfl) ?_
        refine x_if_ne (pc := 37) dX7_readsBird_37 (tgt := 95) rfl (fun h37 => ?_) (fun h37 => ?_)
        ·
          exact K
        ·
          exact absurd h37 hW0
      ·
        exact absurd (q8.mp h8) (by omega)
  · have e8 : nb = 8 := by omega
    have hB8 : σ 1 = 8 := by rw [hB, e8]; rfl
    rw [bI_f (p := pBmo b L nb j) (fun z => hn z.1), show pBdj b L nb j = j from if_neg hn]
    refine fv_P.of (ls := [some (.ref 106), some (.int (nI κ)), none, none, none]) (by decide) (Nat.le_of_ble_eq_true rfl) rfl ?_
    refine x_aload_n (pc := 0) dX7_readsBird_0 rfl rfl ?_
    refine x_geta (pc := 1) fl_X7_9 dX7_readsBird_1 (tb_106) rfl ?_
    refine x_iconst (pc := 4) (v := 1) dX7_readsBird_4 rfl ?_
    refine x_iale (pc := 5) dX7_readsBird_5 (tb_107) ((rfl : (1 : Int32) = nI 1)) (by decide) (by first | decide | assumption) (hB8) ?_
    refine x_bipush (pc := 6) (v := 8) dX7_readsBird_6 rfl ?_
    refine x_icmp_ne (pc := 8) dX7_readsBird_8 (tgt := 13) rfl (fun h8 => ?_) (fun h8 => ?_)
    ·
      exact absurd rfl h8
    ·
      refine x_iconst (pc := 11) (v := 0) dX7_readsBird_11 rfl ?_
      refine x_iret (pc := 12) dX7_readsBird_12 rfl (by first | rfl | exact fv_nz _) ?_
      exact ⟨rfl, σ, rfl, fun z => absurd z.1 hn⟩
