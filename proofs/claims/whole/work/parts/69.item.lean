abbrev pIo (b : Nat → Nat) (L nb nm j : Nat) : Prop := (pWi b L (pTS b L j) < 7 ∧ pBdo b L nb j) ∨ (pWi b L (pTS b L j) = 10 ∧ pMmo b L nb nm j) ∨ (pWi b L (pTS b L j) = 14 ∧ pNum b L (pAd b L j) 999)
def pIj (b : Nat → Nat) (L nb nm j : Nat) : Nat := if pWi b L (pTS b L j) < 7 then pBdj b L nb j else if pWi b L (pTS b L j) = 10 then pMmj b L nb nm j else if pWi b L (pTS b L j) = 14 then pNj b L 999 (pAd b L j) else j
def pIst (b : Nat → Nat) (L nb nm j : Nat) (σ : Nat → Int32) : Nat → Int32 := if pWi b L (pTS b L j) < 7 then pBds b L nb (pWi b L (pTS b L j)) j σ else if pWi b L (pTS b L j) = 10 then pMms b L nb nm j σ else pLs1 b L (pAd b L j) σ
theorem pRes.to {M M' : fv_M} {j j2 : Nat} {ok ok2 : Prop} {σ σ2 : Nat → Int32} (h : pRes M j ok σ M') (hj : j = j2) (ho : ok2 → ok) (hs : σ = σ2) : pRes M j2 ok2 σ2 M' := by
  subst hj; subst hs
  obtain ⟨τ, e, z⟩ := h
  exact ⟨τ, e, fun q => z (ho q)⟩
theorem hX5_readItem {E : fv_E} {d L j nb nm : Nat} {b : Nat → Nat} {M : fv_M} {σ : Nat → Int32} (hT : pTJ b L M) (hj : j ≤ pTn b L) (hB : σ 1 = nI nb) (hb : nb ≤ 8) (hM : σ 2 = nI nm) (hm : nm ≤ 8) : fv_P E (d + 8) mX5_readItem [.ref 88, .ref (aSt 1)] (pMS M σ j) (some (.int (bI (pIo b L nb nm j)))) (pRes M (pIj b L nb nm j) (pIo b L nb nm j) (pIst b L nb nm j σ)) := by
  have h13 : (1 : Nat) < 3 := by decide
  have hK := hX5_kindHere (E := E) (d := d + 2) (hT.at (σ := σ) hj)
  have hj1 := pAd_le hj
  unfold pIj pIst
  by_cases h7 : pWi b L (pTS b L j) < 7
  · rw [if_pos h7] at hK
    rw [if_pos h7, if_pos h7]
    have e : pBdo b L nb j ↔ pIo b L nb nm j := ⟨fun q => .inl ⟨h7, q⟩, fun q => q.elim (fun q => q.2) (fun q => q.elim (fun q => absurd q.1 (by omega)) (fun q => absurd q.1 (by omega)))⟩
    have h := (hX5_readBird (E := E) (d := d) (κ := pWi b L (pTS b L j)) hT hj hB hb).v (bI_congr e)
    refine fv_P.of (ls := [some (.ref 88), some (.ref (aSt 1)), none]) (by decide) (Nat.le_of_ble_eq_true rfl) rfl ?_
    refine x_aload_n (pc := 0) dX5_readItem_0 rfl rfl ?_
    refine x_Vi (pc := 1) ks_X5_75 dX5_readItem_1 (tb_88) rfl rfl (hK) rfl rfl rfl (Nat.le_of_ble_eq_true rfl) ?_
    refine x_istore_n2 (pc := 4) dX5_readItem_4 rfl ?_
    refine x_iload_n (pc := 5) dX5_readItem_5 rfl rfl ?_
    refine x_if_lt (pc := 6) dX5_readItem_6 (tgt := 16) rfl (fun h6 => ?_) (fun h6 => ?_)
    ·
      exact absurd h6 (fun z => absurd (nI_pos' (n := pWi b L (pTS b L j)) (by omega)) (Int32.not_le.mpr z))
    ·
      refine x_aload_n (pc := 9) dX5_readItem_9 rfl rfl ?_
      refine x_aload_n (pc := 10) dX5_readItem_10 rfl rfl ?_
      refine x_iload_n (pc := 11) dX5_readItem_11 rfl rfl ?_
      refine x_Vip (pc := 12) ks_X5_78 dX5_readItem_12 (tb_88) rfl rfl (h) rfl rfl rfl (Nat.le_of_ble_eq_true rfl) (fun M2 h2 => ?_)
      refine x_iret (pc := 15) dX5_readItem_15 rfl (by first | rfl | exact fv_nz _) ?_
      exact ⟨rfl, h2.to rfl e.mpr rfl⟩
  · rw [if_neg h7] at hK
    rw [if_neg h7, if_neg h7]
    have hI10 := hX5_isWord (E := E) (d := d + 3) (k := 10) (hT.at (σ := σ) hj) (by decide)
    by_cases h10 : pWi b L (pTS b L j) = 10
    · rw [if_pos h10, if_pos h10]
      have e : pMmo b L nb nm j ↔ pIo b L nb nm j := ⟨fun q => .inr (.inl ⟨h10, q⟩), fun q => q.elim (fun q => absurd q.1 h7) (fun q => q.elim (fun q => q.2) (fun q => absurd q.1 (by omega)))⟩
      have h := (hX5_readMotion (E := E) (d := d) hT hj hB hb hM hm).v (bI_congr e)
      refine fv_P.of (ls := [some (.ref 88), some (.ref (aSt 1)), none]) (by decide) (Nat.le_of_ble_eq_true rfl) rfl ?_
      refine x_aload_n (pc := 0) dX5_readItem_0 rfl rfl ?_
      refine x_Vi (pc := 1) ks_X5_75 dX5_readItem_1 (tb_88) rfl rfl (hK) rfl rfl rfl (Nat.le_of_ble_eq_true rfl) ?_
      refine x_istore_n2 (pc := 4) dX5_readItem_4 rfl ?_
      refine x_iload_n (pc := 5) dX5_readItem_5 rfl rfl ?_
      refine x_if_lt (pc := 6) dX5_readItem_6 (tgt := 16) rfl (fun h6 => ?_) (fun h6 => ?_)
      ·
        refine x_aload_n (pc := 16) dX5_readItem_16 rfl rfl ?_
        refine x_ldcs (pc := 17) (k := 10) dX5_readItem_17 (by decide) rfl rfl ?_
        refine x_Vi (pc := 19) ks_X5_65 dX5_readItem_19 (tb_88) rfl rfl (hI10) rfl rfl rfl (Nat.le_of_ble_eq_true rfl) ?_
        refine x_ifb_eq (pc := 22) dX5_readItem_22 (tgt := 31) rfl (fun h22 => ?_) (fun h22 => ?_)
        ·
          exact absurd h10 h22
        ·
          refine x_aload_n (pc := 25) dX5_readItem_25 rfl rfl ?_
          refine x_aload_n (pc := 26) dX5_readItem_26 rfl rfl ?_
          refine x_Vip (pc := 27) ks_X5_84 dX5_readItem_27 (tb_88) rfl rfl (h) rfl rfl rfl (Nat.le_of_ble_eq_true rfl) (fun M2 h2 => ?_)
          refine x_iret (pc := 30) dX5_readItem_30 rfl (by first | rfl | exact fv_nz _) ?_
          exact ⟨rfl, h2.to rfl e.mpr rfl⟩
      ·
        exact absurd (by decide) h6
    · rw [if_neg h10, if_neg h10]
      have hW14 := hA_tW (E := E) (d := d + 2) (k := 14) (σ := σ) hT hj (by decide)
      by_cases h14 : pWi b L (pTS b L j) = 14
      · rw [show pWk b L 14 j = pAd b L j from if_pos h14] at hW14
        rw [if_pos h14]
        have e : pNum b L (pAd b L j) 999 ↔ pIo b L nb nm j := ⟨fun q => .inr (.inr ⟨h14, q⟩), fun q => q.elim (fun q => absurd q.1 h7) (fun q => q.elim (fun q => absurd q.1 h10) (fun q => q.2))⟩
        have h := hX5_readSeason (E := E) (d := d + 5) (σ := σ) hT hj1
        rw [← bI_congr e]
        refine fv_P.of (ls := [some (.ref 88), some (.ref (aSt 1)), none]) (by decide) (Nat.le_of_ble_eq_true rfl) rfl ?_
        refine x_aload_n (pc := 0) dX5_readItem_0 rfl rfl ?_
        refine x_Vi (pc := 1) ks_X5_75 dX5_readItem_1 (tb_88) rfl rfl (hK) rfl rfl rfl (Nat.le_of_ble_eq_true rfl) ?_
        refine x_istore_n2 (pc := 4) dX5_readItem_4 rfl ?_
        refine x_iload_n (pc := 5) dX5_readItem_5 rfl rfl ?_
        refine x_if_lt (pc := 6) dX5_readItem_6 (tgt := 16) rfl (fun h6 => ?_) (fun h6 => ?_)
        ·
          refine x_aload_n (pc := 16) dX5_readItem_16 rfl rfl ?_
          refine x_ldcs (pc := 17) (k := 10) dX5_readItem_17 (by decide) rfl rfl ?_
          refine x_Vi (pc := 19) ks_X5_65 dX5_readItem_19 (tb_88) rfl rfl (hI10) rfl rfl rfl (Nat.le_of_ble_eq_true rfl) ?_
          refine x_ifb_eq (pc := 22) dX5_readItem_22 (tgt := 31) rfl (fun h22 => ?_) (fun h22 => ?_)
          ·
            refine x_aload_n (pc := 31) dX5_readItem_31 rfl rfl ?_
            refine x_ldcs (pc := 32) (k := 14) dX5_readItem_32 (by decide) rfl rfl ?_
            refine x_Vi (pc := 34) ks_X5_89 dX5_readItem_34 (tb_88) rfl rfl (hW14) rfl rfl rfl (Nat.le_of_ble_eq_true rfl) ?_
            refine x_ifb_eq (pc := 37) dX5_readItem_37 (tgt := 52) rfl (fun h37 => ?_) (fun h37 => ?_)
            ·
              exact absurd h14 h37
            ·
              refine x_aload_n (pc := 40) dX5_readItem_40 rfl rfl ?_
              refine x_aload_n (pc := 41) dX5_readItem_41 rfl rfl ?_
              refine x_Vi (pc := 42) ks_X5_92 dX5_readItem_42 (tb_88) rfl rfl (h) rfl rfl rfl (Nat.le_of_ble_eq_true rfl) ?_
              refine x_ifb_eq (pc := 45) dX5_readItem_45 (tgt := 52) rfl (fun h45 => ?_) (fun h45 => ?_)
              ·
                rw [bI_f h45]
                refine x_iconst (pc := 52) (v := 0) dX5_readItem_52 rfl ?_
                refine x_iret (pc := 53) dX5_readItem_53 rfl (by first | rfl | exact fv_nz _) ?_
                exact ⟨rfl, _, rfl, fun _ => rfl⟩
              ·
                rw [bI_t h45]
                refine x_iconst (pc := 48) (v := 1) dX5_readItem_48 rfl ?_
                refine x_goto (pc := 49) dX5_readItem_49 (tgt := 53) rfl ?_
                refine x_iret (pc := 53) dX5_readItem_53 rfl (by first | rfl | exact fv_nz _) ?_
                exact ⟨rfl, _, rfl, fun _ => rfl⟩
          ·
            exact absurd h22 h10
        ·
          exact absurd (by decide) h6
      · rw [show pWk b L 14 j = j from if_neg h14] at hW14
        rw [if_neg h14, bI_f (p := pIo b L nb nm j) (fun q => q.elim (fun q => h7 q.1) (fun q => q.elim (fun q => h10 q.1) (fun q => h14 q.1)))]
        refine fv_P.of (ls := [some (.ref 88), some (.ref (aSt 1)), none]) (by decide) (Nat.le_of_ble_eq_true rfl) rfl ?_
        refine x_aload_n (pc := 0) dX5_readItem_0 rfl rfl ?_
        refine x_Vi (pc := 1) ks_X5_75 dX5_readItem_1 (tb_88) rfl rfl (hK) rfl rfl rfl (Nat.le_of_ble_eq_true rfl) ?_
        refine x_istore_n2 (pc := 4) dX5_readItem_4 rfl ?_
        refine x_iload_n (pc := 5) dX5_readItem_5 rfl rfl ?_
        refine x_if_lt (pc := 6) dX5_readItem_6 (tgt := 16) rfl (fun h6 => ?_) (fun h6 => ?_)
        ·
          refine x_aload_n (pc := 16) dX5_readItem_16 rfl rfl ?_
          refine x_ldcs (pc := 17) (k := 10) dX5_readItem_17 (by decide) rfl rfl ?_
          refine x_Vi (pc := 19) ks_X5_65 dX5_readItem_19 (tb_88) rfl rfl (hI10) rfl rfl rfl (Nat.le_of_ble_eq_true rfl) ?_
          refine x_ifb_eq (pc := 22) dX5_readItem_22 (tgt := 31) rfl (fun h22 => ?_) (fun h22 => ?_)
          ·
            refine x_aload_n (pc := 31) dX5_readItem_31 rfl rfl ?_
            refine x_ldcs (pc := 32) (k := 14) dX5_readItem_32 (by decide) rfl rfl ?_
            refine x_Vi (pc := 34) ks_X5_89 dX5_readItem_34 (tb_88) rfl rfl (hW14) rfl rfl rfl (Nat.le_of_ble_eq_true rfl) ?_
            refine x_ifb_eq (pc := 37) dX5_readItem_37 (tgt := 52) rfl (fun h37 => ?_) (fun h37 => ?_)
            ·
              refine x_iconst (pc := 52) (v := 0) dX5_readItem_52 rfl ?_
              refine x_iret (pc := 53) dX5_readItem_53 rfl (by first | rfl | exact fv_nz _) ?_
              exact ⟨rfl, σ, rfl, fun q => q.elim (fun q => absurd q.1 h7) (fun q => q.elim (fun q => absurd q.1 h10) (fun q => absurd q.1 h14))⟩
            ·
              exact absurd h37 h14
          ·
            exact absurd h22 h10
        ·
          exact absurd (by decide) h6
