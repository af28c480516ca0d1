theorem pNv_le {b : Nat → Nat} {s : Nat} : ∀ i, pNv b s i ≤ 1000
  | 0 => by show 0 ≤ 1000; omega
  | i + 1 => by show min 1000 _ ≤ 1000; omega
theorem pMn1 {w : Nat} (h : w < 2 ^ 31) : (if nI w < 1000 then nI w else 1000) = nI (min 1000 w) := by
  have e : nI w < 1000 ↔ w < 1000 := nI_ltI (b := 1000) h (by decide)
  by_cases q : w < 1000
  · rw [if_pos (e.mpr q), show min 1000 w = w by omega]
  · rw [if_neg (fun z => q (e.mp z)), show min 1000 w = 1000 by omega]; rfl
theorem pDig_n {v x : Nat} (hv : v ≤ 1000) (hx : 48 ≤ x) (hx2 : x < 256) : nI v * 10 + nI x - 48 = nI (v * 10 + (x - 48)) := by
  show nI v * nI 10 + nI x - nI 48 = _
  rw [nI_mul' (by omega) (by omega) (by omega), nI_add, nI_sub' (by omega)]
  exact congrArg nI (by omega)
abbrev pNum (b : Nat → Nat) (L j most : Nat) : Prop := pTo b L (pTS b L j) = 2 ∧ pVn b L (pTS b L j) ≤ most
theorem hX5_takeNumber {E : fv_E} {d L j most : Nat} {b : Nat → Nat} {M : fv_M} (h : pTj b L j M) (hm : most ≤ 999) : fv_F E (d + 1) mX5_takeNumber [.ref 88, .int (nI most)] M (some (.int (if pNum b L j most then nI (pVn b L (pTS b L j)) else -1))) (if pNum b L j most then pMj M (pAd b L j) else M) := by
  have hadv := hX5_adv (E := E) (d := d) h
  obtain ⟨⟨i1, i2, i3, i4⟩, hj, hjn, hL, hb⟩ := h
  obtain ⟨v6, v7, v8⟩ := i4 j hjn
  have hn := (pTn_sp b L).1
  have hS := pTS_le (b := b) (L := L) j
  have hE := pTE_le (b := b) hS
  have hto := pTo_le (b := b) (L := L) (s := pTS b L j)
  have hvn : pVn b L (pTS b L j) = pNv b (pTS b L j) (pTE b L (pTS b L j) - pTS b L j) := rfl
  have hdig : pTo b L (pTS b L j) = 2 → ∀ i, i < pTE b L (pTS b L j) - pTS b L j → 48 ≤ b (pTS b L j + i) := fun z i hi => (pSo_2.mp ((pTE_all (pTo_2 z).1 (.inr (pTo_2 z).2) hi).trans (pTo_2 z).2)).1
  unfold pNum
  generalize pVn b L (pTS b L j) = vn at *
  generalize pTo b L (pTS b L j) = to at *
  generalize pTE b L (pTS b L j) = e at *
  generalize pTS b L j = s at *
  have q2 : nI to = 2 ↔ to = 2 := nI_eq (b := 2) (by omega) (by decide)
  have hvl : vn ≤ 1000 := by rw [hvn]; exact pNv_le _
  refine fv_F.of (ls := [some (.ref 88), some (.int (nI most)), none, none]) (by decide) (Nat.le_of_ble_eq_true rfl) rfl ?_
  refine x_aload_n (pc := 0) dX5_takeNumber_0 rfl rfl ?_
  refine x_geta (pc := 1) fl_X5_19 dX5_takeNumber_1 (tb_88) rfl ?_
  refine x_aload_n (pc := 4) dX5_takeNumber_4 rfl rfl ?_
  refine x_geti (pc := 5) fl_X5_31 dX5_takeNumber_5 (tb_88) rfl (hj) ?_
  refine x_iale (pc := 8) dX5_takeNumber_8 (tb_90) (rfl) (by omega) (by first | decide | assumption) (show _ = nI to from by rw [Nat.zero_add]; exact v6) ?_
  refine x_iconst (pc := 9) (v := 2) dX5_takeNumber_9 rfl ?_
  refine x_icmp_eq (pc := 10) dX5_takeNumber_10 (tgt := 15) rfl (fun h10 => ?_) (fun h10 => ?_)
  ·
    have h2 := q2.mp h10
    refine x_iconst (pc := 15) (v := 0) dX5_takeNumber_15 rfl ?_
    refine x_istore_n2 (pc := 16) dX5_takeNumber_16 rfl ?_
    refine x_aload_n (pc := 17) dX5_takeNumber_17 rfl rfl ?_
    refine x_geta (pc := 18) fl_X5_22 dX5_takeNumber_18 (tb_88) rfl ?_
    refine x_aload_n (pc := 21) dX5_takeNumber_21 rfl rfl ?_
    refine x_geti (pc := 22) fl_X5_31 dX5_takeNumber_22 (tb_88) rfl (hj) ?_
    refine x_iale (pc := 25) dX5_takeNumber_25 (tb_91) (rfl) (by omega) (by first | decide | assumption) (show _ = nI s from by rw [Nat.zero_add]; exact v7) ?_
    refine x_istore_n3 (pc := 26) dX5_takeNumber_26 rfl ?_
    refine x_loop (fun i => [some (.ref 88), some (.int (nI most)), some (.int (nI (pNv b s i))), some (.int (nI (s + i)))]) (fun i => M) (e - s) (rfl) (rfl) (fun i hi hn27 => ?_) ?_
    ·
      replace hn27 : fv_X E mX5_takeNumber _ _ 27 ([some (.ref 88), some (.int (nI most)), some (.int (nI (pNv b s (i + 1)))), some (.int (nI (s + (i + 1))))]) ([]) (M) := hn27
      show fv_X E mX5_takeNumber _ _ 27 ([some (.ref 88), some (.int (nI most)), some (.int (nI (pNv b s i))), some (.int (nI (s + i)))]) ([]) (M)
      refine x_iload_n (pc := 27) dX5_takeNumber_27 rfl rfl ?_
      refine x_aload_n (pc := 28) dX5_takeNumber_28 rfl rfl ?_
      refine x_geta (pc := 29) fl_X5_25 dX5_takeNumber_29 (tb_88) rfl ?_
      refine x_aload_n (pc := 32) dX5_takeNumber_32 rfl rfl ?_
      refine x_geti (pc := 33) fl_X5_31 dX5_takeNumber_33 (tb_88) rfl (hj) ?_
      refine x_iale (pc := 36) dX5_takeNumber_36 (tb_92) (rfl) (by omega) (by first | decide | assumption) (show _ = nI e from by rw [Nat.zero_add]; exact v8) ?_
      refine x_icmp_ge (pc := 37) dX5_takeNumber_37 (tgt := 67) rfl (fun h37 => ?_) (fun h37 => ?_)
      ·
        exact absurd h37 (nI_ge (by omega) (by omega))
      ·
        refine x_sipush (pc := 40) (v := 1000) dX5_takeNumber_40 rfl ?_
        refine x_iload_n (pc := 43) dX5_takeNumber_43 rfl rfl ?_
        refine x_bipush (pc := 44) (v := 10) dX5_takeNumber_44 rfl ?_
        refine x_imul (pc := 46) dX5_takeNumber_46 ?_
        refine x_aload_n (pc := 47) dX5_takeNumber_47 rfl rfl ?_
        refine x_geta (pc := 48) fl_X5_15 dX5_takeNumber_48 (tb_88) rfl ?_
        refine x_iload_n (pc := 51) dX5_takeNumber_51 rfl rfl ?_
        refine x_iale (pc := 52) dX5_takeNumber_52 (tb_89) (rfl) (by omega) (by first | decide | assumption) (show _ = nI (b (s + i)) from by rw [Nat.zero_add]; exact i2 _ (by omega)) ?_
        refine x_iadd (pc := 53) dX5_takeNumber_53 ?_
        refine x_bipush (pc := 54) (v := 48) dX5_takeNumber_54 rfl ?_
        refine x_isub (pc := 56) dX5_takeNumber_56 ?_
        rw [pDig_n (pNv_le i) (hdig h2 i (by omega)) (hb _ (by omega))]
        refine x_min (pc := 57) ks_X5_69 dX5_takeNumber_57 rfl (Nat.le_of_ble_eq_true rfl) ?_
        rw [pMn1 (by have := pNv_le (b := b) (s := s) i; have := hb (s + i) (by omega); omega)]
        refine x_istore_n2 (pc := 60) dX5_takeNumber_60 rfl ?_
        refine x_iinc3 (pc := 61) dX5_takeNumber_61 (by first | exact fv_inc _ | exact fv_dec _ | rfl) rfl ?_
        refine x_goto (pc := 64) dX5_takeNumber_64 (tgt := 27) rfl ?_
        exact hn27
    ·
      show fv_X E mX5_takeNumber _ _ 27 ([some (.ref 88), some (.int (nI most)), some (.int (nI (pNv b s (e - s)))), some (.int (nI (s + (e - s))))]) ([]) (M)
      rw [show s + (e - s) = e by omega, ← hvn]
      refine x_iload_n (pc := 27) dX5_takeNumber_27 rfl rfl ?_
      refine x_aload_n (pc := 28) dX5_takeNumber_28 rfl rfl ?_
      refine x_geta (pc := 29) fl_X5_25 dX5_takeNumber_29 (tb_88) rfl ?_
      refine x_aload_n (pc := 32) dX5_takeNumber_32 rfl rfl ?_
      refine x_geti (pc := 33) fl_X5_31 dX5_takeNumber_33 (tb_88) rfl (hj) ?_
      refine x_iale (pc := 36) dX5_takeNumber_36 (tb_92) (rfl) (by omega) (by first | decide | assumption) (show _ = nI e from by rw [Nat.zero_add]; exact v8) ?_
      refine x_icmp_ge (pc := 37) dX5_takeNumber_37 (tgt := 67) rfl (fun h37 => ?_) (fun h37 => ?_)
      ·
        refine x_iload_n (pc := 67) dX5_takeNumber_67 rfl rfl ?_
        refine x_iload_n (pc := 68) dX5_takeNumber_68 rfl rfl ?_
        refine x_icmp_le (pc := 69) dX5_takeNumber_69 (tgt := 74) rfl (fun h69 => ?_) (fun h69 => ?_)
        ·
          have hp : to = 2 ∧ vn ≤ most := ⟨h2, (nI_leI (by omega) (by omega)).mp h69⟩
          rw [if_pos hp, if_pos hp]
          refine x_aload_n (pc := 74) dX5_takeNumber_74 rfl rfl ?_
          refine x_Vv (pc := 75) ks_X5_38 dX5_takeNumber_75 (tb_88) rfl rfl (hadv) rfl rfl rfl (Nat.le_of_ble_eq_true rfl) ?_
          refine x_iload_n (pc := 78) dX5_takeNumber_78 rfl rfl ?_
          refine x_iret (pc := 79) dX5_takeNumber_79 rfl (by first | rfl | exact fv_nz _) ?_
          exact ⟨rfl, rfl⟩
        ·
          have hp : ¬ (to = 2 ∧ vn ≤ most) := fun z => h69 (nI_le z.2 (by omega))
          rw [if_neg hp, if_neg hp]
          refine x_iconst (pc := 72) (v := (-1)) dX5_takeNumber_72 fv_m1 ?_
          refine x_iret (pc := 73) dX5_takeNumber_73 rfl (by first | rfl | exact fv_nz _) ?_
          exact ⟨rfl, rfl⟩
      ·
        exact absurd (Int32.le_refl _) h37
  ·
    have hp : ¬ (to = 2 ∧ vn ≤ most) := fun z => h10 (q2.mpr z.1)
    rw [if_neg hp, if_neg hp]
    refine x_iconst (pc := 13) (v := (-1)) dX5_takeNumber_13 fv_m1 ?_
    refine x_iret (pc := 14) dX5_takeNumber_14 rfl (by first | rfl | exact fv_nz _) ?_
    exact ⟨rfl, rfl⟩
theorem hX5_kindHere {E : fv_E} {d L j : Nat} {b : Nat → Nat} {M : fv_M} (h : pTj b L j M) : fv_F E (d + 5) mX5_kindHere [.ref 88] M (some (.int (if pWi b L (pTS b L j) < 7 then nI (pWi b L (pTS b L j)) else -1))) M := by
  have hw : ∀ k : Nat, k < 7 → fv_F E (d + 4) mX5_isWord [.ref 88, .ref (1000 + k)] M (some (.int (bI (pWi b L (pTS b L j) = k)))) M := fun k hk => hX5_isWord h (by omega)
  generalize pWi b L (pTS b L j) = w at *
  refine fv_F.of (ls := [some (.ref 88), none]) (by decide) (Nat.le_of_ble_eq_true rfl) rfl ?_
  refine x_iconst (pc := 0) (v := 0) dX5_kindHere_0 rfl ?_
  refine x_istore_n1 (pc := 1) dX5_kindHere_1 rfl ?_
  refine x_loop (fun i => [some (.ref 88), some (.int (nI i))]) (fun _ => M) (min w 7) rfl rfl (fun i hi hL3 => ?_) ?_
  · show fv_X E mX5_kindHere _ _ 2 [some (.ref 88), some (.int (nI i))] [] M
    replace hL3 : fv_X E mX5_kindHere _ _ 2 [some (.ref 88), some (.int (nI (i + 1)))] [] M := hL3
    refine x_iload_n (pc := 2) dX5_kindHere_2 rfl rfl ?_
    refine x_bipush (pc := 3) (v := 7) dX5_kindHere_3 rfl ?_
    refine x_icmp_ge (pc := 5) dX5_kindHere_5 (tgt := 27) rfl (fun h5 => ?_) (fun h5 => ?_)
    ·
      exact absurd h5 (nI_ge (b := 7) (by omega) (by decide))
    ·
      refine x_aload_n (pc := 8) dX5_kindHere_8 rfl rfl ?_
      refine x_iload_n (pc := 9) dX5_kindHere_9 rfl rfl ?_
      refine x_Sa (pc := 10) ks_X5_95 dX5_kindHere_10 (hX5_nameOf (k := i) (by omega)) rfl rfl rfl (Nat.le_of_ble_eq_true rfl) ?_
      refine x_Vi (pc := 13) ks_X5_65 dX5_kindHere_13 (tb_88) rfl rfl (hw i (by omega)) rfl rfl rfl (Nat.le_of_ble_eq_true rfl) ?_
      refine x_ifb_eq (pc := 16) dX5_kindHere_16 (tgt := 21) rfl (fun h16 => ?_) (fun h16 => ?_)
      ·
        refine x_iinc1 (pc := 21) dX5_kindHere_21 (by first | exact fv_inc _ | exact fv_dec _ | rfl) rfl ?_
        refine x_goto (pc := 24) dX5_kindHere_24 (tgt := 2) rfl ?_
        exact hL3
      ·
        exact absurd h16 (by omega)
  · show fv_X E mX5_kindHere _ _ 2 [some (.ref 88), some (.int (nI (min w 7)))] [] M
    by_cases h7 : w < 7
    · rw [if_pos h7, show min w 7 = w by omega]
      refine x_iload_n (pc := 2) dX5_kindHere_2 rfl rfl ?_
      refine x_bipush (pc := 3) (v := 7) dX5_kindHere_3 rfl ?_
      refine x_icmp_ge (pc := 5) dX5_kindHere_5 (tgt := 27) rfl (fun h5 => ?_) (fun h5 => ?_)
      ·
        exact absurd h5 (nI_ge (b := 7) h7 (by decide))
      ·
        refine x_aload_n (pc := 8) dX5_kindHere_8 rfl rfl ?_
        refine x_iload_n (pc := 9) dX5_kindHere_9 rfl rfl ?_
        refine x_Sa (pc := 10) ks_X5_95 dX5_kindHere_10 (hX5_nameOf (k := w) h7) rfl rfl rfl (Nat.le_of_ble_eq_true rfl) ?_
        refine x_Vi (pc := 13) ks_X5_65 dX5_kindHere_13 (tb_88) rfl rfl (hw w h7) rfl rfl rfl (Nat.le_of_ble_eq_true rfl) ?_
        refine x_ifb_eq (pc := 16) dX5_kindHere_16 (tgt := 21) rfl (fun h16 => ?_) (fun h16 => ?_)
        ·
          exact (h16 rfl).elim
        ·
          refine x_iload_n (pc := 19) dX5_kindHere_19 rfl rfl ?_
          refine x_iret (pc := 20) dX5_kindHere_20 rfl (by first | rfl | exact fv_nz _) ?_
          exact ⟨rfl, rfl⟩
    · rw [if_neg h7, show min w 7 = 7 by omega]
      refine x_iload_n (pc := 2) dX5_kindHere_2 rfl rfl ?_
      refine x_bipush (pc := 3) (v := 7) dX5_kindHere_3 rfl ?_
      refine x_icmp_ge (pc := 5) dX5_kindHere_5 (tgt := 27) rfl (fun h5 => ?_) (fun h5 => ?_)
      ·
        refine x_iconst (pc := 27) (v := (-1)) dX5_kindHere_27 fv_m1 ?_
        refine x_iret (pc := 28) dX5_kindHere_28 rfl (by first | rfl | exact fv_nz _) ?_
        exact ⟨rfl, rfl⟩
      ·
        exact absurd (Int32.le_refl _) h5
