theorem pCe_ix (z c : Nat) : 40 * nI z + nI c = nI (40 * z + c) := by
  show nI 40 * nI z + nI c = _
  rw [pk_mul, nI_add]
theorem hX7_isSheet {E : fv_E} {d : Nat} {k : Int32} {M : fv_M} : fv_F E (d + 1) mX7_isSheet [.int k] M (some (.int (bI (0 ≤ k ∧ k ≤ 3)))) M := by
  refine fv_F.of (ls := [some (.int k)]) (by decide) (Nat.le_of_ble_eq_true rfl) rfl ?_
  refine x_iload_n (pc := 0) dX7_isSheet_0 rfl rfl ?_
  refine x_iconst (pc := 1) (v := 0) dX7_isSheet_1 rfl ?_
  refine x_iconst (pc := 2) (v := 3) dX7_isSheet_2 rfl ?_
  refine x_Si (pc := 3) ks_X7_60 dX7_isSheet_3 (hX7_in1) rfl rfl rfl (Nat.le_of_ble_eq_true rfl) ?_
  refine x_iret (pc := 6) dX7_isSheet_6 rfl (by first | rfl | exact fv_nz _) ?_
  exact ⟨rfl, rfl⟩
theorem hX7_wrongSheet {E : fv_E} {d z : Nat} {M : fv_M} (hz : z < 4) : fv_F E (d + 2) mX7_wrongSheet [.ref 106, .int (nI z)] M (some (.int (if M 34 z = 0 then 5 else -1))) M := by
  refine fv_F.of (ls := [some (.ref 106), some (.int (nI z))]) (by decide) (Nat.le_of_ble_eq_true rfl) rfl ?_
  refine x_iload_n (pc := 0) dX7_wrongSheet_0 rfl rfl ?_
  refine x_Si (pc := 1) ks_X7_196 dX7_wrongSheet_1 (hX7_isSheet) rfl rfl rfl (Nat.le_of_ble_eq_true rfl) ?_
  refine x_ifb_ne (pc := 4) dX7_wrongSheet_4 (tgt := 11) rfl (fun h4 => ?_) (fun h4 => ?_)
  ·
    refine x_aload_n (pc := 11) dX7_wrongSheet_11 rfl rfl ?_
    refine x_geta (pc := 12) fl_X7_47 dX7_wrongSheet_12 (tb_106) rfl ?_
    refine x_iload_n (pc := 15) dX7_wrongSheet_15 rfl rfl ?_
    refine x_iale (pc := 16) dX7_wrongSheet_16 (tb_119) (rfl) (by first | assumption | decide | omega) (by first | decide | assumption) (show _ = M 34 z from by rw [Nat.zero_add]) ?_
    refine x_if_ne (pc := 17) dX7_wrongSheet_17 (tgt := 24) rfl (fun h17 => ?_) (fun h17 => ?_)
    ·
      refine x_iconst (pc := 24) (v := (-1)) dX7_wrongSheet_24 fv_m1 ?_
      refine x_iret (pc := 25) dX7_wrongSheet_25 rfl (by first | rfl | exact fv_nz _) ?_
      first | exact ⟨by rw [if_pos h17], rfl⟩ | exact ⟨by rw [if_neg h17], rfl⟩
    ·
      refine x_iconst (pc := 20) (v := 5) dX7_wrongSheet_20 rfl ?_
      refine x_goto (pc := 21) dX7_wrongSheet_21 (tgt := 25) rfl ?_
      refine x_iret (pc := 25) dX7_wrongSheet_25 rfl (by first | rfl | exact fv_nz _) ?_
      first | exact ⟨by rw [if_pos h17], rfl⟩ | exact ⟨by rw [if_neg h17], rfl⟩
  ·
    exact absurd ⟨nI_pos' (by omega), nI_le (b := 3) (by omega) (by omega)⟩ h4
theorem hX7_wrongSheetF {E : fv_E} {d : Nat} {k : Int32} {M : fv_M} (hk : ¬ (0 ≤ k ∧ k ≤ 3)) : fv_F E (d + 2) mX7_wrongSheet [.ref 106, .int k] M (some (.int 0)) M := by
  refine fv_F.of (ls := [some (.ref 106), some (.int k)]) (by decide) (Nat.le_of_ble_eq_true rfl) rfl ?_
  refine x_iload_n (pc := 0) dX7_wrongSheet_0 rfl rfl ?_
  refine x_Si (pc := 1) ks_X7_196 dX7_wrongSheet_1 (hX7_isSheet) rfl rfl rfl (Nat.le_of_ble_eq_true rfl) ?_
  refine x_ifb_ne (pc := 4) dX7_wrongSheet_4 (tgt := 11) rfl (fun h4 => ?_) (fun h4 => ?_)
  ·
    exact absurd h4 hk
  ·
    refine x_iconst (pc := 7) (v := 0) dX7_wrongSheet_7 rfl ?_
    refine x_goto (pc := 8) dX7_wrongSheet_8 (tgt := 25) rfl ?_
    refine x_iret (pc := 25) dX7_wrongSheet_25 rfl (by first | rfl | exact fv_nz _) ?_
    exact ⟨rfl, rfl⟩
theorem hX7_isTold {E : fv_E} {d z c n : Nat} {v : Int32} {M : fv_M} (hz : z < 4) (hc : c < 40) (hs : M 35 z = nI n) (hn : n ≤ 40) : fv_F E d mX7_isTold [.ref 106, .int (nI z), .int (nI c), .int v] M (some (.int (bI (n ≤ c ∨ M 36 (40 * z + c) = v)))) M := by
  refine fv_F.of (ls := [some (.ref 106), some (.int (nI z)), some (.int (nI c)), some (.int v)]) (by decide) (Nat.le_of_ble_eq_true rfl) rfl ?_
  refine x_iload_n (pc := 0) dX7_isTold_0 rfl rfl ?_
  refine x_aload_n (pc := 1) dX7_isTold_1 rfl rfl ?_
  refine x_geta (pc := 2) fl_X7_50 dX7_isTold_2 (tb_106) rfl ?_
  refine x_iload_n (pc := 5) dX7_isTold_5 rfl rfl ?_
  refine x_iale (pc := 6) dX7_isTold_6 (tb_120) (rfl) (by first | assumption | decide | omega) (by first | decide | assumption) (show _ = nI n from by rw [Nat.zero_add]; exact hs) ?_
  refine x_icmp_ge (pc := 7) dX7_isTold_7 (tgt := 25) rfl (fun h7 => ?_) (fun h7 => ?_)
  ·
    have hq : n ≤ c := (nI_leI (by omega) (by omega)).mp h7
    refine x_iconst (pc := 25) (v := 1) dX7_isTold_25 rfl ?_
    refine x_goto (pc := 26) dX7_isTold_26 (tgt := 30) rfl ?_
    refine x_iret (pc := 30) dX7_isTold_30 rfl (by first | rfl | exact fv_nz _) ?_
    refine ⟨?_, rfl⟩
    first | exact fv_rt (Or.inl hq) | exact fv_rt (Or.inr h22) | exact fv_rf (fun q => q.elim hq h22)
  ·
    have hq : ¬ n ≤ c := fun q => h7 (nI_le q (by omega))
    refine x_aload_n (pc := 10) dX7_isTold_10 rfl rfl ?_
    refine x_geta (pc := 11) fl_X7_53 dX7_isTold_11 (tb_106) rfl ?_
    refine x_bipush (pc := 14) (v := 40) dX7_isTold_14 rfl ?_
    refine x_iload_n (pc := 16) dX7_isTold_16 rfl rfl ?_
    refine x_imul (pc := 17) dX7_isTold_17 ?_
    refine x_iload_n (pc := 18) dX7_isTold_18 rfl rfl ?_
    refine x_iadd (pc := 19) dX7_isTold_19 ?_
    refine x_iale (pc := 20) dX7_isTold_20 (tb_121) (pCe_ix z c) (by omega) (by first | decide | assumption) (show _ = M 36 (40 * z + c) from by rw [Nat.zero_add]) ?_
    refine x_iload_n (pc := 21) dX7_isTold_21 rfl rfl ?_
    refine x_icmp_ne (pc := 22) dX7_isTold_22 (tgt := 29) rfl (fun h22 => ?_) (fun h22 => ?_)
    ·
      refine x_iconst (pc := 29) (v := 0) dX7_isTold_29 rfl ?_
      refine x_iret (pc := 30) dX7_isTold_30 rfl (by first | rfl | exact fv_nz _) ?_
      refine ⟨?_, rfl⟩
      first | exact fv_rt (Or.inl hq) | exact fv_rt (Or.inr h22) | exact fv_rf (fun q => q.elim hq h22)
    ·
      refine x_iconst (pc := 25) (v := 1) dX7_isTold_25 rfl ?_
      refine x_goto (pc := 26) dX7_isTold_26 (tgt := 30) rfl ?_
      refine x_iret (pc := 30) dX7_isTold_30 rfl (by first | rfl | exact fv_nz _) ?_
      refine ⟨?_, rfl⟩
      first | exact fv_rt (Or.inl hq) | exact fv_rt (Or.inr h22) | exact fv_rf (fun q => q.elim hq h22)
theorem pInv.sh {M M' : fv_M} {z : Nat} (I : pInv M) (hz : z < 4) (F : ∀ q, q ≠ 13 + 2 * z → q ≠ 14 + 2 * z → q ∉ [34, 35, 36, 37] → M' q = M q) (h34 : ∀ t, t < 4 → t ≠ z → M' 34 t = M 34 t) (h35 : ∀ t, t < 4 → t ≠ z → M' 35 t = M 35 t) (h36 : ∀ t, t < 4 → t ≠ z → ∀ i, i < 40 → M' 36 (40 * t + i) = M 36 (40 * t + i)) (h4 : pI4 z (M' (13 + 2 * z)) (M' (14 + 2 * z)) (M' 34) (M' 35) (M' 36)) : pInv M' := by
  obtain ⟨i1, i2, i3, i4, i5, i6⟩ := I
  have F' : ∀ q, (q < 13 ∨ 21 ≤ q) → q ∉ [34, 35, 36, 37] → M' q = M q := fun q hq => F q (by omega) (by omega)
  refine ⟨?_, ?_, ?_, fun t ht => ?_, ?_, ?_⟩
  · rw [F' 0 (by decide) (by decide), F' 22 (by decide) (by decide)]; exact i1
  · rw [F' 3 (by decide) (by decide), F' 21 (by decide) (by decide), F' 2 (by decide) (by decide), F' 23 (by decide) (by decide)]; exact i2
  · rw [F' 4 (by decide) (by decide), F' 21 (by decide) (by decide), F' 5 (by decide) (by decide), F' 29 (by decide) (by decide)]; exact i3
  · by_cases e : t = z
    · subst e; exact h4
    · obtain ⟨n, a1, a2, a3, a4, a5⟩ := i4 t ht
      have hh : 13 + 2 * t ∉ [34, 35, 36, 37] ∧ 14 + 2 * t ∉ [34, 35, 36, 37] := by
        match t, ht with
        | 0, _ => decide
        | 1, _ => decide
        | 2, _ => decide
        | 3, _ => decide
        | n + 4, h => omega
      have e1 : M' (13 + 2 * t) = M (13 + 2 * t) := F _ (by omega) (by omega) hh.1
      have e2 : M' (14 + 2 * t) = M (14 + 2 * t) := F _ (by omega) (by omega) hh.2
      refine ⟨n, a1, by rw [e1]; exact a2, by rw [h35 t ht e]; exact a3, by rw [h34 t ht e, e1]; exact a4, fun i hi => by rw [h36 t ht e i hi, e2]; exact a5 i hi⟩
  · rw [F' 12 (by decide) (by decide), F' 25 (by decide) (by decide)]; exact i5
  · rw [F' 30 (by decide) (by decide), F' 31 (by decide) (by decide), F' 32 (by decide) (by decide), F' 33 (by decide) (by decide)]; exact i6
theorem pSubI {N y : Nat} (hN : N ≤ 1000) (hy : y < 2 ^ 31) : (nI N - nI y).toInt = (N : Int) - y := by
  rw [Int32.toInt_sub, nI_toInt (by omega), nI_toInt hy]
  unfold Int.bmod
  dsimp only
  split <;> omega
theorem pRg_eq {a n : Int32} {N : Nat} (hN : N ≤ 40) : (0 ≤ a ∧ 0 ≤ n ∧ a ≤ nI N ∧ n ≤ nI N - a) ↔ ∃ x y, x + y ≤ N ∧ a = nI x ∧ n = nI y := by
  constructor
  · rintro ⟨h1, h2, h3, h4⟩
    obtain ⟨x, hx, rfl⟩ := pUm (by omega) ⟨h1, h3⟩
    rw [pk_sub hx] at h4
    obtain ⟨y, hy, rfl⟩ := pUm (by omega) ⟨h2, h4⟩
    exact ⟨x, y, by omega, rfl, rfl⟩
  · rintro ⟨x, y, h, rfl, rfl⟩
    rw [pk_sub (by omega)]
    exact ⟨nI_pos' (by omega), nI_pos' (by omega), nI_le (by omega) (by omega), nI_le (by omega) (by omega)⟩
theorem pRg_m {a n : Int32} {N : Nat} (hN : N ≤ 40) (ha : ¬ a < 0) (hn : ¬ n < 0) (h : ¬ nI N - n < a) : ∃ x y, x + y ≤ N ∧ a = nI x ∧ n = nI y := by
  obtain ⟨x, hx, rfl⟩ := nI_of ha
  obtain ⟨y, hy, rfl⟩ := nI_of hn
  rw [Int32.lt_iff_toInt_lt, pSubI (by omega) hy, nI_toInt hx] at h
  exact ⟨x, y, by omega, rfl, rfl⟩
theorem pRg_n {x y N : Nat} (hN : N ≤ 40) (h : x + y ≤ N) : ¬ nI N - nI y < nI x := by
  rw [pk_sub (by omega)]
  exact nI_nlt (by omega) (by omega)
theorem pMx {h w : Nat} (hh : h < 1000) (hw : w < 1000) : nI h - pMin (nI w) (nI h) = pMax 0 (nI h - nI w) := by
  rw [pMin_n (by omega) (by omega), pk_sub (Nat.min_le_right _ _)]
  unfold pMax
  by_cases c : w < h
  · have e : (0 : Int32) < nI h - nI w := by rw [pk_sub (by omega), show (0 : Int32) = nI 0 from nI_0.symm]; exact nI_lt (by omega) (by omega)
    rw [if_pos e, pk_sub (by omega), Nat.min_eq_left (by omega)]
  · have e : ¬ (0 : Int32) < nI h - nI w := by
      rw [Int32.lt_iff_toInt_lt, pSubI (by omega) (by omega), show (0 : Int32).toInt = 0 by decide]
      omega
    rw [if_neg e, Nat.min_eq_right (by omega), Nat.sub_self]
    exact nI_0
theorem wT_s (p : Nat → Bool) (m : Nat) : wT p (m + 1) = m + 1 ↔ wT p m = m ∧ p m = true := by
  have e : wT p (m + 1) = bif (wT p m == m && p m) then m + 1 else wT p m := rfl
  have hle := (wT_all p m).1
  rw [e]
  by_cases h : wT p m = m ∧ p m = true
  · have hb : (wT p m == m && p m) = true := by rw [Bool.and_eq_true, beq_iff_eq]; exact h
    rw [hb]; exact ⟨fun _ => h, fun _ => rfl⟩
  · have hb : (wT p m == m && p m) = false := by rw [← Bool.not_eq_true, Bool.and_eq_true, beq_iff_eq]; exact h
    rw [hb]
    exact ⟨fun q => absurd (show wT p m = m + 1 from q) (by omega), fun q => absurd q h⟩
theorem op_fits {E : fv_E} {s : Int32} {M : fv_M} (I : pInv M) : pOp E mX6_fits mX7_fits [.int s] M := by
  obtain ⟨nb, nm, hG, hE, t, ht, eT⟩ := I.1
  have hs0 : 0 < 3 := by decide
  have hs1 : 1 < 3 := by decide
  have hB := hG.1
  have hb := hG.2.1
  have hM := hG.2.2.1
  have hn := hG.2.2.2.1
  have hK := hG.K
  have hC := hG.C
  have hG2 : pGd (M 22) nb nm := hG.cg hE
  by_cases hs : 0 ≤ s ∧ s ≤ 3
  · obtain ⟨z, hz3, rfl⟩ := pUm (n := 3) (by decide) hs
    have hz : z < 4 := by omega
    obtain ⟨n, hn40, es, ez, ew, ec⟩ := I.2.2.2.1 z hz
    have hni : 13 + 2 * z ≠ 12 ∧ 14 + 2 * z ≠ 12 := by omega
    by_cases h0 : M (13 + 2 * z) 0 = 0
    · skip
      refine pOp.bad (v := -1000006) 5 I ?_ (fun M1 hF => ?_)
      · skip
        refine fv_F.of (ls := [some (.ref 0), some (.int (nI z)), none, none, none, none]) (by decide) (Nat.le_of_ble_eq_true rfl) rfl ?_
        refine x_iload_n (pc := 0) dX6_fits_0 rfl rfl ?_
        refine x_iconst (pc := 1) (v := 3) dX6_fits_1 rfl ?_
        refine x_Si (pc := 2) ks_X6_51 dX6_fits_2 (hX6_isUpTo) rfl rfl rfl (Nat.le_of_ble_eq_true rfl) ?_
        refine x_ifb_ne (pc := 5) dX6_fits_5 (tgt := 15) rfl (fun h5 => ?_) (fun h5 => ?_)
        ·
          refine x_aload_n (pc := 15) dX6_fits_15 rfl rfl ?_
          refine x_geta (pc := 16) fl_X6_35 dX6_fits_16 (tb_fv) rfl ?_
          refine x_iload_n (pc := 19) dX6_fits_19 rfl rfl ?_
          refine x_sheet (pc := 20) dX6_fits_20 (rfl) (by first | assumption | decide | omega) ?_
          refine x_astore_n2 (pc := 21) dX6_fits_21 rfl ?_
          refine x_aload_n (pc := 22) dX6_fits_22 rfl rfl ?_
          refine x_Vi (pc := 23) ks_X6_214 dX6_fits_23 (tb_sh (by assumption)) rfl rfl (hX3_isMissing hz) rfl rfl rfl (Nat.le_of_ble_eq_true rfl) ?_
          refine x_ifb_eq (pc := 26) dX6_fits_26 (tgt := 36) rfl (fun h26 => ?_) (fun h26 => ?_)
          ·
            exact absurd h0 h26
          ·
            refine x_aload_n (pc := 29) dX6_fits_29 rfl rfl ?_
            refine x_ldc (pc := 30) kc_X6_217 dX6_fits_30 ?_
            refine x_Vi (pc := 32) ks_X6_56 dX6_fits_32 (tb_fv) rfl rfl (hX6_fin 5 (-1000006) (by decide +kernel) (by decide)) rfl rfl rfl (Nat.le_of_ble_eq_true rfl) ?_
            refine x_iret (pc := 35) dX6_fits_35 rfl (by first | rfl | exact fv_nz _) ?_
            exact ⟨rfl, rfl⟩
        ·
          exact absurd hs h5
      · skip
        have e22 : M1 22 = M 22 := hF 22 (by decide)
        have hG1 : pGd (M1 22) nb nm := by rw [e22]; exact hG2
        have hE1 : pEq nb nm (M1 22) (M 0) := by rw [e22]; exact hE
        have hB1 := hG1.1
        have hM1 := hG1.2.2.1
        have w34 : M1 34 z = M (13 + 2 * z) 0 := by rw [hF 34 (by decide)]; exact ew
        have w35 : M1 35 z = nI n := by rw [hF 35 (by decide)]; exact ez
        have w36 : ∀ i, i < 40 → M1 36 (40 * z + i) = M (14 + 2 * z) i := fun i hi => by rw [hF 36 (by decide)]; exact ec i hi
        refine fv_F.of (ls := [some (.ref 106), some (.int (nI z)), none, none, none, none]) (by decide) (Nat.le_of_ble_eq_true rfl) rfl ?_
        refine x_aload_n (pc := 0) dX7_fits_0 rfl rfl ?_
        refine x_iload_n (pc := 1) dX7_fits_1 rfl rfl ?_
        refine x_Vi (pc := 2) ks_X7_199 dX7_fits_2 (tb_106) rfl rfl ((hX7_wrongSheet hz).v (show _ = (5 : Int32) from by rw [w34, if_pos h0])) rfl rfl rfl (Nat.le_of_ble_eq_true rfl) ?_
        refine x_istore_n2 (pc := 5) dX7_fits_5 rfl ?_
        refine x_iload_n (pc := 6) dX7_fits_6 rfl rfl ?_
        refine x_if_lt (pc := 7) dX7_fits_7 (tgt := 16) rfl (fun h7 => ?_) (fun h7 => ?_)
        ·
          exact absurd h7 (by decide)
        ·
          refine x_aload_n (pc := 10) dX7_fits_10 rfl rfl ?_
          refine x_iload_n (pc := 11) dX7_fits_11 rfl rfl ?_
          refine x_Vi (pc := 12) ks_X7_114 dX7_fits_12 (tb_106) rfl rfl (hX7_noL 5 (-1000006) (by decide) (by decide +kernel)) rfl rfl rfl (Nat.le_of_ble_eq_true rfl) ?_
          refine x_iret (pc := 15) dX7_fits_15 rfl (by first | rfl | exact fv_nz _) ?_
          exact ⟨rfl, rfl⟩
    · generalize hH : (fun j => if (pAw M z n 0 (pSd (M 0) nb j (pCo (M 0) j) (M 0 (fM j 2))) ∧ pAw M z n 1 (pSd (M 0) nb j (pCo (M 0) j) (pWa (M 0) nb j))) then pBi j else 0) = H
      have h0' : ∀ j, ¬ (pAw M z n 0 (pSd (M 0) nb j (pCo (M 0) j) (M 0 (fM j 2))) ∧ pAw M z n 1 (pSd (M 0) nb j (pCo (M 0) j) (pWa (M 0) nb j))) → oN H j = oN H (j + 1) := fun j q => by show _ = oN H j ||| H j; rw [← hH]; dsimp only; rw [if_neg q, Int32.or_zero]
      have h1' : ∀ j, (pAw M z n 0 (pSd (M 0) nb j (pCo (M 0) j) (M 0 (fM j 2))) ∧ pAw M z n 1 (pSd (M 0) nb j (pCo (M 0) j) (pWa (M 0) nb j))) → oN H j ||| pBi j = oN H (j + 1) := fun j q => by show _ = oN H j ||| H j; rw [← hH]; dsimp only; rw [if_pos q]
      refine pOp.qry (v := oN H nm) I ?_ (fun M1 hF => ?_)
      · skip
        refine fv_P.of (ls := [some (.ref 0), some (.int (nI z)), none, none, none, none]) (by decide) (Nat.le_of_ble_eq_true rfl) rfl ?_
        refine x_iload_n (pc := 0) dX6_fits_0 rfl rfl ?_
        refine x_iconst (pc := 1) (v := 3) dX6_fits_1 rfl ?_
        refine x_Si (pc := 2) ks_X6_51 dX6_fits_2 (hX6_isUpTo) rfl rfl rfl (Nat.le_of_ble_eq_true rfl) ?_
        refine x_ifb_ne (pc := 5) dX6_fits_5 (tgt := 15) rfl (fun h5 => ?_) (fun h5 => ?_)
        ·
          refine x_aload_n (pc := 15) dX6_fits_15 rfl rfl ?_
          refine x_geta (pc := 16) fl_X6_35 dX6_fits_16 (tb_fv) rfl ?_
          refine x_iload_n (pc := 19) dX6_fits_19 rfl rfl ?_
          refine x_sheet (pc := 20) dX6_fits_20 (rfl) (by first | assumption | decide | omega) ?_
          refine x_astore_n2 (pc := 21) dX6_fits_21 rfl ?_
          refine x_aload_n (pc := 22) dX6_fits_22 rfl rfl ?_
          refine x_Vi (pc := 23) ks_X6_214 dX6_fits_23 (tb_sh (by assumption)) rfl rfl (hX3_isMissing hz) rfl rfl rfl (Nat.le_of_ble_eq_true rfl) ?_
          refine x_ifb_eq (pc := 26) dX6_fits_26 (tgt := 36) rfl (fun h26 => ?_) (fun h26 => ?_)
          ·
            refine x_iconst (pc := 36) (v := 0) dX6_fits_36 rfl ?_
            refine x_istore_n3 (pc := 37) dX6_fits_37 rfl ?_
            refine x_iconst (pc := 38) (v := 0) dX6_fits_38 rfl ?_
            refine x_istore4 (pc := 39) dX6_fits_39 rfl ?_
            refine x_loop (fun j => [some (.ref 0), some (.int (nI z)), some (.ref (aSh z)), some (.int (oN H j)), some (.int (nI j)), none]) (fun _ => M) nm rfl rfl (fun j hj hL => ?_) ?_
            · show fv_X E mX6_fits _ _ 41 [some (.ref 0), some (.int (nI z)), some (.ref (aSh z)), some (.int (oN H j)), some (.int (nI j)), none] [] M
              replace hL : fv_X E mX6_fits _ _ 41 [some (.ref 0), some (.int (nI z)), some (.ref (aSh z)), some (.int (oN H (j + 1))), some (.int (nI (j + 1))), none] [] M := hL
              have hc := pCo_of hC hj
              refine x_iload (pc := 41) dX6_fits_41 rfl ?_
              refine x_aload_n (pc := 43) dX6_fits_43 rfl rfl ?_
              refine x_geta (pc := 44) fl_X6_12 dX6_fits_44 (tb_fv) rfl ?_
              refine x_geti (pc := 47) fl_X6_88 dX6_fits_47 (tb_st (by assumption)) rfl (hM) ?_
              refine x_icmp_ge (pc := 50) dX6_fits_50 (tgt := 112) rfl (fun h50 => ?_) (fun h50 => ?_)
              ·
                exact absurd h50 (nI_ge hj (by omega))
              ·
                refine x_aload_n (pc := 53) dX6_fits_53 rfl rfl ?_
                refine x_geta (pc := 54) fl_X6_12 dX6_fits_54 (tb_fv) rfl ?_
                refine x_geta (pc := 57) fl_X6_97 dX6_fits_57 (tb_st (by assumption)) rfl ?_
                refine x_iload (pc := 60) dX6_fits_60 rfl ?_
                refine x_motion (pc := 62) dX6_fits_62 (by assumption) (rfl) (by omega) ?_
                refine x_astore5 (pc := 63) dX6_fits_63 rfl ?_
                refine x_aload_n (pc := 65) dX6_fits_65 rfl rfl ?_
                refine x_iconst (pc := 66) (v := 0) dX6_fits_66 rfl ?_
                refine x_aload_n (pc := 67) dX6_fits_67 rfl rfl ?_
                refine x_geta (pc := 68) fl_X6_12 dX6_fits_68 (tb_fv) rfl ?_
                refine x_aload (pc := 71) dX6_fits_71 rfl ?_
                refine x_Vi (pc := 73) ks_X6_116 dX6_fits_73 (tb_st (by assumption)) rfl rfl (hX4_droppedFor hs0 hB hb hK (by omega) hc.1 hc.2) rfl rfl rfl (Nat.le_of_ble_eq_true rfl) ?_
                refine x_Vi (pc := 76) ks_X6_218 dX6_fits_76 (tb_sh (by assumption)) rfl rfl (hX3_allows (c := 0) hz es hn40 (by decide)) rfl rfl rfl (Nat.le_of_ble_eq_true rfl) ?_
                refine x_ifb_eq (pc := 79) dX6_fits_79 (tgt := 106) rfl (fun h79 => ?_) (fun h79 => ?_)
                ·
                  have e := h0' j (fun q => h79 q.1)
                  refine x_fg5 ?_
                  try rw [e]
                  refine x_iinc4 (pc := 106) dX6_fits_106 (by first | exact fv_inc _ | exact fv_dec _ | rfl) rfl ?_
                  refine x_goto (pc := 109) dX6_fits_109 (tgt := 41) rfl ?_
                  exact hL
                ·
                  refine x_aload_n (pc := 82) dX6_fits_82 rfl rfl ?_
                  refine x_iconst (pc := 83) (v := 1) dX6_fits_83 rfl ?_
                  refine x_aload_n (pc := 84) dX6_fits_84 rfl rfl ?_
                  refine x_geta (pc := 85) fl_X6_12 dX6_fits_85 (tb_fv) rfl ?_
                  refine x_aload (pc := 88) dX6_fits_88 rfl ?_
                  refine x_Vi (pc := 90) ks_X6_120 dX6_fits_90 (tb_st (by assumption)) rfl rfl (hX4_droppedAgainst hs0 hB hb hK (by omega) hc.1 hc.2) rfl rfl rfl (Nat.le_of_ble_eq_true rfl) ?_
                  refine x_Vi (pc := 93) ks_X6_218 dX6_fits_93 (tb_sh (by assumption)) rfl rfl (hX3_allows (c := 1) hz es hn40 (by decide)) rfl rfl rfl (Nat.le_of_ble_eq_true rfl) ?_
                  refine x_ifb_eq (pc := 96) dX6_fits_96 (tgt := 106) rfl (fun h96 => ?_) (fun h96 => ?_)
                  ·
                    have e := h0' j (fun q => h96 q.2)
                    refine x_fg5 ?_
                    try rw [e]
                    refine x_iinc4 (pc := 106) dX6_fits_106 (by first | exact fv_inc _ | exact fv_dec _ | rfl) rfl ?_
                    refine x_goto (pc := 109) dX6_fits_109 (tgt := 41) rfl ?_
                    exact hL
                  ·
                    have e := h1' j ⟨h79, h96⟩
                    refine x_iload_n (pc := 99) dX6_fits_99 rfl rfl ?_
                    refine x_iconst (pc := 100) (v := 1) dX6_fits_100 rfl ?_
                    refine x_iload (pc := 101) dX6_fits_101 rfl ?_
                    refine x_ishl (pc := 103) dX6_fits_103 ?_
                    refine x_ior (pc := 104) dX6_fits_104 ?_
                    rw [e]
                    refine x_istore_n3 (pc := 105) dX6_fits_105 rfl ?_
                    refine x_fg5 ?_
                    try rw [e]
                    refine x_iinc4 (pc := 106) dX6_fits_106 (by first | exact fv_inc _ | exact fv_dec _ | rfl) rfl ?_
                    refine x_goto (pc := 109) dX6_fits_109 (tgt := 41) rfl ?_
                    exact hL
            · show fv_X E mX6_fits _ _ 41 [some (.ref 0), some (.int (nI z)), some (.ref (aSh z)), some (.int (oN H nm)), some (.int (nI nm)), none] [] M
              refine x_iload (pc := 41) dX6_fits_41 rfl ?_
              refine x_aload_n (pc := 43) dX6_fits_43 rfl rfl ?_
              refine x_geta (pc := 44) fl_X6_12 dX6_fits_44 (tb_fv) rfl ?_
              refine x_geti (pc := 47) fl_X6_88 dX6_fits_47 (tb_st (by assumption)) rfl (hM) ?_
              refine x_icmp_ge (pc := 50) dX6_fits_50 (tgt := 112) rfl (fun h50 => ?_) (fun h50 => ?_)
              ·
                refine x_iload_n (pc := 112) dX6_fits_112 rfl rfl ?_
                refine x_iret (pc := 113) dX6_fits_113 rfl (by first | rfl | exact fv_nz _) ?_
                exact ⟨rfl, pFr.rfl'⟩
              ·
                exact absurd (Int32.le_refl _) h50
          ·
            exact absurd h26 h0
        ·
          exact absurd hs h5
      · skip
        have e22 : M1 22 = M 22 := hF 22 (by decide)
        have hG1 : pGd (M1 22) nb nm := by rw [e22]; exact hG2
        have hE1 : pEq nb nm (M1 22) (M 0) := by rw [e22]; exact hE
        have hB1 := hG1.1
        have hM1 := hG1.2.2.1
        have w34 : M1 34 z = M (13 + 2 * z) 0 := by rw [hF 34 (by decide)]; exact ew
        have w35 : M1 35 z = nI n := by rw [hF 35 (by decide)]; exact ez
        have w36 : ∀ i, i < 40 → M1 36 (40 * z + i) = M (14 + 2 * z) i := fun i hi => by rw [hF 36 (by decide)]; exact ec i hi
        refine fv_P.of (ls := [some (.ref 106), some (.int (nI z)), none, none, none, none]) (by decide) (Nat.le_of_ble_eq_true rfl) rfl ?_
        refine x_aload_n (pc := 0) dX7_fits_0 rfl rfl ?_
        refine x_iload_n (pc := 1) dX7_fits_1 rfl rfl ?_
        refine x_Vi (pc := 2) ks_X7_199 dX7_fits_2 (tb_106) rfl rfl ((hX7_wrongSheet hz).v (show _ = (-1 : Int32) from by rw [w34, if_neg h0])) rfl rfl rfl (Nat.le_of_ble_eq_true rfl) ?_
        refine x_istore_n2 (pc := 5) dX7_fits_5 rfl ?_
        refine x_iload_n (pc := 6) dX7_fits_6 rfl rfl ?_
        refine x_if_lt (pc := 7) dX7_fits_7 (tgt := 16) rfl (fun h7 => ?_) (fun h7 => ?_)
        ·
          refine x_iconst (pc := 16) (v := 0) dX7_fits_16 rfl ?_
          refine x_istore_n3 (pc := 17) dX7_fits_17 rfl ?_
          refine x_iconst (pc := 18) (v := 0) dX7_fits_18 rfl ?_
          refine x_istore4 (pc := 19) dX7_fits_19 rfl ?_
          refine x_loop (fun j => [some (.ref 106), some (.int (nI z)), some (.int (-1)), some (.int (oN H j)), some (.int (nI j)), none]) (fun _ => M1) nm rfl rfl (fun j hj hL => ?_) ?_
          · show fv_X E mX7_fits _ _ 21 [some (.ref 106), some (.int (nI z)), some (.int (-1)), some (.int (oN H j)), some (.int (nI j)), none] [] M1
            replace hL : fv_X E mX7_fits _ _ 21 [some (.ref 106), some (.int (nI z)), some (.int (-1)), some (.int (oN H (j + 1))), some (.int (nI (j + 1))), none] [] M1 := hL
            have hc := pCo_of hC hj
            have hj8 : j < 8 := by omega
            obtain ⟨u, hu, eu⟩ := (pG2.at hG hj).2.2.2
            refine x_iload (pc := 21) dX7_fits_21 rfl ?_
            refine x_aload_n (pc := 23) dX7_fits_23 rfl rfl ?_
            refine x_geta (pc := 24) fl_X7_9 dX7_fits_24 (tb_106) rfl ?_
            refine x_iconst (pc := 27) (v := 2) dX7_fits_27 rfl ?_
            refine x_iale (pc := 28) dX7_fits_28 (tb_107) ((rfl : (2 : Int32) = nI 2)) (by decide) (by first | decide | assumption) (hM1) ?_
            refine x_icmp_ge (pc := 29) dX7_fits_29 (tgt := 94) rfl (fun h29 => ?_) (fun h29 => ?_)
            ·
              exact absurd h29 (nI_ge hj (by omega))
            ·
              refine x_aload_n (pc := 32) dX7_fits_32 rfl rfl ?_
              refine x_iload (pc := 33) dX7_fits_33 rfl ?_
              refine x_iconst (pc := 35) (v := 2) dX7_fits_35 rfl ?_
              refine x_Vi (pc := 36) ks_X7_80 dX7_fits_36 (tb_106) rfl rfl (((hX7_of1 (f := 2) hj8 (by decide)).v (hE1.m hj (by decide))).v eu) rfl rfl rfl (Nat.le_of_ble_eq_true rfl) ?_
              refine x_istore5 (pc := 39) dX7_fits_39 rfl ?_
              refine x_iload_n (pc := 41) dX7_fits_41 rfl rfl ?_
              refine x_aload_n (pc := 42) dX7_fits_42 rfl rfl ?_
              refine x_iload_n (pc := 43) dX7_fits_43 rfl rfl ?_
              refine x_iconst (pc := 44) (v := 0) dX7_fits_44 rfl ?_
              refine x_aload_n (pc := 45) dX7_fits_45 rfl rfl ?_
              refine x_iload (pc := 46) dX7_fits_46 rfl ?_
              refine x_iload (pc := 48) dX7_fits_48 rfl ?_
              refine x_iconst (pc := 50) (v := 1) dX7_fits_50 rfl ?_
              refine x_Vi (pc := 51) ks_X7_93 dX7_fits_51 (tb_106) rfl rfl ((hX7_sideT hG1.gb hj8 ((hE1.m hj (by decide)).trans hc.1) hc.2).v (sT_eq hE1 hj hc.2 eu)) rfl rfl rfl (Nat.le_of_ble_eq_true rfl) ?_
              refine x_Vi (pc := 54) ks_X7_202 dX7_fits_54 (tb_106) rfl rfl ((hX7_isTold (c := 0) hz (by decide) w35 hn40).v (bI_congr (by rw [w36 0 (by decide)]))) rfl rfl rfl (Nat.le_of_ble_eq_true rfl) ?_
              refine x_ifb_eq (pc := 57) dX7_fits_57 (tgt := 85) rfl (fun h57 => ?_) (fun h57 => ?_)
              ·
                have e := h0' j (fun q => h57 q.1)
                refine x_iconst (pc := 85) (v := 0) dX7_fits_85 rfl ?_
                refine x_ior (pc := 86) dX7_fits_86 ?_
                first | rw [Int32.or_zero, e] | rw [e]
                refine x_istore_n3 (pc := 87) dX7_fits_87 rfl ?_
                refine x_fg5 ?_
                refine x_iinc4 (pc := 88) dX7_fits_88 (by first | exact fv_inc _ | exact fv_dec _ | rfl) rfl ?_
                refine x_goto (pc := 91) dX7_fits_91 (tgt := 21) rfl ?_
                exact hL
              ·
                refine x_aload_n (pc := 60) dX7_fits_60 rfl rfl ?_
                refine x_iload_n (pc := 61) dX7_fits_61 rfl rfl ?_
                refine x_iconst (pc := 62) (v := 1) dX7_fits_62 rfl ?_
                refine x_aload_n (pc := 63) dX7_fits_63 rfl rfl ?_
                refine x_iload (pc := 64) dX7_fits_64 rfl ?_
                refine x_iload (pc := 66) dX7_fits_66 rfl ?_
                refine x_iconst (pc := 68) (v := 0) dX7_fits_68 rfl ?_
                refine x_Vi (pc := 69) ks_X7_93 dX7_fits_69 (tb_106) rfl rfl ((hX7_sideF hG1.gb hj8 ((hE1.m hj (by decide)).trans hc.1) hc.2 hu).v (sF_eq hE1 hj hc.2 eu)) rfl rfl rfl (Nat.le_of_ble_eq_true rfl) ?_
                refine x_Vi (pc := 72) ks_X7_202 dX7_fits_72 (tb_106) rfl rfl ((hX7_isTold (c := 1) hz (by decide) w35 hn40).v (bI_congr (by rw [w36 1 (by decide)]))) rfl rfl rfl (Nat.le_of_ble_eq_true rfl) ?_
                refine x_ifb_eq (pc := 75) dX7_fits_75 (tgt := 85) rfl (fun h75 => ?_) (fun h75 => ?_)
                ·
                  have e := h0' j (fun q => h75 q.2)
                  refine x_iconst (pc := 85) (v := 0) dX7_fits_85 rfl ?_
                  refine x_ior (pc := 86) dX7_fits_86 ?_
                  first | rw [Int32.or_zero, e] | rw [e]
                  refine x_istore_n3 (pc := 87) dX7_fits_87 rfl ?_
                  refine x_fg5 ?_
                  refine x_iinc4 (pc := 88) dX7_fits_88 (by first | exact fv_inc _ | exact fv_dec _ | rfl) rfl ?_
                  refine x_goto (pc := 91) dX7_fits_91 (tgt := 21) rfl ?_
                  exact hL
                ·
                  have e := h1' j ⟨h57, h75⟩
                  refine x_iconst (pc := 78) (v := 1) dX7_fits_78 rfl ?_
                  refine x_iload (pc := 79) dX7_fits_79 rfl ?_
                  refine x_ishl (pc := 81) dX7_fits_81 ?_
                  refine x_goto (pc := 82) dX7_fits_82 (tgt := 86) rfl ?_
                  refine x_ior (pc := 86) dX7_fits_86 ?_
                  first | rw [Int32.or_zero, e] | rw [e]
                  refine x_istore_n3 (pc := 87) dX7_fits_87 rfl ?_
                  refine x_fg5 ?_
                  refine x_iinc4 (pc := 88) dX7_fits_88 (by first | exact fv_inc _ | exact fv_dec _ | rfl) rfl ?_
                  refine x_goto (pc := 91) dX7_fits_91 (tgt := 21) rfl ?_
                  exact hL
          · show fv_X E mX7_fits _ _ 21 [some (.ref 106), some (.int (nI z)), some (.int (-1)), some (.int (oN H nm)), some (.int (nI nm)), none] [] M1
            refine x_iload (pc := 21) dX7_fits_21 rfl ?_
            refine x_aload_n (pc := 23) dX7_fits_23 rfl rfl ?_
            refine x_geta (pc := 24) fl_X7_9 dX7_fits_24 (tb_106) rfl ?_
            refine x_iconst (pc := 27) (v := 2) dX7_fits_27 rfl ?_
            refine x_iale (pc := 28) dX7_fits_28 (tb_107) ((rfl : (2 : Int32) = nI 2)) (by decide) (by first | decide | assumption) (hM1) ?_
            refine x_icmp_ge (pc := 29) dX7_fits_29 (tgt := 94) rfl (fun h29 => ?_) (fun h29 => ?_)
            ·
              refine x_iload_n (pc := 94) dX7_fits_94 rfl rfl ?_
              refine x_iret (pc := 95) dX7_fits_95 rfl (by first | rfl | exact fv_nz _) ?_
              exact ⟨rfl, pFr.rfl', rfl, rfl, fun _ _ _ => pEq.rfl'⟩
            ·
              exact absurd (Int32.le_refl _) h29
        ·
          exact absurd (by decide) h7
  · skip
    refine pOp.bad (v := -1000001) 0 I ?_ (fun M1 hF => ?_)
    · skip
      refine fv_F.of (ls := [some (.ref 0), some (.int s), none, none, none, none]) (by decide) (Nat.le_of_ble_eq_true rfl) rfl ?_
      refine x_iload_n (pc := 0) dX6_fits_0 rfl rfl ?_
      refine x_iconst (pc := 1) (v := 3) dX6_fits_1 rfl ?_
      refine x_Si (pc := 2) ks_X6_51 dX6_fits_2 (hX6_isUpTo) rfl rfl rfl (Nat.le_of_ble_eq_true rfl) ?_
      refine x_ifb_ne (pc := 5) dX6_fits_5 (tgt := 15) rfl (fun h5 => ?_) (fun h5 => ?_)
      ·
        exact absurd h5 hs
      ·
        refine x_aload_n (pc := 8) dX6_fits_8 rfl rfl ?_
        refine x_ldc (pc := 9) kc_X6_55 dX6_fits_9 ?_
        refine x_Vi (pc := 11) ks_X6_56 dX6_fits_11 (tb_fv) rfl rfl (hX6_fin 0 (-1000001) (by decide +kernel) (by decide)) rfl rfl rfl (Nat.le_of_ble_eq_true rfl) ?_
        refine x_iret (pc := 14) dX6_fits_14 rfl (by first | rfl | exact fv_nz _) ?_
        exact ⟨rfl, rfl⟩
    · skip
      have e22 : M1 22 = M 22 := hF 22 (by decide)
      have hG1 : pGd (M1 22) nb nm := by rw [e22]; exact hG2
      have hE1 : pEq nb nm (M1 22) (M 0) := by rw [e22]; exact hE
      have hB1 := hG1.1
      have hM1 := hG1.2.2.1
      refine fv_F.of (ls := [some (.ref 106), some (.int s), none, none, none, none]) (by decide) (Nat.le_of_ble_eq_true rfl) rfl ?_
      refine x_aload_n (pc := 0) dX7_fits_0 rfl rfl ?_
      refine x_iload_n (pc := 1) dX7_fits_1 rfl rfl ?_
      refine x_Vi (pc := 2) ks_X7_199 dX7_fits_2 (tb_106) rfl rfl (hX7_wrongSheetF hs) rfl rfl rfl (Nat.le_of_ble_eq_true rfl) ?_
      refine x_istore_n2 (pc := 5) dX7_fits_5 rfl ?_
      refine x_iload_n (pc := 6) dX7_fits_6 rfl rfl ?_
      refine x_if_lt (pc := 7) dX7_fits_7 (tgt := 16) rfl (fun h7 => ?_) (fun h7 => ?_)
      ·
        exact absurd h7 (by decide)
      ·
        refine x_aload_n (pc := 10) dX7_fits_10 rfl rfl ?_
        refine x_iload_n (pc := 11) dX7_fits_11 rfl rfl ?_
        refine x_Vi (pc := 12) ks_X7_114 dX7_fits_12 (tb_106) rfl rfl (hX7_noL 0 (-1000001) (by decide) (by decide +kernel)) rfl rfl rfl (Nat.le_of_ble_eq_true rfl) ?_
        refine x_iret (pc := 15) dX7_fits_15 rfl (by first | rfl | exact fv_nz _) ?_
        exact ⟨rfl, rfl⟩
theorem op_stolen {E : fv_E} {s v : Int32} {M : fv_M} (I : pInv M) : pOp E mX6_stolen mX7_stolen [.int s, .int v] M := by
  obtain ⟨nb, nm, hG, hE, t, ht, eT⟩ := I.1
  have hs0 : 0 < 3 := by decide
  have hs1 : 1 < 3 := by decide
  have hB := hG.1
  have hb := hG.2.1
  have hM := hG.2.2.1
  have hn := hG.2.2.2.1
  have hK := hG.K
  have hC := hG.C
  have hG2 : pGd (M 22) nb nm := hG.cg hE
  by_cases hs : 0 ≤ s ∧ s ≤ 3
  · obtain ⟨z, hz3, rfl⟩ := pUm (n := 3) (by decide) hs
    have hz : z < 4 := by omega
    obtain ⟨n, hn40, es, ez, ew, ec⟩ := I.2.2.2.1 z hz
    have hni : 13 + 2 * z ≠ 12 ∧ 14 + 2 * z ≠ 12 := by omega
    by_cases h0 : M (13 + 2 * z) 0 = 0
    · skip
      refine pOp.bad (v := -1000006) 5 I ?_ (fun M1 hF => ?_)
      · skip
        refine fv_F.of (ls := [some (.ref 0), some (.int (nI z)), some (.int v), none, none]) (by decide) (Nat.le_of_ble_eq_true rfl) rfl ?_
        refine x_iload_n (pc := 0) dX6_stolen_0 rfl rfl ?_
        refine x_iconst (pc := 1) (v := 3) dX6_stolen_1 rfl ?_
        refine x_Si (pc := 2) ks_X6_51 dX6_stolen_2 (hX6_isUpTo) rfl rfl rfl (Nat.le_of_ble_eq_true rfl) ?_
        refine x_ifb_ne (pc := 5) dX6_stolen_5 (tgt := 15) rfl (fun h5 => ?_) (fun h5 => ?_)
        ·
          refine x_aload_n (pc := 15) dX6_stolen_15 rfl rfl ?_
          refine x_geta (pc := 16) fl_X6_35 dX6_stolen_16 (tb_fv) rfl ?_
          refine x_iload_n (pc := 19) dX6_stolen_19 rfl rfl ?_
          refine x_sheet (pc := 20) dX6_stolen_20 (rfl) (by first | assumption | decide | omega) ?_
          refine x_Vi (pc := 21) ks_X6_214 dX6_stolen_21 (tb_sh (by assumption)) rfl rfl (hX3_isMissing hz) rfl rfl rfl (Nat.le_of_ble_eq_true rfl) ?_
          refine x_ifb_eq (pc := 24) dX6_stolen_24 (tgt := 34) rfl (fun h24 => ?_) (fun h24 => ?_)
          ·
            exact absurd h0 h24
          ·
            refine x_aload_n (pc := 27) dX6_stolen_27 rfl rfl ?_
            refine x_ldc (pc := 28) kc_X6_217 dX6_stolen_28 ?_
            refine x_Vi (pc := 30) ks_X6_56 dX6_stolen_30 (tb_fv) rfl rfl (hX6_fin 5 (-1000006) (by decide +kernel) (by decide)) rfl rfl rfl (Nat.le_of_ble_eq_true rfl) ?_
            refine x_iret (pc := 33) dX6_stolen_33 rfl (by first | rfl | exact fv_nz _) ?_
            exact ⟨rfl, rfl⟩
        ·
          exact absurd hs h5
      · skip
        have e22 : M1 22 = M 22 := hF 22 (by decide)
        have hG1 : pGd (M1 22) nb nm := by rw [e22]; exact hG2
        have hE1 : pEq nb nm (M1 22) (M 0) := by rw [e22]; exact hE
        have hB1 := hG1.1
        have hM1 := hG1.2.2.1
        have w34 : M1 34 z = M (13 + 2 * z) 0 := by rw [hF 34 (by decide)]; exact ew
        have w35 : M1 35 z = nI n := by rw [hF 35 (by decide)]; exact ez
        have w36 : ∀ i, i < 40 → M1 36 (40 * z + i) = M (14 + 2 * z) i := fun i hi => by rw [hF 36 (by decide)]; exact ec i hi
        refine fv_F.of (ls := [some (.ref 106), some (.int (nI z)), some (.int v), none, none, none, none, none, none]) (by decide) (Nat.le_of_ble_eq_true rfl) rfl ?_
        refine x_aload_n (pc := 0) dX7_stolen_0 rfl rfl ?_
        refine x_iload_n (pc := 1) dX7_stolen_1 rfl rfl ?_
        refine x_Vi (pc := 2) ks_X7_199 dX7_stolen_2 (tb_106) rfl rfl ((hX7_wrongSheet hz).v (show _ = (5 : Int32) from by rw [w34, if_pos h0])) rfl rfl rfl (Nat.le_of_ble_eq_true rfl) ?_
        refine x_istore_n3 (pc := 5) dX7_stolen_5 rfl ?_
        refine x_iload_n (pc := 6) dX7_stolen_6 rfl rfl ?_
        refine x_if_ge (pc := 7) dX7_stolen_7 (tgt := 22) rfl (fun h7 => ?_) (fun h7 => ?_)
        ·
          refine x_iload_n (pc := 22) dX7_stolen_22 rfl rfl ?_
          refine x_if_lt (pc := 23) dX7_stolen_23 (tgt := 32) rfl (fun h23 => ?_) (fun h23 => ?_)
          ·
            exact absurd h23 (by decide)
          ·
            refine x_aload_n (pc := 26) dX7_stolen_26 rfl rfl ?_
            refine x_iload_n (pc := 27) dX7_stolen_27 rfl rfl ?_
            refine x_Vi (pc := 28) ks_X7_114 dX7_stolen_28 (tb_106) rfl rfl (hX7_noL 5 (-1000006) (by decide) (by decide +kernel)) rfl rfl rfl (Nat.le_of_ble_eq_true rfl) ?_
            refine x_iret (pc := 31) dX7_stolen_31 rfl (by first | rfl | exact fv_nz _) ?_
            exact ⟨rfl, rfl⟩
        ·
          exact absurd (by decide) h7
    · by_cases hv : 0 ≤ v ∧ v ≤ 9
      · obtain ⟨q, hq, rfl⟩ := pUm (n := 9) (by decide) hv
        have hq10 : q < 10 := by omega
        generalize hH : (fun b => if wT (pRb M z n b (nI q)) 4 = 4 then pBi b else 0) = H
        have h0' : ∀ b, ¬ wT (pRb M z n b (nI q)) 4 = 4 → oN H b = oN H (b + 1) := fun j q => by show _ = oN H j ||| H j; rw [← hH]; dsimp only; rw [if_neg q, Int32.or_zero]
        have h1' : ∀ b, wT (pRb M z n b (nI q)) 4 = 4 → oN H b ||| pBi b = oN H (b + 1) := fun j q => by show _ = oN H j ||| H j; rw [← hH]; dsimp only; rw [if_pos q]
        refine pOp.qry (v := oN H nb) I ?_ (fun M1 hF => ?_)
        · skip
          refine fv_P.of (ls := [some (.ref 0), some (.int (nI z)), some (.int (nI q)), none, none]) (by decide) (Nat.le_of_ble_eq_true rfl) rfl ?_
          refine x_iload_n (pc := 0) dX6_stolen_0 rfl rfl ?_
          refine x_iconst (pc := 1) (v := 3) dX6_stolen_1 rfl ?_
          refine x_Si (pc := 2) ks_X6_51 dX6_stolen_2 (hX6_isUpTo) rfl rfl rfl (Nat.le_of_ble_eq_true rfl) ?_
          refine x_ifb_ne (pc := 5) dX6_stolen_5 (tgt := 15) rfl (fun h5 => ?_) (fun h5 => ?_)
          ·
            refine x_aload_n (pc := 15) dX6_stolen_15 rfl rfl ?_
            refine x_geta (pc := 16) fl_X6_35 dX6_stolen_16 (tb_fv) rfl ?_
            refine x_iload_n (pc := 19) dX6_stolen_19 rfl rfl ?_
            refine x_sheet (pc := 20) dX6_stolen_20 (rfl) (by first | assumption | decide | omega) ?_
            refine x_Vi (pc := 21) ks_X6_214 dX6_stolen_21 (tb_sh (by assumption)) rfl rfl (hX3_isMissing hz) rfl rfl rfl (Nat.le_of_ble_eq_true rfl) ?_
            refine x_ifb_eq (pc := 24) dX6_stolen_24 (tgt := 34) rfl (fun h24 => ?_) (fun h24 => ?_)
            ·
              refine x_iload_n (pc := 34) dX6_stolen_34 rfl rfl ?_
              refine x_bipush (pc := 35) (v := 9) dX6_stolen_35 rfl ?_
              refine x_Si (pc := 37) ks_X6_51 dX6_stolen_37 (hX6_isUpTo) rfl rfl rfl (Nat.le_of_ble_eq_true rfl) ?_
              refine x_ifb_ne (pc := 40) dX6_stolen_40 (tgt := 50) rfl (fun h40 => ?_) (fun h40 => ?_)
              ·
                refine x_iconst (pc := 50) (v := 0) dX6_stolen_50 rfl ?_
                refine x_istore_n3 (pc := 51) dX6_stolen_51 rfl ?_
                refine x_iconst (pc := 52) (v := 0) dX6_stolen_52 rfl ?_
                refine x_istore4 (pc := 53) dX6_stolen_53 rfl ?_
                refine x_loop (fun j => [some (.ref 0), some (.int (nI z)), some (.int (nI q)), some (.int (oN H j)), some (.int (nI j))]) (fun _ => M) nb rfl rfl (fun j hj hL => ?_) ?_
                · show fv_X E mX6_stolen _ _ 55 [some (.ref 0), some (.int (nI z)), some (.int (nI q)), some (.int (oN H j)), some (.int (nI j))] [] M
                  replace hL : fv_X E mX6_stolen _ _ 55 [some (.ref 0), some (.int (nI z)), some (.int (nI q)), some (.int (oN H (j + 1))), some (.int (nI (j + 1)))] [] M := hL
                  have hj8 : j < 8 := by omega
                  refine x_iload (pc := 55) dX6_stolen_55 rfl ?_
                  refine x_aload_n (pc := 57) dX6_stolen_57 rfl rfl ?_
                  refine x_geta (pc := 58) fl_X6_12 dX6_stolen_58 (tb_fv) rfl ?_
                  refine x_geti (pc := 61) fl_X6_60 dX6_stolen_61 (tb_st (by assumption)) rfl (hB) ?_
                  refine x_icmp_ge (pc := 64) dX6_stolen_64 (tgt := 103) rfl (fun h64 => ?_) (fun h64 => ?_)
                  ·
                    exact absurd h64 (nI_ge hj (by omega))
                  ·
                    refine x_aload_n (pc := 67) dX6_stolen_67 rfl rfl ?_
                    refine x_geta (pc := 68) fl_X6_12 dX6_stolen_68 (tb_fv) rfl ?_
                    refine x_geta (pc := 71) fl_X6_72 dX6_stolen_71 (tb_st (by assumption)) rfl ?_
                    refine x_iload (pc := 74) dX6_stolen_74 rfl ?_
                    refine x_bird (pc := 76) dX6_stolen_76 (by assumption) (rfl) (hj8) ?_
                    refine x_iload_n (pc := 77) dX6_stolen_77 rfl rfl ?_
                    refine x_aload_n (pc := 78) dX6_stolen_78 rfl rfl ?_
                    refine x_geta (pc := 79) fl_X6_35 dX6_stolen_79 (tb_fv) rfl ?_
                    refine x_iload_n (pc := 82) dX6_stolen_82 rfl rfl ?_
                    refine x_sheet (pc := 83) dX6_stolen_83 (rfl) (by first | assumption | decide | omega) ?_
                    refine x_Si (pc := 84) ks_X6_221 dX6_stolen_84 (hX6_isRobbed hz hj8 es hn40) rfl rfl rfl (Nat.le_of_ble_eq_true rfl) ?_
                    refine x_ifb_eq (pc := 87) dX6_stolen_87 (tgt := 97) rfl (fun h87 => ?_) (fun h87 => ?_)
                    ·
                      have e := h0' j h87
                      try rw [e]
                      refine x_iinc4 (pc := 97) dX6_stolen_97 (by first | exact fv_inc _ | exact fv_dec _ | rfl) rfl ?_
                      refine x_goto (pc := 100) dX6_stolen_100 (tgt := 55) rfl ?_
                      exact hL
                    ·
                      have e := h1' j h87
                      refine x_iload_n (pc := 90) dX6_stolen_90 rfl rfl ?_
                      refine x_iconst (pc := 91) (v := 1) dX6_stolen_91 rfl ?_
                      refine x_iload (pc := 92) dX6_stolen_92 rfl ?_
                      refine x_ishl (pc := 94) dX6_stolen_94 ?_
                      refine x_ior (pc := 95) dX6_stolen_95 ?_
                      rw [e]
                      refine x_istore_n3 (pc := 96) dX6_stolen_96 rfl ?_
                      try rw [e]
                      refine x_iinc4 (pc := 97) dX6_stolen_97 (by first | exact fv_inc _ | exact fv_dec _ | rfl) rfl ?_
                      refine x_goto (pc := 100) dX6_stolen_100 (tgt := 55) rfl ?_
                      exact hL
                · show fv_X E mX6_stolen _ _ 55 [some (.ref 0), some (.int (nI z)), some (.int (nI q)), some (.int (oN H nb)), some (.int (nI nb))] [] M
                  refine x_iload (pc := 55) dX6_stolen_55 rfl ?_
                  refine x_aload_n (pc := 57) dX6_stolen_57 rfl rfl ?_
                  refine x_geta (pc := 58) fl_X6_12 dX6_stolen_58 (tb_fv) rfl ?_
                  refine x_geti (pc := 61) fl_X6_60 dX6_stolen_61 (tb_st (by assumption)) rfl (hB) ?_
                  refine x_icmp_ge (pc := 64) dX6_stolen_64 (tgt := 103) rfl (fun h64 => ?_) (fun h64 => ?_)
                  ·
                    refine x_iload_n (pc := 103) dX6_stolen_103 rfl rfl ?_
                    refine x_iret (pc := 104) dX6_stolen_104 rfl (by first | rfl | exact fv_nz _) ?_
                    exact ⟨rfl, pFr.rfl'⟩
                  ·
                    exact absurd (Int32.le_refl _) h64
              ·
                exact absurd hv h40
            ·
              exact absurd h24 h0
          ·
            exact absurd hs h5
        · skip
          have e22 : M1 22 = M 22 := hF 22 (by decide)
          have hG1 : pGd (M1 22) nb nm := by rw [e22]; exact hG2
          have hE1 : pEq nb nm (M1 22) (M 0) := by rw [e22]; exact hE
          have hB1 := hG1.1
          have hM1 := hG1.2.2.1
          have w34 : M1 34 z = M (13 + 2 * z) 0 := by rw [hF 34 (by decide)]; exact ew
          have w35 : M1 35 z = nI n := by rw [hF 35 (by decide)]; exact ez
          have w36 : ∀ i, i < 40 → M1 36 (40 * z + i) = M (14 + 2 * z) i := fun i hi => by rw [hF 36 (by decide)]; exact ec i hi
          refine fv_P.of (ls := [some (.ref 106), some (.int (nI z)), some (.int (nI q)), none, none, none, none, none, none]) (by decide) (Nat.le_of_ble_eq_true rfl) rfl ?_
          refine x_aload_n (pc := 0) dX7_stolen_0 rfl rfl ?_
          refine x_iload_n (pc := 1) dX7_stolen_1 rfl rfl ?_
          refine x_Vi (pc := 2) ks_X7_199 dX7_stolen_2 (tb_106) rfl rfl ((hX7_wrongSheet hz).v (show _ = (-1 : Int32) from by rw [w34, if_neg h0])) rfl rfl rfl (Nat.le_of_ble_eq_true rfl) ?_
          refine x_istore_n3 (pc := 5) dX7_stolen_5 rfl ?_
          refine x_iload_n (pc := 6) dX7_stolen_6 rfl rfl ?_
          refine x_if_ge (pc := 7) dX7_stolen_7 (tgt := 22) rfl (fun h7 => ?_) (fun h7 => ?_)
          ·
            exact absurd h7 (by decide)
          ·
            refine x_iload_n (pc := 10) dX7_stolen_10 rfl rfl ?_
            refine x_iconst (pc := 11) (v := 0) dX7_stolen_11 rfl ?_
            refine x_bipush (pc := 12) (v := 9) dX7_stolen_12 rfl ?_
            refine x_Si (pc := 14) ks_X7_60 dX7_stolen_14 (hX7_in1) rfl rfl rfl (Nat.le_of_ble_eq_true rfl) ?_
            refine x_ifb_ne (pc := 17) dX7_stolen_17 (tgt := 22) rfl (fun h17 => ?_) (fun h17 => ?_)
            ·
              refine x_iload_n (pc := 22) dX7_stolen_22 rfl rfl ?_
              refine x_if_lt (pc := 23) dX7_stolen_23 (tgt := 32) rfl (fun h23 => ?_) (fun h23 => ?_)
              ·
                refine x_iconst (pc := 32) (v := 0) dX7_stolen_32 rfl ?_
                refine x_istore4 (pc := 33) dX7_stolen_33 rfl ?_
                refine x_iconst (pc := 35) (v := 0) dX7_stolen_35 rfl ?_
                refine x_istore5 (pc := 36) dX7_stolen_36 rfl ?_
                refine x_loop (fun j => [some (.ref 106), some (.int (nI z)), some (.int (nI q)), some (.int (-1)), some (.int (oN H j)), some (.int (nI j)), none, none, none]) (fun _ => M1) nb rfl rfl (fun j hj hL => ?_) ?_
                · show fv_X E mX7_stolen _ _ 38 [some (.ref 106), some (.int (nI z)), some (.int (nI q)), some (.int (-1)), some (.int (oN H j)), some (.int (nI j)), none, none, none] [] M1
                  replace hL : fv_X E mX7_stolen _ _ 38 [some (.ref 106), some (.int (nI z)), some (.int (nI q)), some (.int (-1)), some (.int (oN H (j + 1))), some (.int (nI (j + 1))), none, none, none] [] M1 := hL
                  have hj8 : j < 8 := by omega
                  have hG1j := hG.2.2.2.2.1 j hj
                  refine x_iload (pc := 38) dX7_stolen_38 rfl ?_
                  refine x_aload_n (pc := 40) dX7_stolen_40 rfl rfl ?_
                  refine x_geta (pc := 41) fl_X7_9 dX7_stolen_41 (tb_106) rfl ?_
                  refine x_iconst (pc := 44) (v := 1) dX7_stolen_44 rfl ?_
                  refine x_iale (pc := 45) dX7_stolen_45 (tb_107) ((rfl : (1 : Int32) = nI 1)) (by decide) (by first | decide | assumption) (hB1) ?_
                  refine x_icmp_ge (pc := 46) dX7_stolen_46 (tgt := 134) rfl (fun h46 => ?_) (fun h46 => ?_)
                  ·
                    exact absurd h46 (nI_ge hj (by omega))
                  ·
                    refine x_iconst (pc := 49) (v := 1) dX7_stolen_49 rfl ?_
                    refine x_istore6 (pc := 50) dX7_stolen_50 rfl ?_
                    refine x_iconst (pc := 52) (v := 0) dX7_stolen_52 rfl ?_
                    refine x_istore7 (pc := 53) dX7_stolen_53 rfl ?_
                    refine x_loop (fun c => [some (.ref 106), some (.int (nI z)), some (.int (nI q)), some (.int (-1)), some (.int (oN H j)), some (.int (nI j)), some (.int (bI (wT (pRb M z n j (nI q)) c = c))), some (.int (nI c)), none]) (fun _ => M1) 4 rfl rfl (fun c hc hL2 => ?_) ?_
                    · show fv_X E mX7_stolen _ _ 55 [some (.ref 106), some (.int (nI z)), some (.int (nI q)), some (.int (-1)), some (.int (oN H j)), some (.int (nI j)), some (.int (bI (wT (pRb M z n j (nI q)) c = c))), some (.int (nI c)), none] [] M1
                      replace hL2 : fv_X E mX7_stolen _ _ 55 [some (.ref 106), some (.int (nI z)), some (.int (nI q)), some (.int (-1)), some (.int (oN H j)), some (.int (nI j)), some (.int (bI (wT (pRb M z n j (nI q)) (c + 1) = (c + 1)))), some (.int (nI (c + 1))), none] [] M1 := hL2
                      obtain ⟨x, hx, ex⟩ := hG1j.2.2.2 c hc
                      have ef : fB j (3 + c) = fB j 3 + c := by unfold fB; omega
                      have hs1 := wT_s (pRb M z n j (nI q)) c
                      have hpb : pRb M z n j (nI q) c = true ↔ (n ≤ c ∨ M1 36 (40 * z + c) = nI x - pMin (nI q) (nI x)) := by
                        rw [decide_eq_true_iff, w36 c (by omega), pMx (by omega) (by omega), ← ex]
                      refine x_iload (pc := 55) dX7_stolen_55 rfl ?_
                      refine x_iconst (pc := 57) (v := 4) dX7_stolen_57 rfl ?_
                      refine x_icmp_ge (pc := 58) dX7_stolen_58 (tgt := 110) rfl (fun h58 => ?_) (fun h58 => ?_)
                      ·
                        exact absurd h58 (nI_ge (b := 4) hc (by omega))
                      ·
                        refine x_aload_n (pc := 61) dX7_stolen_61 rfl rfl ?_
                        refine x_iload (pc := 62) dX7_stolen_62 rfl ?_
                        refine x_iconst (pc := 64) (v := 3) dX7_stolen_64 rfl ?_
                        refine x_iload (pc := 65) dX7_stolen_65 rfl ?_
                        refine x_iadd (pc := 67) dX7_stolen_67 ?_
                        rw [show (3 : Int32) + nI c = nI (3 + c) from nI_add 3 c]
                        refine x_Vi (pc := 68) ks_X7_64 dX7_stolen_68 (tb_106) rfl rfl ((hX7_get (f := 3 + c) hj8 (by omega)).v (show _ = nI x from by rw [ef]; exact (hE1.f hj hc).trans ex)) rfl rfl rfl (Nat.le_of_ble_eq_true rfl) ?_
                        refine x_istore8 (pc := 71) dX7_stolen_71 rfl ?_
                        refine x_iload (pc := 73) dX7_stolen_73 rfl ?_
                        refine x_ifb_eq (pc := 75) dX7_stolen_75 (tgt := 101) rfl (fun h75 => ?_) (fun h75 => ?_)
                        ·
                          rw [bI_f (fun p => h75 (hs1.mp p).1)] at hL2
                          refine x_iconst (pc := 101) (v := 0) dX7_stolen_101 rfl ?_
                          refine x_istore6 (pc := 102) dX7_stolen_102 rfl ?_
                          refine x_fg8 ?_
                          refine x_iinc7 (pc := 104) dX7_stolen_104 (by first | exact fv_inc _ | exact fv_dec _ | rfl) rfl ?_
                          refine x_goto (pc := 107) dX7_stolen_107 (tgt := 55) rfl ?_
                          exact hL2
                        ·
                          refine x_aload_n (pc := 78) dX7_stolen_78 rfl rfl ?_
                          refine x_iload_n (pc := 79) dX7_stolen_79 rfl rfl ?_
                          refine x_iload (pc := 80) dX7_stolen_80 rfl ?_
                          refine x_iload (pc := 82) dX7_stolen_82 rfl ?_
                          refine x_iload (pc := 84) dX7_stolen_84 rfl ?_
                          refine x_iload_n (pc := 86) dX7_stolen_86 rfl rfl ?_
                          refine x_Si (pc := 87) ks_X7_86 dX7_stolen_87 (hX7_less) rfl rfl rfl (Nat.le_of_ble_eq_true rfl) ?_
                          refine x_isub (pc := 90) dX7_stolen_90 ?_
                          refine x_Vi (pc := 91) ks_X7_202 dX7_stolen_91 (tb_106) rfl rfl (hX7_isTold hz (by omega) w35 hn40) rfl rfl rfl (Nat.le_of_ble_eq_true rfl) ?_
                          refine x_ifb_eq (pc := 94) dX7_stolen_94 (tgt := 101) rfl (fun h94 => ?_) (fun h94 => ?_)
                          ·
                            rw [bI_f (fun p => h94 (hpb.mp (hs1.mp p).2))] at hL2
                            refine x_iconst (pc := 101) (v := 0) dX7_stolen_101 rfl ?_
                            refine x_istore6 (pc := 102) dX7_stolen_102 rfl ?_
                            refine x_fg8 ?_
                            refine x_iinc7 (pc := 104) dX7_stolen_104 (by first | exact fv_inc _ | exact fv_dec _ | rfl) rfl ?_
                            refine x_goto (pc := 107) dX7_stolen_107 (tgt := 55) rfl ?_
                            exact hL2
                          ·
                            rw [bI_t (hs1.mpr ⟨h75, hpb.mpr h94⟩)] at hL2
                            refine x_iconst (pc := 97) (v := 1) dX7_stolen_97 rfl ?_
                            refine x_goto (pc := 98) dX7_stolen_98 (tgt := 102) rfl ?_
                            refine x_istore6 (pc := 102) dX7_stolen_102 rfl ?_
                            refine x_fg8 ?_
                            refine x_iinc7 (pc := 104) dX7_stolen_104 (by first | exact fv_inc _ | exact fv_dec _ | rfl) rfl ?_
                            refine x_goto (pc := 107) dX7_stolen_107 (tgt := 55) rfl ?_
                            exact hL2
                    · show fv_X E mX7_stolen _ _ 55 [some (.ref 106), some (.int (nI z)), some (.int (nI q)), some (.int (-1)), some (.int (oN H j)), some (.int (nI j)), some (.int (bI (wT (pRb M z n j (nI q)) 4 = 4))), some (.int (nI 4)), none] [] M1
                      refine x_iload (pc := 55) dX7_stolen_55 rfl ?_
                      refine x_iconst (pc := 57) (v := 4) dX7_stolen_57 rfl ?_
                      refine x_icmp_ge (pc := 58) dX7_stolen_58 (tgt := 110) rfl (fun h58 => ?_) (fun h58 => ?_)
                      ·
                        refine x_iload (pc := 110) dX7_stolen_110 rfl ?_
                        refine x_iload (pc := 112) dX7_stolen_112 rfl ?_
                        refine x_ifb_eq (pc := 114) dX7_stolen_114 (tgt := 124) rfl (fun h114 => ?_) (fun h114 => ?_)
                        ·
                          have e := h0' j h114
                          refine x_iconst (pc := 124) (v := 0) dX7_stolen_124 rfl ?_
                          refine x_ior (pc := 125) dX7_stolen_125 ?_
                          first | rw [Int32.or_zero, e] | rw [e]
                          refine x_istore4 (pc := 126) dX7_stolen_126 rfl ?_
                          refine x_fg6 (x_fg7 ?_)
                          refine x_iinc5 (pc := 128) dX7_stolen_128 (by first | exact fv_inc _ | exact fv_dec _ | rfl) rfl ?_
                          refine x_goto (pc := 131) dX7_stolen_131 (tgt := 38) rfl ?_
                          exact hL
                        ·
                          have e := h1' j h114
                          refine x_iconst (pc := 117) (v := 1) dX7_stolen_117 rfl ?_
                          refine x_iload (pc := 118) dX7_stolen_118 rfl ?_
                          refine x_ishl (pc := 120) dX7_stolen_120 ?_
                          refine x_goto (pc := 121) dX7_stolen_121 (tgt := 125) rfl ?_
                          refine x_ior (pc := 125) dX7_stolen_125 ?_
                          first | rw [Int32.or_zero, e] | rw [e]
                          refine x_istore4 (pc := 126) dX7_stolen_126 rfl ?_
                          refine x_fg6 (x_fg7 ?_)
                          refine x_iinc5 (pc := 128) dX7_stolen_128 (by first | exact fv_inc _ | exact fv_dec _ | rfl) rfl ?_
                          refine x_goto (pc := 131) dX7_stolen_131 (tgt := 38) rfl ?_
                          exact hL
                      ·
                        exact absurd (Int32.le_refl _) h58
                · show fv_X E mX7_stolen _ _ 38 [some (.ref 106), some (.int (nI z)), some (.int (nI q)), some (.int (-1)), some (.int (oN H nb)), some (.int (nI nb)), none, none, none] [] M1
                  refine x_iload (pc := 38) dX7_stolen_38 rfl ?_
                  refine x_aload_n (pc := 40) dX7_stolen_40 rfl rfl ?_
                  refine x_geta (pc := 41) fl_X7_9 dX7_stolen_41 (tb_106) rfl ?_
                  refine x_iconst (pc := 44) (v := 1) dX7_stolen_44 rfl ?_
                  refine x_iale (pc := 45) dX7_stolen_45 (tb_107) ((rfl : (1 : Int32) = nI 1)) (by decide) (by first | decide | assumption) (hB1) ?_
                  refine x_icmp_ge (pc := 46) dX7_stolen_46 (tgt := 134) rfl (fun h46 => ?_) (fun h46 => ?_)
                  ·
                    refine x_iload (pc := 134) dX7_stolen_134 rfl ?_
                    refine x_iret (pc := 136) dX7_stolen_136 rfl (by first | rfl | exact fv_nz _) ?_
                    exact ⟨rfl, pFr.rfl', rfl, rfl, fun _ _ _ => pEq.rfl'⟩
                  ·
                    exact absurd (Int32.le_refl _) h46
              ·
                exact absurd (by decide) h23
            ·
              exact absurd hv h17
      · skip
        refine pOp.bad (v := -1000001) 0 I ?_ (fun M1 hF => ?_)
        · skip
          refine fv_F.of (ls := [some (.ref 0), some (.int (nI z)), some (.int v), none, none]) (by decide) (Nat.le_of_ble_eq_true rfl) rfl ?_
          refine x_iload_n (pc := 0) dX6_stolen_0 rfl rfl ?_
          refine x_iconst (pc := 1) (v := 3) dX6_stolen_1 rfl ?_
          refine x_Si (pc := 2) ks_X6_51 dX6_stolen_2 (hX6_isUpTo) rfl rfl rfl (Nat.le_of_ble_eq_true rfl) ?_
          refine x_ifb_ne (pc := 5) dX6_stolen_5 (tgt := 15) rfl (fun h5 => ?_) (fun h5 => ?_)
          ·
            refine x_aload_n (pc := 15) dX6_stolen_15 rfl rfl ?_
            refine x_geta (pc := 16) fl_X6_35 dX6_stolen_16 (tb_fv) rfl ?_
            refine x_iload_n (pc := 19) dX6_stolen_19 rfl rfl ?_
            refine x_sheet (pc := 20) dX6_stolen_20 (rfl) (by first | assumption | decide | omega) ?_
            refine x_Vi (pc := 21) ks_X6_214 dX6_stolen_21 (tb_sh (by assumption)) rfl rfl (hX3_isMissing hz) rfl rfl rfl (Nat.le_of_ble_eq_true rfl) ?_
            refine x_ifb_eq (pc := 24) dX6_stolen_24 (tgt := 34) rfl (fun h24 => ?_) (fun h24 => ?_)
            ·
              refine x_iload_n (pc := 34) dX6_stolen_34 rfl rfl ?_
              refine x_bipush (pc := 35) (v := 9) dX6_stolen_35 rfl ?_
              refine x_Si (pc := 37) ks_X6_51 dX6_stolen_37 (hX6_isUpTo) rfl rfl rfl (Nat.le_of_ble_eq_true rfl) ?_
              refine x_ifb_ne (pc := 40) dX6_stolen_40 (tgt := 50) rfl (fun h40 => ?_) (fun h40 => ?_)
              ·
                exact absurd h40 hv
              ·
                refine x_aload_n (pc := 43) dX6_stolen_43 rfl rfl ?_
                refine x_ldc (pc := 44) kc_X6_55 dX6_stolen_44 ?_
                refine x_Vi (pc := 46) ks_X6_56 dX6_stolen_46 (tb_fv) rfl rfl (hX6_fin 0 (-1000001) (by decide +kernel) (by decide)) rfl rfl rfl (Nat.le_of_ble_eq_true rfl) ?_
                refine x_iret (pc := 49) dX6_stolen_49 rfl (by first | rfl | exact fv_nz _) ?_
                exact ⟨rfl, rfl⟩
            ·
              exact absurd h24 h0
          ·
            exact absurd hs h5
        · skip
          have e22 : M1 22 = M 22 := hF 22 (by decide)
          have hG1 : pGd (M1 22) nb nm := by rw [e22]; exact hG2
          have hE1 : pEq nb nm (M1 22) (M 0) := by rw [e22]; exact hE
          have hB1 := hG1.1
          have hM1 := hG1.2.2.1
          have w34 : M1 34 z = M (13 + 2 * z) 0 := by rw [hF 34 (by decide)]; exact ew
          have w35 : M1 35 z = nI n := by rw [hF 35 (by decide)]; exact ez
          have w36 : ∀ i, i < 40 → M1 36 (40 * z + i) = M (14 + 2 * z) i := fun i hi => by rw [hF 36 (by decide)]; exact ec i hi
          refine fv_F.of (ls := [some (.ref 106), some (.int (nI z)), some (.int v), none, none, none, none, none, none]) (by decide) (Nat.le_of_ble_eq_true rfl) rfl ?_
          refine x_aload_n (pc := 0) dX7_stolen_0 rfl rfl ?_
          refine x_iload_n (pc := 1) dX7_stolen_1 rfl rfl ?_
          refine x_Vi (pc := 2) ks_X7_199 dX7_stolen_2 (tb_106) rfl rfl ((hX7_wrongSheet hz).v (show _ = (-1 : Int32) from by rw [w34, if_neg h0])) rfl rfl rfl (Nat.le_of_ble_eq_true rfl) ?_
          refine x_istore_n3 (pc := 5) dX7_stolen_5 rfl ?_
          refine x_iload_n (pc := 6) dX7_stolen_6 rfl rfl ?_
          refine x_if_ge (pc := 7) dX7_stolen_7 (tgt := 22) rfl (fun h7 => ?_) (fun h7 => ?_)
          ·
            exact absurd h7 (by decide)
          ·
            refine x_iload_n (pc := 10) dX7_stolen_10 rfl rfl ?_
            refine x_iconst (pc := 11) (v := 0) dX7_stolen_11 rfl ?_
            refine x_bipush (pc := 12) (v := 9) dX7_stolen_12 rfl ?_
            refine x_Si (pc := 14) ks_X7_60 dX7_stolen_14 (hX7_in1) rfl rfl rfl (Nat.le_of_ble_eq_true rfl) ?_
            refine x_ifb_ne (pc := 17) dX7_stolen_17 (tgt := 22) rfl (fun h17 => ?_) (fun h17 => ?_)
            ·
              exact absurd h17 hv
            ·
              refine x_iconst (pc := 20) (v := 0) dX7_stolen_20 rfl ?_
              refine x_istore_n3 (pc := 21) dX7_stolen_21 rfl ?_
              refine x_iload_n (pc := 22) dX7_stolen_22 rfl rfl ?_
              refine x_if_lt (pc := 23) dX7_stolen_23 (tgt := 32) rfl (fun h23 => ?_) (fun h23 => ?_)
              ·
                exact absurd h23 (by decide)
              ·
                refine x_aload_n (pc := 26) dX7_stolen_26 rfl rfl ?_
                refine x_iload_n (pc := 27) dX7_stolen_27 rfl rfl ?_
                refine x_Vi (pc := 28) ks_X7_114 dX7_stolen_28 (tb_106) rfl rfl (hX7_noL 0 (-1000001) (by decide) (by decide +kernel)) rfl rfl rfl (Nat.le_of_ble_eq_true rfl) ?_
                refine x_iret (pc := 31) dX7_stolen_31 rfl (by first | rfl | exact fv_nz _) ?_
                exact ⟨rfl, rfl⟩
  · skip
    refine pOp.bad (v := -1000001) 0 I ?_ (fun M1 hF => ?_)
    · skip
      refine fv_F.of (ls := [some (.ref 0), some (.int s), some (.int v), none, none]) (by decide) (Nat.le_of_ble_eq_true rfl) rfl ?_
      refine x_iload_n (pc := 0) dX6_stolen_0 rfl rfl ?_
      refine x_iconst (pc := 1) (v := 3) dX6_stolen_1 rfl ?_
      refine x_Si (pc := 2) ks_X6_51 dX6_stolen_2 (hX6_isUpTo) rfl rfl rfl (Nat.le_of_ble_eq_true rfl) ?_
      refine x_ifb_ne (pc := 5) dX6_stolen_5 (tgt := 15) rfl (fun h5 => ?_) (fun h5 => ?_)
      ·
        exact absurd h5 hs
      ·
        refine x_aload_n (pc := 8) dX6_stolen_8 rfl rfl ?_
        refine x_ldc (pc := 9) kc_X6_55 dX6_stolen_9 ?_
        refine x_Vi (pc := 11) ks_X6_56 dX6_stolen_11 (tb_fv) rfl rfl (hX6_fin 0 (-1000001) (by decide +kernel) (by decide)) rfl rfl rfl (Nat.le_of_ble_eq_true rfl) ?_
        refine x_iret (pc := 14) dX6_stolen_14 rfl (by first | rfl | exact fv_nz _) ?_
        exact ⟨rfl, rfl⟩
    · skip
      have e22 : M1 22 = M 22 := hF 22 (by decide)
      have hG1 : pGd (M1 22) nb nm := by rw [e22]; exact hG2
      have hE1 : pEq nb nm (M1 22) (M 0) := by rw [e22]; exact hE
      have hB1 := hG1.1
      have hM1 := hG1.2.2.1
      refine fv_F.of (ls := [some (.ref 106), some (.int s), some (.int v), none, none, none, none, none, none]) (by decide) (Nat.le_of_ble_eq_true rfl) rfl ?_
      refine x_aload_n (pc := 0) dX7_stolen_0 rfl rfl ?_
      refine x_iload_n (pc := 1) dX7_stolen_1 rfl rfl ?_
      refine x_Vi (pc := 2) ks_X7_199 dX7_stolen_2 (tb_106) rfl rfl (hX7_wrongSheetF hs) rfl rfl rfl (Nat.le_of_ble_eq_true rfl) ?_
      refine x_istore_n3 (pc := 5) dX7_stolen_5 rfl ?_
      refine x_iload_n (pc := 6) dX7_stolen_6 rfl rfl ?_
      refine x_if_ge (pc := 7) dX7_stolen_7 (tgt := 22) rfl (fun h7 => ?_) (fun h7 => ?_)
      ·
        refine x_iload_n (pc := 22) dX7_stolen_22 rfl rfl ?_
        refine x_if_lt (pc := 23) dX7_stolen_23 (tgt := 32) rfl (fun h23 => ?_) (fun h23 => ?_)
        ·
          exact absurd h23 (by decide)
        ·
          refine x_aload_n (pc := 26) dX7_stolen_26 rfl rfl ?_
          refine x_iload_n (pc := 27) dX7_stolen_27 rfl rfl ?_
          refine x_Vi (pc := 28) ks_X7_114 dX7_stolen_28 (tb_106) rfl rfl (hX7_noL 0 (-1000001) (by decide) (by decide +kernel)) rfl rfl rfl (Nat.le_of_ble_eq_true rfl) ?_
          refine x_iret (pc := 31) dX7_stolen_31 rfl (by first | rfl | exact fv_nz _) ?_
          exact ⟨rfl, rfl⟩
      ·
        exact absurd (by decide) h7
