theorem x_aret {E : fv_E} {y : fv_Y} {d pc a : Nat} {Φ : Option Value → fv_M → Prop} {ls : List (Option Value)} {M : fv_M} {nm : String} (hdg : decode y.2.1 pc = .ok (.areturn, 1)) (hr : y.2.2.2 = some (.object nm)) (h : Φ (some (.ref a)) M) : fv_X E y d Φ pc ls [.ref a] M := by
  intro p l e s m args below meth c H locs lsA F hP hS hL
  exact W.aret F.1 F.2.1 (F.2.2.2.2.2.2.1.trans hr) (.inl ⟨nm, rfl⟩) (.inr ⟨_, rfl⟩) (fun t ht hW => ⟨⟨some (.ref a), M, rfl, h, by rw [ht]; exact hP⟩, hS.F ht⟩) hS.2.2 hdg F.2.2.2.2.2.1
theorem hX5_nameOf {E : fv_E} {d k : Nat} {M : fv_M} (hk : k < 7) : fv_F E d mX5_nameOf [.int (nI k)] M (some (.ref (1000 + k))) M := by
  rcases (show k = 0 ∨ k = 1 ∨ k = 2 ∨ k = 3 ∨ k = 4 ∨ k = 5 ∨ k = 6 by omega) with rfl | rfl | rfl | rfl | rfl | rfl | rfl
  ·
    refine fv_F.of (ls := [some (.int (nI 0))]) (by decide) (Nat.le_of_ble_eq_true rfl) rfl ?_
    refine x_iload_n (pc := 0) dX5_nameOf_0 rfl rfl ?_
    refine x_tableOut (pc := 1) dX5_nameOf_1 (by decide) (tgt := 58) rfl ?_
    refine x_ldcs (pc := 58) (k := 0) dX5_nameOf_58 (by decide) rfl rfl ?_
    refine x_aret (pc := 60) dX5_nameOf_60 rfl ?_
    exact ⟨rfl, rfl⟩
  ·
    refine fv_F.of (ls := [some (.int (nI 1))]) (by decide) (Nat.le_of_ble_eq_true rfl) rfl ?_
    refine x_iload_n (pc := 0) dX5_nameOf_0 rfl rfl ?_
    refine x_tableIn (pc := 1) dX5_nameOf_1 (by decide) (by decide) rfl (tgt := 40) rfl ?_
    refine x_ldcs (pc := 40) (k := 1) dX5_nameOf_40 (by decide) rfl rfl ?_
    refine x_aret (pc := 42) dX5_nameOf_42 rfl ?_
    exact ⟨rfl, rfl⟩
  ·
    refine fv_F.of (ls := [some (.int (nI 2))]) (by decide) (Nat.le_of_ble_eq_true rfl) rfl ?_
    refine x_iload_n (pc := 0) dX5_nameOf_0 rfl rfl ?_
    refine x_tableIn (pc := 1) dX5_nameOf_1 (by decide) (by decide) rfl (tgt := 43) rfl ?_
    refine x_ldcs (pc := 43) (k := 2) dX5_nameOf_43 (by decide) rfl rfl ?_
    refine x_aret (pc := 45) dX5_nameOf_45 rfl ?_
    exact ⟨rfl, rfl⟩
  ·
    refine fv_F.of (ls := [some (.int (nI 3))]) (by decide) (Nat.le_of_ble_eq_true rfl) rfl ?_
    refine x_iload_n (pc := 0) dX5_nameOf_0 rfl rfl ?_
    refine x_tableIn (pc := 1) dX5_nameOf_1 (by decide) (by decide) rfl (tgt := 46) rfl ?_
    refine x_ldcs (pc := 46) (k := 3) dX5_nameOf_46 (by decide) rfl rfl ?_
    refine x_aret (pc := 48) dX5_nameOf_48 rfl ?_
    exact ⟨rfl, rfl⟩
  ·
    refine fv_F.of (ls := [some (.int (nI 4))]) (by decide) (Nat.le_of_ble_eq_true rfl) rfl ?_
    refine x_iload_n (pc := 0) dX5_nameOf_0 rfl rfl ?_
    refine x_tableIn (pc := 1) dX5_nameOf_1 (by decide) (by decide) rfl (tgt := 49) rfl ?_
    refine x_ldcs (pc := 49) (k := 4) dX5_nameOf_49 (by decide) rfl rfl ?_
    refine x_aret (pc := 51) dX5_nameOf_51 rfl ?_
    exact ⟨rfl, rfl⟩
  ·
    refine fv_F.of (ls := [some (.int (nI 5))]) (by decide) (Nat.le_of_ble_eq_true rfl) rfl ?_
    refine x_iload_n (pc := 0) dX5_nameOf_0 rfl rfl ?_
    refine x_tableIn (pc := 1) dX5_nameOf_1 (by decide) (by decide) rfl (tgt := 52) rfl ?_
    refine x_ldcs (pc := 52) (k := 5) dX5_nameOf_52 (by decide) rfl rfl ?_
    refine x_aret (pc := 54) dX5_nameOf_54 rfl ?_
    exact ⟨rfl, rfl⟩
  ·
    refine fv_F.of (ls := [some (.int (nI 6))]) (by decide) (Nat.le_of_ble_eq_true rfl) rfl ?_
    refine x_iload_n (pc := 0) dX5_nameOf_0 rfl rfl ?_
    refine x_tableIn (pc := 1) dX5_nameOf_1 (by decide) (by decide) rfl (tgt := 55) rfl ?_
    refine x_ldcs (pc := 55) (k := 6) dX5_nameOf_55 (by decide) rfl rfl ?_
    refine x_aret (pc := 57) dX5_nameOf_57 rfl ?_
    exact ⟨rfl, rfl⟩
/-- the tape's reader stands at token j -/
def pTj (b : Nat → Nat) (L j : Nat) (M : fv_M) : Prop := pTk b L M ∧ M 4 6 = nI j ∧ j ≤ pTn b L ∧ L ≤ 120 ∧ ∀ i, i < L → b i < 256
abbrev pMj (M : fv_M) (j : Nat) : fv_M := fv_s M 4 (fv_u (M 4) 6 (nI j))
theorem pTj.adv {b : Nat → Nat} {L j k : Nat} {M : fv_M} (h : pTj b L j M) (hk : k ≤ pTn b L) : pTj b L k (pMj M k) := by
  obtain ⟨⟨i1, i2, i3, i4⟩, h2, h3, h4, h5⟩ := h
  exact ⟨⟨i1, i2, i3, i4⟩, rfl, hk, h4, h5⟩
theorem pTj.fr {b : Nat → Nat} {L j : Nat} {M M' : fv_M} (h : pTj b L j M) (h4 : M' 4 = M 4) (h5 : M' 5 = M 5) (h6 : M' 6 = M 6) (h7 : M' 7 = M 7) (h8 : M' 8 = M 8) : pTj b L j M' := by
  unfold pTj pTk at *
  rw [h4, h5, h6, h7, h8]
  exact h
theorem hX5_adv {E : fv_E} {d L j : Nat} {b : Nat → Nat} {M : fv_M} (h : pTj b L j M) : fv_F E d mX5_advance [.ref 88] M none (pMj M (pAd b L j)) := by
  obtain ⟨⟨i1, i2, i3, i4⟩, h2, h3, h4, h5⟩ := h
  have hn := (pTn_sp b L).1
  have q := hX5_advance (E := E) (d := d) i3 h2 h3 (by omega)
  have e : (if j < pTn b L then j + 1 else j) = pAd b L j := by
    unfold pAd
    by_cases z : j < pTn b L
    · rw [if_pos z, if_pos ((pAd_iff h3).mpr z)]
    · rw [if_neg z, if_neg (fun y => z ((pAd_iff h3).mp y))]
  rw [e] at q
  exact q
theorem pTo_le {b : Nat → Nat} {L s : Nat} : pTo b L s ≤ 5 := by
  unfold pTo
  by_cases h : s < L
  · rw [if_pos h]; exact (pSo_le _).2
  · rw [if_neg h]; omega
theorem hX5_isWord {E : fv_E} {d L j k : Nat} {b : Nat → Nat} {M : fv_M} (h : pTj b L j M) (hk : k < 15) : fv_F E (d + 4) mX5_isWord [.ref 88, .ref (1000 + k)] M (some (.int (bI (pWi b L (pTS b L j) = k)))) M := by
  obtain ⟨⟨i1, i2, i3, i4⟩, hj, hjn, hL, hb⟩ := h
  obtain ⟨v6, v7, v8⟩ := i4 j hjn
  have hn := (pTn_sp b L).1
  have hS := pTS_le (b := b) (L := L) j
  have hE := pTE_le (b := b) hS
  have hto := pTo_le (b := b) (L := L) (s := pTS b L j)
  have hw := pWi_w (b := b) (L := L) (s := pTS b L j) hk
  have hkb := (pKb_sp hk).2
  have hlen := (pStr_at hk).1.1
  generalize pTS b L j = s at *
  generalize hEe : pTE b L s = e at *
  generalize hle : fv_kL.getD k 0 = len at *
  have q1 : nI (pTo b L s) = 1 ↔ pTo b L s = 1 := nI_eq (b := 1) (by omega) (by decide)
  refine fv_F.of (ls := [some (.ref 88), some (.ref (1000 + k)), none]) (by decide) (Nat.le_of_ble_eq_true rfl) rfl ?_
  refine x_aload_n (pc := 0) dX5_isWord_0 rfl rfl ?_
  refine x_geta (pc := 1) fl_X5_19 dX5_isWord_1 (tb_88) rfl ?_
  refine x_aload_n (pc := 4) dX5_isWord_4 rfl rfl ?_
  refine x_geti (pc := 5) fl_X5_31 dX5_isWord_5 (tb_88) rfl (hj) ?_
  refine x_iale (pc := 8) dX5_isWord_8 (tb_90) (rfl) (by omega) (by first | decide | assumption) (show _ = nI (pTo b L s) from by rw [Nat.zero_add]; exact v6) ?_
  refine x_iconst (pc := 9) (v := 1) dX5_isWord_9 rfl ?_
  refine x_icmp_ne (pc := 10) dX5_isWord_10 (tgt := 39) rfl (fun h10 => ?_) (fun h10 => ?_)
  ·
    have eq := bI_f (p := pWi b L s = k) (fun z => h10 (q1.mpr (hw.mp z).1))
    refine x_iconst (pc := 39) (v := 0) dX5_isWord_39 rfl ?_
    refine x_iret (pc := 40) dX5_isWord_40 rfl (by first | rfl | exact fv_nz _) ?_
    exact ⟨congrArg (fun z => some (Value.int z)) eq.symm, rfl⟩
  ·
    refine x_aload_n (pc := 13) dX5_isWord_13 rfl rfl ?_
    refine x_geta (pc := 14) fl_X5_25 dX5_isWord_14 (tb_88) rfl ?_
    refine x_aload_n (pc := 17) dX5_isWord_17 rfl rfl ?_
    refine x_geti (pc := 18) fl_X5_31 dX5_isWord_18 (tb_88) rfl (hj) ?_
    refine x_iale (pc := 21) dX5_isWord_21 (tb_92) (rfl) (by omega) (by first | decide | assumption) (show _ = nI e from by rw [Nat.zero_add]; exact v8) ?_
    refine x_aload_n (pc := 22) dX5_isWord_22 rfl rfl ?_
    refine x_geta (pc := 23) fl_X5_22 dX5_isWord_23 (tb_88) rfl ?_
    refine x_aload_n (pc := 26) dX5_isWord_26 rfl rfl ?_
    refine x_geti (pc := 27) fl_X5_31 dX5_isWord_27 (tb_88) rfl (hj) ?_
    refine x_iale (pc := 30) dX5_isWord_30 (tb_91) (rfl) (by omega) (by first | decide | assumption) (show _ = nI s from by rw [Nat.zero_add]; exact v7) ?_
    refine x_isub (pc := 31) dX5_isWord_31 ?_
    rw [nI_sub' hE.1]
    refine x_aload_n (pc := 32) dX5_isWord_32 rfl rfl ?_
    refine x_Ti (pc := 33) ks_X5_56 dX5_isWord_33 hk rfl (hJ0_length hk) rfl rfl rfl (Nat.le_of_ble_eq_true rfl) ?_
    refine x_icmp_eq (pc := 36) dX5_isWord_36 (tgt := 41) rfl (fun h36 => ?_) (fun h36 => ?_)
    ·
      refine x_iconst (pc := 41) (v := 0) dX5_isWord_41 rfl ?_
      refine x_istore_n2 (pc := 42) dX5_isWord_42 rfl ?_
      have h1 := q1.mp h10
      have hlt := (pTo_1 h1).1
      have h2 : e - s = len := (nI_eq (by omega) (by omega)).mp (h36.trans (congrArg nI hle))
      obtain ⟨w1, w2, w3⟩ := wT_all (fun i => decide (b (s + i) = pKb k i)) len
      have w2' : ∀ i, i < wT (fun i => decide (b (s + i) = pKb k i)) len → b (s + i) = pKb k i := fun i hi => of_decide_eq_true (w2 i hi)
      have w3' : wT (fun i => decide (b (s + i) = pKb k i)) len < len → b (s + wT (fun i => decide (b (s + i) = pKb k i)) len) ≠ pKb k (wT (fun i => decide (b (s + i) = pKb k i)) len) := fun hi => of_decide_eq_false (w3 hi)
      clear w2 w3
      generalize wT (fun i => decide (b (s + i) = pKb k i)) len = n at *
      refine x_loop (fun i => [some (.ref 88), some (.ref (1000 + k)), some (.int (nI i))]) (fun _ => M) n rfl rfl (fun i hi hL3 => ?_) ?_
      · show fv_X E mX5_isWord _ _ 43 [some (.ref 88), some (.ref (1000 + k)), some (.int (nI i))] [] M
        replace hL3 : fv_X E mX5_isWord _ _ 43 [some (.ref 88), some (.ref (1000 + k)), some (.int (nI (i + 1)))] [] M := hL3
        refine x_iload_n (pc := 43) dX5_isWord_43 rfl rfl ?_
        refine x_aload_n (pc := 44) dX5_isWord_44 rfl rfl ?_
        refine x_Ti (pc := 45) ks_X5_56 dX5_isWord_45 hk rfl (hJ0_length hk) rfl rfl rfl (Nat.le_of_ble_eq_true rfl) ?_
        refine x_icmp_ge (pc := 48) dX5_isWord_48 (tgt := 83) rfl (fun h48 => ?_) (fun h48 => ?_)
        ·
          exact absurd h48 (nI_ge (by omega) (by omega))
        ·
          refine x_aload_n (pc := 51) dX5_isWord_51 rfl rfl ?_
          refine x_geta (pc := 52) fl_X5_15 dX5_isWord_52 (tb_88) rfl ?_
          refine x_aload_n (pc := 55) dX5_isWord_55 rfl rfl ?_
          refine x_geta (pc := 56) fl_X5_22 dX5_isWord_56 (tb_88) rfl ?_
          refine x_aload_n (pc := 59) dX5_isWord_59 rfl rfl ?_
          refine x_geti (pc := 60) fl_X5_31 dX5_isWord_60 (tb_88) rfl (hj) ?_
          refine x_iale (pc := 63) dX5_isWord_63 (tb_91) (rfl) (by omega) (by first | decide | assumption) (show _ = nI s from by rw [Nat.zero_add]; exact v7) ?_
          refine x_iload_n (pc := 64) dX5_isWord_64 rfl rfl ?_
          refine x_iadd (pc := 65) dX5_isWord_65 ?_
          refine x_iale (pc := 66) dX5_isWord_66 (tb_89) (nI_add s i) (by omega) (by first | decide | assumption) (show _ = nI (b (s + i)) from by rw [Nat.zero_add]; exact i2 _ (by omega)) ?_
          refine x_aload_n (pc := 67) dX5_isWord_67 rfl rfl ?_
          refine x_iload_n (pc := 68) dX5_isWord_68 rfl rfl ?_
          refine x_Ti (pc := 69) ks_X5_61 dX5_isWord_69 hk rfl (hJ0_charAt (c := i) hk (by omega)) rfl rfl rfl (Nat.le_of_ble_eq_true rfl) ?_
          rw [(hkb i (by omega)).1]
          refine x_icmp_eq (pc := 72) dX5_isWord_72 (tgt := 77) rfl (fun h72 => ?_) (fun h72 => ?_)
          ·
            refine x_iinc2 (pc := 77) dX5_isWord_77 (by first | exact fv_inc _ | exact fv_dec _ | rfl) rfl ?_
            refine x_goto (pc := 80) dX5_isWord_80 (tgt := 43) rfl ?_
            exact hL3
          ·
            exact absurd (congrArg nI (w2' i hi)) h72
      · show fv_X E mX5_isWord _ _ 43 [some (.ref 88), some (.ref (1000 + k)), some (.int (nI n))] [] M
        refine x_iload_n (pc := 43) dX5_isWord_43 rfl rfl ?_
        refine x_aload_n (pc := 44) dX5_isWord_44 rfl rfl ?_
        refine x_Ti (pc := 45) ks_X5_56 dX5_isWord_45 hk rfl (hJ0_length hk) rfl rfl rfl (Nat.le_of_ble_eq_true rfl) ?_
        refine x_icmp_ge (pc := 48) dX5_isWord_48 (tgt := 83) rfl (fun h48 => ?_) (fun h48 => ?_)
        ·
          have eq := bI_t (p := pWi b L s = k) (hw.mpr ⟨h1, h2, fun i hi => w2' i (by have := (nI_leI (by omega) (by omega)).mp h48; omega)⟩)
          refine x_iconst (pc := 83) (v := 1) dX5_isWord_83 rfl ?_
          refine x_iret (pc := 84) dX5_isWord_84 rfl (by first | rfl | exact fv_nz _) ?_
          exact ⟨congrArg (fun z => some (Value.int z)) eq.symm, rfl⟩
        ·
          have hnl : n < len := Nat.lt_of_not_le (fun z => h48 (nI_le (by omega) (by omega)))
          refine x_aload_n (pc := 51) dX5_isWord_51 rfl rfl ?_
          refine x_geta (pc := 52) fl_X5_15 dX5_isWord_52 (tb_88) rfl ?_
          refine x_aload_n (pc := 55) dX5_isWord_55 rfl rfl ?_
          refine x_geta (pc := 56) fl_X5_22 dX5_isWord_56 (tb_88) rfl ?_
          refine x_aload_n (pc := 59) dX5_isWord_59 rfl rfl ?_
          refine x_geti (pc := 60) fl_X5_31 dX5_isWord_60 (tb_88) rfl (hj) ?_
          refine x_iale (pc := 63) dX5_isWord_63 (tb_91) (rfl) (by omega) (by first | decide | assumption) (show _ = nI s from by rw [Nat.zero_add]; exact v7) ?_
          refine x_iload_n (pc := 64) dX5_isWord_64 rfl rfl ?_
          refine x_iadd (pc := 65) dX5_isWord_65 ?_
          refine x_iale (pc := 66) dX5_isWord_66 (tb_89) (nI_add s n) (by omega) (by first | decide | assumption) (show _ = nI (b (s + n)) from by rw [Nat.zero_add]; exact i2 _ (by omega)) ?_
          refine x_aload_n (pc := 67) dX5_isWord_67 rfl rfl ?_
          refine x_iload_n (pc := 68) dX5_isWord_68 rfl rfl ?_
          refine x_Ti (pc := 69) ks_X5_61 dX5_isWord_69 hk rfl (hJ0_charAt (c := n) hk (by omega)) rfl rfl rfl (Nat.le_of_ble_eq_true rfl) ?_
          rw [(hkb n hnl).1]
          refine x_icmp_eq (pc := 72) dX5_isWord_72 (tgt := 77) rfl (fun h72 => ?_) (fun h72 => ?_)
          ·
            exact absurd ((nI_eq (by have := hb (s + n) (by omega); omega) (by have := hkb n hnl; omega)).mp h72) (w3' hnl)
          ·
            have eq := bI_f (p := pWi b L s = k) (fun z => w3' hnl ((hw.mp z).2.2 n hnl))
            refine x_iconst (pc := 75) (v := 0) dX5_isWord_75 rfl ?_
            refine x_iret (pc := 76) dX5_isWord_76 rfl (by first | rfl | exact fv_nz _) ?_
            exact ⟨congrArg (fun z => some (Value.int z)) eq.symm, rfl⟩
    ·
      have eq := bI_f (p := pWi b L s = k) (fun z => h36 (congrArg nI ((hw.mp z).2.1.trans hle.symm)))
      refine x_iconst (pc := 39) (v := 0) dX5_isWord_39 rfl ?_
      refine x_iret (pc := 40) dX5_isWord_40 rfl (by first | rfl | exact fv_nz _) ?_
      exact ⟨congrArg (fun z => some (Value.int z)) eq.symm, rfl⟩
theorem hX5_takeWord {E : fv_E} {d L j k : Nat} {b : Nat → Nat} {M : fv_M} (h : pTj b L j M) (hk : k < 15) : fv_F E (d + 5) mX5_takeWord [.ref 88, .ref (1000 + k)] M (some (.int (bI (pWi b L (pTS b L j) = k)))) (if pWi b L (pTS b L j) = k then pMj M (pAd b L j) else M) := by
  refine fv_F.of (ls := [some (.ref 88), some (.ref (1000 + k)), none]) (by decide) (Nat.le_of_ble_eq_true rfl) rfl ?_
  refine x_aload_n (pc := 0) dX5_takeWord_0 rfl rfl ?_
  refine x_aload_n (pc := 1) dX5_takeWord_1 rfl rfl ?_
  refine x_Vi (pc := 2) ks_X5_65 dX5_takeWord_2 (tb_88) rfl rfl (hX5_isWord h hk) rfl rfl rfl (Nat.le_of_ble_eq_true rfl) ?_
  refine x_istore_n2 (pc := 5) dX5_takeWord_5 rfl ?_
  refine x_iload_n (pc := 6) dX5_takeWord_6 rfl rfl ?_
  refine x_ifb_eq (pc := 7) dX5_takeWord_7 (tgt := 14) rfl (fun h7 => ?_) (fun h7 => ?_)
  ·
    have eq : (if pWi b L (pTS b L j) = k then pMj M (pAd b L j) else M) = M := if_neg h7
    refine x_iload_n (pc := 14) dX5_takeWord_14 rfl rfl ?_
    refine x_iret (pc := 15) dX5_takeWord_15 rfl (by first | rfl | exact fv_nz _) ?_
    exact ⟨rfl, eq.symm⟩
  ·
    have eq : (if pWi b L (pTS b L j) = k then pMj M (pAd b L j) else M) = pMj M (pAd b L j) := if_pos h7
    refine x_aload_n (pc := 10) dX5_takeWord_10 rfl rfl ?_
    refine x_Vv (pc := 11) ks_X5_38 dX5_takeWord_11 (tb_88) rfl rfl (hX5_adv h) rfl rfl rfl (Nat.le_of_ble_eq_true rfl) ?_
    refine x_iload_n (pc := 14) dX5_takeWord_14 rfl rfl ?_
    refine x_iret (pc := 15) dX5_takeWord_15 rfl (by first | rfl | exact fv_nz _) ?_
    exact ⟨rfl, eq.symm⟩
