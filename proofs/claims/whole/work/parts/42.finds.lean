theorem pG2.at {σ : Nat → Int32} {nb nm m : Nat} (h : pGd σ nb nm) (hm : m < nm) : m < 8 ∧ σ (fM m 0) = nI (pCo σ m) ∧ pCo σ m < 4 ∧ (∃ u, u < 256 ∧ σ (fM m 2) = nI u) := by
  have hC := pCo_of h.C hm
  exact ⟨Nat.lt_of_lt_of_le hm h.2.2.2.1, hC.1, hC.2, (h.2.2.2.2.2.1 m hm).2.2.1⟩
theorem hX7_vote1 {E : fv_E} {d nb nm m : Nat} {M : fv_M} (hG : pGd (M 22) nb nm) (hm : m < nm) : fv_P E (d + 6) mX7_votes [.ref 106, .int (nI m)] M (some (.int (bI (pVp (M 22) m (pCo (M 22) m) nb)))) (fun M' => pFr [22, 26] M M' ∧ M' 22 = pVo nb m (M 22)) := by
  obtain ⟨h8, hcol, hc, u, hu, eu⟩ := pG2.at hG hm
  obtain ⟨a, ha, ea⟩ := hG.2.2.2.2.2.2.1 _ hc
  exact (hX7_votes hG.gb h8 hcol hc hu eu ha ea).p ⟨(pFr.rfl'.s (by decide)).s (by decide), fv_s_same _ _ _⟩
theorem pMf_mono (k : Nat) : ∀ m i, (pMf k m).length ≤ (pMf k (m + i)).length := by
  intro m i
  induction i with
  | zero => exact Nat.le_refl _
  | succ i ih =>
    refine Nat.le_trans ih ?_
    show _ ≤ (pMf k (m + i + 1)).length
    rw [pMf_s k (m + i)]
    split
    · rw [List.length_append]; exact Nat.le_add_right _ _
    · exact Nat.le_refl _
theorem hX7_laysOrder {E : fv_E} {d nm k : Nat} {M : fv_M} (hM : M 22 2 = nI nm) (hn : nm ≤ 8) (hk : k < 2 ^ nm) (h5 : pBc k ≤ 5) : fv_F E (d + 1) mX7_laysOrder [.ref 106, .int (nI k)] M (some (.int (nI (pBc k)))) (fv_s M 27 (pLay (M 27) (pMf k 8))) := by
  have hk8 : k < 256 := Nat.lt_of_lt_of_le hk (pAll_of hn).2.1
  have e8 := pMf_le hn hk
  have hle : ∀ m, m ≤ nm → (pMf k m).length ≤ 5 := fun m hm => by
    have h := pMf_mono k m (nm - m)
    rw [show m + (nm - m) = nm by omega, e8] at h
    exact Nat.le_trans h h5
  refine fv_F.of (ls := [some (.ref 106), some (.int (nI k)), none, none]) (by decide) (Nat.le_of_ble_eq_true rfl) rfl ?_
  refine x_iconst (pc := 0) (v := 0) dX7_laysOrder_0 rfl ?_
  refine x_istore_n2 (pc := 1) dX7_laysOrder_1 rfl ?_
  refine x_iconst (pc := 2) (v := 0) dX7_laysOrder_2 rfl ?_
  refine x_istore_n3 (pc := 3) dX7_laysOrder_3 rfl ?_
  refine x_loop (fun m => [some (.ref 106), some (.int (nI k)), some (.int (nI (pMf k m).length)), some (.int (nI m))]) (fun m => fv_s M 27 (pLay (M 27) (pMf k m))) nm rfl (fv_s_id M 27) (fun m hm hL => ?_) ?_
  · show fv_X E mX7_laysOrder _ _ 4 [some (.ref 106), some (.int (nI k)), some (.int (nI (pMf k m).length)), some (.int (nI m))] [] (fv_s M 27 (pLay (M 27) (pMf k m)))
    replace hL : fv_X E mX7_laysOrder _ _ 4 [some (.ref 106), some (.int (nI k)), some (.int (nI (pMf k (m + 1)).length)), some (.int (nI (m + 1)))] [] (fv_s M 27 (pLay (M 27) (pMf k (m + 1)))) := hL
    have htb := pIn_tb hk8 (show m < 8 by omega)
    have hl1 := hle (m + 1) hm
    refine x_iload_n (pc := 4) dX7_laysOrder_4 rfl rfl ?_
    refine x_aload_n (pc := 5) dX7_laysOrder_5 rfl rfl ?_
    refine x_geta (pc := 6) fl_X7_9 dX7_laysOrder_6 (tb_106) rfl ?_
    refine x_iconst (pc := 9) (v := 2) dX7_laysOrder_9 rfl ?_
    refine x_iale (pc := 10) dX7_laysOrder_10 (tb_107) ((rfl : (2 : Int32) = nI 2)) (by decide) (by first | decide | assumption) ((congrFun (fv_s_ne M _ (by decide)) 2).trans hM) ?_
    refine x_icmp_ge (pc := 11) dX7_laysOrder_11 (tgt := 38) rfl (fun h11 => ?_) (fun h11 => ?_)
    ·
      exact absurd h11 (nI_ge hm (by omega))
    ·
      refine x_iload_n (pc := 14) dX7_laysOrder_14 rfl rfl ?_
      refine x_iload_n (pc := 15) dX7_laysOrder_15 rfl rfl ?_
      refine x_Si (pc := 16) ks_X7_76 dX7_laysOrder_16 (hX7_isIn) rfl rfl rfl (Nat.le_of_ble_eq_true rfl) ?_
      refine x_ifb_eq (pc := 19) dX7_laysOrder_19 (tgt := 32) rfl (fun h19 => ?_) (fun h19 => ?_)
      ·
        rw [pMf_s k m, if_neg (fun q => h19 (htb.mpr q))] at hL
        refine x_iinc3 (pc := 32) dX7_laysOrder_32 (by first | exact fv_inc _ | exact fv_dec _ | rfl) rfl ?_
        refine x_goto (pc := 35) dX7_laysOrder_35 (tgt := 4) rfl ?_
        exact hL
      ·
        rw [pMf_s k m, if_pos (htb.mp h19), List.length_append] at hl1
        have hl2 : (pMf k m).length < 5 := hl1
        rw [pMf_s k m, if_pos (htb.mp h19), show (pMf k m ++ [m]).length = (pMf k m).length + 1 by simp] at hL
        refine x_aload_n (pc := 22) dX7_laysOrder_22 rfl rfl ?_
        refine x_geta (pc := 23) fl_X7_25 dX7_laysOrder_23 (tb_106) rfl ?_
        refine x_iload_n (pc := 26) dX7_laysOrder_26 rfl rfl ?_
        refine x_iload_n (pc := 27) dX7_laysOrder_27 rfl rfl ?_
        refine x_iast (pc := 28) dX7_laysOrder_28 (tb_112) (rfl) (hl2) (by first | decide | assumption) ?_
        rw [fv_s_same, fv_s_s, Nat.zero_add, pLay_add]
        refine x_iinc2 (pc := 29) dX7_laysOrder_29 (by first | exact fv_inc _ | exact fv_dec _ | rfl) rfl ?_
        refine x_iinc3 (pc := 32) dX7_laysOrder_32 (by first | exact fv_inc _ | exact fv_dec _ | rfl) rfl ?_
        refine x_goto (pc := 35) dX7_laysOrder_35 (tgt := 4) rfl ?_
        exact hL
  · show fv_X E mX7_laysOrder _ _ 4 [some (.ref 106), some (.int (nI k)), some (.int (nI (pMf k nm).length)), some (.int (nI nm))] [] (fv_s M 27 (pLay (M 27) (pMf k nm)))
    rw [e8]
    refine x_iload_n (pc := 4) dX7_laysOrder_4 rfl rfl ?_
    refine x_aload_n (pc := 5) dX7_laysOrder_5 rfl rfl ?_
    refine x_geta (pc := 6) fl_X7_9 dX7_laysOrder_6 (tb_106) rfl ?_
    refine x_iconst (pc := 9) (v := 2) dX7_laysOrder_9 rfl ?_
    refine x_iale (pc := 10) dX7_laysOrder_10 (tb_107) ((rfl : (2 : Int32) = nI 2)) (by decide) (by first | decide | assumption) ((congrFun (fv_s_ne M _ (by decide)) 2).trans hM) ?_
    refine x_icmp_ge (pc := 11) dX7_laysOrder_11 (tgt := 38) rfl (fun h11 => ?_) (fun h11 => ?_)
    ·
      refine x_iload_n (pc := 38) dX7_laysOrder_38 rfl rfl ?_
      refine x_iret (pc := 39) dX7_laysOrder_39 rfl (by first | rfl | exact fv_nz _) ?_
      exact ⟨rfl, rfl⟩
    ·
      exact absurd (Int32.le_refl _) h11
theorem hX7_isSet {E : fv_E} {d nm k : Nat} {M : fv_M} (hM : M 22 2 = nI nm) (hn : nm ≤ 8) (hk : k < 2 ^ nm) : fv_F E (d + 1) mX7_isSet [.ref 106, .int (nI k)] M (some (.int (bI (pBc k ≤ 5)))) M := by
  obtain ⟨a1, a2, a3⟩ := pAll_of hn
  have h8 : pBc k ≤ 8 := pMf_len k 8
  refine fv_F.of (ls := [some (.ref 106), some (.int (nI k))]) (by decide) (Nat.le_of_ble_eq_true rfl) rfl ?_
  refine x_iload_n (pc := 0) dX7_isSet_0 rfl rfl ?_
  refine x_iconst (pc := 1) (v := 0) dX7_isSet_1 rfl ?_
  refine x_iconst (pc := 2) (v := 1) dX7_isSet_2 rfl ?_
  refine x_aload_n (pc := 3) dX7_isSet_3 rfl rfl ?_
  refine x_geta (pc := 4) fl_X7_9 dX7_isSet_4 (tb_106) rfl ?_
  refine x_iconst (pc := 7) (v := 2) dX7_isSet_7 rfl ?_
  refine x_iale (pc := 8) dX7_isSet_8 (tb_107) ((rfl : (2 : Int32) = nI 2)) (by decide) (by first | decide | assumption) (hM) ?_
  refine x_ishl (pc := 9) dX7_isSet_9 ?_
  refine x_iconst (pc := 10) (v := 1) dX7_isSet_10 rfl ?_
  refine x_isub (pc := 11) dX7_isSet_11 ?_
  refine x_Si (pc := 12) ks_X7_60 dX7_isSet_12 (hX7_in1) rfl rfl rfl (Nat.le_of_ble_eq_true rfl) ?_
  refine x_ifb_eq (pc := 15) dX7_isSet_15 (tgt := 30) rfl (fun h15 => ?_) (fun h15 => ?_)
  ·
    exact absurd ⟨nI_pos' (by omega), by show nI k ≤ pAll nm; rw [a1]; exact nI_le (by omega) (by omega)⟩ h15
  ·
    refine x_iload_n (pc := 18) dX7_isSet_18 rfl rfl ?_
    refine x_Si (pc := 19) ks_X7_158 dX7_isSet_19 (hX7_bits (by omega)) rfl rfl rfl (Nat.le_of_ble_eq_true rfl) ?_
    refine x_iconst (pc := 22) (v := 5) dX7_isSet_22 rfl ?_
    refine x_icmp_gt (pc := 23) dX7_isSet_23 (tgt := 30) rfl (fun h23 => ?_) (fun h23 => ?_)
    ·
      refine x_iconst (pc := 30) (v := 0) dX7_isSet_30 rfl ?_
      refine x_iret (pc := 31) dX7_isSet_31 rfl (by first | rfl | exact fv_nz _) ?_
      first | exact ⟨fv_rt (Nat.le_of_not_lt (fun q => h23 (nI_lt (a := 5) q (by omega)))), rfl⟩ | exact ⟨fv_rf (fun q => absurd h23 (nI_nlt (b := pBc k) (a := 5) q (by omega))), rfl⟩
    ·
      refine x_iconst (pc := 26) (v := 1) dX7_isSet_26 rfl ?_
      refine x_goto (pc := 27) dX7_isSet_27 (tgt := 31) rfl ?_
      refine x_iret (pc := 31) dX7_isSet_31 rfl (by first | rfl | exact fv_nz _) ?_
      first | exact ⟨fv_rt (Nat.le_of_not_lt (fun q => h23 (nI_lt (a := 5) q (by omega)))), rfl⟩ | exact ⟨fv_rf (fun q => absurd h23 (nI_nlt (b := pBc k) (a := 5) q (by omega))), rfl⟩
theorem hX7_isSetF {E : fv_E} {d nm : Nat} {v : Int32} {M : fv_M} (hM : M 22 2 = nI nm) (hv : ¬ (0 ≤ v ∧ v ≤ pAll nm)) : fv_F E (d + 1) mX7_isSet [.ref 106, .int v] M (some (.int 0)) M := by
  refine fv_F.of (ls := [some (.ref 106), some (.int v)]) (by decide) (Nat.le_of_ble_eq_true rfl) rfl ?_
  refine x_iload_n (pc := 0) dX7_isSet_0 rfl rfl ?_
  refine x_iconst (pc := 1) (v := 0) dX7_isSet_1 rfl ?_
  refine x_iconst (pc := 2) (v := 1) dX7_isSet_2 rfl ?_
  refine x_aload_n (pc := 3) dX7_isSet_3 rfl rfl ?_
  refine x_geta (pc := 4) fl_X7_9 dX7_isSet_4 (tb_106) rfl ?_
  refine x_iconst (pc := 7) (v := 2) dX7_isSet_7 rfl ?_
  refine x_iale (pc := 8) dX7_isSet_8 (tb_107) ((rfl : (2 : Int32) = nI 2)) (by decide) (by first | decide | assumption) (hM) ?_
  refine x_ishl (pc := 9) dX7_isSet_9 ?_
  refine x_iconst (pc := 10) (v := 1) dX7_isSet_10 rfl ?_
  refine x_isub (pc := 11) dX7_isSet_11 ?_
  refine x_Si (pc := 12) ks_X7_60 dX7_isSet_12 (hX7_in1) rfl rfl rfl (Nat.le_of_ble_eq_true rfl) ?_
  refine x_ifb_eq (pc := 15) dX7_isSet_15 (tgt := 30) rfl (fun h15 => ?_) (fun h15 => ?_)
  ·
    refine x_iconst (pc := 30) (v := 0) dX7_isSet_30 rfl ?_
    refine x_iret (pc := 31) dX7_isSet_31 rfl (by first | rfl | exact fv_nz _) ?_
    exact ⟨rfl, rfl⟩
  ·
    exact absurd h15 hv
