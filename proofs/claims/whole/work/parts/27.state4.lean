def pEnB (e : Int32) (b : Nat) (τ : Nat → Int32) : Nat → Int32 :=
  if e = 1 then fv_u τ (fB b 2) (pMin 9 (τ (fB b 2) + 1)) else if e = 2 then fv_u τ (fB b 2) (pMax 0 (τ (fB b 2) - 1)) else if e = 3 then fv_u τ (fB b 1) (pMin 99 (τ (fB b 1) + 1)) else if e = 4 then fv_u τ (fB b 1) (pMax 0 (τ (fB b 1) - 1)) else τ
theorem pEnB_ne {e : Int32} {b j : Nat} {τ : Nat → Int32} (h1 : j ≠ fB b 1) (h2 : j ≠ fB b 2) : pEnB e b τ j = τ j := by
  unfold pEnB
  split
  · exact fv_u_ne _ _ h2
  split
  · exact fv_u_ne _ _ h2
  split
  · exact fv_u_ne _ _ h1
  split
  · exact fv_u_ne _ _ h1
  · rfl
def pEn (σ : Nat → Int32) (e : Int32) (n : Nat) : Nat → Int32 := fN (pEnB e) σ n
theorem pEn_s (σ : Nat → Int32) (e : Int32) (n : Nat) : pEnB e n (pEn σ e n) = pEn σ e (n + 1) := rfl
theorem pEn_ne {σ : Nat → Int32} {e : Int32} {n j : Nat} (h : ∀ b, b < n → j ≠ fB b 1 ∧ j ≠ fB b 2) : pEn σ e n j = σ j := fN_keep (fun b τ hb => pEnB_ne (h b hb).1 (h b hb).2)
theorem hX4_enact {E : fv_E} {d s nb : Nat} {e : Int32} {M : fv_M} (hs : s < 3) (hB : M s 1 = nI nb) (hb : nb ≤ 8) : fv_F E (d + 1) mX4_enact [.ref (aSt s), .int e] M none (fv_s M s (pEn (M s) e nb)) := by
  have e1 : ∀ j, (fv_s M s (pEn (M s) e j)) s 1 = nI nb := fun j => by rw [fv_s_same, pEn_ne (fun b _ => by unfold fB; omega)]; exact hB
  refine fv_F.of (ls := [some (.ref (aSt s)), some (.int e), none, none]) (by decide) (Nat.le_of_ble_eq_true rfl) rfl ?_
  refine x_iconst (pc := 0) (v := 0) dX4_enact_0 rfl ?_
  refine x_istore_n2 (pc := 1) dX4_enact_1 rfl ?_
  refine x_loop (fun j => [some (.ref (aSt s)), some (.int e), some (.int (nI j)), none]) (fun j => fv_s M s (pEn (M s) e j)) (nb) (rfl) (fv_s_id M s) (fun j hj hn2 => ?_) ?_
  ·
    replace hn2 : fv_X E mX4_enact _ _ 2 ([some (.ref (aSt s)), some (.int e), some (.int (nI (j + 1))), none]) ([]) (fv_s M s (pEn (M s) e (j + 1))) := hn2
    show fv_X E mX4_enact _ _ 2 ([some (.ref (aSt s)), some (.int e), some (.int (nI j)), none]) ([]) (fv_s M s (pEn (M s) e j))
    have hj8 : j < 8 := by omega
    refine x_iload_n (pc := 2) dX4_enact_2 rfl rfl ?_
    refine x_aload_n (pc := 3) dX4_enact_3 rfl rfl ?_
    refine x_geti (pc := 4) fl_X4_30 dX4_enact_4 (tb_st (by assumption)) rfl (e1 _) ?_
    refine x_icmp_ge (pc := 7) dX4_enact_7 (tgt := 124) rfl (fun h7 => ?_) (fun h7 => ?_)
    ·
      exact absurd h7 (nI_ge hj (by first | decide | omega))
    ·
      refine x_aload_n (pc := 10) dX4_enact_10 rfl rfl ?_
      refine x_geta (pc := 11) fl_X4_11 dX4_enact_11 (tb_st (by assumption)) rfl ?_
      refine x_iload_n (pc := 14) dX4_enact_14 rfl rfl ?_
      refine x_bird (pc := 15) dX4_enact_15 (by assumption) (rfl) (by first | assumption | decide | omega) ?_
      refine x_astore_n3 (pc := 16) dX4_enact_16 rfl ?_
      refine x_iload_n (pc := 17) dX4_enact_17 rfl rfl ?_
      refine x_swc (pc := 18) 1 dX4_enact_18 (by decide) (by decide) rfl (tgt := 48) rfl (fun h18_1 => ?_) (fun n18_1 => ?_)
      ·
        refine x_aload_n (pc := 48) dX4_enact_48 rfl rfl ?_
        refine x_bipush (pc := 49) (v := 9) dX4_enact_49 rfl ?_
        refine x_aload_n (pc := 51) dX4_enact_51 rfl rfl ?_
        refine x_geti (pc := 52) fl_X4_152 dX4_enact_52 (tb_b (by assumption) (by assumption)) rfl (rfl) ?_
        refine x_iconst (pc := 55) (v := 1) dX4_enact_55 rfl ?_
        refine x_iadd (pc := 56) dX4_enact_56 ?_
        refine x_min (pc := 57) ks_X4_137 dX4_enact_57 rfl (Nat.le_of_ble_eq_true rfl) ?_
        refine x_put (pc := 60) fl_X4_152 dX4_enact_60 (tb_b (by assumption) (by assumption)) rfl rfl rfl ?_
        refine x_goto (pc := 63) dX4_enact_63 (tgt := 118) rfl ?_
        rw [show pEn (M s) e (j + 1) = pEnB e j (pEn (M s) e j) from rfl] at hn2
        unfold pEnB at hn2
        try simp only [fv_s_same, fv_s_s]
        refine x_fg3 ?_
        refine x_iinc2 (pc := 118) dX4_enact_118 (by first | exact fv_inc _ | exact fv_dec _ | rfl) rfl ?_
        refine x_goto (pc := 121) dX4_enact_121 (tgt := 2) rfl ?_
        simp_all [pMin, pMax]
      refine x_swc (pc := 18) 2 dX4_enact_18 (by decide) (by decide) rfl (tgt := 66) rfl (fun h18_2 => ?_) (fun n18_2 => ?_)
      ·
        refine x_aload_n (pc := 66) dX4_enact_66 rfl rfl ?_
        refine x_iconst (pc := 67) (v := 0) dX4_enact_67 rfl ?_
        refine x_aload_n (pc := 68) dX4_enact_68 rfl rfl ?_
        refine x_geti (pc := 69) fl_X4_152 dX4_enact_69 (tb_b (by assumption) (by assumption)) rfl (rfl) ?_
        refine x_iconst (pc := 72) (v := 1) dX4_enact_72 rfl ?_
        refine x_isub (pc := 73) dX4_enact_73 ?_
        refine x_max (pc := 74) ks_X4_155 dX4_enact_74 rfl (Nat.le_of_ble_eq_true rfl) ?_
        refine x_put (pc := 77) fl_X4_152 dX4_enact_77 (tb_b (by assumption) (by assumption)) rfl rfl rfl ?_
        refine x_goto (pc := 80) dX4_enact_80 (tgt := 118) rfl ?_
        rw [show pEn (M s) e (j + 1) = pEnB e j (pEn (M s) e j) from rfl] at hn2
        unfold pEnB at hn2
        try simp only [fv_s_same, fv_s_s]
        refine x_fg3 ?_
        refine x_iinc2 (pc := 118) dX4_enact_118 (by first | exact fv_inc _ | exact fv_dec _ | rfl) rfl ?_
        refine x_goto (pc := 121) dX4_enact_121 (tgt := 2) rfl ?_
        simp_all [pMin, pMax]
      refine x_swc (pc := 18) 3 dX4_enact_18 (by decide) (by decide) rfl (tgt := 83) rfl (fun h18_3 => ?_) (fun n18_3 => ?_)
      ·
        refine x_aload_n (pc := 83) dX4_enact_83 rfl rfl ?_
        refine x_bipush (pc := 84) (v := 99) dX4_enact_84 rfl ?_
        refine x_aload_n (pc := 86) dX4_enact_86 rfl rfl ?_
        refine x_geti (pc := 87) fl_X4_158 dX4_enact_87 (tb_b (by assumption) (by assumption)) rfl (rfl) ?_
        refine x_iconst (pc := 90) (v := 1) dX4_enact_90 rfl ?_
        refine x_iadd (pc := 91) dX4_enact_91 ?_
        refine x_min (pc := 92) ks_X4_137 dX4_enact_92 rfl (Nat.le_of_ble_eq_true rfl) ?_
        refine x_put (pc := 95) fl_X4_158 dX4_enact_95 (tb_b (by assumption) (by assumption)) rfl rfl rfl ?_
        refine x_goto (pc := 98) dX4_enact_98 (tgt := 118) rfl ?_
        rw [show pEn (M s) e (j + 1) = pEnB e j (pEn (M s) e j) from rfl] at hn2
        unfold pEnB at hn2
        try simp only [fv_s_same, fv_s_s]
        refine x_fg3 ?_
        refine x_iinc2 (pc := 118) dX4_enact_118 (by first | exact fv_inc _ | exact fv_dec _ | rfl) rfl ?_
        refine x_goto (pc := 121) dX4_enact_121 (tgt := 2) rfl ?_
        simp_all [pMin, pMax]
      refine x_swc (pc := 18) 4 dX4_enact_18 (by decide) (by decide) rfl (tgt := 101) rfl (fun h18_4 => ?_) (fun n18_4 => ?_)
      ·
        refine x_aload_n (pc := 101) dX4_enact_101 rfl rfl ?_
        refine x_iconst (pc := 102) (v := 0) dX4_enact_102 rfl ?_
        refine x_aload_n (pc := 103) dX4_enact_103 rfl rfl ?_
        refine x_geti (pc := 104) fl_X4_158 dX4_enact_104 (tb_b (by assumption) (by assumption)) rfl (rfl) ?_
        refine x_iconst (pc := 107) (v := 1) dX4_enact_107 rfl ?_
        refine x_isub (pc := 108) dX4_enact_108 ?_
        refine x_max (pc := 109) ks_X4_155 dX4_enact_109 rfl (Nat.le_of_ble_eq_true rfl) ?_
        refine x_put (pc := 112) fl_X4_158 dX4_enact_112 (tb_b (by assumption) (by assumption)) rfl rfl rfl ?_
        refine x_goto (pc := 115) dX4_enact_115 (tgt := 118) rfl ?_
        rw [show pEn (M s) e (j + 1) = pEnB e j (pEn (M s) e j) from rfl] at hn2
        unfold pEnB at hn2
        try simp only [fv_s_same, fv_s_s]
        refine x_fg3 ?_
        refine x_iinc2 (pc := 118) dX4_enact_118 (by first | exact fv_inc _ | exact fv_dec _ | rfl) rfl ?_
        refine x_goto (pc := 121) dX4_enact_121 (tgt := 2) rfl ?_
        simp_all [pMin, pMax]
      refine x_swd (pc := 18) dX4_enact_18 (fun c hl hh => by rcases (show c = 1 ∨ c = 2 ∨ c = 3 ∨ c = 4 by omega) with rfl | rfl | rfl | rfl <;> assumption) (tgt := 118) rfl ?_
      rw [show pEn (M s) e (j + 1) = pEnB e j (pEn (M s) e j) from rfl] at hn2
      unfold pEnB at hn2
      try simp only [fv_s_same, fv_s_s]
      refine x_fg3 ?_
      refine x_iinc2 (pc := 118) dX4_enact_118 (by first | exact fv_inc _ | exact fv_dec _ | rfl) rfl ?_
      refine x_goto (pc := 121) dX4_enact_121 (tgt := 2) rfl ?_
      simp_all [pMin, pMax]
  ·
    show fv_X E mX4_enact _ _ 2 ([some (.ref (aSt s)), some (.int e), some (.int (nI (nb))), none]) ([]) (fv_s M s (pEn (M s) e (nb)))
    refine x_iload_n (pc := 2) dX4_enact_2 rfl rfl ?_
    refine x_aload_n (pc := 3) dX4_enact_3 rfl rfl ?_
    refine x_geti (pc := 4) fl_X4_30 dX4_enact_4 (tb_st (by assumption)) rfl (e1 _) ?_
    refine x_icmp_ge (pc := 7) dX4_enact_7 (tgt := 124) rfl (fun h7 => ?_) (fun h7 => ?_)
    ·
      refine x_ret (pc := 124) dX4_enact_124 rfl ?_
      exact ⟨rfl, rfl⟩
    ·
      exact absurd (Int32.le_refl _) h7
def pV1 (σ : Nat → Int32) (m c n : Nat) : Nat → Int32 := pFal σ m c (σ (fM m 2)) (pCr σ (σ (fM m 2)) n) n
def pVf (σ : Nat → Int32) (m c n : Nat) : Int32 := pFaS σ m c (σ (fM m 2)) (pCr σ (σ (fM m 2)) n) n
def pV2 (σ : Nat → Int32) (m c n : Nat) : Nat → Int32 := pFal (pV1 σ m c n) m c (pWa (pV1 σ m c n) n m) (pCr (pV1 σ m c n) (pWa (pV1 σ m c n) n m) n) n
def pVa (σ : Nat → Int32) (m c n : Nat) : Int32 := pFaS (pV1 σ m c n) m c (pWa (pV1 σ m c n) n m) (pCr (pV1 σ m c n) (pWa (pV1 σ m c n) n m) n) n
def pV3 (σ : Nat → Int32) (m c n : Nat) : Nat → Int32 := fv_u (pV2 σ m c n) (4 + c) (pMin 9999 (pV2 σ m c n (4 + c) + pVf σ m c n + pVa σ m c n))
abbrev pVp (σ : Nat → Int32) (m c n : Nat) : Prop := pVa σ m c n < pVf σ m c n ∧ pV3 σ m c n (fM m 1) ≤ pVf σ m c n + pVa σ m c n
def pVote (σ : Nat → Int32) (m c n : Nat) : Nat → Int32 := if pVp σ m c n ∧ pV3 σ m c n (fM m 4) = 0 then pEn (fv_u (pV3 σ m c n) (fM m 4) 1) (fv_u (pV3 σ m c n) (fM m 4) 1 (fM m 3)) n else pV3 σ m c n
theorem pV1_ne {σ : Nat → Int32} {m c n j : Nat} (h : ∀ b, b < n → j ≠ fB b 3 + c) : pV1 σ m c n j = σ j := pFal_ne h
theorem pV2_ne {σ : Nat → Int32} {m c n j : Nat} (h : ∀ b, b < n → j ≠ fB b 3 + c) : pV2 σ m c n j = σ j := by unfold pV2; rw [pFal_ne h, pV1_ne h]
theorem hX4_castVote {E : fv_E} {d s nb m c : Nat} {M : fv_M} (hs : s < 3) (hB : M s 1 = nI nb) (hb : nb ≤ 8) (hK : pKd (M s) nb) (hm : m < 8) (hcol : M s (fM m 0) = nI c) (hc : c < 4) : fv_F E (d + 3) mX4_castVote [.ref (aSt s), .ref (aM s m)] M (some (.int (bI (pVp (M s) m c nb)))) (fv_s M s (pVote (M s) m c nb)) := by
  have i1 : ∀ b, b < nb → 1 ≠ fB b 3 + c := fun b _ => by unfold fB; omega
  have iM : ∀ f, ∀ b, b < nb → fM m f ≠ fB b 3 + c := fun f b _ => by unfold fB fM; omega
  have iK : ∀ b b', b' < nb → fB b 0 ≠ fB b' 3 + c := fun b b' _ => by unfold fB; omega
  have hL1 : fv_F E (d + 2) mX4_letFall [.ref (aSt s), .ref (aM s m), .int (M s (fM m 2))] M (some (.int (pVf (M s) m c nb))) (fv_s M s (pV1 (M s) m c nb)) := hX4_letFall hs hB hb hK hm hcol hc
  have hB1 : (fv_s M s (pV1 (M s) m c nb)) s 1 = nI nb := by rw [fv_s_same, pV1_ne i1]; exact hB
  have hK1 : pKd ((fv_s M s (pV1 (M s) m c nb)) s) nb := fun b hb => by rw [fv_s_same, pV1_ne (iK b)]; exact hK b hb
  have hcol1 : (fv_s M s (pV1 (M s) m c nb)) s (fM m 0) = nI c := by rw [fv_s_same, pV1_ne (iM 0)]; exact hcol
  have hA : fv_F E (d + 2) mX4_againstIt [.ref (aSt s), .ref (aM s m)] (fv_s M s (pV1 (M s) m c nb)) (some (.int (pWa (pV1 (M s) m c nb) nb m))) (fv_s M s (pV1 (M s) m c nb)) := by
    have h := hX4_againstIt (E := E) (d := d + 1) (m := m) hs hB1 hm
    rw [fv_s_same] at h
    exact h
  have hL2 : fv_F E (d + 2) mX4_letFall [.ref (aSt s), .ref (aM s m), .int (pWa (pV1 (M s) m c nb) nb m)] (fv_s M s (pV1 (M s) m c nb)) (some (.int (pVa (M s) m c nb))) (fv_s M s (pV2 (M s) m c nb)) := by
    have h := hX4_letFall (E := E) (d := d) (w := pWa (pV1 (M s) m c nb) nb m) hs hB1 hb hK1 hm hcol1 hc
    rw [fv_s_same, fv_s_s] at h
    exact h
  have hcol2 : (fv_s M s (pV2 (M s) m c nb)) s (fM m 0) = nI c := by rw [fv_s_same, pV2_ne (iM 0)]; exact hcol
  have hC : fv_F E (d + 2) mX1_isCarriedBy [.ref (aM s m), .int (pVf (M s) m c nb), .int (pVa (M s) m c nb)] (fv_s M s (pV3 (M s) m c nb)) (some (.int (bI (pVp (M s) m c nb)))) (fv_s M s (pV3 (M s) m c nb)) := by
    have h := hX1_isCarriedBy (E := E) (d := d + 2) (M := fv_s M s (pV3 (M s) m c nb)) (f := pVf (M s) m c nb) (a := pVa (M s) m c nb) hs hm
    have e : bI (pVa (M s) m c nb < pVf (M s) m c nb ∧ fv_s M s (pV3 (M s) m c nb) s (fM m 1) ≤ pVf (M s) m c nb + pVa (M s) m c nb) = bI (pVp (M s) m c nb) := bI_congr (by rw [fv_s_same])
    rw [e] at h
    exact h
  have hB4 : (fv_s M s (fv_u (pV3 (M s) m c nb) (fM m 4) 1)) s 1 = nI nb := by
    rw [fv_s_same, fv_u_ne _ _ (by unfold fM; omega)]
    unfold pV3
    rw [fv_u_ne _ _ (by omega), pV2_ne i1]
    exact hB
  have hE : fv_F E (d + 2) mX4_enact [.ref (aSt s), .int (fv_u (pV3 (M s) m c nb) (fM m 4) 1 (fM m 3))] (fv_s M s (fv_u (pV3 (M s) m c nb) (fM m 4) 1)) none (fv_s M s (pEn (fv_u (pV3 (M s) m c nb) (fM m 4) 1) (fv_u (pV3 (M s) m c nb) (fM m 4) 1 (fM m 3)) nb)) := by
    have h := hX4_enact (E := E) (d := d + 1) (e := fv_u (pV3 (M s) m c nb) (fM m 4) 1 (fM m 3)) hs hB4 hb
    rw [fv_s_same, fv_s_s] at h
    exact h
  refine fv_F.of (ls := [some (.ref (aSt s)), some (.ref (aM s m)), none, none, none]) (by decide) (Nat.le_of_ble_eq_true rfl) rfl ?_
  refine x_aload_n (pc := 0) dX4_castVote_0 rfl rfl ?_
  refine x_aload_n (pc := 1) dX4_castVote_1 rfl rfl ?_
  refine x_aload_n (pc := 2) dX4_castVote_2 rfl rfl ?_
  refine x_geti (pc := 3) fl_X4_100 dX4_castVote_3 (tb_m (by assumption) (by assumption)) rfl (rfl) ?_
  refine x_Vi (pc := 6) ks_X4_131 dX4_castVote_6 (tb_st (by assumption)) rfl rfl (hL1) rfl rfl rfl (Nat.le_of_ble_eq_true rfl) ?_
  refine x_istore_n2 (pc := 9) dX4_castVote_9 rfl ?_
  refine x_aload_n (pc := 10) dX4_castVote_10 rfl rfl ?_
  refine x_aload_n (pc := 11) dX4_castVote_11 rfl rfl ?_
  refine x_aload_n (pc := 12) dX4_castVote_12 rfl rfl ?_
  refine x_aload_n (pc := 13) dX4_castVote_13 rfl rfl ?_
  refine x_Vi (pc := 14) ks_X4_103 dX4_castVote_14 (tb_st (by assumption)) rfl rfl (hA) rfl rfl rfl (Nat.le_of_ble_eq_true rfl) ?_
  refine x_Vi (pc := 17) ks_X4_131 dX4_castVote_17 (tb_st (by assumption)) rfl rfl (hL2) rfl rfl rfl (Nat.le_of_ble_eq_true rfl) ?_
  refine x_istore_n3 (pc := 20) dX4_castVote_20 rfl ?_
  refine x_aload_n (pc := 21) dX4_castVote_21 rfl rfl ?_
  refine x_geta (pc := 22) fl_X4_23 dX4_castVote_22 (tb_st (by assumption)) rfl ?_
  refine x_aload_n (pc := 25) dX4_castVote_25 rfl rfl ?_
  refine x_geti (pc := 26) fl_X4_134 dX4_castVote_26 (tb_m (by assumption) (by assumption)) rfl (hcol2) ?_
  refine x_sipush (pc := 29) (v := 9999) dX4_castVote_29 rfl ?_
  refine x_aload_n (pc := 32) dX4_castVote_32 rfl rfl ?_
  refine x_geta (pc := 33) fl_X4_23 dX4_castVote_33 (tb_st (by assumption)) rfl ?_
  refine x_aload_n (pc := 36) dX4_castVote_36 rfl rfl ?_
  refine x_geti (pc := 37) fl_X4_134 dX4_castVote_37 (tb_m (by assumption) (by assumption)) rfl (hcol2) ?_
  refine x_iald (pc := 40) dX4_castVote_40 (tb_ft (by assumption)) (rfl) (by first | assumption | decide | omega) (by decide) ?_
  refine x_iload_n (pc := 41) dX4_castVote_41 rfl rfl ?_
  refine x_iadd (pc := 42) dX4_castVote_42 ?_
  refine x_iload_n (pc := 43) dX4_castVote_43 rfl rfl ?_
  refine x_iadd (pc := 44) dX4_castVote_44 ?_
  refine x_min (pc := 45) ks_X4_137 dX4_castVote_45 rfl (Nat.le_of_ble_eq_true rfl) ?_
  refine x_iast (pc := 48) dX4_castVote_48 (tb_ft (by assumption)) (rfl) (by first | assumption | decide | omega) (by decide) ?_
  rw [fv_s_same, fv_s_s, show fv_u (pV2 (M s) m c nb) (4 + c) (if pV2 (M s) m c nb (4 + c) + pVf (M s) m c nb + pVa (M s) m c nb < 9999 then pV2 (M s) m c nb (4 + c) + pVf (M s) m c nb + pVa (M s) m c nb else 9999) = pV3 (M s) m c nb from rfl]
  refine x_aload_n (pc := 49) dX4_castVote_49 rfl rfl ?_
  refine x_iload_n (pc := 50) dX4_castVote_50 rfl rfl ?_
  refine x_iload_n (pc := 51) dX4_castVote_51 rfl rfl ?_
  refine x_Vi (pc := 52) ks_X4_124 dX4_castVote_52 (tb_m (by assumption) (by assumption)) rfl rfl (hC) rfl rfl rfl (Nat.le_of_ble_eq_true rfl) ?_
  refine x_istore4 (pc := 55) dX4_castVote_55 rfl ?_
  refine x_iload (pc := 57) dX4_castVote_57 rfl ?_
  refine x_ifb_eq (pc := 59) dX4_castVote_59 (tgt := 82) rfl (fun h59 => ?_) (fun h59 => ?_)
  ·
    refine x_iload (pc := 82) dX4_castVote_82 rfl ?_
    refine x_iret (pc := 84) dX4_castVote_84 rfl (by first | rfl | exact fv_nz _) ?_
    refine ⟨rfl, ?_⟩
    unfold pVote
    first | rw [if_pos (And.intro (by assumption) (by assumption))] | rw [if_neg (fun h => absurd h.2 (by assumption))] | rw [if_neg (fun h => absurd h.1 (by assumption))]
  ·
    refine x_aload_n (pc := 62) dX4_castVote_62 rfl rfl ?_
    refine x_geti (pc := 63) fl_X4_79 dX4_castVote_63 (tb_m (by assumption) (by assumption)) rfl (congrFun (fv_s_same M s (pV3 (M s) m c nb)) (fM m 4)) ?_
    refine x_if_ne (pc := 66) dX4_castVote_66 (tgt := 82) rfl (fun h66 => ?_) (fun h66 => ?_)
    ·
      refine x_iload (pc := 82) dX4_castVote_82 rfl ?_
      refine x_iret (pc := 84) dX4_castVote_84 rfl (by first | rfl | exact fv_nz _) ?_
      refine ⟨rfl, ?_⟩
      unfold pVote
      first | rw [if_pos (And.intro (by assumption) (by assumption))] | rw [if_neg (fun h => absurd h.2 (by assumption))] | rw [if_neg (fun h => absurd h.1 (by assumption))]
    ·
      refine x_aload_n (pc := 69) dX4_castVote_69 rfl rfl ?_
      refine x_iconst (pc := 70) (v := 1) dX4_castVote_70 rfl ?_
      refine x_put (pc := 71) fl_X4_79 dX4_castVote_71 (tb_m (by assumption) (by assumption)) rfl rfl rfl ?_
      rw [fv_s_same, fv_s_s]
      refine x_aload_n (pc := 74) dX4_castVote_74 rfl rfl ?_
      refine x_aload_n (pc := 75) dX4_castVote_75 rfl rfl ?_
      refine x_geti (pc := 76) fl_X4_143 dX4_castVote_76 (tb_m (by assumption) (by assumption)) rfl (congrFun (fv_s_same M s (fv_u (pV3 (M s) m c nb) (fM m 4) 1)) (fM m 3)) ?_
      refine x_Vv (pc := 79) ks_X4_146 dX4_castVote_79 (tb_st (by assumption)) rfl rfl (hE) rfl rfl rfl (Nat.le_of_ble_eq_true rfl) ?_
      refine x_iload (pc := 82) dX4_castVote_82 rfl ?_
      refine x_iret (pc := 84) dX4_castVote_84 rfl (by first | rfl | exact fv_nz _) ?_
      refine ⟨rfl, ?_⟩
      unfold pVote
      first | rw [if_pos (And.intro (by assumption) (by assumption))] | rw [if_neg (fun h => absurd h.2 (by assumption))] | rw [if_neg (fun h => absurd h.1 (by assumption))]
