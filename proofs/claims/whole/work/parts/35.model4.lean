def pGw (e g : Int32) : Int32 := if e = 1 then pMin 9 (g + 1) else if e = 2 then pMax 0 (g - 1) else g
def pKw (e k : Int32) : Int32 := if e = 3 then pMin 99 (k + 1) else if e = 4 then pMax 0 (k - 1) else k
theorem pEnB_w (e : Int32) (b : Nat) (τ : Nat → Int32) : pEnB e b τ = fv_u (fv_u τ (fB b 2) (pGw e (τ (fB b 2)))) (fB b 1) (pKw e (τ (fB b 1))) := by
  have hne : fB b 1 ≠ fB b 2 := by unfold fB; omega
  have id1 : ∀ ρ : Nat → Int32, ∀ v, ρ (fB b 1) = v → fv_u ρ (fB b 1) v = ρ := fun ρ v q => by rw [← q]; exact fv_u_id _ _
  unfold pEnB pGw pKw
  by_cases h1 : e = 1
  · subst h1
    rw [if_pos rfl, if_pos rfl, if_neg (by decide), if_neg (by decide)]
    exact (id1 _ _ (fv_u_ne _ _ hne)).symm
  rw [if_neg h1, if_neg h1]
  by_cases h2 : e = 2
  · subst h2
    rw [if_pos rfl, if_pos rfl, if_neg (by decide), if_neg (by decide)]
    exact (id1 _ _ (fv_u_ne _ _ hne)).symm
  rw [if_neg h2, if_neg h2, fv_u_id]
  by_cases h3 : e = 3
  · rw [if_pos h3, if_pos h3]
  rw [if_neg h3, if_neg h3]
  by_cases h4 : e = 4
  · rw [if_pos h4, if_pos h4]
  rw [if_neg h4, if_neg h4, fv_u_id]
theorem pMax_s {k : Nat} (hk : k < 1000) : pMax 0 (nI k - 1) = if 0 < nI k then nI k - 1 else nI k := by
  unfold pMax
  cases k with
  | zero => decide +kernel
  | succ k =>
    have e0 : (0 : Int32) = nI 0 := nI_0.symm
    have e1 : (0 : Int32) < nI (k + 1) := by rw [e0]; exact nI_lt (by omega) (by omega)
    rw [nI_pred, if_pos e1]
    by_cases h : 0 < k
    · have e2 : (0 : Int32) < nI k := by rw [e0]; exact nI_lt h (by omega)
      rw [if_pos e2]
    · have e3 : k = 0 := by omega
      subst e3
      decide +kernel
theorem hX7_comesEffect {E : fv_E} {d nb : Nat} {e : Int32} {M : fv_M} (hg : pGb (M 22) nb) : fv_F E (d + 1) mX7_comesEffect [.ref 106, .int e] M none (fv_s M 22 (pEn (M 22) e nb)) := by
  have e1 : ∀ j, (fv_s M 22 (pEn (M 22) e j)) 22 1 = nI nb := fun j => by rw [fv_s_same, pEn_ne (fun b _ => by unfold fB; omega)]; exact hg.1
  have hb := hg.2.1
  refine fv_F.of (ls := [some (.ref 106), some (.int e), none, none, none]) (by decide) (Nat.le_of_ble_eq_true rfl) rfl ?_
  refine x_iconst (pc := 0) (v := 0) dX7_comesEffect_0 rfl ?_
  refine x_istore_n2 (pc := 1) dX7_comesEffect_1 rfl ?_
  refine x_loop (fun j => [some (.ref 106), some (.int e), some (.int (nI j)), none, none]) (fun j => fv_s M 22 (pEn (M 22) e j)) nb rfl (fv_s_id M 22) (fun j hj hL => ?_) ?_
  · show fv_X E mX7_comesEffect _ _ 2 [some (.ref 106), some (.int e), some (.int (nI j)), none, none] [] (fv_s M 22 (pEn (M 22) e j))
    replace hL : fv_X E mX7_comesEffect (d + 1) (fun r' M' => r' = none ∧ M' = fv_s M 22 (pEn (M 22) e nb)) 2 [some (.ref 106), some (.int e), some (.int (nI (j + 1))), none, none] [] (fv_s M 22 (pEn (M 22) e (j + 1))) := hL
    have hj8 : j < 8 := by omega
    have hG := hg.2.2 j hj
    obtain ⟨kp, hkp, ekp⟩ := hG.2.1
    obtain ⟨gr, hgr, egr⟩ := hG.2.2.1
    have k2 : pEn (M 22) e j (fB j 2) = nI gr := by rw [pEn_ne (fun b hb => by unfold fB; omega)]; exact egr
    have k1 : pEn (M 22) e j (fB j 1) = nI kp := by rw [pEn_ne (fun b hb => by unfold fB; omega)]; exact ekp
    rw [show pEn (M 22) e (j + 1) = pEnB e j (pEn (M 22) e j) from rfl, pEnB_w, k1, k2] at hL
    have e2 : pEn (M 22) e j 1 = nI nb := by have h := e1 j; rw [fv_s_same] at h; exact h
    generalize hτ : pEn (M 22) e j = τ at *
    have f1 : (fv_s M 22 (fv_u τ (fB j 2) (pGw e (nI gr)))) 22 = fv_u τ (fB j 2) (pGw e (nI gr)) := fv_s_same _ _ _
    have hmid : fv_X E mX7_comesEffect (d + 1) (fun r' M' => r' = none ∧ M' = fv_s M 22 (pEn (M 22) e nb)) 104 [some (.ref 106), some (.int e), some (.int (nI j)), some (.int (nI gr)), some (.int (nI kp))] [.int (pKw e (nI kp)), .int 1, .int (nI j), .ref 106] (fv_s M 22 (fv_u τ (fB j 2) (pGw e (nI gr)))) := by
      refine x_Vv (pc := 104) ks_X7_100 dX7_comesEffect_104 (tb_106) rfl rfl (hX7_puts (f := 1) hj8 (by decide)) rfl rfl rfl (Nat.le_of_ble_eq_true rfl) ?_
      rw [fv_s_same, fv_s_s]
      refine x_iinc2 (pc := 107) dX7_comesEffect_107 (by first | exact fv_inc _ | exact fv_dec _ | rfl) rfl ?_
      refine x_goto (pc := 110) dX7_comesEffect_110 (tgt := 2) rfl ?_
      exact x_fg3 (x_fg4 hL)
    have key : ∀ v, v = pKw e (nI kp) → fv_X E mX7_comesEffect (d + 1) (fun r' M' => r' = none ∧ M' = fv_s M 22 (pEn (M 22) e nb)) 104 [some (.ref 106), some (.int e), some (.int (nI j)), some (.int (nI gr)), some (.int (nI kp))] [.int v, .int 1, .int (nI j), .ref 106] (fv_s M 22 (fv_u τ (fB j 2) (pGw e (nI gr)))) := fun v q => by rw [q]; exact hmid
    clear hmid
    have hmid : fv_X E mX7_comesEffect (d + 1) (fun r' M' => r' = none ∧ M' = fv_s M 22 (pEn (M 22) e nb)) 62 [some (.ref 106), some (.int e), some (.int (nI j)), some (.int (nI gr)), some (.int (nI kp))] [.int (pGw e (nI gr)), .int 2, .int (nI j), .ref 106] (fv_s M 22 τ) := by
      refine x_Vv (pc := 62) ks_X7_100 dX7_comesEffect_62 (tb_106) rfl rfl (hX7_puts (f := 2) hj8 (by decide)) rfl rfl rfl (Nat.le_of_ble_eq_true rfl) ?_
      rw [fv_s_same, fv_s_s]
      refine x_aload_n (pc := 65) dX7_comesEffect_65 rfl rfl ?_
      refine x_iload_n (pc := 66) dX7_comesEffect_66 rfl rfl ?_
      refine x_iconst (pc := 67) (v := 1) dX7_comesEffect_67 rfl ?_
      refine x_iload_n (pc := 68) dX7_comesEffect_68 rfl rfl ?_
      refine x_iconst (pc := 69) (v := 3) dX7_comesEffect_69 rfl ?_
      refine x_icmp_ne (pc := 70) dX7_comesEffect_70 (tgt := 85) rfl (fun h70 => ?_) (fun h70 => ?_)
      ·
        refine x_iload_n (pc := 85) dX7_comesEffect_85 rfl rfl ?_
        refine x_iconst (pc := 86) (v := 4) dX7_comesEffect_86 rfl ?_
        refine x_icmp_ne (pc := 87) dX7_comesEffect_87 (tgt := 102) rfl (fun h87 => ?_) (fun h87 => ?_)
        ·
          refine x_iload (pc := 102) dX7_comesEffect_102 rfl ?_
          refine key _ ?_
          unfold pKw
          rw [pMax_s (by omega)]
          first | (simp [*]; done) | (simp [*, Int32.not_lt.mpr h92]; done)
        ·
          refine x_iload (pc := 90) dX7_comesEffect_90 rfl ?_
          refine x_if_le (pc := 92) dX7_comesEffect_92 (tgt := 102) rfl (fun h92 => ?_) (fun h92 => ?_)
          ·
            refine x_iload (pc := 102) dX7_comesEffect_102 rfl ?_
            refine key _ ?_
            unfold pKw
            rw [pMax_s (by omega)]
            first | (simp [*]; done) | (simp [*, Int32.not_lt.mpr h92]; done)
          ·
            refine x_iload (pc := 95) dX7_comesEffect_95 rfl ?_
            refine x_iconst (pc := 97) (v := 1) dX7_comesEffect_97 rfl ?_
            refine x_isub (pc := 98) dX7_comesEffect_98 ?_
            refine x_goto (pc := 99) dX7_comesEffect_99 (tgt := 104) rfl ?_
            refine key _ ?_
            unfold pKw
            rw [pMax_s (by omega)]
            first | (simp [*]; done) | (simp [*, Int32.not_lt.mpr h92]; done)
      ·
        refine x_bipush (pc := 73) (v := 99) dX7_comesEffect_73 rfl ?_
        refine x_iload (pc := 75) dX7_comesEffect_75 rfl ?_
        refine x_iconst (pc := 77) (v := 1) dX7_comesEffect_77 rfl ?_
        refine x_iadd (pc := 78) dX7_comesEffect_78 ?_
        refine x_Si (pc := 79) ks_X7_86 dX7_comesEffect_79 (hX7_less) rfl rfl rfl (Nat.le_of_ble_eq_true rfl) ?_
        rw [pMin_comm]
        refine x_goto (pc := 82) dX7_comesEffect_82 (tgt := 104) rfl ?_
        refine key _ ?_
        unfold pKw
        rw [pMax_s (by omega)]
        first | (simp [*]; done) | (simp [*, Int32.not_lt.mpr h92]; done)
    have key2 : ∀ v, v = pGw e (nI gr) → fv_X E mX7_comesEffect (d + 1) (fun r' M' => r' = none ∧ M' = fv_s M 22 (pEn (M 22) e nb)) 62 [some (.ref 106), some (.int e), some (.int (nI j)), some (.int (nI gr)), some (.int (nI kp))] [.int v, .int 2, .int (nI j), .ref 106] (fv_s M 22 τ) := fun v q => by rw [q]; exact hmid
    clear hmid key
    refine x_iload_n (pc := 2) dX7_comesEffect_2 rfl rfl ?_
    refine x_aload_n (pc := 3) dX7_comesEffect_3 rfl rfl ?_
    refine x_geta (pc := 4) fl_X7_9 dX7_comesEffect_4 (tb_106) rfl ?_
    refine x_iconst (pc := 7) (v := 1) dX7_comesEffect_7 rfl ?_
    refine x_iale (pc := 8) dX7_comesEffect_8 (tb_107) ((rfl : (1 : Int32) = nI 1)) (by decide) (by first | decide | assumption) ((congrFun (fv_s_same M 22 τ) 1).trans e2) ?_
    refine x_icmp_ge (pc := 9) dX7_comesEffect_9 (tgt := 113) rfl (fun h9 => ?_) (fun h9 => ?_)
    ·
      exact absurd h9 (nI_ge hj (by omega))
    ·
      refine x_aload_n (pc := 12) dX7_comesEffect_12 rfl rfl ?_
      refine x_iload_n (pc := 13) dX7_comesEffect_13 rfl rfl ?_
      refine x_iconst (pc := 14) (v := 2) dX7_comesEffect_14 rfl ?_
      refine x_Vi (pc := 15) ks_X7_64 dX7_comesEffect_15 (tb_106) rfl rfl (hX7_get (f := 2) hj8 (by decide)) rfl rfl rfl (Nat.le_of_ble_eq_true rfl) ?_
      rw [fv_s_same, k2]
      refine x_istore_n3 (pc := 18) dX7_comesEffect_18 rfl ?_
      refine x_aload_n (pc := 19) dX7_comesEffect_19 rfl rfl ?_
      refine x_iload_n (pc := 20) dX7_comesEffect_20 rfl rfl ?_
      refine x_iconst (pc := 21) (v := 1) dX7_comesEffect_21 rfl ?_
      refine x_Vi (pc := 22) ks_X7_64 dX7_comesEffect_22 (tb_106) rfl rfl (hX7_get (f := 1) hj8 (by decide)) rfl rfl rfl (Nat.le_of_ble_eq_true rfl) ?_
      rw [fv_s_same, k1]
      refine x_istore4 (pc := 25) dX7_comesEffect_25 rfl ?_
      refine x_aload_n (pc := 27) dX7_comesEffect_27 rfl rfl ?_
      refine x_iload_n (pc := 28) dX7_comesEffect_28 rfl rfl ?_
      refine x_iconst (pc := 29) (v := 2) dX7_comesEffect_29 rfl ?_
      refine x_iload_n (pc := 30) dX7_comesEffect_30 rfl rfl ?_
      refine x_iconst (pc := 31) (v := 1) dX7_comesEffect_31 rfl ?_
      refine x_icmp_ne (pc := 32) dX7_comesEffect_32 (tgt := 46) rfl (fun h32 => ?_) (fun h32 => ?_)
      ·
        refine x_iload_n (pc := 46) dX7_comesEffect_46 rfl rfl ?_
        refine x_iconst (pc := 47) (v := 2) dX7_comesEffect_47 rfl ?_
        refine x_icmp_ne (pc := 48) dX7_comesEffect_48 (tgt := 61) rfl (fun h48 => ?_) (fun h48 => ?_)
        ·
          refine x_iload_n (pc := 61) dX7_comesEffect_61 rfl rfl ?_
          refine key2 _ ?_
          unfold pGw
          rw [pMax_s (by omega)]
          first | (simp [*]; done) | (simp [*, Int32.not_lt.mpr h52]; done)
        ·
          refine x_iload_n (pc := 51) dX7_comesEffect_51 rfl rfl ?_
          refine x_if_le (pc := 52) dX7_comesEffect_52 (tgt := 61) rfl (fun h52 => ?_) (fun h52 => ?_)
          ·
            refine x_iload_n (pc := 61) dX7_comesEffect_61 rfl rfl ?_
            refine key2 _ ?_
            unfold pGw
            rw [pMax_s (by omega)]
            first | (simp [*]; done) | (simp [*, Int32.not_lt.mpr h52]; done)
          ·
            refine x_iload_n (pc := 55) dX7_comesEffect_55 rfl rfl ?_
            refine x_iconst (pc := 56) (v := 1) dX7_comesEffect_56 rfl ?_
            refine x_isub (pc := 57) dX7_comesEffect_57 ?_
            refine x_goto (pc := 58) dX7_comesEffect_58 (tgt := 62) rfl ?_
            refine key2 _ ?_
            unfold pGw
            rw [pMax_s (by omega)]
            first | (simp [*]; done) | (simp [*, Int32.not_lt.mpr h52]; done)
      ·
        refine x_bipush (pc := 35) (v := 9) dX7_comesEffect_35 rfl ?_
        refine x_iload_n (pc := 37) dX7_comesEffect_37 rfl rfl ?_
        refine x_iconst (pc := 38) (v := 1) dX7_comesEffect_38 rfl ?_
        refine x_iadd (pc := 39) dX7_comesEffect_39 ?_
        refine x_Si (pc := 40) ks_X7_86 dX7_comesEffect_40 (hX7_less) rfl rfl rfl (Nat.le_of_ble_eq_true rfl) ?_
        rw [pMin_comm]
        refine x_goto (pc := 43) dX7_comesEffect_43 (tgt := 62) rfl ?_
        refine key2 _ ?_
        unfold pGw
        rw [pMax_s (by omega)]
        first | (simp [*]; done) | (simp [*, Int32.not_lt.mpr h52]; done)
  · show fv_X E mX7_comesEffect _ _ 2 [some (.ref 106), some (.int e), some (.int (nI nb)), none, none] [] (fv_s M 22 (pEn (M 22) e nb))
    refine x_iload_n (pc := 2) dX7_comesEffect_2 rfl rfl ?_
    refine x_aload_n (pc := 3) dX7_comesEffect_3 rfl rfl ?_
    refine x_geta (pc := 4) fl_X7_9 dX7_comesEffect_4 (tb_106) rfl ?_
    refine x_iconst (pc := 7) (v := 1) dX7_comesEffect_7 rfl ?_
    refine x_iale (pc := 8) dX7_comesEffect_8 (tb_107) ((rfl : (1 : Int32) = nI 1)) (by decide) (by first | decide | assumption) (e1 nb) ?_
    refine x_icmp_ge (pc := 9) dX7_comesEffect_9 (tgt := 113) rfl (fun h9 => ?_) (fun h9 => ?_)
    ·
      refine x_ret (pc := 113) dX7_comesEffect_113 rfl ?_
      exact ⟨rfl, rfl⟩
    ·
      exact absurd (Int32.le_refl _) h9
theorem hX7_goesSeason {E : fv_E} {d nb t : Nat} {M : fv_M} (hB : M 22 1 = nI nb) (hb : nb ≤ 8) (hT : M 22 0 = nI t) (ht : t < 2 ^ 31) : fv_F E (d + 1) mX7_goesSeason [.ref 106] M none (fv_s M 22 (pSea (M 22) nb t)) := by
  have e1 : ∀ j, (fv_s M 22 (fN (pGr (t % 4)) (M 22) j)) 22 1 = nI nb := fun j => by rw [fv_s_same, fN_keep (fun b τ _ => pGr_ne (by unfold fB; omega))]; exact hB
  have e0 : ∀ j, (fv_s M 22 (fN (pGr (t % 4)) (M 22) j)) 22 0 = nI t := fun j => by rw [fv_s_same, fN_keep (fun b τ _ => pGr_ne (by unfold fB; omega))]; exact hT
  have hc : t % 4 < 4 := Nat.mod_lt _ (by decide)
  have ef : ∀ b, fB b (3 + t % 4) = fB b 3 + t % 4 := fun b => by unfold fB; omega
  refine fv_F.of (ls := [some (.ref 106), none, none]) (by decide) (Nat.le_of_ble_eq_true rfl) rfl ?_
  refine x_iconst (pc := 0) (v := 3) dX7_goesSeason_0 rfl ?_
  refine x_aload_n (pc := 1) dX7_goesSeason_1 rfl rfl ?_
  refine x_geta (pc := 2) fl_X7_9 dX7_goesSeason_2 (tb_106) rfl ?_
  refine x_iconst (pc := 5) (v := 0) dX7_goesSeason_5 rfl ?_
  refine x_iale (pc := 6) dX7_goesSeason_6 (tb_107) ((rfl : (0 : Int32) = nI 0)) (by decide) (by first | decide | assumption) (hT) ?_
  refine x_iconst (pc := 7) (v := 4) dX7_goesSeason_7 rfl ?_
  refine x_irem (pc := 8) dX7_goesSeason_8 (by decide) ?_
  refine x_iadd (pc := 9) dX7_goesSeason_9 ?_
  rw [show nI t - nI t / 4 * 4 = nI (t % 4) from nI_rem ht (by decide), show (3 : Int32) + nI (t % 4) = nI (3 + t % 4) from nI_add 3 _]
  refine x_istore_n1 (pc := 10) dX7_goesSeason_10 rfl ?_
  refine x_iconst (pc := 11) (v := 0) dX7_goesSeason_11 rfl ?_
  refine x_istore_n2 (pc := 12) dX7_goesSeason_12 rfl ?_
  refine x_loop (fun j => [some (.ref 106), some (.int (nI (3 + t % 4))), some (.int (nI j))]) (fun j => fv_s M 22 (fN (pGr (t % 4)) (M 22) j)) (nb) (rfl) (fv_s_id M 22) (fun j hj hn13 => ?_) ?_
  ·
    replace hn13 : fv_X E mX7_goesSeason _ _ 13 ([some (.ref 106), some (.int (nI (3 + t % 4))), some (.int (nI (j + 1)))]) ([]) (fv_s M 22 (fN (pGr (t % 4)) (M 22) (j + 1))) := hn13
    show fv_X E mX7_goesSeason _ _ 13 ([some (.ref 106), some (.int (nI (3 + t % 4))), some (.int (nI j))]) ([]) (fv_s M 22 (fN (pGr (t % 4)) (M 22) j))
    refine x_iload_n (pc := 13) dX7_goesSeason_13 rfl rfl ?_
    refine x_aload_n (pc := 14) dX7_goesSeason_14 rfl rfl ?_
    refine x_geta (pc := 15) fl_X7_9 dX7_goesSeason_15 (tb_106) rfl ?_
    refine x_iconst (pc := 18) (v := 1) dX7_goesSeason_18 rfl ?_
    refine x_iale (pc := 19) dX7_goesSeason_19 (tb_107) ((rfl : (1 : Int32) = nI 1)) (by decide) (by first | decide | assumption) (e1 _) ?_
    refine x_icmp_ge (pc := 20) dX7_goesSeason_20 (tgt := 53) rfl (fun h20 => ?_) (fun h20 => ?_)
    ·
      exact absurd h20 (nI_ge hj (by first | decide | omega))
    ·
      refine x_aload_n (pc := 23) dX7_goesSeason_23 rfl rfl ?_
      refine x_iload_n (pc := 24) dX7_goesSeason_24 rfl rfl ?_
      refine x_iload_n (pc := 25) dX7_goesSeason_25 rfl rfl ?_
      refine x_bipush (pc := 26) (v := 99) dX7_goesSeason_26 rfl ?_
      refine x_aload_n (pc := 28) dX7_goesSeason_28 rfl rfl ?_
      refine x_iload_n (pc := 29) dX7_goesSeason_29 rfl rfl ?_
      refine x_iload_n (pc := 30) dX7_goesSeason_30 rfl rfl ?_
      refine x_Vi (pc := 31) ks_X7_64 dX7_goesSeason_31 (tb_106) rfl rfl (hX7_get (f := 3 + t % 4) (by omega) (by omega)) rfl rfl rfl (Nat.le_of_ble_eq_true rfl) ?_
      refine x_aload_n (pc := 34) dX7_goesSeason_34 rfl rfl ?_
      refine x_iload_n (pc := 35) dX7_goesSeason_35 rfl rfl ?_
      refine x_iconst (pc := 36) (v := 2) dX7_goesSeason_36 rfl ?_
      refine x_Vi (pc := 37) ks_X7_64 dX7_goesSeason_37 (tb_106) rfl rfl (hX7_get (f := 2) (by omega) (by decide)) rfl rfl rfl (Nat.le_of_ble_eq_true rfl) ?_
      refine x_iadd (pc := 40) dX7_goesSeason_40 ?_
      refine x_Si (pc := 41) ks_X7_86 dX7_goesSeason_41 (hX7_less) rfl rfl rfl (Nat.le_of_ble_eq_true rfl) ?_
      rw [pMin_comm]
      refine x_Vv (pc := 44) ks_X7_100 dX7_goesSeason_44 (tb_106) rfl rfl (hX7_puts (f := 3 + t % 4) (by omega) (by omega)) rfl rfl rfl (Nat.le_of_ble_eq_true rfl) ?_
      rw [fv_s_same, fv_s_s, ef]
      refine x_iinc2 (pc := 47) dX7_goesSeason_47 (by first | exact fv_inc _ | exact fv_dec _ | rfl) rfl ?_
      refine x_goto (pc := 50) dX7_goesSeason_50 (tgt := 13) rfl ?_
      exact hn13
  ·
    show fv_X E mX7_goesSeason _ _ 13 ([some (.ref 106), some (.int (nI (3 + t % 4))), some (.int (nI (nb)))]) ([]) (fv_s M 22 (fN (pGr (t % 4)) (M 22) (nb)))
    refine x_iload_n (pc := 13) dX7_goesSeason_13 rfl rfl ?_
    refine x_aload_n (pc := 14) dX7_goesSeason_14 rfl rfl ?_
    refine x_geta (pc := 15) fl_X7_9 dX7_goesSeason_15 (tb_106) rfl ?_
    refine x_iconst (pc := 18) (v := 1) dX7_goesSeason_18 rfl ?_
    refine x_iale (pc := 19) dX7_goesSeason_19 (tb_107) ((rfl : (1 : Int32) = nI 1)) (by decide) (by first | decide | assumption) (e1 _) ?_
    refine x_icmp_ge (pc := 20) dX7_goesSeason_20 (tgt := 53) rfl (fun h20 => ?_) (fun h20 => ?_)
    ·
      refine x_aload_n (pc := 53) dX7_goesSeason_53 rfl rfl ?_
      refine x_geta (pc := 54) fl_X7_9 dX7_goesSeason_54 (tb_106) rfl ?_
      refine x_iconst (pc := 57) (v := 0) dX7_goesSeason_57 rfl ?_
      refine x_dup2 (pc := 58) dX7_goesSeason_58 ?_
      refine x_iale (pc := 59) dX7_goesSeason_59 (tb_107) ((rfl : (0 : Int32) = nI 0)) (by decide) (by first | decide | assumption) (e0 _) ?_
      refine x_iconst (pc := 60) (v := 1) dX7_goesSeason_60 rfl ?_
      refine x_iadd (pc := 61) dX7_goesSeason_61 ?_
      refine x_iast (pc := 62) dX7_goesSeason_62 (tb_107) ((rfl : (0 : Int32) = nI 0)) (by decide) (by first | decide | assumption) ?_
      refine x_ret (pc := 63) dX7_goesSeason_63 rfl ?_
      exact ⟨rfl, by simp only [fv_s_same, fv_s_s]; rfl⟩
    ·
      exact absurd (Int32.le_refl _) h20
theorem pAddB_m (σ : Nat → Int32) (n : Nat) (k : Int32) : fv_u (fv_u (fv_u (fv_u (pFill σ (fB n 0) 7 0) (fB n 0) k) (fB n 1) 2) (fB n 2) 1) 1 (nI n + 1) = pAddB σ n k := by
  funext j
  simp only [pAddB, pHat, fv_u, pFill]
  unfold fB
  repeat' split
  all_goals first | rfl | (exfalso; omega)
theorem pFill_b {σ : Nat → Int32} {n f j : Nat} (h : j < fB n 0 ∨ fB n 7 ≤ j) (hf : f ≤ 7) : pFill σ (fB n 0) f 0 j = σ j := by
  unfold pFill
  unfold fB at *
  rw [if_neg (by omega)]
theorem hX7_addsBird {E : fv_E} {d nb : Nat} {k : Int32} {M : fv_M} (hB : M 22 1 = nI nb) (hb : nb < 8) : fv_F E (d + 1) mX7_addsBird [.ref 106, .int k] M none (fv_s M 22 (pAddB (M 22) nb k)) := by
  have ef : ∀ j, fB nb 0 + j = fB nb j := fun j => by unfold fB; omega
  have e1 : fv_u (fv_u (fv_u (pFill (M 22) (fB nb 0) 7 0) (fB nb 0) k) (fB nb 1) 2) (fB nb 2) 1 1 = nI nb := by
    rw [fv_u_ne _ _ (by unfold fB; omega), fv_u_ne _ _ (by unfold fB; omega), fv_u_ne _ _ (by unfold fB; omega), pFill_b (Or.inl (by unfold fB; omega)) (by omega)]; exact hB
  refine fv_F.of (ls := [some (.ref 106), some (.int k), none, none]) (by decide) (Nat.le_of_ble_eq_true rfl) rfl ?_
  refine x_aload_n (pc := 0) dX7_addsBird_0 rfl rfl ?_
  refine x_geta (pc := 1) fl_X7_9 dX7_addsBird_1 (tb_106) rfl ?_
  refine x_iconst (pc := 4) (v := 1) dX7_addsBird_4 rfl ?_
  refine x_iale (pc := 5) dX7_addsBird_5 (tb_107) ((rfl : (1 : Int32) = nI 1)) (by decide) (by first | decide | assumption) (hB) ?_
  refine x_istore_n2 (pc := 6) dX7_addsBird_6 rfl ?_
  refine x_iconst (pc := 7) (v := 0) dX7_addsBird_7 rfl ?_
  refine x_istore_n3 (pc := 8) dX7_addsBird_8 rfl ?_
  refine x_loop (fun j => [some (.ref 106), some (.int k), some (.int (nI nb)), some (.int (nI j))]) (fun j => fv_s M 22 (pFill (M 22) (fB nb 0) j 0)) (7) (rfl) (by rw [pFill_0, fv_s_id]) (fun j hj hn9 => ?_) ?_
  ·
    replace hn9 : fv_X E mX7_addsBird _ _ 9 ([some (.ref 106), some (.int k), some (.int (nI nb)), some (.int (nI (j + 1)))]) ([]) (fv_s M 22 (pFill (M 22) (fB nb 0) (j + 1) 0)) := hn9
    show fv_X E mX7_addsBird _ _ 9 ([some (.ref 106), some (.int k), some (.int (nI nb)), some (.int (nI j))]) ([]) (fv_s M 22 (pFill (M 22) (fB nb 0) j 0))
    refine x_iload_n (pc := 9) dX7_addsBird_9 rfl rfl ?_
    refine x_bipush (pc := 10) (v := 7) dX7_addsBird_10 rfl ?_
    refine x_icmp_ge (pc := 12) dX7_addsBird_12 (tgt := 28) rfl (fun h12 => ?_) (fun h12 => ?_)
    ·
      exact absurd h12 (nI_ge hj (by first | decide | omega))
    ·
      refine x_aload_n (pc := 15) dX7_addsBird_15 rfl rfl ?_
      refine x_iload_n (pc := 16) dX7_addsBird_16 rfl rfl ?_
      refine x_iload_n (pc := 17) dX7_addsBird_17 rfl rfl ?_
      refine x_iconst (pc := 18) (v := 0) dX7_addsBird_18 rfl ?_
      refine x_Vv (pc := 19) ks_X7_100 dX7_addsBird_19 (tb_106) rfl rfl (hX7_puts (f := j) hb hj) rfl rfl rfl (Nat.le_of_ble_eq_true rfl) ?_
      rw [fv_s_same, fv_s_s, ← ef j, pFill_s]
      refine x_iinc3 (pc := 22) dX7_addsBird_22 (by first | exact fv_inc _ | exact fv_dec _ | rfl) rfl ?_
      refine x_goto (pc := 25) dX7_addsBird_25 (tgt := 9) rfl ?_
      exact hn9
  ·
    show fv_X E mX7_addsBird _ _ 9 ([some (.ref 106), some (.int k), some (.int (nI nb)), some (.int (nI (7)))]) ([]) (fv_s M 22 (pFill (M 22) (fB nb 0) (7) 0))
    refine x_iload_n (pc := 9) dX7_addsBird_9 rfl rfl ?_
    refine x_bipush (pc := 10) (v := 7) dX7_addsBird_10 rfl ?_
    refine x_icmp_ge (pc := 12) dX7_addsBird_12 (tgt := 28) rfl (fun h12 => ?_) (fun h12 => ?_)
    ·
      refine x_aload_n (pc := 28) dX7_addsBird_28 rfl rfl ?_
      refine x_iload_n (pc := 29) dX7_addsBird_29 rfl rfl ?_
      refine x_iconst (pc := 30) (v := 0) dX7_addsBird_30 rfl ?_
      refine x_iload_n (pc := 31) dX7_addsBird_31 rfl rfl ?_
      refine x_Vv (pc := 32) ks_X7_100 dX7_addsBird_32 (tb_106) rfl rfl (hX7_puts (f := 0) hb (by decide)) rfl rfl rfl (Nat.le_of_ble_eq_true rfl) ?_
      refine x_aload_n (pc := 35) dX7_addsBird_35 rfl rfl ?_
      refine x_iload_n (pc := 36) dX7_addsBird_36 rfl rfl ?_
      refine x_iconst (pc := 37) (v := 1) dX7_addsBird_37 rfl ?_
      refine x_iconst (pc := 38) (v := 2) dX7_addsBird_38 rfl ?_
      refine x_Vv (pc := 39) ks_X7_100 dX7_addsBird_39 (tb_106) rfl rfl (hX7_puts (f := 1) hb (by decide)) rfl rfl rfl (Nat.le_of_ble_eq_true rfl) ?_
      refine x_aload_n (pc := 42) dX7_addsBird_42 rfl rfl ?_
      refine x_iload_n (pc := 43) dX7_addsBird_43 rfl rfl ?_
      refine x_iconst (pc := 44) (v := 2) dX7_addsBird_44 rfl ?_
      refine x_iconst (pc := 45) (v := 1) dX7_addsBird_45 rfl ?_
      refine x_Vv (pc := 46) ks_X7_100 dX7_addsBird_46 (tb_106) rfl rfl (hX7_puts (f := 2) hb (by decide)) rfl rfl rfl (Nat.le_of_ble_eq_true rfl) ?_
      simp only [fv_s_same, fv_s_s]
      refine x_aload_n (pc := 49) dX7_addsBird_49 rfl rfl ?_
      refine x_geta (pc := 50) fl_X7_9 dX7_addsBird_50 (tb_106) rfl ?_
      refine x_iconst (pc := 53) (v := 1) dX7_addsBird_53 rfl ?_
      refine x_dup2 (pc := 54) dX7_addsBird_54 ?_
      refine x_iale (pc := 55) dX7_addsBird_55 (tb_107) ((rfl : (1 : Int32) = nI 1)) (by decide) (by first | decide | assumption) ((congrFun (fv_s_same M 22 _) 1).trans e1) ?_
      refine x_iconst (pc := 56) (v := 1) dX7_addsBird_56 rfl ?_
      refine x_iadd (pc := 57) dX7_addsBird_57 ?_
      refine x_iast (pc := 58) dX7_addsBird_58 (tb_107) ((rfl : (1 : Int32) = nI 1)) (by decide) (by first | decide | assumption) ?_
      refine x_ret (pc := 59) dX7_addsBird_59 rfl ?_
      refine ⟨rfl, ?_⟩
      rw [← pAddB_m]
      simp only [fv_s_same, fv_s_s]
    ·
      exact absurd (Int32.le_refl _) h12
theorem pAddM_m (σ : Nat → Int32) (n : Nat) (c : Int32) : fv_u (fv_u (fv_u (pFill σ (fM n 0) 5 0) (fM n 0) c) (fM n 1) 1) 2 (nI n + 1) = pAddM σ n c := by
  funext j
  simp only [pAddM, pBeg, fv_u, pFill]
  unfold fM
  repeat' split
  all_goals first | rfl | (exfalso; omega)
theorem hX7_addsMotion {E : fv_E} {d nm : Nat} {c : Int32} {M : fv_M} (hM : M 22 2 = nI nm) (hn : nm < 8) : fv_F E (d + 1) mX7_addsMotion [.ref 106, .int c] M none (fv_s M 22 (pAddM (M 22) nm c)) := by
  have ef : ∀ j, fM nm 0 + j = fM nm j := fun j => by unfold fM; omega
  have e1 : fv_u (fv_u (pFill (M 22) (fM nm 0) 5 0) (fM nm 0) c) (fM nm 1) 1 2 = nI nm := by
    rw [fv_u_ne _ _ (by unfold fM; omega), fv_u_ne _ _ (by unfold fM; omega)]
    unfold pFill
    rw [if_neg (by unfold fM; omega)]; exact hM
  refine fv_F.of (ls := [some (.ref 106), some (.int c), none, none]) (by decide) (Nat.le_of_ble_eq_true rfl) rfl ?_
  refine x_aload_n (pc := 0) dX7_addsMotion_0 rfl rfl ?_
  refine x_geta (pc := 1) fl_X7_9 dX7_addsMotion_1 (tb_106) rfl ?_
  refine x_iconst (pc := 4) (v := 2) dX7_addsMotion_4 rfl ?_
  refine x_iale (pc := 5) dX7_addsMotion_5 (tb_107) ((rfl : (2 : Int32) = nI 2)) (by decide) (by first | decide | assumption) (hM) ?_
  refine x_istore_n2 (pc := 6) dX7_addsMotion_6 rfl ?_
  refine x_iconst (pc := 7) (v := 0) dX7_addsMotion_7 rfl ?_
  refine x_istore_n3 (pc := 8) dX7_addsMotion_8 rfl ?_
  refine x_loop (fun j => [some (.ref 106), some (.int c), some (.int (nI nm)), some (.int (nI j))]) (fun j => fv_s M 22 (pFill (M 22) (fM nm 0) j 0)) (5) (rfl) (by rw [pFill_0, fv_s_id]) (fun j hj hn9 => ?_) ?_
  ·
    replace hn9 : fv_X E mX7_addsMotion _ _ 9 ([some (.ref 106), some (.int c), some (.int (nI nm)), some (.int (nI (j + 1)))]) ([]) (fv_s M 22 (pFill (M 22) (fM nm 0) (j + 1) 0)) := hn9
    show fv_X E mX7_addsMotion _ _ 9 ([some (.ref 106), some (.int c), some (.int (nI nm)), some (.int (nI j))]) ([]) (fv_s M 22 (pFill (M 22) (fM nm 0) j 0))
    refine x_iload_n (pc := 9) dX7_addsMotion_9 rfl rfl ?_
    refine x_iconst (pc := 10) (v := 5) dX7_addsMotion_10 rfl ?_
    refine x_icmp_ge (pc := 11) dX7_addsMotion_11 (tgt := 27) rfl (fun h11 => ?_) (fun h11 => ?_)
    ·
      exact absurd h11 (nI_ge hj (by first | decide | omega))
    ·
      refine x_aload_n (pc := 14) dX7_addsMotion_14 rfl rfl ?_
      refine x_iload_n (pc := 15) dX7_addsMotion_15 rfl rfl ?_
      refine x_iload_n (pc := 16) dX7_addsMotion_16 rfl rfl ?_
      refine x_iconst (pc := 17) (v := 0) dX7_addsMotion_17 rfl ?_
      refine x_Vv (pc := 18) ks_X7_107 dX7_addsMotion_18 (tb_106) rfl rfl (hX7_puts1 (f := j) hn hj) rfl rfl rfl (Nat.le_of_ble_eq_true rfl) ?_
      rw [fv_s_same, fv_s_s, ← ef j, pFill_s]
      refine x_iinc3 (pc := 21) dX7_addsMotion_21 (by first | exact fv_inc _ | exact fv_dec _ | rfl) rfl ?_
      refine x_goto (pc := 24) dX7_addsMotion_24 (tgt := 9) rfl ?_
      exact hn9
  ·
    show fv_X E mX7_addsMotion _ _ 9 ([some (.ref 106), some (.int c), some (.int (nI nm)), some (.int (nI (5)))]) ([]) (fv_s M 22 (pFill (M 22) (fM nm 0) (5) 0))
    refine x_iload_n (pc := 9) dX7_addsMotion_9 rfl rfl ?_
    refine x_iconst (pc := 10) (v := 5) dX7_addsMotion_10 rfl ?_
    refine x_icmp_ge (pc := 11) dX7_addsMotion_11 (tgt := 27) rfl (fun h11 => ?_) (fun h11 => ?_)
    ·
      refine x_aload_n (pc := 27) dX7_addsMotion_27 rfl rfl ?_
      refine x_iload_n (pc := 28) dX7_addsMotion_28 rfl rfl ?_
      refine x_iconst (pc := 29) (v := 0) dX7_addsMotion_29 rfl ?_
      refine x_iload_n (pc := 30) dX7_addsMotion_30 rfl rfl ?_
      refine x_Vv (pc := 31) ks_X7_107 dX7_addsMotion_31 (tb_106) rfl rfl (hX7_puts1 (f := 0) hn (by decide)) rfl rfl rfl (Nat.le_of_ble_eq_true rfl) ?_
      refine x_aload_n (pc := 34) dX7_addsMotion_34 rfl rfl ?_
      refine x_iload_n (pc := 35) dX7_addsMotion_35 rfl rfl ?_
      refine x_iconst (pc := 36) (v := 1) dX7_addsMotion_36 rfl ?_
      refine x_iconst (pc := 37) (v := 1) dX7_addsMotion_37 rfl ?_
      refine x_Vv (pc := 38) ks_X7_107 dX7_addsMotion_38 (tb_106) rfl rfl (hX7_puts1 (f := 1) hn (by decide)) rfl rfl rfl (Nat.le_of_ble_eq_true rfl) ?_
      simp only [fv_s_same, fv_s_s]
      refine x_aload_n (pc := 41) dX7_addsMotion_41 rfl rfl ?_
      refine x_geta (pc := 42) fl_X7_9 dX7_addsMotion_42 (tb_106) rfl ?_
      refine x_iconst (pc := 45) (v := 2) dX7_addsMotion_45 rfl ?_
      refine x_dup2 (pc := 46) dX7_addsMotion_46 ?_
      refine x_iale (pc := 47) dX7_addsMotion_47 (tb_107) ((rfl : (2 : Int32) = nI 2)) (by decide) (by first | decide | assumption) ((congrFun (fv_s_same M 22 _) 2).trans e1) ?_
      refine x_iconst (pc := 48) (v := 1) dX7_addsMotion_48 rfl ?_
      refine x_iadd (pc := 49) dX7_addsMotion_49 ?_
      refine x_iast (pc := 50) dX7_addsMotion_50 (tb_107) ((rfl : (2 : Int32) = nI 2)) (by decide) (by first | decide | assumption) ?_
      refine x_ret (pc := 51) dX7_addsMotion_51 rfl ?_
      refine ⟨rfl, ?_⟩
      rw [← pAddM_m]
      simp only [fv_s_same, fv_s_s]
    ·
      exact absurd (Int32.le_refl _) h11
theorem hX7_draw {E : fv_E} {d : Nat} {M : fv_M} : fv_F E d mX7_draw [.ref 106] M (some (.int (((pZ (M 22 3)).toUInt32 >>> (Int32.toUInt32 8 &&& Int32.toUInt32 31)).toInt32))) (fv_s M 22 (fv_u (M 22) 3 (pZ (M 22 3)))) := by
  refine fv_F.of (ls := [some (.ref 106)]) (by decide) (Nat.le_of_ble_eq_true rfl) rfl ?_
  refine x_aload_n (pc := 0) dX7_draw_0 rfl rfl ?_
  refine x_geta (pc := 1) fl_X7_9 dX7_draw_1 (tb_106) rfl ?_
  refine x_iconst (pc := 4) (v := 3) dX7_draw_4 rfl ?_
  refine x_aload_n (pc := 5) dX7_draw_5 rfl rfl ?_
  refine x_geta (pc := 6) fl_X7_9 dX7_draw_6 (tb_106) rfl ?_
  refine x_iconst (pc := 9) (v := 3) dX7_draw_9 rfl ?_
  refine x_iald (pc := 10) dX7_draw_10 (tb_107) ((rfl : (3 : Int32) = nI 3)) (by decide) (by first | decide | assumption) ?_
  refine x_ldc (pc := 11) kc_X7_205 dX7_draw_11 ?_
  refine x_imul (pc := 13) dX7_draw_13 ?_
  refine x_sipush (pc := 14) (v := 12345) dX7_draw_14 rfl ?_
  refine x_iadd (pc := 17) dX7_draw_17 ?_
  refine x_iast (pc := 18) dX7_draw_18 (tb_107) ((rfl : (3 : Int32) = nI 3)) (by decide) (by first | decide | assumption) ?_
  refine x_aload_n (pc := 19) dX7_draw_19 rfl rfl ?_
  refine x_geta (pc := 20) fl_X7_9 dX7_draw_20 (tb_106) rfl ?_
  refine x_iconst (pc := 23) (v := 3) dX7_draw_23 rfl ?_
  refine x_iald (pc := 24) dX7_draw_24 (tb_107) ((rfl : (3 : Int32) = nI 3)) (by decide) (by first | decide | assumption) ?_
  refine x_bipush (pc := 25) (v := 8) dX7_draw_25 rfl ?_
  refine x_iushr (pc := 27) dX7_draw_27 ?_
  refine x_iret (pc := 28) dX7_draw_28 rfl (by first | rfl | exact fv_nz _) ?_
  exact ⟨by rw [fv_s_same, fv_u_same]; rfl, rfl⟩
