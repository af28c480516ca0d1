def pS0 (σ τ : Nat → Int32) : Nat → Int32 := fv_u (fv_u (fv_u (fv_u σ 1 (τ 1)) 2 (τ 2)) 0 (τ 0)) 3 (τ 3)
def pS1 (σ τ : Nat → Int32) (n : Nat) : Nat → Int32 := fN (fun b ρ => pBec ρ τ b) (pS0 σ τ) n
def pS2 (σ τ : Nat → Int32) (n k : Nat) : Nat → Int32 := fN (fun m ρ => pMec ρ τ m) (pS1 σ τ n) k
def pSB (σ τ : Nat → Int32) (n k : Nat) : Nat → Int32 := fv_cp (fv_cp (pS2 σ τ n k) (4 + 0) τ (4 + 0) 4) (104 + 0) τ (104 + 0) 10
theorem pBec_at (σ τ : Nat → Int32) (i j : Nat) : pBec σ τ i j = if fB i 0 ≤ j ∧ j < fB i 7 then τ j else σ j := by
  unfold pBec fv_cp fv_u
  unfold fB
  by_cases h : 8 + 7 * i + 0 ≤ j ∧ j < 8 + 7 * i + 7
  · rw [if_pos h]
    by_cases h3 : 8 + 7 * i + 3 + 0 ≤ j ∧ j < 8 + 7 * i + 3 + 0 + 4
    · rw [if_pos h3]; congr 1; omega
    · rw [if_neg h3]
      by_cases h2 : j = 8 + 7 * i + 2
      · rw [if_pos h2, h2]
      · rw [if_neg h2]
        by_cases h1 : j = 8 + 7 * i + 1
        · rw [if_pos h1, h1]
        · rw [if_neg h1]
          have h0 : j = 8 + 7 * i + 0 := by omega
          rw [if_pos h0, h0]
  · rw [if_neg h, if_neg (by omega), if_neg (by omega), if_neg (by omega), if_neg (by omega)]
theorem pMec_at (σ τ : Nat → Int32) (m j : Nat) : pMec σ τ m j = if fM m 0 ≤ j ∧ j < fM m 5 then τ j else σ j := by
  unfold pMec fv_u
  unfold fM
  by_cases h : 64 + 5 * m + 0 ≤ j ∧ j < 64 + 5 * m + 5
  · rw [if_pos h]
    by_cases h4 : j = 64 + 5 * m + 4
    · rw [if_pos h4, h4]
    · rw [if_neg h4]
      by_cases h3 : j = 64 + 5 * m + 3
      · rw [if_pos h3, h3]
      · rw [if_neg h3]
        by_cases h2 : j = 64 + 5 * m + 2
        · rw [if_pos h2, h2]
        · rw [if_neg h2]
          by_cases h1 : j = 64 + 5 * m + 1
          · rw [if_pos h1, h1]
          · rw [if_neg h1]
            have h0 : j = 64 + 5 * m + 0 := by omega
            rw [if_pos h0, h0]
  · rw [if_neg h, if_neg (by omega), if_neg (by omega), if_neg (by omega), if_neg (by omega), if_neg (by omega)]
theorem pS1_at (σ τ : Nat → Int32) (j : Nat) : ∀ n, pS1 σ τ n j = if j < 4 ∨ (8 ≤ j ∧ j < 8 + 7 * n) then τ j else σ j := by
  intro n
  induction n with
  | zero =>
    show pS0 σ τ j = _
    unfold pS0 fv_u
    by_cases h : j < 4
    · rw [if_pos (Or.inl h)]
      by_cases h3 : j = 3
      · rw [if_pos h3, h3]
      · rw [if_neg h3]
        by_cases h0 : j = 0
        · rw [if_pos h0, h0]
        · rw [if_neg h0]
          by_cases h2 : j = 2
          · rw [if_pos h2, h2]
          · rw [if_neg h2]
            have h1 : j = 1 := by omega
            rw [if_pos h1, h1]
    · rw [if_neg (by omega), if_neg (by omega), if_neg (by omega), if_neg (by omega), if_neg (by omega)]
  | succ n ih =>
    show pBec (pS1 σ τ n) τ n j = _
    rw [pBec_at, ih]
    unfold fB
    by_cases h : 8 + 7 * n + 0 ≤ j ∧ j < 8 + 7 * n + 7
    · rw [if_pos h, if_pos (by omega)]
    · rw [if_neg h]
      by_cases h2 : j < 4 ∨ (8 ≤ j ∧ j < 8 + 7 * n)
      · rw [if_pos h2, if_pos (by omega)]
      · rw [if_neg h2, if_neg (by omega)]
theorem pS2_at (σ τ : Nat → Int32) (n j : Nat) : ∀ k, pS2 σ τ n k j = if 64 ≤ j ∧ j < 64 + 5 * k then τ j else pS1 σ τ n j := by
  intro k
  induction k with
  | zero =>
    show pS1 σ τ n j = _
    rw [if_neg (by omega)]
  | succ k ih =>
    show pMec (pS2 σ τ n k) τ k j = _
    rw [pMec_at, ih]
    unfold fM
    by_cases h : 64 + 5 * k + 0 ≤ j ∧ j < 64 + 5 * k + 5
    · rw [if_pos h, if_pos (by omega)]
    · rw [if_neg h]
      by_cases h2 : 64 ≤ j ∧ j < 64 + 5 * k
      · rw [if_pos h2, if_pos (by omega)]
      · rw [if_neg h2, if_neg (by omega)]
/-- which numbers of a state are alive: n birds, k motions -/
abbrev pLv (n k j : Nat) : Prop := j < 8 ∨ (8 ≤ j ∧ j < 8 + 7 * n) ∨ (64 ≤ j ∧ j < 64 + 5 * k) ∨ (104 ≤ j ∧ j < 114)
theorem pSB_at (σ τ : Nat → Int32) (n k j : Nat) : pSB σ τ n k j = if pLv n k j then τ j else σ j := by
  unfold pSB fv_cp
  by_cases h1 : 104 + 0 ≤ j ∧ j < 104 + 0 + 10
  · rw [if_pos h1, if_pos (by unfold pLv; omega)]; congr 1; omega
  · rw [if_neg h1]
    by_cases h2 : 4 + 0 ≤ j ∧ j < 4 + 0 + 4
    · rw [if_pos h2, if_pos (by unfold pLv; omega)]; congr 1; omega
    · rw [if_neg h2, pS2_at]
      by_cases h3 : 64 ≤ j ∧ j < 64 + 5 * k
      · rw [if_pos h3, if_pos (by unfold pLv; omega)]
      · rw [if_neg h3, pS1_at]
        by_cases h4 : j < 4 ∨ (8 ≤ j ∧ j < 8 + 7 * n)
        · rw [if_pos h4, if_pos (by unfold pLv; omega)]
        · rw [if_neg h4, if_neg (by unfold pLv; omega)]
theorem hX4_become {E : fv_E} {d s t nb nm : Nat} {M : fv_M} (hs : s < 3) (ht : t < 3) (hst : t ≠ s) (hB : M t 1 = nI nb) (hb : nb ≤ 8) (hM : M t 2 = nI nm) (hn : nm ≤ 8) : fv_F E (d + 2) mX4_become [.ref (aSt s), .ref (aSt t)] M none (fv_s M s (pSB (M s) (M t) nb nm)) := by
  have e1 : ∀ j, (fv_s M s (pS1 (M s) (M t) j)) s 1 = nI nb := fun j => by rw [fv_s_same, pS1_at, if_pos (by omega)]; exact hB
  have e2 : ∀ j, (fv_s M s (pS2 (M s) (M t) nb j)) s 2 = nI nm := fun j => by rw [fv_s_same, pS2_at, if_neg (by omega), pS1_at, if_pos (by omega)]; exact hM
  refine fv_F.of (ls := [some (.ref (aSt s)), some (.ref (aSt t)), none]) (by decide) (Nat.le_of_ble_eq_true rfl) rfl ?_
  refine x_aload_n (pc := 0) dX4_become_0 rfl rfl ?_
  refine x_aload_n (pc := 1) dX4_become_1 rfl rfl ?_
  refine x_geti (pc := 2) fl_X4_30 dX4_become_2 (tb_st (by assumption)) rfl (rfl) ?_
  refine x_put (pc := 5) fl_X4_30 dX4_become_5 (tb_st (by assumption)) rfl rfl rfl ?_
  refine x_aload_n (pc := 8) dX4_become_8 rfl rfl ?_
  refine x_aload_n (pc := 9) dX4_become_9 rfl rfl ?_
  refine x_geti (pc := 10) fl_X4_34 dX4_become_10 (tb_st (by assumption)) rfl (rfl) ?_
  refine x_put (pc := 13) fl_X4_34 dX4_become_13 (tb_st (by assumption)) rfl rfl rfl ?_
  refine x_aload_n (pc := 16) dX4_become_16 rfl rfl ?_
  refine x_aload_n (pc := 17) dX4_become_17 rfl rfl ?_
  refine x_geti (pc := 18) fl_X4_37 dX4_become_18 (tb_st (by assumption)) rfl (rfl) ?_
  refine x_put (pc := 21) fl_X4_37 dX4_become_21 (tb_st (by assumption)) rfl rfl rfl ?_
  refine x_aload_n (pc := 24) dX4_become_24 rfl rfl ?_
  refine x_aload_n (pc := 25) dX4_become_25 rfl rfl ?_
  refine x_geti (pc := 26) fl_X4_40 dX4_become_26 (tb_st (by assumption)) rfl (rfl) ?_
  refine x_put (pc := 29) fl_X4_40 dX4_become_29 (tb_st (by assumption)) rfl rfl rfl ?_
  refine x_iconst (pc := 32) (v := 0) dX4_become_32 rfl ?_
  refine x_istore_n2 (pc := 33) dX4_become_33 rfl ?_
  refine x_loop (fun j => [some (.ref (aSt s)), some (.ref (aSt t)), some (.int (nI j))]) (fun j => fv_s M s (pS1 (M s) (M t) j)) (nb) (rfl) (by simp only [fv_s_same, fv_s_s, fv_s_ne _ _ hst]; rfl) (fun j hj hn34 => ?_) ?_
  ·
    replace hn34 : fv_X E mX4_become _ _ 34 ([some (.ref (aSt s)), some (.ref (aSt t)), some (.int (nI (j + 1)))]) ([]) (fv_s M s (pS1 (M s) (M t) (j + 1))) := hn34
    show fv_X E mX4_become _ _ 34 ([some (.ref (aSt s)), some (.ref (aSt t)), some (.int (nI j))]) ([]) (fv_s M s (pS1 (M s) (M t) j))
    refine x_iload_n (pc := 34) dX4_become_34 rfl rfl ?_
    refine x_aload_n (pc := 35) dX4_become_35 rfl rfl ?_
    refine x_geti (pc := 36) fl_X4_30 dX4_become_36 (tb_st (by assumption)) rfl (e1 _) ?_
    refine x_icmp_ge (pc := 39) dX4_become_39 (tgt := 63) rfl (fun h39 => ?_) (fun h39 => ?_)
    ·
      exact absurd h39 (nI_ge hj (by first | decide | omega))
    ·
      refine x_aload_n (pc := 42) dX4_become_42 rfl rfl ?_
      refine x_geta (pc := 43) fl_X4_11 dX4_become_43 (tb_st (by assumption)) rfl ?_
      refine x_iload_n (pc := 46) dX4_become_46 rfl rfl ?_
      refine x_bird (pc := 47) dX4_become_47 (by assumption) (rfl) (by first | assumption | decide | omega) ?_
      refine x_aload_n (pc := 48) dX4_become_48 rfl rfl ?_
      refine x_geta (pc := 49) fl_X4_11 dX4_become_49 (tb_st (by assumption)) rfl ?_
      refine x_iload_n (pc := 52) dX4_become_52 rfl rfl ?_
      refine x_bird (pc := 53) dX4_become_53 (by assumption) (rfl) (by first | assumption | decide | omega) ?_
      refine x_Vv (pc := 54) ks_X4_51 dX4_become_54 (tb_b hs (by omega)) rfl rfl (hX0_become hs ht hst (by omega)) rfl rfl rfl (Nat.le_of_ble_eq_true rfl) ?_
      rw [fv_s_same, fv_s_s, fv_s_ne _ _ hst]
      refine x_iinc2 (pc := 57) dX4_become_57 (by first | exact fv_inc _ | exact fv_dec _ | rfl) rfl ?_
      refine x_goto (pc := 60) dX4_become_60 (tgt := 34) rfl ?_
      exact hn34
  ·
    show fv_X E mX4_become _ _ 34 ([some (.ref (aSt s)), some (.ref (aSt t)), some (.int (nI (nb)))]) ([]) (fv_s M s (pS1 (M s) (M t) (nb)))
    refine x_iload_n (pc := 34) dX4_become_34 rfl rfl ?_
    refine x_aload_n (pc := 35) dX4_become_35 rfl rfl ?_
    refine x_geti (pc := 36) fl_X4_30 dX4_become_36 (tb_st (by assumption)) rfl (e1 _) ?_
    refine x_icmp_ge (pc := 39) dX4_become_39 (tgt := 63) rfl (fun h39 => ?_) (fun h39 => ?_)
    ·
      refine x_iconst (pc := 63) (v := 0) dX4_become_63 rfl ?_
      refine x_istore_n2 (pc := 64) dX4_become_64 rfl ?_
      refine x_loop (fun j => [some (.ref (aSt s)), some (.ref (aSt t)), some (.int (nI j))]) (fun j => fv_s M s (pS2 (M s) (M t) nb j)) (nm) (rfl) (rfl) (fun j hj hn65 => ?_) ?_
      ·
        replace hn65 : fv_X E mX4_become _ _ 65 ([some (.ref (aSt s)), some (.ref (aSt t)), some (.int (nI (j + 1)))]) ([]) (fv_s M s (pS2 (M s) (M t) nb (j + 1))) := hn65
        show fv_X E mX4_become _ _ 65 ([some (.ref (aSt s)), some (.ref (aSt t)), some (.int (nI j))]) ([]) (fv_s M s (pS2 (M s) (M t) nb j))
        refine x_iload_n (pc := 65) dX4_become_65 rfl rfl ?_
        refine x_aload_n (pc := 66) dX4_become_66 rfl rfl ?_
        refine x_geti (pc := 67) fl_X4_34 dX4_become_67 (tb_st (by assumption)) rfl (e2 _) ?_
        refine x_icmp_ge (pc := 70) dX4_become_70 (tgt := 94) rfl (fun h70 => ?_) (fun h70 => ?_)
        ·
          exact absurd h70 (nI_ge hj (by first | decide | omega))
        ·
          refine x_aload_n (pc := 73) dX4_become_73 rfl rfl ?_
          refine x_geta (pc := 74) fl_X4_19 dX4_become_74 (tb_st (by assumption)) rfl ?_
          refine x_iload_n (pc := 77) dX4_become_77 rfl rfl ?_
          refine x_motion (pc := 78) dX4_become_78 (by assumption) (rfl) (by first | assumption | decide | omega) ?_
          refine x_aload_n (pc := 79) dX4_become_79 rfl rfl ?_
          refine x_geta (pc := 80) fl_X4_19 dX4_become_80 (tb_st (by assumption)) rfl ?_
          refine x_iload_n (pc := 83) dX4_become_83 rfl rfl ?_
          refine x_motion (pc := 84) dX4_become_84 (by assumption) (rfl) (by first | assumption | decide | omega) ?_
          refine x_Vv (pc := 85) ks_X4_55 dX4_become_85 (tb_m hs (by omega)) rfl rfl (hX1_become hs ht hst (by omega)) rfl rfl rfl (Nat.le_of_ble_eq_true rfl) ?_
          rw [fv_s_same, fv_s_s, fv_s_ne _ _ hst]
          refine x_iinc2 (pc := 88) dX4_become_88 (by first | exact fv_inc _ | exact fv_dec _ | rfl) rfl ?_
          refine x_goto (pc := 91) dX4_become_91 (tgt := 65) rfl ?_
          exact hn65
      ·
        show fv_X E mX4_become _ _ 65 ([some (.ref (aSt s)), some (.ref (aSt t)), some (.int (nI (nm)))]) ([]) (fv_s M s (pS2 (M s) (M t) nb (nm)))
        refine x_iload_n (pc := 65) dX4_become_65 rfl rfl ?_
        refine x_aload_n (pc := 66) dX4_become_66 rfl rfl ?_
        refine x_geti (pc := 67) fl_X4_34 dX4_become_67 (tb_st (by assumption)) rfl (e2 _) ?_
        refine x_icmp_ge (pc := 70) dX4_become_70 (tgt := 94) rfl (fun h70 => ?_) (fun h70 => ?_)
        ·
          refine x_aload_n (pc := 94) dX4_become_94 rfl rfl ?_
          refine x_geta (pc := 95) fl_X4_23 dX4_become_95 (tb_st (by assumption)) rfl ?_
          refine x_iconst (pc := 98) (v := 0) dX4_become_98 rfl ?_
          refine x_aload_n (pc := 99) dX4_become_99 rfl rfl ?_
          refine x_geta (pc := 100) fl_X4_23 dX4_become_100 (tb_st (by assumption)) rfl ?_
          refine x_iconst (pc := 103) (v := 0) dX4_become_103 rfl ?_
          refine x_iconst (pc := 104) (v := 4) dX4_become_104 rfl ?_
          refine x_copy (pc := 105) ks_X4_58 dX4_become_105 (tb_ft (by assumption)) (tb_ft (by assumption)) (rfl) (rfl) (rfl) (by decide) (by decide) (by decide) (by decide) rfl (Nat.le_of_ble_eq_true rfl) ?_
          refine x_aload_n (pc := 108) dX4_become_108 rfl rfl ?_
          refine x_geta (pc := 109) fl_X4_27 dX4_become_109 (tb_st (by assumption)) rfl ?_
          refine x_iconst (pc := 112) (v := 0) dX4_become_112 rfl ?_
          refine x_aload_n (pc := 113) dX4_become_113 rfl rfl ?_
          refine x_geta (pc := 114) fl_X4_27 dX4_become_114 (tb_st (by assumption)) rfl ?_
          refine x_iconst (pc := 117) (v := 0) dX4_become_117 rfl ?_
          refine x_bipush (pc := 118) (v := 10) dX4_become_118 rfl ?_
          refine x_copy (pc := 120) ks_X4_58 dX4_become_120 (tb_sp (by assumption)) (tb_sp (by assumption)) (rfl) (rfl) (rfl) (by decide) (by decide) (by decide) (by decide) rfl (Nat.le_of_ble_eq_true rfl) ?_
          refine x_ret (pc := 123) dX4_become_123 rfl ?_
          exact ⟨rfl, by simp only [fv_s_same, fv_s_s, fv_s_ne _ _ hst]; rfl⟩
        ·
          exact absurd (Int32.le_refl _) h70
    ·
      exact absurd (Int32.le_refl _) h39
