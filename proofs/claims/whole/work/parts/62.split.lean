/-- t tokens stand in the arrays; all of them, the end behind -/
def pTi (b : Nat → Nat) (L t : Nat) (M : fv_M) : Prop := M 4 0 = nI L ∧ (∀ i, i < L → M 5 i = nI (b i)) ∧ M 4 5 = nI t ∧ ∀ j, j < t → pTS b L j < L ∧ M 6 j = nI (pSo (b (pTS b L j))) ∧ M 7 j = nI (pTS b L j) ∧ M 8 j = nI (pTE b L (pTS b L j))
def pTk (b : Nat → Nat) (L : Nat) (M : fv_M) : Prop := M 4 0 = nI L ∧ (∀ i, i < L → M 5 i = nI (b i)) ∧ M 4 5 = nI (pTn b L + 1) ∧ ∀ j, j ≤ pTn b L → M 6 j = nI (pTo b L (pTS b L j)) ∧ M 7 j = nI (pTS b L j) ∧ M 8 j = nI (pTE b L (pTS b L j))
theorem pAT_of {M : fv_M} {t : Nat} {a b c : Int32} : pAT M t a b c 4 0 = M 4 0 ∧ pAT M t a b c 5 = M 5 ∧ pAT M t a b c 4 5 = nI (t + 1) ∧ pAT M t a b c 6 = fv_u (M 6) t a ∧ pAT M t a b c 7 = fv_u (M 7) t b ∧ pAT M t a b c 8 = fv_u (M 8) t c := ⟨rfl, rfl, rfl, rfl, rfl, rfl⟩
theorem pTi_add {b : Nat → Nat} {L t s : Nat} {M : fv_M} (h : pTi b L t M) (hs : pTS b L t = s) (hL : s < L) : pTi b L (t + 1) (pAT M t (nI (pSo (b s))) (nI s) (nI (pTE b L s))) := by
  obtain ⟨i1, i2, i3, i4⟩ := h
  obtain ⟨a1, a2, a3, a4, a5, a6⟩ := pAT_of (M := M) (t := t) (a := nI (pSo (b s))) (b := nI s) (c := nI (pTE b L s))
  refine ⟨a1.trans i1, fun i hi => (congrFun a2 i).trans (i2 i hi), a3, fun j hj => ?_⟩
  rw [a4, a5, a6]
  by_cases e : j = t
  · subst e
    rw [fv_u_same, fv_u_same, fv_u_same, hs]
    exact ⟨hL, rfl, rfl, rfl⟩
  · rw [fv_u_ne _ _ e, fv_u_ne _ _ e, fv_u_ne _ _ e]
    exact i4 j (by omega)
theorem pTi_end {b : Nat → Nat} {L t : Nat} {M : fv_M} (h : pTi b L t M) (hs : pTS b L t = L) : pTk b L (pAT M t 0 (nI L) (nI L)) := by
  obtain ⟨i1, i2, i3, i4⟩ := h
  obtain ⟨n1, n2, n3⟩ := pTn_sp b L
  have e : t = pTn b L := by
    rcases Nat.lt_trichotomy t (pTn b L) with h | h | h
    · have := n3 t h; omega
    · exact h
    · have := (i4 _ h).1; omega
  subst e
  obtain ⟨a1, a2, a3, a4, a5, a6⟩ := pAT_of (M := M) (t := pTn b L) (a := 0) (b := nI L) (c := nI L)
  refine ⟨a1.trans i1, fun i hi => (congrFun a2 i).trans (i2 i hi), a3, fun j hj => ?_⟩
  rw [a4, a5, a6]
  by_cases e : j = pTn b L
  · subst e
    rw [fv_u_same, fv_u_same, fv_u_same, hs]
    unfold pTo pTE
    rw [if_neg (Nat.lt_irrefl _), if_neg (Nat.lt_irrefl _)]
    exact ⟨rfl, rfl, rfl⟩
  · rw [fv_u_ne _ _ e, fv_u_ne _ _ e, fv_u_ne _ _ e]
    obtain ⟨q1, q2, q3, q4⟩ := i4 j (by omega)
    unfold pTo
    rw [if_pos q1]
    exact ⟨q2, q3, q4⟩
theorem hX5_split {E : fv_E} {d L : Nat} {b : Nat → Nat} {M : fv_M} (hL : L ≤ 120) (h0 : M 4 0 = nI L) (hb : ∀ i, i < L → b i < 256 ∧ M 5 i = nI (b i)) : fv_P E (d + 1) mX5_split [.ref 88] M none (fun M' => pTk b L M' ∧ pFr [4, 6, 7, 8] M M') := by
  refine fv_P.of (ls := [some (.ref 88), none, none, none]) (by decide) (Nat.le_of_ble_eq_true rfl) rfl ?_
  refine x_aload_n (pc := 0) dX5_split_0 rfl rfl ?_
  refine x_iconst (pc := 1) (v := 0) dX5_split_1 rfl ?_
  refine x_put (pc := 2) fl_X5_41 dX5_split_2 (tb_88) rfl rfl rfl ?_
  refine x_iconst (pc := 5) (v := 0) dX5_split_5 rfl ?_
  refine x_istore_n1 (pc := 6) dX5_split_6 rfl ?_
  refine x_loopM (fun a : Nat × Nat => [some (.ref 88), some (.int (nI a.1)), none, none]) (fun a M' => a.1 ≤ L ∧ a.2 ≤ a.1 ∧ pTS b L a.2 = pTsk b L a.1 ∧ pTi b L a.2 M' ∧ pFr [4, 6, 7, 8] M M') (fun a => L - a.1) (0, 0) rfl ⟨Nat.zero_le _, Nat.le_refl _, rfl, ⟨h0, fun i hi => (hb i hi).2, rfl, fun j hj => absurd hj (Nat.not_lt_zero _)⟩, pFr.rfl'.s (by decide)⟩ (fun a M' hI hL2 => ?_)
  obtain ⟨p, t⟩ := a
  have hp : p ≤ L := hI.1
  have htp : t ≤ p := hI.2.1
  have hS : pTS b L t = pTsk b L p := hI.2.2.1
  have hT : pTi b L t M' := hI.2.2.2.1
  have hF : pFr [4, 6, 7, 8] M M' := hI.2.2.2.2
  clear hI
  obtain ⟨i1, i2, i3, i4⟩ := id hT
  show fv_X E mX5_split _ _ 7 [some (.ref 88), some (.int (nI p)), none, none] [] M'
  refine x_iload_n (pc := 7) dX5_split_7 rfl rfl ?_
  refine x_aload_n (pc := 8) dX5_split_8 rfl rfl ?_
  refine x_geti (pc := 9) fl_X5_9 dX5_split_9 (tb_88) rfl (i1) ?_
  refine x_icmp_ge (pc := 12) dX5_split_12 (tgt := 71) rfl (fun h12 => ?_) (fun h12 => ?_)
  ·
    have hpe : p = L := Nat.le_antisymm hp ((nI_leI (by omega) (by omega)).mp h12)
    refine x_aload_n (pc := 71) dX5_split_71 rfl rfl ?_
    refine x_iconst (pc := 72) (v := 0) dX5_split_72 rfl ?_
    refine x_aload_n (pc := 73) dX5_split_73 rfl rfl ?_
    refine x_geti (pc := 74) fl_X5_9 dX5_split_74 (tb_88) rfl (i1) ?_
    refine x_aload_n (pc := 77) dX5_split_77 rfl rfl ?_
    refine x_geti (pc := 78) fl_X5_9 dX5_split_78 (tb_88) rfl (i1) ?_
    refine x_Vv (pc := 81) ks_X5_52 dX5_split_81 (tb_88) rfl rfl (hX5_addToken (t := t) i3 (by omega)) rfl rfl rfl (Nat.le_of_ble_eq_true rfl) ?_
    refine x_ret (pc := 84) dX5_split_84 rfl ?_
    exact ⟨rfl, pTi_end hT (by rw [hS, hpe]; exact pRun_stop (fun z => absurd z (Nat.lt_irrefl _))), (((hF.s (by decide)).s (by decide)).s (by decide)).s (by decide)⟩
  ·
    have hlt : p < L := Nat.lt_of_not_le (fun z => h12 (nI_le z (by omega)))
    refine x_aload_n (pc := 15) dX5_split_15 rfl rfl ?_
    refine x_iload_n (pc := 16) dX5_split_16 rfl rfl ?_
    refine x_Vi (pc := 17) ks_X5_44 dX5_split_17 (tb_88) rfl rfl (hX5_sortAt (p := p) (v := b p) (by omega) (i2 p hlt) (hb p hlt).1) rfl rfl rfl (Nat.le_of_ble_eq_true rfl) ?_
    refine x_istore_n2 (pc := 20) dX5_split_20 rfl ?_
    refine x_iload_n (pc := 21) dX5_split_21 rfl rfl ?_
    refine x_istore_n3 (pc := 22) dX5_split_22 rfl ?_
    refine x_iinc1 (pc := 23) dX5_split_23 (by first | exact fv_inc _ | exact fv_dec _ | rfl) rfl ?_
    have hso := pSo_le (b p)
    have hEE := pTE_le (b := b) hp
    have hgt := hEE.2.2 hlt
    refine x_loop (fun i => [some (.ref 88), some (.int (nI (p + 1 + i))), some (.int (nI (pSo (b p)))), some (.int (nI p))]) (fun _ => M') (pTE b L p - (p + 1)) rfl rfl (fun i hi hL3 => ?_) ?_
    · show fv_X E mX5_split _ _ 26 [some (.ref 88), some (.int (nI (p + 1 + i))), some (.int (nI (pSo (b p)))), some (.int (nI p))] [] M'
      replace hL3 : fv_X E mX5_split _ _ 26 [some (.ref 88), some (.int (nI (p + 1 + (i + 1)))), some (.int (nI (pSo (b p)))), some (.int (nI p))] [] M' := hL3
      have hlong : pSo (b p) = 1 ∨ pSo (b p) = 2 := Decidable.byContradiction (fun z => by rw [pTE_one hlt z] at hi; omega)
      have hsame : pSo (b (p + 1 + i)) = pSo (b p) := by rw [show p + 1 + i = p + (1 + i) by omega]; exact pTE_all hlt hlong (by omega)
      refine x_iload_n (pc := 26) dX5_split_26 rfl rfl ?_
      refine x_aload_n (pc := 27) dX5_split_27 rfl rfl ?_
      refine x_geti (pc := 28) fl_X5_9 dX5_split_28 (tb_88) rfl (i1) ?_
      refine x_icmp_ge (pc := 31) dX5_split_31 (tgt := 56) rfl (fun h31 => ?_) (fun h31 => ?_)
      ·
        exact absurd h31 (nI_ge (by omega) (by omega))
      ·
        refine x_iload_n (pc := 34) dX5_split_34 rfl rfl ?_
        refine x_Si (pc := 35) ks_X5_48 dX5_split_35 (hX5_isLong hso.2) rfl rfl rfl (Nat.le_of_ble_eq_true rfl) ?_
        refine x_ifb_eq (pc := 38) dX5_split_38 (tgt := 56) rfl (fun h38 => ?_) (fun h38 => ?_)
        ·
          exact (h38 hlong).elim
        ·
          refine x_aload_n (pc := 41) dX5_split_41 rfl rfl ?_
          refine x_iload_n (pc := 42) dX5_split_42 rfl rfl ?_
          refine x_Vi (pc := 43) ks_X5_44 dX5_split_43 (tb_88) rfl rfl (hX5_sortAt (p := p + 1 + i) (v := b (p + 1 + i)) (by omega) (i2 _ (by omega)) (hb _ (by omega)).1) rfl rfl rfl (Nat.le_of_ble_eq_true rfl) ?_
          refine x_iload_n (pc := 46) dX5_split_46 rfl rfl ?_
          refine x_icmp_ne (pc := 47) dX5_split_47 (tgt := 56) rfl (fun h47 => ?_) (fun h47 => ?_)
          ·
            exact (h47 (congrArg nI hsame)).elim
          ·
            refine x_iinc1 (pc := 50) dX5_split_50 (by first | exact fv_inc _ | exact fv_dec _ | rfl) rfl ?_
            refine x_goto (pc := 53) dX5_split_53 (tgt := 26) rfl ?_
            exact hL3
    · show fv_X E mX5_split _ _ 26 [some (.ref 88), some (.int (nI (p + 1 + (pTE b L p - (p + 1))))), some (.int (nI (pSo (b p)))), some (.int (nI p))] [] M'
      rw [show p + 1 + (pTE b L p - (p + 1)) = pTE b L p by omega]
      have H56 : fv_X E mX5_split (d + 1) (fun r' M' => r' = none ∧ (pTk b L M' ∧ pFr [4, 6, 7, 8] M M')) 56 [some (.ref 88), some (.int (nI (pTE b L p))), some (.int (nI (pSo (b p)))), some (.int (nI p))] [] M' := by
        have q4 : nI (pSo (b p)) = 4 ↔ pSo (b p) = 4 := nI_eq (b := 4) (by omega) (by decide)
        refine x_iload_n (pc := 56) dX5_split_56 rfl rfl ?_
        refine x_iconst (pc := 57) (v := 4) dX5_split_57 rfl ?_
        refine x_icmp_eq (pc := 58) dX5_split_58 (tgt := 68) rfl (fun h58 => ?_) (fun h58 => ?_)
        ·
          have he := q4.mp h58
          have e1 : pTE b L p = p + 1 := pTE_one hlt (by omega)
          have K := hL2 (pTE b L p, t) M' (by show L - pTE b L p < L - p; omega) ⟨hEE.2.1, by show t ≤ pTE b L p; omega, by show pTS b L t = pTsk b L (pTE b L p); rw [e1, hS]; exact pRun_step hlt (decide_eq_true he), hT, hF⟩
          refine x_goto (pc := 68) dX5_split_68 (tgt := 7) rfl ?_
          exact x_fg2 (x_fg3 K)
        ·
          have hne : pSo (b p) ≠ 4 := fun z => h58 (q4.mpr z)
          have hSp : pTS b L t = p := hS.trans (pRun_stop (fun _ => decide_eq_false hne))
          have K := hL2 (pTE b L p, t + 1) (pAT M' t (nI (pSo (b p))) (nI p) (nI (pTE b L p))) (by show L - pTE b L p < L - p; omega) ⟨hEE.2.1, by show t + 1 ≤ pTE b L p; omega, by show pTsk b L (pTE b L (pTS b L t)) = pTsk b L (pTE b L p); rw [hSp], pTi_add hT hSp hlt, (((hF.s (by decide)).s (by decide)).s (by decide)).s (by decide)⟩
          refine x_aload_n (pc := 61) dX5_split_61 rfl rfl ?_
          refine x_iload_n (pc := 62) dX5_split_62 rfl rfl ?_
          refine x_iload_n (pc := 63) dX5_split_63 rfl rfl ?_
          refine x_iload_n (pc := 64) dX5_split_64 rfl rfl ?_
          refine x_Vv (pc := 65) ks_X5_52 dX5_split_65 (tb_88) rfl rfl (hX5_addToken (t := t) i3 (by omega)) rfl rfl rfl (Nat.le_of_ble_eq_true rfl) ?_
          refine x_goto (pc := 68) dX5_split_68 (tgt := 7) rfl ?_
          exact x_fg2 (x_fg3 K)
      refine x_iload_n (pc := 26) dX5_split_26 rfl rfl ?_
      refine x_aload_n (pc := 27) dX5_split_27 rfl rfl ?_
      refine x_geti (pc := 28) fl_X5_9 dX5_split_28 (tb_88) rfl (i1) ?_
      refine x_icmp_ge (pc := 31) dX5_split_31 (tgt := 56) rfl (fun h31 => ?_) (fun h31 => ?_)
      ·
        exact H56
      ·
        have hlE : pTE b L p < L := Nat.lt_of_not_le (fun z => h31 (nI_le z (by omega)))
        refine x_iload_n (pc := 34) dX5_split_34 rfl rfl ?_
        refine x_Si (pc := 35) ks_X5_48 dX5_split_35 (hX5_isLong hso.2) rfl rfl rfl (Nat.le_of_ble_eq_true rfl) ?_
        refine x_ifb_eq (pc := 38) dX5_split_38 (tgt := 56) rfl (fun h38 => ?_) (fun h38 => ?_)
        ·
          exact H56
        ·
          refine x_aload_n (pc := 41) dX5_split_41 rfl rfl ?_
          refine x_iload_n (pc := 42) dX5_split_42 rfl rfl ?_
          refine x_Vi (pc := 43) ks_X5_44 dX5_split_43 (tb_88) rfl rfl (hX5_sortAt (p := pTE b L p) (v := b (pTE b L p)) (by omega) (i2 _ hlE) (hb _ hlE).1) rfl rfl rfl (Nat.le_of_ble_eq_true rfl) ?_
          refine x_iload_n (pc := 46) dX5_split_46 rfl rfl ?_
          refine x_icmp_ne (pc := 47) dX5_split_47 (tgt := 56) rfl (fun h47 => ?_) (fun h47 => ?_)
          ·
            exact H56
          ·
            have hf := (pRun_sp (f := fun q => decide (pSo (b q) = pSo (b p))) hp).2.2.2
            rw [← pTE_run hlt h38] at hf
            exact absurd ((nI_eq (by have := pSo_le (b (pTE b L p)); omega) (by omega)).mp h47) (of_decide_eq_false (hf hlE))
