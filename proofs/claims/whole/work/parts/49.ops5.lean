abbrev pBi (b : Nat) : Int32 := 1 <<< (nI b &&& 31)
theorem pBi_all : ((List.range 256).all fun u => (List.range 8).all fun b => decide ((nI u ^^^ pBi b) = nI (u ^^^ 2 ^ b) ∧ u ^^^ 2 ^ b < 256 ∧ ((nI u &&& pBi b = 0) ↔ ¬ pIn (nI u) b) ∧ (nI u &&& (pBi b ^^^ -1)) = nI (u - (if u.testBit b then 2 ^ b else 0)))) = true := by decide +kernel
theorem pBi_at {u b : Nat} (hu : u < 256) (hb : b < 8) : (nI u ^^^ pBi b) = nI (u ^^^ 2 ^ b) ∧ u ^^^ 2 ^ b < 256 ∧ ((nI u &&& pBi b = 0) ↔ ¬ pIn (nI u) b) ∧ (nI u &&& (pBi b ^^^ -1)) = nI (u - (if u.testBit b then 2 ^ b else 0)) := of_decide_eq_true (fv_all1 (fv_all1 pBi_all hu) hb)
theorem pOu_all : ((List.range 256).all fun u => (List.range 256).all fun j => decide ((nI u ||| nI j) = nI (u ||| j) ∧ u ||| j < 256)) = true := by decide +kernel
theorem pOu_at {u j : Nat} (hu : u < 256) (hj : j < 256) : (nI u ||| nI j) = nI (u ||| j) ∧ u ||| j < 256 := of_decide_eq_true (fv_all1 (fv_all1 pOu_all hu) hj)
abbrev pPa (σ : Nat → Int32) (nb k : Nat) (w : Int32) : Prop := pPs (pTw σ k w) nb k (pCo σ k)
theorem hX6_try {E : fv_E} {d nb nm k : Nat} {ρ : Nat → Int32} {w w' : Int32} {M : fv_M} (hG : pGd (M 0) nb nm) (hρe : pEq nb nm ρ (M 0)) (hk : k < nm) : fv_F E (d + 5) mX6_tryWants [.ref 0, .int (nI k), .int w'] (fv_s M 1 (fv_u ρ (fM k 2) w)) (some (.int (bI (pPa (M 0) nb k w')))) (fv_s M 1 (fv_u ρ (fM k 2) w')) := by
  obtain ⟨h8, hcol, hc, -⟩ := pG2.at hG hk
  have hGρ := hG.cg hρe
  have ne : ∀ j, j ≠ fM k 2 → (fv_s M 1 (fv_u ρ (fM k 2) w)) 1 j = ρ j := fun j hj => by rw [fv_s_same, fv_u_ne _ _ hj]
  have h := hX6_tryWants (E := E) (d := d) (nb := nb) (m := k) (c := pCo (M 0) k) (w := w') (M := fv_s M 1 (fv_u ρ (fM k 2) w)) (by rw [ne _ (by unfold fM; omega)]; exact hGρ.1) hG.2.1 (fun b hb => by rw [ne _ (by have := hG.2.1; unfold fB fM; omega)]; exact hGρ.K b hb) h8 (by rw [ne _ (by unfold fM; omega)]; exact (hρe.m hk (by decide)).trans hcol) hc
  rw [fv_s_same, fv_u_u, fv_s_s] at h
  exact h.v (bI_congr (pPs_cg (fv_u_cg hρe rfl) hk hc))
theorem hX7_pby {E : fv_E} {d nb nm k u : Nat} {σ : Nat → Int32} {M : fv_M} (hG : pGd (M 22) nb nm) (hE : pEq nb nm (M 22) σ) (hk : k < nm) (hu : u < 256) : fv_F E (d + 4) mX7_passesBy [.ref 106, .int (nI k), .int (nI u)] M (some (.int (bI (pPa σ nb k (nI u))))) M := by
  obtain ⟨h8, hcol, hc, -⟩ := pG2.at hG hk
  rw [pCo_cg hE hk] at hcol hc
  exact (hX7_passesBy hG.gb h8 hcol hc hu).v (bI_congr (pPs_cg (fv_u_cg hE rfl) hk hc))
def pLe (o : Option Nat) (j : Nat) : Bool := match o with
  | none => true
  | some x => decide (pBc j < pBc x)
def pWn (σ : Nat → Int32) (nb k : Nat) (W : Int32) : Nat → Option Nat
  | 0 => none
  | j + 1 => if (nI j &&& W = 0 ∧ pLe (pWn σ nb k W j) j = true) ∧ pPa σ nb k (W ||| nI j) then some j else pWn σ nb k W j
def pWc (o : Option Nat) : Int32 := match o with
  | none => -1000004
  | some x => nI x
def pWf (o : Option Nat) : Int32 := match o with
  | none => 9
  | some x => nI (pBc x)
def pWm (o : Option Nat) : Int32 := match o with
  | none => -1
  | some x => nI x
theorem pBc_le (j : Nat) : pBc j ≤ 8 := pMf_len j 8
theorem pLe_f (o : Option Nat) (j : Nat) : (pLe o j = true) ↔ ¬ pWf o ≤ nI (pBc j) := by
  have hj := pBc_le j
  cases o with
  | none => exact ⟨fun _ => nI_ge (b := 9) (by omega) (by omega), fun _ => rfl⟩
  | some x =>
    have hx := pBc_le x
    show decide (pBc j < pBc x) = true ↔ ¬ nI (pBc x) ≤ nI (pBc j)
    rw [decide_eq_true_iff, nI_leI (by omega) (by omega)]
    omega
theorem pWn_lt (σ : Nat → Int32) (nb k : Nat) (W : Int32) : ∀ j x, pWn σ nb k W j = some x → x < j := by
  intro j
  induction j with
  | zero => intro x h; cases h
  | succ j ih =>
    intro x h
    unfold pWn at h
    split at h
    · cases h; omega
    · have := ih x h; omega
theorem pWm_neg (o : Option Nat) (h : ∀ x, o = some x → x < 256) : (pWm o < 0 ↔ o = none) ∧ (pWc o = -1000004 ↔ o = none) := by
  cases o with
  | none => exact ⟨⟨fun _ => rfl, fun _ => by decide⟩, ⟨fun _ => rfl, fun _ => rfl⟩⟩
  | some x =>
    have hx := h x rfl
    refine ⟨⟨fun q => absurd q (nI_pos (by omega)), fun q => by cases q⟩, ⟨fun q => ?_, fun q => by cases q⟩⟩
    exfalso
    have q2 : nI x = -1000004 := q
    have := nI_pos' (n := x) (by omega)
    rw [q2] at this
    exact absurd this (by decide)
theorem op_hinges {E : fv_E} {m : Int32} {M : fv_M} (I : pInv M) : pOp E mX6_hinges mX7_hinges [.int m] M := by
  obtain ⟨nb, nm, hG, hE, t, ht, eT⟩ := I.1
  have hs0 : 0 < 3 := by decide
  have hs1 : 1 < 3 := by decide
  have hB := hG.1
  have hb := hG.2.1
  have hM := hG.2.2.1
  have hn := hG.2.2.2.1
  have hK := hG.K
  have hC := hG.C
  have hG2 : pGd (M 22) nb nm := hG.cg hE
  by_cases hm : 0 ≤ m ∧ m ≤ nI nm - 1
  · obtain ⟨k, hk, rfl⟩ := pUx (by omega) hm
    have hc := pCo_of hC hk
    have hk8 : k < 8 := by omega
    obtain ⟨u, hu, eu⟩ := (pG2.at hG hk).2.2.2
    obtain ⟨a1, a2, a3⟩ := pAll_of hb
    generalize hH : (fun b => if bI (pPa (M 0) nb k (nI u ^^^ pBi b)) = bI (pPs (M 0) nb k (pCo (M 0) k)) then 0 else pBi b) = H
    have h0 : ∀ j, bI (pPa (M 0) nb k (nI u ^^^ pBi j)) = bI (pPs (M 0) nb k (pCo (M 0) k)) → oN H j = oN H (j + 1) := fun j q => by show _ = oN H j ||| H j; rw [← hH]; dsimp only; rw [if_pos q, Int32.or_zero]
    have h1 : ∀ j, ¬ bI (pPa (M 0) nb k (nI u ^^^ pBi j)) = bI (pPs (M 0) nb k (pCo (M 0) k)) → oN H j ||| pBi j = oN H (j + 1) := fun j q => by show _ = oN H j ||| H j; rw [← hH]; dsimp only; rw [if_neg q]
    refine pOp.qry (v := oN H nb) I ?_ (fun M1 hF => ?_)
    · have hbec := hX4_become (E := E) (d := 10) (s := 1) (t := 0) (nb := nb) (nm := nm) (M := M) hs1 hs0 (by decide) hB hb hM hn
      generalize hρ : pSB (M 1) (M 0) nb nm = ρ at hbec
      have hρe : pEq nb nm ρ (M 0) := by rw [← hρ]; exact pSB_eq hb
      have hGρ : pGd ρ nb nm := hG.cg hρe
      have n0 : ∀ X, (fv_s M 1 X) 0 = M 0 := fun X => fv_s_ne _ _ (by decide)
      have hI0 : fv_s M 1 ρ = fv_s M 1 (fv_u ρ (fM k 2) (ρ (fM k 2))) := by rw [fv_u_id]
      refine fv_P.of (ls := [some (.ref 0), some (.int (nI k)), none, none, none, none]) (by decide) (Nat.le_of_ble_eq_true rfl) rfl ?_
      refine x_aload_n (pc := 0) dX6_hinges_0 rfl rfl ?_
      refine x_geta (pc := 1) fl_X6_12 dX6_hinges_1 (tb_fv) rfl ?_
      refine x_iload_n (pc := 4) dX6_hinges_4 rfl rfl ?_
      refine x_Vi (pc := 5) ks_X6_94 dX6_hinges_5 (tb_st (by assumption)) rfl rfl (hHm hM) rfl rfl rfl (Nat.le_of_ble_eq_true rfl) ?_
      refine x_ifb_ne (pc := 8) dX6_hinges_8 (tgt := 18) rfl (fun h8 => ?_) (fun h8 => ?_)
      ·
        refine x_aload_n (pc := 18) dX6_hinges_18 rfl rfl ?_
        refine x_geta (pc := 19) fl_X6_16 dX6_hinges_19 (tb_fv) rfl ?_
        refine x_aload_n (pc := 22) dX6_hinges_22 rfl rfl ?_
        refine x_geta (pc := 23) fl_X6_12 dX6_hinges_23 (tb_fv) rfl ?_
        refine x_Vv (pc := 26) ks_X6_150 dX6_hinges_26 (tb_st (by assumption)) rfl rfl (hbec) rfl rfl rfl (Nat.le_of_ble_eq_true rfl) ?_
        refine x_aload_n (pc := 29) dX6_hinges_29 rfl rfl ?_
        refine x_geta (pc := 30) fl_X6_12 dX6_hinges_30 (tb_fv) rfl ?_
        refine x_geta (pc := 33) fl_X6_97 dX6_hinges_33 (tb_st (by assumption)) rfl ?_
        refine x_iload_n (pc := 36) dX6_hinges_36 rfl rfl ?_
        refine x_motion (pc := 37) dX6_hinges_37 (by assumption) (rfl) (hk8) ?_
        refine x_geti (pc := 38) fl_X6_159 dX6_hinges_38 (tb_m (by assumption) (by assumption)) rfl ((congrFun (n0 ρ) _).trans eu) ?_
        refine x_istore_n2 (pc := 41) dX6_hinges_41 rfl ?_
        refine x_aload_n (pc := 42) dX6_hinges_42 rfl rfl ?_
        refine x_geta (pc := 43) fl_X6_12 dX6_hinges_43 (tb_fv) rfl ?_
        refine x_aload_n (pc := 46) dX6_hinges_46 rfl rfl ?_
        refine x_geta (pc := 47) fl_X6_12 dX6_hinges_47 (tb_fv) rfl ?_
        refine x_geta (pc := 50) fl_X6_97 dX6_hinges_50 (tb_st (by assumption)) rfl ?_
        refine x_iload_n (pc := 53) dX6_hinges_53 rfl rfl ?_
        refine x_motion (pc := 54) dX6_hinges_54 (by assumption) (rfl) (hk8) ?_
        refine x_Vi (pc := 55) ks_X6_123 dX6_hinges_55 (tb_st (by assumption)) rfl rfl ((hX4_wouldPass hs0 (by rw [n0]; exact hB) hb (by rw [n0]; exact hK) hk8 (by rw [n0]; exact hc.1) hc.2).v (show _ = bI (pPs (M 0) nb k (pCo (M 0) k)) from bI_congr (by rw [n0]))) rfl rfl rfl (Nat.le_of_ble_eq_true rfl) ?_
        refine x_istore_n3 (pc := 58) dX6_hinges_58 rfl ?_
        refine x_iconst (pc := 59) (v := 0) dX6_hinges_59 rfl ?_
        refine x_istore4 (pc := 60) dX6_hinges_60 rfl ?_
        refine x_iconst (pc := 62) (v := 0) dX6_hinges_62 rfl ?_
        refine x_istore5 (pc := 63) dX6_hinges_63 rfl ?_
        refine x_loopI (fun j => [some (.ref 0), some (.int (nI k)), some (.int (nI u)), some (.int (bI (pPs (M 0) nb k (pCo (M 0) k)))), some (.int (oN H j)), some (.int (nI j))]) (fun j M' => ∃ w, M' = fv_s M 1 (fv_u ρ (fM k 2) w)) nb rfl ⟨_, hI0⟩ ?_ ?_
        · rintro j M' hj ⟨w, rfl⟩ hL
          refine x_iload (pc := 65) dX6_hinges_65 rfl ?_
          refine x_aload_n (pc := 67) dX6_hinges_67 rfl rfl ?_
          refine x_geta (pc := 68) fl_X6_12 dX6_hinges_68 (tb_fv) rfl ?_
          refine x_geti (pc := 71) fl_X6_60 dX6_hinges_71 (tb_st (by assumption)) rfl ((congrFun (n0 _) 1).trans hB) ?_
          refine x_icmp_ge (pc := 74) dX6_hinges_74 (tgt := 107) rfl (fun h74 => ?_) (fun h74 => ?_)
          ·
            exact absurd h74 (nI_ge hj (by omega))
          ·
            refine x_aload_n (pc := 77) dX6_hinges_77 rfl rfl ?_
            refine x_iload_n (pc := 78) dX6_hinges_78 rfl rfl ?_
            refine x_iload_n (pc := 79) dX6_hinges_79 rfl rfl ?_
            refine x_iconst (pc := 80) (v := 1) dX6_hinges_80 rfl ?_
            refine x_iload (pc := 81) dX6_hinges_81 rfl ?_
            refine x_ishl (pc := 83) dX6_hinges_83 ?_
            refine x_ixor (pc := 84) dX6_hinges_84 ?_
            refine x_Vi (pc := 85) ks_X6_162 dX6_hinges_85 (tb_fv) rfl rfl (hX6_try hG hρe hk) rfl rfl rfl (Nat.le_of_ble_eq_true rfl) ?_
            refine x_iload_n (pc := 88) dX6_hinges_88 rfl rfl ?_
            refine x_icmp_eq (pc := 89) dX6_hinges_89 (tgt := 101) rfl (fun h89 => ?_) (fun h89 => ?_)
            ·
              have e := h0 j h89
              try rw [e]
              refine x_iinc5 (pc := 101) dX6_hinges_101 (by first | exact fv_inc _ | exact fv_dec _ | rfl) rfl ?_
              refine x_goto (pc := 104) dX6_hinges_104 (tgt := 65) rfl ?_
              exact hL _ ⟨_, rfl⟩
            ·
              have e := h1 j h89
              refine x_iload (pc := 92) dX6_hinges_92 rfl ?_
              refine x_iconst (pc := 94) (v := 1) dX6_hinges_94 rfl ?_
              refine x_iload (pc := 95) dX6_hinges_95 rfl ?_
              refine x_ishl (pc := 97) dX6_hinges_97 ?_
              refine x_ior (pc := 98) dX6_hinges_98 ?_
              rw [e]
              refine x_istore4 (pc := 99) dX6_hinges_99 rfl ?_
              try rw [e]
              refine x_iinc5 (pc := 101) dX6_hinges_101 (by first | exact fv_inc _ | exact fv_dec _ | rfl) rfl ?_
              refine x_goto (pc := 104) dX6_hinges_104 (tgt := 65) rfl ?_
              exact hL _ ⟨_, rfl⟩
        · rintro M' ⟨w, rfl⟩
          refine x_iload (pc := 65) dX6_hinges_65 rfl ?_
          refine x_aload_n (pc := 67) dX6_hinges_67 rfl rfl ?_
          refine x_geta (pc := 68) fl_X6_12 dX6_hinges_68 (tb_fv) rfl ?_
          refine x_geti (pc := 71) fl_X6_60 dX6_hinges_71 (tb_st (by assumption)) rfl ((congrFun (n0 _) 1).trans hB) ?_
          refine x_icmp_ge (pc := 74) dX6_hinges_74 (tgt := 107) rfl (fun h74 => ?_) (fun h74 => ?_)
          ·
            refine x_iload (pc := 107) dX6_hinges_107 rfl ?_
            refine x_iret (pc := 109) dX6_hinges_109 rfl (by first | rfl | exact fv_nz _) ?_
            exact ⟨rfl, pFr.rfl'.s (by decide)⟩
          ·
            exact absurd (Int32.le_refl _) h74
      ·
        contradiction
    · skip
      have e22 : M1 22 = M 22 := hF 22 (by decide)
      have hG1 : pGd (M1 22) nb nm := by rw [e22]; exact hG2
      have hE1 : pEq nb nm (M1 22) (M 0) := by rw [e22]; exact hE
      have hB1 := hG1.1
      have hM1 := hG1.2.2.1
      refine fv_P.of (ls := [some (.ref 106), some (.int (nI k)), none, none, none, none]) (by decide) (Nat.le_of_ble_eq_true rfl) rfl ?_
      refine x_aload_n (pc := 0) dX7_hinges_0 rfl rfl ?_
      refine x_iload_n (pc := 1) dX7_hinges_1 rfl rfl ?_
      refine x_Vi (pc := 2) ks_X7_126 dX7_hinges_2 (tb_106) rfl rfl (hX7_isMotion (x := nI nm) hM1) rfl rfl rfl (Nat.le_of_ble_eq_true rfl) ?_
      refine x_ifb_ne (pc := 5) dX7_hinges_5 (tgt := 14) rfl (fun h5 => ?_) (fun h5 => ?_)
      ·
        refine x_aload_n (pc := 14) dX7_hinges_14 rfl rfl ?_
        refine x_iload_n (pc := 15) dX7_hinges_15 rfl rfl ?_
        refine x_iconst (pc := 16) (v := 2) dX7_hinges_16 rfl ?_
        refine x_Vi (pc := 17) ks_X7_80 dX7_hinges_17 (tb_106) rfl rfl (((hX7_of1 (f := 2) hk8 (by decide)).v (hE1.m hk (by decide))).v eu) rfl rfl rfl (Nat.le_of_ble_eq_true rfl) ?_
        refine x_istore_n2 (pc := 20) dX7_hinges_20 rfl ?_
        refine x_aload_n (pc := 21) dX7_hinges_21 rfl rfl ?_
        refine x_iload_n (pc := 22) dX7_hinges_22 rfl rfl ?_
        refine x_Vi (pc := 23) ks_X7_104 dX7_hinges_23 (tb_106) rfl rfl ((hX7_pass1 hG1 hk).v (show _ = bI (pPs (M 0) nb k (pCo (M 0) k)) from bI_congr (by rw [pCo_cg hE1 hk]; exact pPs_cg hE1 hk hc.2))) rfl rfl rfl (Nat.le_of_ble_eq_true rfl) ?_
        refine x_istore_n3 (pc := 26) dX7_hinges_26 rfl ?_
        refine x_iconst (pc := 27) (v := 0) dX7_hinges_27 rfl ?_
        refine x_istore4 (pc := 28) dX7_hinges_28 rfl ?_
        refine x_iconst (pc := 30) (v := 0) dX7_hinges_30 rfl ?_
        refine x_istore5 (pc := 31) dX7_hinges_31 rfl ?_
        refine x_loop (fun j => [some (.ref 106), some (.int (nI k)), some (.int (nI u)), some (.int (bI (pPs (M 0) nb k (pCo (M 0) k)))), some (.int (oN H j)), some (.int (nI j))]) (fun _ => M1) nb rfl rfl (fun j hj hL => ?_) ?_
        · show fv_X E mX7_hinges _ _ 33 [some (.ref 106), some (.int (nI k)), some (.int (nI u)), some (.int (bI (pPs (M 0) nb k (pCo (M 0) k)))), some (.int (oN H j)), some (.int (nI j))] [] M1
          replace hL : fv_X E mX7_hinges _ _ 33 [some (.ref 106), some (.int (nI k)), some (.int (nI u)), some (.int (bI (pPs (M 0) nb k (pCo (M 0) k)))), some (.int (oN H (j + 1))), some (.int (nI (j + 1)))] [] M1 := hL
          have hx := pBi_at hu (show j < 8 by omega)
          refine x_iload (pc := 33) dX7_hinges_33 rfl ?_
          refine x_aload_n (pc := 35) dX7_hinges_35 rfl rfl ?_
          refine x_geta (pc := 36) fl_X7_9 dX7_hinges_36 (tb_106) rfl ?_
          refine x_iconst (pc := 39) (v := 1) dX7_hinges_39 rfl ?_
          refine x_iale (pc := 40) dX7_hinges_40 (tb_107) ((rfl : (1 : Int32) = nI 1)) (by decide) (by first | decide | assumption) (hB1) ?_
          refine x_icmp_ge (pc := 41) dX7_hinges_41 (tgt := 78) rfl (fun h41 => ?_) (fun h41 => ?_)
          ·
            exact absurd h41 (nI_ge hj (by omega))
          ·
            refine x_iload (pc := 44) dX7_hinges_44 rfl ?_
            refine x_aload_n (pc := 46) dX7_hinges_46 rfl rfl ?_
            refine x_iload_n (pc := 47) dX7_hinges_47 rfl rfl ?_
            refine x_iload_n (pc := 48) dX7_hinges_48 rfl rfl ?_
            refine x_iconst (pc := 49) (v := 1) dX7_hinges_49 rfl ?_
            refine x_iload (pc := 50) dX7_hinges_50 rfl ?_
            refine x_ishl (pc := 52) dX7_hinges_52 ?_
            refine x_ixor (pc := 53) dX7_hinges_53 ?_
            rw [hx.1]
            refine x_Vi (pc := 54) ks_X7_97 dX7_hinges_54 (tb_106) rfl rfl (hX7_pby hG1 hE1 hk hx.2.1) rfl rfl rfl (Nat.le_of_ble_eq_true rfl) ?_
            rw [← hx.1]
            refine x_iload_n (pc := 57) dX7_hinges_57 rfl rfl ?_
            refine x_icmp_eq (pc := 58) dX7_hinges_58 (tgt := 68) rfl (fun h58 => ?_) (fun h58 => ?_)
            ·
              have e := h0 j h58
              refine x_iconst (pc := 68) (v := 0) dX7_hinges_68 rfl ?_
              refine x_ior (pc := 69) dX7_hinges_69 ?_
              first | rw [Int32.or_zero, e] | rw [e]
              refine x_istore4 (pc := 70) dX7_hinges_70 rfl ?_
              refine x_iinc5 (pc := 72) dX7_hinges_72 (by first | exact fv_inc _ | exact fv_dec _ | rfl) rfl ?_
              refine x_goto (pc := 75) dX7_hinges_75 (tgt := 33) rfl ?_
              exact hL
            ·
              have e := h1 j h58
              refine x_iconst (pc := 61) (v := 1) dX7_hinges_61 rfl ?_
              refine x_iload (pc := 62) dX7_hinges_62 rfl ?_
              refine x_ishl (pc := 64) dX7_hinges_64 ?_
              refine x_goto (pc := 65) dX7_hinges_65 (tgt := 69) rfl ?_
              refine x_ior (pc := 69) dX7_hinges_69 ?_
              first | rw [Int32.or_zero, e] | rw [e]
              refine x_istore4 (pc := 70) dX7_hinges_70 rfl ?_
              refine x_iinc5 (pc := 72) dX7_hinges_72 (by first | exact fv_inc _ | exact fv_dec _ | rfl) rfl ?_
              refine x_goto (pc := 75) dX7_hinges_75 (tgt := 33) rfl ?_
              exact hL
        · show fv_X E mX7_hinges _ _ 33 [some (.ref 106), some (.int (nI k)), some (.int (nI u)), some (.int (bI (pPs (M 0) nb k (pCo (M 0) k)))), some (.int (oN H nb)), some (.int (nI nb))] [] M1
          refine x_iload (pc := 33) dX7_hinges_33 rfl ?_
          refine x_aload_n (pc := 35) dX7_hinges_35 rfl rfl ?_
          refine x_geta (pc := 36) fl_X7_9 dX7_hinges_36 (tb_106) rfl ?_
          refine x_iconst (pc := 39) (v := 1) dX7_hinges_39 rfl ?_
          refine x_iale (pc := 40) dX7_hinges_40 (tb_107) ((rfl : (1 : Int32) = nI 1)) (by decide) (by first | decide | assumption) (hB1) ?_
          refine x_icmp_ge (pc := 41) dX7_hinges_41 (tgt := 78) rfl (fun h41 => ?_) (fun h41 => ?_)
          ·
            refine x_iload (pc := 78) dX7_hinges_78 rfl ?_
            refine x_iret (pc := 80) dX7_hinges_80 rfl (by first | rfl | exact fv_nz _) ?_
            exact ⟨rfl, pFr.rfl', rfl, rfl, fun _ _ _ => pEq.rfl'⟩
          ·
            exact absurd (Int32.le_refl _) h41
      ·
        contradiction
  · skip
    refine pOp.bad (v := -1000001) 0 I ?_ (fun M1 hF => ?_)
    · skip
      refine fv_F.of (ls := [some (.ref 0), some (.int m), none, none, none, none]) (by decide) (Nat.le_of_ble_eq_true rfl) rfl ?_
      refine x_aload_n (pc := 0) dX6_hinges_0 rfl rfl ?_
      refine x_geta (pc := 1) fl_X6_12 dX6_hinges_1 (tb_fv) rfl ?_
      refine x_iload_n (pc := 4) dX6_hinges_4 rfl rfl ?_
      refine x_Vi (pc := 5) ks_X6_94 dX6_hinges_5 (tb_st (by assumption)) rfl rfl (hHm hM) rfl rfl rfl (Nat.le_of_ble_eq_true rfl) ?_
      refine x_ifb_ne (pc := 8) dX6_hinges_8 (tgt := 18) rfl (fun h8 => ?_) (fun h8 => ?_)
      ·
        contradiction
      ·
        refine x_aload_n (pc := 11) dX6_hinges_11 rfl rfl ?_
        refine x_ldc (pc := 12) kc_X6_55 dX6_hinges_12 ?_
        refine x_Vi (pc := 14) ks_X6_56 dX6_hinges_14 (tb_fv) rfl rfl (hX6_fin 0 (-1000001) (by decide +kernel) (by decide)) rfl rfl rfl (Nat.le_of_ble_eq_true rfl) ?_
        refine x_iret (pc := 17) dX6_hinges_17 rfl (by first | rfl | exact fv_nz _) ?_
        exact ⟨rfl, rfl⟩
    · skip
      have e22 : M1 22 = M 22 := hF 22 (by decide)
      have hG1 : pGd (M1 22) nb nm := by rw [e22]; exact hG2
      have hE1 : pEq nb nm (M1 22) (M 0) := by rw [e22]; exact hE
      have hB1 := hG1.1
      have hM1 := hG1.2.2.1
      refine fv_F.of (ls := [some (.ref 106), some (.int m), none, none, none, none]) (by decide) (Nat.le_of_ble_eq_true rfl) rfl ?_
      refine x_aload_n (pc := 0) dX7_hinges_0 rfl rfl ?_
      refine x_iload_n (pc := 1) dX7_hinges_1 rfl rfl ?_
      refine x_Vi (pc := 2) ks_X7_126 dX7_hinges_2 (tb_106) rfl rfl (hX7_isMotion (x := nI nm) hM1) rfl rfl rfl (Nat.le_of_ble_eq_true rfl) ?_
      refine x_ifb_ne (pc := 5) dX7_hinges_5 (tgt := 14) rfl (fun h5 => ?_) (fun h5 => ?_)
      ·
        contradiction
      ·
        refine x_aload_n (pc := 8) dX7_hinges_8 rfl rfl ?_
        refine x_iconst (pc := 9) (v := 0) dX7_hinges_9 rfl ?_
        refine x_Vi (pc := 10) ks_X7_114 dX7_hinges_10 (tb_106) rfl rfl (hX7_noL 0 (-1000001) (by decide) (by decide +kernel)) rfl rfl rfl (Nat.le_of_ble_eq_true rfl) ?_
        refine x_iret (pc := 13) dX7_hinges_13 rfl (by first | rfl | exact fv_nz _) ?_
        exact ⟨rfl, rfl⟩
theorem op_sets {E : fv_E} {m : Int32} {M : fv_M} (I : pInv M) : pOp E mX6_sets mX7_sets [.int m] M := by
  obtain ⟨nb, nm, hG, hE, t, ht, eT⟩ := I.1
  have hs0 : 0 < 3 := by decide
  have hs1 : 1 < 3 := by decide
  have hB := hG.1
  have hb := hG.2.1
  have hM := hG.2.2.1
  have hn := hG.2.2.2.1
  have hK := hG.K
  have hC := hG.C
  have hG2 : pGd (M 22) nb nm := hG.cg hE
  by_cases hm : 0 ≤ m ∧ m ≤ nI nm - 1
  · obtain ⟨k, hk, rfl⟩ := pUx (by omega) hm
    have hc := pCo_of hC hk
    have hk8 : k < 8 := by omega
    obtain ⟨u, hu, eu⟩ := (pG2.at hG hk).2.2.2
    obtain ⟨a1, a2, a3⟩ := pAll_of hb
    generalize hH : (fun j => bI (pPa (M 0) nb k (nI j))) = H
    have hHj : ∀ j, H j = bI (pPa (M 0) nb k (nI j)) := fun j => by rw [← hH]
    have h0 : ∀ j, ¬ pPa (M 0) nb k (nI j) → sN H j = sN H (j + 1) := fun j q => by show _ = sN H j + H j; rw [hHj, bI_f q, Int32.add_zero]
    have h1 : ∀ j, pPa (M 0) nb k (nI j) → sN H j + 1 = sN H (j + 1) := fun j q => by show _ = sN H j + H j; rw [hHj, bI_t q]
    generalize hK2 : 2 ^ nb = K at *
    refine pOp.qry (v := sN H K) I ?_ (fun M1 hF => ?_)
    · have hbec := hX4_become (E := E) (d := 10) (s := 1) (t := 0) (nb := nb) (nm := nm) (M := M) hs1 hs0 (by decide) hB hb hM hn
      generalize hρ : pSB (M 1) (M 0) nb nm = ρ at hbec
      have hρe : pEq nb nm ρ (M 0) := by rw [← hρ]; exact pSB_eq hb
      have hGρ : pGd ρ nb nm := hG.cg hρe
      have n0 : ∀ X, (fv_s M 1 X) 0 = M 0 := fun X => fv_s_ne _ _ (by decide)
      have hI0 : fv_s M 1 ρ = fv_s M 1 (fv_u ρ (fM k 2) (ρ (fM k 2))) := by rw [fv_u_id]
      refine fv_P.of (ls := [some (.ref 0), some (.int (nI k)), none, none, none]) (by decide) (Nat.le_of_ble_eq_true rfl) rfl ?_
      refine x_aload_n (pc := 0) dX6_sets_0 rfl rfl ?_
      refine x_geta (pc := 1) fl_X6_12 dX6_sets_1 (tb_fv) rfl ?_
      refine x_iload_n (pc := 4) dX6_sets_4 rfl rfl ?_
      refine x_Vi (pc := 5) ks_X6_94 dX6_sets_5 (tb_st (by assumption)) rfl rfl (hHm hM) rfl rfl rfl (Nat.le_of_ble_eq_true rfl) ?_
      refine x_ifb_ne (pc := 8) dX6_sets_8 (tgt := 18) rfl (fun h8 => ?_) (fun h8 => ?_)
      ·
        refine x_aload_n (pc := 18) dX6_sets_18 rfl rfl ?_
        refine x_geta (pc := 19) fl_X6_16 dX6_sets_19 (tb_fv) rfl ?_
        refine x_aload_n (pc := 22) dX6_sets_22 rfl rfl ?_
        refine x_geta (pc := 23) fl_X6_12 dX6_sets_23 (tb_fv) rfl ?_
        refine x_Vv (pc := 26) ks_X6_150 dX6_sets_26 (tb_st (by assumption)) rfl rfl (hbec) rfl rfl rfl (Nat.le_of_ble_eq_true rfl) ?_
        refine x_aload_n (pc := 29) dX6_sets_29 rfl rfl ?_
        refine x_geta (pc := 30) fl_X6_12 dX6_sets_30 (tb_fv) rfl ?_
        refine x_Vi (pc := 33) ks_X6_104 dX6_sets_33 (tb_st (by assumption)) rfl rfl (((hX4_allBirds hs0 (by rw [n0]; exact hB)).v a1)) rfl rfl rfl (Nat.le_of_ble_eq_true rfl) ?_
        refine x_istore_n2 (pc := 36) dX6_sets_36 rfl ?_
        refine x_iconst (pc := 37) (v := 0) dX6_sets_37 rfl ?_
        refine x_istore_n3 (pc := 38) dX6_sets_38 rfl ?_
        refine x_iconst (pc := 39) (v := 0) dX6_sets_39 rfl ?_
        refine x_istore4 (pc := 40) dX6_sets_40 rfl ?_
        refine x_loopI (fun j => [some (.ref 0), some (.int (nI k)), some (.int (nI (K - 1))), some (.int (sN H j)), some (.int (nI j))]) (fun j M' => ∃ w, M' = fv_s M 1 (fv_u ρ (fM k 2) w)) K rfl ⟨_, hI0⟩ ?_ ?_
        · rintro j M' hj ⟨w, rfl⟩ hL
          refine x_iload (pc := 42) dX6_sets_42 rfl ?_
          refine x_iload_n (pc := 44) dX6_sets_44 rfl rfl ?_
          refine x_icmp_gt (pc := 45) dX6_sets_45 (tgt := 67) rfl (fun h45 => ?_) (fun h45 => ?_)
          ·
            exact absurd h45 (nI_nlt (by omega) (by omega))
          ·
            refine x_aload_n (pc := 48) dX6_sets_48 rfl rfl ?_
            refine x_iload_n (pc := 49) dX6_sets_49 rfl rfl ?_
            refine x_iload (pc := 50) dX6_sets_50 rfl ?_
            refine x_Vi (pc := 52) ks_X6_162 dX6_sets_52 (tb_fv) rfl rfl (hX6_try hG hρe hk) rfl rfl rfl (Nat.le_of_ble_eq_true rfl) ?_
            refine x_ifb_eq (pc := 55) dX6_sets_55 (tgt := 61) rfl (fun h55 => ?_) (fun h55 => ?_)
            ·
              rw [h0 j h55]
              refine x_iinc4 (pc := 61) dX6_sets_61 (by first | exact fv_inc _ | exact fv_dec _ | rfl) rfl ?_
              refine x_goto (pc := 64) dX6_sets_64 (tgt := 42) rfl ?_
              exact hL _ ⟨_, rfl⟩
            ·
              refine x_iinc3 (pc := 58) dX6_sets_58 (h1 j h55) rfl ?_
              refine x_iinc4 (pc := 61) dX6_sets_61 (by first | exact fv_inc _ | exact fv_dec _ | rfl) rfl ?_
              refine x_goto (pc := 64) dX6_sets_64 (tgt := 42) rfl ?_
              exact hL _ ⟨_, rfl⟩
        · rintro M' ⟨w, rfl⟩
          refine x_iload (pc := 42) dX6_sets_42 rfl ?_
          refine x_iload_n (pc := 44) dX6_sets_44 rfl rfl ?_
          refine x_icmp_gt (pc := 45) dX6_sets_45 (tgt := 67) rfl (fun h45 => ?_) (fun h45 => ?_)
          ·
            refine x_iload_n (pc := 67) dX6_sets_67 rfl rfl ?_
            refine x_iret (pc := 68) dX6_sets_68 rfl (by first | rfl | exact fv_nz _) ?_
            exact ⟨rfl, pFr.rfl'.s (by decide)⟩
          ·
            exact absurd (nI_lt (by omega) (by omega)) h45
      ·
        contradiction
    · skip
      have e22 : M1 22 = M 22 := hF 22 (by decide)
      have hG1 : pGd (M1 22) nb nm := by rw [e22]; exact hG2
      have hE1 : pEq nb nm (M1 22) (M 0) := by rw [e22]; exact hE
      have hB1 := hG1.1
      have hM1 := hG1.2.2.1
      refine fv_P.of (ls := [some (.ref 106), some (.int (nI k)), none, none]) (by decide) (Nat.le_of_ble_eq_true rfl) rfl ?_
      refine x_aload_n (pc := 0) dX7_sets_0 rfl rfl ?_
      refine x_iload_n (pc := 1) dX7_sets_1 rfl rfl ?_
      refine x_Vi (pc := 2) ks_X7_126 dX7_sets_2 (tb_106) rfl rfl (hX7_isMotion (x := nI nm) hM1) rfl rfl rfl (Nat.le_of_ble_eq_true rfl) ?_
      refine x_ifb_ne (pc := 5) dX7_sets_5 (tgt := 14) rfl (fun h5 => ?_) (fun h5 => ?_)
      ·
        refine x_iconst (pc := 14) (v := 0) dX7_sets_14 rfl ?_
        refine x_istore_n2 (pc := 15) dX7_sets_15 rfl ?_
        refine x_iconst (pc := 16) (v := 0) dX7_sets_16 rfl ?_
        refine x_istore_n3 (pc := 17) dX7_sets_17 rfl ?_
        refine x_loop (fun j => [some (.ref 106), some (.int (nI k)), some (.int (sN H j)), some (.int (nI j))]) (fun _ => M1) K rfl rfl (fun j hj hL => ?_) ?_
        · show fv_X E mX7_sets _ _ 18 [some (.ref 106), some (.int (nI k)), some (.int (sN H j)), some (.int (nI j))] [] M1
          replace hL : fv_X E mX7_sets _ _ 18 [some (.ref 106), some (.int (nI k)), some (.int (sN H (j + 1))), some (.int (nI (j + 1)))] [] M1 := hL
          refine x_iload_n (pc := 18) dX7_sets_18 rfl rfl ?_
          refine x_aload_n (pc := 19) dX7_sets_19 rfl rfl ?_
          refine x_Vi (pc := 20) ks_X7_129 dX7_sets_20 (tb_106) rfl rfl ((hX7_allBirds hB1).v a1) rfl rfl rfl (Nat.le_of_ble_eq_true rfl) ?_
          refine x_icmp_gt (pc := 23) dX7_sets_23 (tgt := 49) rfl (fun h23 => ?_) (fun h23 => ?_)
          ·
            exact absurd h23 (nI_nlt (by omega) (by omega))
          ·
            refine x_iload_n (pc := 26) dX7_sets_26 rfl rfl ?_
            refine x_aload_n (pc := 27) dX7_sets_27 rfl rfl ?_
            refine x_iload_n (pc := 28) dX7_sets_28 rfl rfl ?_
            refine x_iload_n (pc := 29) dX7_sets_29 rfl rfl ?_
            refine x_Vi (pc := 30) ks_X7_97 dX7_sets_30 (tb_106) rfl rfl (hX7_pby hG1 hE1 hk (by omega)) rfl rfl rfl (Nat.le_of_ble_eq_true rfl) ?_
            refine x_ifb_eq (pc := 33) dX7_sets_33 (tgt := 40) rfl (fun h33 => ?_) (fun h33 => ?_)
            ·
              have e := h0 j h33
              refine x_iconst (pc := 40) (v := 0) dX7_sets_40 rfl ?_
              refine x_iadd (pc := 41) dX7_sets_41 ?_
              first | rw [Int32.add_zero, e] | rw [e]
              refine x_istore_n2 (pc := 42) dX7_sets_42 rfl ?_
              refine x_iinc3 (pc := 43) dX7_sets_43 (by first | exact fv_inc _ | exact fv_dec _ | rfl) rfl ?_
              refine x_goto (pc := 46) dX7_sets_46 (tgt := 18) rfl ?_
              exact hL
            ·
              have e := h1 j h33
              refine x_iconst (pc := 36) (v := 1) dX7_sets_36 rfl ?_
              refine x_goto (pc := 37) dX7_sets_37 (tgt := 41) rfl ?_
              refine x_iadd (pc := 41) dX7_sets_41 ?_
              first | rw [Int32.add_zero, e] | rw [e]
              refine x_istore_n2 (pc := 42) dX7_sets_42 rfl ?_
              refine x_iinc3 (pc := 43) dX7_sets_43 (by first | exact fv_inc _ | exact fv_dec _ | rfl) rfl ?_
              refine x_goto (pc := 46) dX7_sets_46 (tgt := 18) rfl ?_
              exact hL
        · show fv_X E mX7_sets _ _ 18 [some (.ref 106), some (.int (nI k)), some (.int (sN H K)), some (.int (nI K))] [] M1
          refine x_iload_n (pc := 18) dX7_sets_18 rfl rfl ?_
          refine x_aload_n (pc := 19) dX7_sets_19 rfl rfl ?_
          refine x_Vi (pc := 20) ks_X7_129 dX7_sets_20 (tb_106) rfl rfl ((hX7_allBirds hB1).v a1) rfl rfl rfl (Nat.le_of_ble_eq_true rfl) ?_
          refine x_icmp_gt (pc := 23) dX7_sets_23 (tgt := 49) rfl (fun h23 => ?_) (fun h23 => ?_)
          ·
            refine x_iload_n (pc := 49) dX7_sets_49 rfl rfl ?_
            refine x_iret (pc := 50) dX7_sets_50 rfl (by first | rfl | exact fv_nz _) ?_
            exact ⟨rfl, pFr.rfl', rfl, rfl, fun _ _ _ => pEq.rfl'⟩
          ·
            exact absurd (nI_lt (by omega) (by omega)) h23
      ·
        contradiction
  · skip
    refine pOp.bad (v := -1000001) 0 I ?_ (fun M1 hF => ?_)
    · skip
      refine fv_F.of (ls := [some (.ref 0), some (.int m), none, none, none]) (by decide) (Nat.le_of_ble_eq_true rfl) rfl ?_
      refine x_aload_n (pc := 0) dX6_sets_0 rfl rfl ?_
      refine x_geta (pc := 1) fl_X6_12 dX6_sets_1 (tb_fv) rfl ?_
      refine x_iload_n (pc := 4) dX6_sets_4 rfl rfl ?_
      refine x_Vi (pc := 5) ks_X6_94 dX6_sets_5 (tb_st (by assumption)) rfl rfl (hHm hM) rfl rfl rfl (Nat.le_of_ble_eq_true rfl) ?_
      refine x_ifb_ne (pc := 8) dX6_sets_8 (tgt := 18) rfl (fun h8 => ?_) (fun h8 => ?_)
      ·
        contradiction
      ·
        refine x_aload_n (pc := 11) dX6_sets_11 rfl rfl ?_
        refine x_ldc (pc := 12) kc_X6_55 dX6_sets_12 ?_
        refine x_Vi (pc := 14) ks_X6_56 dX6_sets_14 (tb_fv) rfl rfl (hX6_fin 0 (-1000001) (by decide +kernel) (by decide)) rfl rfl rfl (Nat.le_of_ble_eq_true rfl) ?_
        refine x_iret (pc := 17) dX6_sets_17 rfl (by first | rfl | exact fv_nz _) ?_
        exact ⟨rfl, rfl⟩
    · skip
      have e22 : M1 22 = M 22 := hF 22 (by decide)
      have hG1 : pGd (M1 22) nb nm := by rw [e22]; exact hG2
      have hE1 : pEq nb nm (M1 22) (M 0) := by rw [e22]; exact hE
      have hB1 := hG1.1
      have hM1 := hG1.2.2.1
      refine fv_F.of (ls := [some (.ref 106), some (.int m), none, none]) (by decide) (Nat.le_of_ble_eq_true rfl) rfl ?_
      refine x_aload_n (pc := 0) dX7_sets_0 rfl rfl ?_
      refine x_iload_n (pc := 1) dX7_sets_1 rfl rfl ?_
      refine x_Vi (pc := 2) ks_X7_126 dX7_sets_2 (tb_106) rfl rfl (hX7_isMotion (x := nI nm) hM1) rfl rfl rfl (Nat.le_of_ble_eq_true rfl) ?_
      refine x_ifb_ne (pc := 5) dX7_sets_5 (tgt := 14) rfl (fun h5 => ?_) (fun h5 => ?_)
      ·
        contradiction
      ·
        refine x_aload_n (pc := 8) dX7_sets_8 rfl rfl ?_
        refine x_iconst (pc := 9) (v := 0) dX7_sets_9 rfl ?_
        refine x_Vi (pc := 10) ks_X7_114 dX7_sets_10 (tb_106) rfl rfl (hX7_noL 0 (-1000001) (by decide) (by decide +kernel)) rfl rfl rfl (Nat.le_of_ble_eq_true rfl) ?_
        refine x_iret (pc := 13) dX7_sets_13 rfl (by first | rfl | exact fv_nz _) ?_
        exact ⟨rfl, rfl⟩
theorem op_power {E : fv_E} {b m : Int32} {M : fv_M} (I : pInv M) : pOp E mX6_power mX7_power [.int b, .int m] M := by
  obtain ⟨nb, nm, hG, hE, t, ht, eT⟩ := I.1
  have hs0 : 0 < 3 := by decide
  have hs1 : 1 < 3 := by decide
  have hB := hG.1
  have hb := hG.2.1
  have hM := hG.2.2.1
  have hn := hG.2.2.2.1
  have hK := hG.K
  have hC := hG.C
  have hG2 : pGd (M 22) nb nm := hG.cg hE
  by_cases hbb : 0 ≤ b ∧ b ≤ nI nb - 1
  · by_cases hm : 0 ≤ m ∧ m ≤ nI nm - 1
    · obtain ⟨z, hz, rfl⟩ := pUx (by omega) hbb
      obtain ⟨k, hk, rfl⟩ := pUx (by omega) hm
      have hc := pCo_of hC hk
      have hk8 : k < 8 := by omega
      obtain ⟨u, hu, eu⟩ := (pG2.at hG hk).2.2.2
      obtain ⟨a1, a2, a3⟩ := pAll_of hb
      generalize hH : (fun j => bI ((pIn (nI j) z ∧ pPa (M 0) nb k (nI j)) ∧ ¬ pPa (M 0) nb k (nI j &&& (pBi z ^^^ -1)))) = H
      have hHj : ∀ j, H j = bI ((pIn (nI j) z ∧ pPa (M 0) nb k (nI j)) ∧ ¬ pPa (M 0) nb k (nI j &&& (pBi z ^^^ -1))) := fun j => by rw [← hH]
      have h0 : ∀ j, ¬ ((pIn (nI j) z ∧ pPa (M 0) nb k (nI j)) ∧ ¬ pPa (M 0) nb k (nI j &&& (pBi z ^^^ -1))) → sN H j = sN H (j + 1) := fun j q => by show _ = sN H j + H j; rw [hHj, bI_f q, Int32.add_zero]
      have h1 : ∀ j, ((pIn (nI j) z ∧ pPa (M 0) nb k (nI j)) ∧ ¬ pPa (M 0) nb k (nI j &&& (pBi z ^^^ -1))) → sN H j + 1 = sN H (j + 1) := fun j q => by show _ = sN H j + H j; rw [hHj, bI_t q]
      generalize hK2 : 2 ^ nb = K at *
      refine pOp.qry (v := sN H K) I ?_ (fun M1 hF => ?_)
      · have hbec := hX4_become (E := E) (d := 10) (s := 1) (t := 0) (nb := nb) (nm := nm) (M := M) hs1 hs0 (by decide) hB hb hM hn
        generalize hρ : pSB (M 1) (M 0) nb nm = ρ at hbec
        have hρe : pEq nb nm ρ (M 0) := by rw [← hρ]; exact pSB_eq hb
        have hGρ : pGd ρ nb nm := hG.cg hρe
        have n0 : ∀ X, (fv_s M 1 X) 0 = M 0 := fun X => fv_s_ne _ _ (by decide)
        have hI0 : fv_s M 1 ρ = fv_s M 1 (fv_u ρ (fM k 2) (ρ (fM k 2))) := by rw [fv_u_id]
        refine fv_P.of (ls := [some (.ref 0), some (.int (nI z)), some (.int (nI k)), none, none, none, none]) (by decide) (Nat.le_of_ble_eq_true rfl) rfl ?_
        refine x_aload_n (pc := 0) dX6_power_0 rfl rfl ?_
        refine x_geta (pc := 1) fl_X6_12 dX6_power_1 (tb_fv) rfl ?_
        refine x_iload_n (pc := 4) dX6_power_4 rfl rfl ?_
        refine x_Vi (pc := 5) ks_X6_68 dX6_power_5 (tb_st (by assumption)) rfl rfl (hHb hB) rfl rfl rfl (Nat.le_of_ble_eq_true rfl) ?_
        refine x_ifb_eq (pc := 8) dX6_power_8 (tgt := 22) rfl (fun h8 => ?_) (fun h8 => ?_)
        ·
          contradiction
        ·
          refine x_aload_n (pc := 11) dX6_power_11 rfl rfl ?_
          refine x_geta (pc := 12) fl_X6_12 dX6_power_12 (tb_fv) rfl ?_
          refine x_iload_n (pc := 15) dX6_power_15 rfl rfl ?_
          refine x_Vi (pc := 16) ks_X6_94 dX6_power_16 (tb_st (by assumption)) rfl rfl (hHm hM) rfl rfl rfl (Nat.le_of_ble_eq_true rfl) ?_
          refine x_ifb_ne (pc := 19) dX6_power_19 (tgt := 29) rfl (fun h19 => ?_) (fun h19 => ?_)
          ·
            refine x_aload_n (pc := 29) dX6_power_29 rfl rfl ?_
            refine x_geta (pc := 30) fl_X6_16 dX6_power_30 (tb_fv) rfl ?_
            refine x_aload_n (pc := 33) dX6_power_33 rfl rfl ?_
            refine x_geta (pc := 34) fl_X6_12 dX6_power_34 (tb_fv) rfl ?_
            refine x_Vv (pc := 37) ks_X6_150 dX6_power_37 (tb_st (by assumption)) rfl rfl (hbec) rfl rfl rfl (Nat.le_of_ble_eq_true rfl) ?_
            refine x_aload_n (pc := 40) dX6_power_40 rfl rfl ?_
            refine x_geta (pc := 41) fl_X6_12 dX6_power_41 (tb_fv) rfl ?_
            refine x_Vi (pc := 44) ks_X6_104 dX6_power_44 (tb_st (by assumption)) rfl rfl (((hX4_allBirds hs0 (by rw [n0]; exact hB)).v a1)) rfl rfl rfl (Nat.le_of_ble_eq_true rfl) ?_
            refine x_istore_n3 (pc := 47) dX6_power_47 rfl ?_
            refine x_iconst (pc := 48) (v := 1) dX6_power_48 rfl ?_
            refine x_iload_n (pc := 49) dX6_power_49 rfl rfl ?_
            refine x_ishl (pc := 50) dX6_power_50 ?_
            refine x_istore4 (pc := 51) dX6_power_51 rfl ?_
            refine x_iconst (pc := 53) (v := 0) dX6_power_53 rfl ?_
            refine x_istore5 (pc := 54) dX6_power_54 rfl ?_
            refine x_iconst (pc := 56) (v := 0) dX6_power_56 rfl ?_
            refine x_istore6 (pc := 57) dX6_power_57 rfl ?_
            refine x_loopI (fun j => [some (.ref 0), some (.int (nI z)), some (.int (nI k)), some (.int (nI (K - 1))), some (.int (pBi z)), some (.int (sN H j)), some (.int (nI j))]) (fun j M' => ∃ w, M' = fv_s M 1 (fv_u ρ (fM k 2) w)) K rfl ⟨_, hI0⟩ ?_ ?_
            · rintro j M' hj ⟨w, rfl⟩ hL
              have hx := pBi_at (show j < 256 by omega) (show z < 8 by omega)
              refine x_iload (pc := 59) dX6_power_59 rfl ?_
              refine x_iload_n (pc := 61) dX6_power_61 rfl rfl ?_
              refine x_icmp_gt (pc := 62) dX6_power_62 (tgt := 107) rfl (fun h62 => ?_) (fun h62 => ?_)
              ·
                exact absurd h62 (nI_nlt (by omega) (by omega))
              ·
                refine x_iload (pc := 65) dX6_power_65 rfl ?_
                refine x_iload (pc := 67) dX6_power_67 rfl ?_
                refine x_iand (pc := 69) dX6_power_69 ?_
                refine x_if_eq (pc := 70) dX6_power_70 (tgt := 101) rfl (fun h70 => ?_) (fun h70 => ?_)
                ·
                  rw [h0 j (fun q => (hx.2.2.1.mp h70) q.1.1)]
                  refine x_iinc6 (pc := 101) dX6_power_101 (by first | exact fv_inc _ | exact fv_dec _ | rfl) rfl ?_
                  refine x_goto (pc := 104) dX6_power_104 (tgt := 59) rfl ?_
                  exact hL _ ⟨_, rfl⟩
                ·
                  refine x_aload_n (pc := 73) dX6_power_73 rfl rfl ?_
                  refine x_iload_n (pc := 74) dX6_power_74 rfl rfl ?_
                  refine x_iload (pc := 75) dX6_power_75 rfl ?_
                  refine x_Vi (pc := 77) ks_X6_162 dX6_power_77 (tb_fv) rfl rfl (hX6_try hG hρe hk) rfl rfl rfl (Nat.le_of_ble_eq_true rfl) ?_
                  refine x_ifb_eq (pc := 80) dX6_power_80 (tgt := 101) rfl (fun h80 => ?_) (fun h80 => ?_)
                  ·
                    rw [h0 j (fun q => h80 q.1.2)]
                    refine x_iinc6 (pc := 101) dX6_power_101 (by first | exact fv_inc _ | exact fv_dec _ | rfl) rfl ?_
                    refine x_goto (pc := 104) dX6_power_104 (tgt := 59) rfl ?_
                    exact hL _ ⟨_, rfl⟩
                  ·
                    refine x_aload_n (pc := 83) dX6_power_83 rfl rfl ?_
                    refine x_iload_n (pc := 84) dX6_power_84 rfl rfl ?_
                    refine x_iload (pc := 85) dX6_power_85 rfl ?_
                    refine x_iload (pc := 87) dX6_power_87 rfl ?_
                    refine x_iconst (pc := 89) (v := (-1)) dX6_power_89 fv_m1 ?_
                    refine x_ixor (pc := 90) dX6_power_90 ?_
                    refine x_iand (pc := 91) dX6_power_91 ?_
                    refine x_Vi (pc := 92) ks_X6_162 dX6_power_92 (tb_fv) rfl rfl (hX6_try hG hρe hk) rfl rfl rfl (Nat.le_of_ble_eq_true rfl) ?_
                    refine x_ifb_ne (pc := 95) dX6_power_95 (tgt := 101) rfl (fun h95 => ?_) (fun h95 => ?_)
                    ·
                      rw [h0 j (fun q => q.2 h95)]
                      refine x_iinc6 (pc := 101) dX6_power_101 (by first | exact fv_inc _ | exact fv_dec _ | rfl) rfl ?_
                      refine x_goto (pc := 104) dX6_power_104 (tgt := 59) rfl ?_
                      exact hL _ ⟨_, rfl⟩
                    ·
                      refine x_iinc5 (pc := 98) dX6_power_98 (h1 j ⟨⟨Decidable.not_not.mp (fun q => h70 (hx.2.2.1.mpr q)), h80⟩, h95⟩) rfl ?_
                      refine x_iinc6 (pc := 101) dX6_power_101 (by first | exact fv_inc _ | exact fv_dec _ | rfl) rfl ?_
                      refine x_goto (pc := 104) dX6_power_104 (tgt := 59) rfl ?_
                      exact hL _ ⟨_, rfl⟩
            · rintro M' ⟨w, rfl⟩
              refine x_iload (pc := 59) dX6_power_59 rfl ?_
              refine x_iload_n (pc := 61) dX6_power_61 rfl rfl ?_
              refine x_icmp_gt (pc := 62) dX6_power_62 (tgt := 107) rfl (fun h62 => ?_) (fun h62 => ?_)
              ·
                refine x_iload (pc := 107) dX6_power_107 rfl ?_
                refine x_iret (pc := 109) dX6_power_109 rfl (by first | rfl | exact fv_nz _) ?_
                exact ⟨rfl, pFr.rfl'.s (by decide)⟩
              ·
                exact absurd (nI_lt (by omega) (by omega)) h62
          ·
            contradiction
      · skip
        have e22 : M1 22 = M 22 := hF 22 (by decide)
        have hG1 : pGd (M1 22) nb nm := by rw [e22]; exact hG2
        have hE1 : pEq nb nm (M1 22) (M 0) := by rw [e22]; exact hE
        have hB1 := hG1.1
        have hM1 := hG1.2.2.1
        refine fv_P.of (ls := [some (.ref 106), some (.int (nI z)), some (.int (nI k)), none, none]) (by decide) (Nat.le_of_ble_eq_true rfl) rfl ?_
        refine x_aload_n (pc := 0) dX7_power_0 rfl rfl ?_
        refine x_iload_n (pc := 1) dX7_power_1 rfl rfl ?_
        refine x_Vi (pc := 2) ks_X7_120 dX7_power_2 (tb_106) rfl rfl (hX7_isBird (x := nI nb) hB1) rfl rfl rfl (Nat.le_of_ble_eq_true rfl) ?_
        refine x_ifb_eq (pc := 5) dX7_power_5 (tgt := 16) rfl (fun h5 => ?_) (fun h5 => ?_)
        ·
          contradiction
        ·
          refine x_aload_n (pc := 8) dX7_power_8 rfl rfl ?_
          refine x_iload_n (pc := 9) dX7_power_9 rfl rfl ?_
          refine x_Vi (pc := 10) ks_X7_126 dX7_power_10 (tb_106) rfl rfl (hX7_isMotion (x := nI nm) hM1) rfl rfl rfl (Nat.le_of_ble_eq_true rfl) ?_
          refine x_ifb_ne (pc := 13) dX7_power_13 (tgt := 22) rfl (fun h13 => ?_) (fun h13 => ?_)
          ·
            refine x_iconst (pc := 22) (v := 0) dX7_power_22 rfl ?_
            refine x_istore_n3 (pc := 23) dX7_power_23 rfl ?_
            refine x_iconst (pc := 24) (v := 0) dX7_power_24 rfl ?_
            refine x_istore4 (pc := 25) dX7_power_25 rfl ?_
            refine x_loop (fun j => [some (.ref 106), some (.int (nI z)), some (.int (nI k)), some (.int (sN H j)), some (.int (nI j))]) (fun _ => M1) K rfl rfl (fun j hj hL => ?_) ?_
            · show fv_X E mX7_power _ _ 27 [some (.ref 106), some (.int (nI z)), some (.int (nI k)), some (.int (sN H j)), some (.int (nI j))] [] M1
              replace hL : fv_X E mX7_power _ _ 27 [some (.ref 106), some (.int (nI z)), some (.int (nI k)), some (.int (sN H (j + 1))), some (.int (nI (j + 1)))] [] M1 := hL
              have hx := pBi_at (show j < 256 by omega) (show z < 8 by omega)
              refine x_iload (pc := 27) dX7_power_27 rfl ?_
              refine x_aload_n (pc := 29) dX7_power_29 rfl rfl ?_
              refine x_Vi (pc := 30) ks_X7_129 dX7_power_30 (tb_106) rfl rfl ((hX7_allBirds hB1).v a1) rfl rfl rfl (Nat.le_of_ble_eq_true rfl) ?_
              refine x_icmp_gt (pc := 33) dX7_power_33 (tgt := 85) rfl (fun h33 => ?_) (fun h33 => ?_)
              ·
                exact absurd h33 (nI_nlt (by omega) (by omega))
              ·
                refine x_iload_n (pc := 36) dX7_power_36 rfl rfl ?_
                refine x_iload (pc := 37) dX7_power_37 rfl ?_
                refine x_iload_n (pc := 39) dX7_power_39 rfl rfl ?_
                refine x_Si (pc := 40) ks_X7_76 dX7_power_40 (hX7_isIn) rfl rfl rfl (Nat.le_of_ble_eq_true rfl) ?_
                refine x_ifb_eq (pc := 43) dX7_power_43 (tgt := 76) rfl (fun h43 => ?_) (fun h43 => ?_)
                ·
                  have e := h0 j (fun q => h43 q.1.1)
                  refine x_iconst (pc := 76) (v := 0) dX7_power_76 rfl ?_
                  refine x_iadd (pc := 77) dX7_power_77 ?_
                  first | rw [Int32.add_zero, e] | rw [e]
                  refine x_istore_n3 (pc := 78) dX7_power_78 rfl ?_
                  refine x_iinc4 (pc := 79) dX7_power_79 (by first | exact fv_inc _ | exact fv_dec _ | rfl) rfl ?_
                  refine x_goto (pc := 82) dX7_power_82 (tgt := 27) rfl ?_
                  exact hL
                ·
                  refine x_aload_n (pc := 46) dX7_power_46 rfl rfl ?_
                  refine x_iload_n (pc := 47) dX7_power_47 rfl rfl ?_
                  refine x_iload (pc := 48) dX7_power_48 rfl ?_
                  refine x_Vi (pc := 50) ks_X7_97 dX7_power_50 (tb_106) rfl rfl (hX7_pby hG1 hE1 hk (by omega)) rfl rfl rfl (Nat.le_of_ble_eq_true rfl) ?_
                  refine x_ifb_eq (pc := 53) dX7_power_53 (tgt := 76) rfl (fun h53 => ?_) (fun h53 => ?_)
                  ·
                    have e := h0 j (fun q => h53 q.1.2)
                    refine x_iconst (pc := 76) (v := 0) dX7_power_76 rfl ?_
                    refine x_iadd (pc := 77) dX7_power_77 ?_
                    first | rw [Int32.add_zero, e] | rw [e]
                    refine x_istore_n3 (pc := 78) dX7_power_78 rfl ?_
                    refine x_iinc4 (pc := 79) dX7_power_79 (by first | exact fv_inc _ | exact fv_dec _ | rfl) rfl ?_
                    refine x_goto (pc := 82) dX7_power_82 (tgt := 27) rfl ?_
                    exact hL
                  ·
                    refine x_aload_n (pc := 56) dX7_power_56 rfl rfl ?_
                    refine x_iload_n (pc := 57) dX7_power_57 rfl rfl ?_
                    refine x_iload (pc := 58) dX7_power_58 rfl ?_
                    refine x_iconst (pc := 60) (v := 1) dX7_power_60 rfl ?_
                    refine x_iload_n (pc := 61) dX7_power_61 rfl rfl ?_
                    refine x_ishl (pc := 62) dX7_power_62 ?_
                    refine x_iconst (pc := 63) (v := (-1)) dX7_power_63 fv_m1 ?_
                    refine x_ixor (pc := 64) dX7_power_64 ?_
                    refine x_iand (pc := 65) dX7_power_65 ?_
                    rw [hx.2.2.2]
                    refine x_Vi (pc := 66) ks_X7_97 dX7_power_66 (tb_106) rfl rfl (hX7_pby hG1 hE1 hk (by omega)) rfl rfl rfl (Nat.le_of_ble_eq_true rfl) ?_
                    rw [← hx.2.2.2]
                    refine x_ifb_ne (pc := 69) dX7_power_69 (tgt := 76) rfl (fun h69 => ?_) (fun h69 => ?_)
                    ·
                      have e := h0 j (fun q => q.2 h69)
                      refine x_iconst (pc := 76) (v := 0) dX7_power_76 rfl ?_
                      refine x_iadd (pc := 77) dX7_power_77 ?_
                      first | rw [Int32.add_zero, e] | rw [e]
                      refine x_istore_n3 (pc := 78) dX7_power_78 rfl ?_
                      refine x_iinc4 (pc := 79) dX7_power_79 (by first | exact fv_inc _ | exact fv_dec _ | rfl) rfl ?_
                      refine x_goto (pc := 82) dX7_power_82 (tgt := 27) rfl ?_
                      exact hL
                    ·
                      have e := h1 j ⟨⟨h43, h53⟩, h69⟩
                      refine x_iconst (pc := 72) (v := 1) dX7_power_72 rfl ?_
                      refine x_goto (pc := 73) dX7_power_73 (tgt := 77) rfl ?_
                      refine x_iadd (pc := 77) dX7_power_77 ?_
                      first | rw [Int32.add_zero, e] | rw [e]
                      refine x_istore_n3 (pc := 78) dX7_power_78 rfl ?_
                      refine x_iinc4 (pc := 79) dX7_power_79 (by first | exact fv_inc _ | exact fv_dec _ | rfl) rfl ?_
                      refine x_goto (pc := 82) dX7_power_82 (tgt := 27) rfl ?_
                      exact hL
            · show fv_X E mX7_power _ _ 27 [some (.ref 106), some (.int (nI z)), some (.int (nI k)), some (.int (sN H K)), some (.int (nI K))] [] M1
              refine x_iload (pc := 27) dX7_power_27 rfl ?_
              refine x_aload_n (pc := 29) dX7_power_29 rfl rfl ?_
              refine x_Vi (pc := 30) ks_X7_129 dX7_power_30 (tb_106) rfl rfl ((hX7_allBirds hB1).v a1) rfl rfl rfl (Nat.le_of_ble_eq_true rfl) ?_
              refine x_icmp_gt (pc := 33) dX7_power_33 (tgt := 85) rfl (fun h33 => ?_) (fun h33 => ?_)
              ·
                refine x_iload_n (pc := 85) dX7_power_85 rfl rfl ?_
                refine x_iret (pc := 86) dX7_power_86 rfl (by first | rfl | exact fv_nz _) ?_
                exact ⟨rfl, pFr.rfl', rfl, rfl, fun _ _ _ => pEq.rfl'⟩
              ·
                exact absurd (nI_lt (by omega) (by omega)) h33
          ·
            contradiction
    · skip
      refine pOp.bad (v := -1000001) 0 I ?_ (fun M1 hF => ?_)
      · skip
        refine fv_F.of (ls := [some (.ref 0), some (.int b), some (.int m), none, none, none, none]) (by decide) (Nat.le_of_ble_eq_true rfl) rfl ?_
        refine x_aload_n (pc := 0) dX6_power_0 rfl rfl ?_
        refine x_geta (pc := 1) fl_X6_12 dX6_power_1 (tb_fv) rfl ?_
        refine x_iload_n (pc := 4) dX6_power_4 rfl rfl ?_
        refine x_Vi (pc := 5) ks_X6_68 dX6_power_5 (tb_st (by assumption)) rfl rfl (hHb hB) rfl rfl rfl (Nat.le_of_ble_eq_true rfl) ?_
        refine x_ifb_eq (pc := 8) dX6_power_8 (tgt := 22) rfl (fun h8 => ?_) (fun h8 => ?_)
        ·
          contradiction
        ·
          refine x_aload_n (pc := 11) dX6_power_11 rfl rfl ?_
          refine x_geta (pc := 12) fl_X6_12 dX6_power_12 (tb_fv) rfl ?_
          refine x_iload_n (pc := 15) dX6_power_15 rfl rfl ?_
          refine x_Vi (pc := 16) ks_X6_94 dX6_power_16 (tb_st (by assumption)) rfl rfl (hHm hM) rfl rfl rfl (Nat.le_of_ble_eq_true rfl) ?_
          refine x_ifb_ne (pc := 19) dX6_power_19 (tgt := 29) rfl (fun h19 => ?_) (fun h19 => ?_)
          ·
            contradiction
          ·
            refine x_aload_n (pc := 22) dX6_power_22 rfl rfl ?_
            refine x_ldc (pc := 23) kc_X6_55 dX6_power_23 ?_
            refine x_Vi (pc := 25) ks_X6_56 dX6_power_25 (tb_fv) rfl rfl (hX6_fin 0 (-1000001) (by decide +kernel) (by decide)) rfl rfl rfl (Nat.le_of_ble_eq_true rfl) ?_
            refine x_iret (pc := 28) dX6_power_28 rfl (by first | rfl | exact fv_nz _) ?_
            exact ⟨rfl, rfl⟩
      · skip
        have e22 : M1 22 = M 22 := hF 22 (by decide)
        have hG1 : pGd (M1 22) nb nm := by rw [e22]; exact hG2
        have hE1 : pEq nb nm (M1 22) (M 0) := by rw [e22]; exact hE
        have hB1 := hG1.1
        have hM1 := hG1.2.2.1
        refine fv_F.of (ls := [some (.ref 106), some (.int b), some (.int m), none, none]) (by decide) (Nat.le_of_ble_eq_true rfl) rfl ?_
        refine x_aload_n (pc := 0) dX7_power_0 rfl rfl ?_
        refine x_iload_n (pc := 1) dX7_power_1 rfl rfl ?_
        refine x_Vi (pc := 2) ks_X7_120 dX7_power_2 (tb_106) rfl rfl (hX7_isBird (x := nI nb) hB1) rfl rfl rfl (Nat.le_of_ble_eq_true rfl) ?_
        refine x_ifb_eq (pc := 5) dX7_power_5 (tgt := 16) rfl (fun h5 => ?_) (fun h5 => ?_)
        ·
          contradiction
        ·
          refine x_aload_n (pc := 8) dX7_power_8 rfl rfl ?_
          refine x_iload_n (pc := 9) dX7_power_9 rfl rfl ?_
          refine x_Vi (pc := 10) ks_X7_126 dX7_power_10 (tb_106) rfl rfl (hX7_isMotion (x := nI nm) hM1) rfl rfl rfl (Nat.le_of_ble_eq_true rfl) ?_
          refine x_ifb_ne (pc := 13) dX7_power_13 (tgt := 22) rfl (fun h13 => ?_) (fun h13 => ?_)
          ·
            contradiction
          ·
            refine x_aload_n (pc := 16) dX7_power_16 rfl rfl ?_
            refine x_iconst (pc := 17) (v := 0) dX7_power_17 rfl ?_
            refine x_Vi (pc := 18) ks_X7_114 dX7_power_18 (tb_106) rfl rfl (hX7_noL 0 (-1000001) (by decide) (by decide +kernel)) rfl rfl rfl (Nat.le_of_ble_eq_true rfl) ?_
            refine x_iret (pc := 21) dX7_power_21 rfl (by first | rfl | exact fv_nz _) ?_
            exact ⟨rfl, rfl⟩
  · skip
    refine pOp.bad (v := -1000001) 0 I ?_ (fun M1 hF => ?_)
    · skip
      refine fv_F.of (ls := [some (.ref 0), some (.int b), some (.int m), none, none, none, none]) (by decide) (Nat.le_of_ble_eq_true rfl) rfl ?_
      refine x_aload_n (pc := 0) dX6_power_0 rfl rfl ?_
      refine x_geta (pc := 1) fl_X6_12 dX6_power_1 (tb_fv) rfl ?_
      refine x_iload_n (pc := 4) dX6_power_4 rfl rfl ?_
      refine x_Vi (pc := 5) ks_X6_68 dX6_power_5 (tb_st (by assumption)) rfl rfl (hHb hB) rfl rfl rfl (Nat.le_of_ble_eq_true rfl) ?_
      refine x_ifb_eq (pc := 8) dX6_power_8 (tgt := 22) rfl (fun h8 => ?_) (fun h8 => ?_)
      ·
        refine x_aload_n (pc := 22) dX6_power_22 rfl rfl ?_
        refine x_ldc (pc := 23) kc_X6_55 dX6_power_23 ?_
        refine x_Vi (pc := 25) ks_X6_56 dX6_power_25 (tb_fv) rfl rfl (hX6_fin 0 (-1000001) (by decide +kernel) (by decide)) rfl rfl rfl (Nat.le_of_ble_eq_true rfl) ?_
        refine x_iret (pc := 28) dX6_power_28 rfl (by first | rfl | exact fv_nz _) ?_
        exact ⟨rfl, rfl⟩
      ·
        contradiction
    · skip
      have e22 : M1 22 = M 22 := hF 22 (by decide)
      have hG1 : pGd (M1 22) nb nm := by rw [e22]; exact hG2
      have hE1 : pEq nb nm (M1 22) (M 0) := by rw [e22]; exact hE
      have hB1 := hG1.1
      have hM1 := hG1.2.2.1
      refine fv_F.of (ls := [some (.ref 106), some (.int b), some (.int m), none, none]) (by decide) (Nat.le_of_ble_eq_true rfl) rfl ?_
      refine x_aload_n (pc := 0) dX7_power_0 rfl rfl ?_
      refine x_iload_n (pc := 1) dX7_power_1 rfl rfl ?_
      refine x_Vi (pc := 2) ks_X7_120 dX7_power_2 (tb_106) rfl rfl (hX7_isBird (x := nI nb) hB1) rfl rfl rfl (Nat.le_of_ble_eq_true rfl) ?_
      refine x_ifb_eq (pc := 5) dX7_power_5 (tgt := 16) rfl (fun h5 => ?_) (fun h5 => ?_)
      ·
        refine x_aload_n (pc := 16) dX7_power_16 rfl rfl ?_
        refine x_iconst (pc := 17) (v := 0) dX7_power_17 rfl ?_
        refine x_Vi (pc := 18) ks_X7_114 dX7_power_18 (tb_106) rfl rfl (hX7_noL 0 (-1000001) (by decide) (by decide +kernel)) rfl rfl rfl (Nat.le_of_ble_eq_true rfl) ?_
        refine x_iret (pc := 21) dX7_power_21 rfl (by first | rfl | exact fv_nz _) ?_
        exact ⟨rfl, rfl⟩
      ·
        contradiction
theorem op_won {E : fv_E} {m : Int32} {M : fv_M} (I : pInv M) : pOp E mX6_won mX7_won [.int m] M := by
  obtain ⟨nb, nm, hG, hE, t, ht, eT⟩ := I.1
  have hs0 : 0 < 3 := by decide
  have hs1 : 1 < 3 := by decide
  have hB := hG.1
  have hb := hG.2.1
  have hM := hG.2.2.1
  have hn := hG.2.2.2.1
  have hK := hG.K
  have hC := hG.C
  have hG2 : pGd (M 22) nb nm := hG.cg hE
  by_cases hm : 0 ≤ m ∧ m ≤ nI nm - 1
  · obtain ⟨k, hk, rfl⟩ := pUx (by omega) hm
    have hc := pCo_of hC hk
    have hk8 : k < 8 := by omega
    obtain ⟨u, hu, eu⟩ := (pG2.at hG hk).2.2.2
    obtain ⟨a1, a2, a3⟩ := pAll_of hb
    generalize hK2 : 2 ^ nb = K at *
    have hlt := pWn_lt (M 0) nb k (nI u)
    have hs0' : ∀ j, ¬ ((nI j &&& nI u = 0 ∧ pLe (pWn (M 0) nb k (nI u) j) j = true) ∧ pPa (M 0) nb k (nI u ||| nI j)) → pWn (M 0) nb k (nI u) (j + 1) = pWn (M 0) nb k (nI u) j := fun j q => by rw [pWn, if_neg q]
    have hs1' : ∀ j, ((nI j &&& nI u = 0 ∧ pLe (pWn (M 0) nb k (nI u) j) j = true) ∧ pPa (M 0) nb k (nI u ||| nI j)) → pWn (M 0) nb k (nI u) (j + 1) = some j := fun j q => by rw [pWn, if_pos q]
    have hneg : ∀ j, j ≤ K → (pWm (pWn (M 0) nb k (nI u) j) < 0 ↔ pWn (M 0) nb k (nI u) j = none) ∧ (pWc (pWn (M 0) nb k (nI u) j) = -1000004 ↔ pWn (M 0) nb k (nI u) j = none) := fun j hj => pWm_neg _ (fun x hx => by have := hlt j x hx; omega)
    generalize hWn : pWn (M 0) nb k (nI u) = WN at *
    cases hres : WN K with
    | none =>
      refine pOp.badJ (v := -1000004) 3 I ?_ (fun M1 hF => ?_)
      · have hbec := hX4_become (E := E) (d := 10) (s := 1) (t := 0) (nb := nb) (nm := nm) (M := M) hs1 hs0 (by decide) hB hb hM hn
        generalize hρ : pSB (M 1) (M 0) nb nm = ρ at hbec
        have hρe : pEq nb nm ρ (M 0) := by rw [← hρ]; exact pSB_eq hb
        have hGρ : pGd ρ nb nm := hG.cg hρe
        have n0 : ∀ X, (fv_s M 1 X) 0 = M 0 := fun X => fv_s_ne _ _ (by decide)
        have hI0 : fv_s M 1 ρ = fv_s M 1 (fv_u ρ (fM k 2) (ρ (fM k 2))) := by rw [fv_u_id]
        refine fv_P.of (ls := [some (.ref 0), some (.int (nI k)), none, none, none, none, none, none]) (by decide) (Nat.le_of_ble_eq_true rfl) rfl ?_
        refine x_aload_n (pc := 0) dX6_won_0 rfl rfl ?_
        refine x_geta (pc := 1) fl_X6_12 dX6_won_1 (tb_fv) rfl ?_
        refine x_iload_n (pc := 4) dX6_won_4 rfl rfl ?_
        refine x_Vi (pc := 5) ks_X6_94 dX6_won_5 (tb_st (by assumption)) rfl rfl (hHm hM) rfl rfl rfl (Nat.le_of_ble_eq_true rfl) ?_
        refine x_ifb_ne (pc := 8) dX6_won_8 (tgt := 18) rfl (fun h8 => ?_) (fun h8 => ?_)
        ·
          refine x_aload_n (pc := 18) dX6_won_18 rfl rfl ?_
          refine x_geta (pc := 19) fl_X6_16 dX6_won_19 (tb_fv) rfl ?_
          refine x_aload_n (pc := 22) dX6_won_22 rfl rfl ?_
          refine x_geta (pc := 23) fl_X6_12 dX6_won_23 (tb_fv) rfl ?_
          refine x_Vv (pc := 26) ks_X6_150 dX6_won_26 (tb_st (by assumption)) rfl rfl (hbec) rfl rfl rfl (Nat.le_of_ble_eq_true rfl) ?_
          refine x_aload_n (pc := 29) dX6_won_29 rfl rfl ?_
          refine x_geta (pc := 30) fl_X6_12 dX6_won_30 (tb_fv) rfl ?_
          refine x_Vi (pc := 33) ks_X6_104 dX6_won_33 (tb_st (by assumption)) rfl rfl (((hX4_allBirds hs0 (by rw [n0]; exact hB)).v a1)) rfl rfl rfl (Nat.le_of_ble_eq_true rfl) ?_
          refine x_istore_n2 (pc := 36) dX6_won_36 rfl ?_
          refine x_aload_n (pc := 37) dX6_won_37 rfl rfl ?_
          refine x_geta (pc := 38) fl_X6_12 dX6_won_38 (tb_fv) rfl ?_
          refine x_geta (pc := 41) fl_X6_97 dX6_won_41 (tb_st (by assumption)) rfl ?_
          refine x_iload_n (pc := 44) dX6_won_44 rfl rfl ?_
          refine x_motion (pc := 45) dX6_won_45 (by assumption) (rfl) (hk8) ?_
          refine x_geti (pc := 46) fl_X6_159 dX6_won_46 (tb_m (by assumption) (by assumption)) rfl ((congrFun (n0 ρ) _).trans eu) ?_
          refine x_istore_n3 (pc := 49) dX6_won_49 rfl ?_
          refine x_ldc (pc := 50) kc_X6_154 dX6_won_50 ?_
          refine x_istore4 (pc := 52) dX6_won_52 rfl ?_
          refine x_bipush (pc := 54) (v := 9) dX6_won_54 rfl ?_
          refine x_istore5 (pc := 56) dX6_won_56 rfl ?_
          refine x_iconst (pc := 58) (v := 0) dX6_won_58 rfl ?_
          refine x_istore6 (pc := 59) dX6_won_59 rfl ?_
          refine x_loopI (fun j => [some (.ref 0), some (.int (nI k)), some (.int (nI (K - 1))), some (.int (nI u)), some (.int (pWc (WN j))), some (.int (pWf (WN j))), some (.int (nI j)), none]) (fun j M' => ∃ w, M' = fv_s M 1 (fv_u ρ (fM k 2) w)) K (by rw [← hWn]; rfl) ⟨_, hI0⟩ ?_ ?_
          · rintro j M' hj ⟨w, rfl⟩ hL
            have hj8 : j < 256 := by omega
            have hgo : fv_X E mX6_won (12 + 1) (fun r' M' => r' = some (.int (-1000004)) ∧ ∃ M0, pFr pJk M M0 ∧ M' = pFd M0 3) 89 [some (.ref 0), some (.int (nI k)), some (.int (nI (K - 1))), some (.int (nI u)), some (.int (pWc (WN j))), some (.int (pWf (WN j))), some (.int (nI j)), none] [.int (bI (nI j &&& nI u = 0 ∧ pLe (WN j) j = true))] (fv_s M 1 (fv_u ρ (fM k 2) w)) := by
              refine x_istore7 (pc := 89) dX6_won_89 rfl ?_
              refine x_iload (pc := 91) dX6_won_91 rfl ?_
              refine x_ifb_eq (pc := 93) dX6_won_93 (tgt := 119) rfl (fun h93 => ?_) (fun h93 => ?_)
              ·
                rw [hs0' j (fun q => h93 q.1)] at hL
                refine x_fg7 ?_
                refine x_iinc6 (pc := 119) dX6_won_119 (by first | exact fv_inc _ | exact fv_dec _ | rfl) rfl ?_
                refine x_goto (pc := 122) dX6_won_122 (tgt := 61) rfl ?_
                exact hL _ ⟨_, rfl⟩
              ·
                refine x_aload_n (pc := 96) dX6_won_96 rfl rfl ?_
                refine x_iload_n (pc := 97) dX6_won_97 rfl rfl ?_
                refine x_iload_n (pc := 98) dX6_won_98 rfl rfl ?_
                refine x_iload (pc := 99) dX6_won_99 rfl ?_
                refine x_ior (pc := 101) dX6_won_101 ?_
                refine x_Vi (pc := 102) ks_X6_162 dX6_won_102 (tb_fv) rfl rfl (hX6_try hG hρe hk) rfl rfl rfl (Nat.le_of_ble_eq_true rfl) ?_
                refine x_ifb_eq (pc := 105) dX6_won_105 (tgt := 119) rfl (fun h105 => ?_) (fun h105 => ?_)
                ·
                  rw [hs0' j (fun q => h105 q.2)] at hL
                  refine x_fg7 ?_
                  refine x_iinc6 (pc := 119) dX6_won_119 (by first | exact fv_inc _ | exact fv_dec _ | rfl) rfl ?_
                  refine x_goto (pc := 122) dX6_won_122 (tgt := 61) rfl ?_
                  exact hL _ ⟨_, rfl⟩
                ·
                  rw [hs1' j ⟨h93, h105⟩] at hL
                  refine x_iload (pc := 108) dX6_won_108 rfl ?_
                  refine x_istore4 (pc := 110) dX6_won_110 rfl ?_
                  refine x_iload (pc := 112) dX6_won_112 rfl ?_
                  refine x_Si (pc := 114) ks_X6_165 dX6_won_114 (hJ6_bitCount_0f7a4 hj8) rfl rfl rfl (Nat.le_of_ble_eq_true rfl) ?_
                  refine x_istore5 (pc := 117) dX6_won_117 rfl ?_
                  refine x_fg7 ?_
                  refine x_iinc6 (pc := 119) dX6_won_119 (by first | exact fv_inc _ | exact fv_dec _ | rfl) rfl ?_
                  refine x_goto (pc := 122) dX6_won_122 (tgt := 61) rfl ?_
                  exact hL _ ⟨_, rfl⟩
            refine x_iload (pc := 61) dX6_won_61 rfl ?_
            refine x_iload_n (pc := 63) dX6_won_63 rfl rfl ?_
            refine x_icmp_gt (pc := 64) dX6_won_64 (tgt := 125) rfl (fun h64 => ?_) (fun h64 => ?_)
            ·
              exact absurd h64 (nI_nlt (by omega) (by omega))
            ·
              refine x_iload (pc := 67) dX6_won_67 rfl ?_
              refine x_iload_n (pc := 69) dX6_won_69 rfl rfl ?_
              refine x_iand (pc := 70) dX6_won_70 ?_
              refine x_if_ne (pc := 71) dX6_won_71 (tgt := 88) rfl (fun h71 => ?_) (fun h71 => ?_)
              ·
                rw [bI_f (fun q => h71 q.1)] at hgo
                refine x_iconst (pc := 88) (v := 0) dX6_won_88 rfl ?_
                exact hgo
              ·
                refine x_iload (pc := 74) dX6_won_74 rfl ?_
                refine x_Si (pc := 76) ks_X6_165 dX6_won_76 (hJ6_bitCount_0f7a4 hj8) rfl rfl rfl (Nat.le_of_ble_eq_true rfl) ?_
                refine x_iload (pc := 79) dX6_won_79 rfl ?_
                refine x_icmp_ge (pc := 81) dX6_won_81 (tgt := 88) rfl (fun h81 => ?_) (fun h81 => ?_)
                ·
                  rw [bI_f (fun q => (pLe_f _ _).mp q.2 h81)] at hgo
                  refine x_iconst (pc := 88) (v := 0) dX6_won_88 rfl ?_
                  exact hgo
                ·
                  rw [bI_t ⟨h71, (pLe_f _ _).mpr h81⟩] at hgo
                  refine x_iconst (pc := 84) (v := 1) dX6_won_84 rfl ?_
                  refine x_goto (pc := 85) dX6_won_85 (tgt := 89) rfl ?_
                  exact hgo
          · rintro M' ⟨w, rfl⟩
            refine x_iload (pc := 61) dX6_won_61 rfl ?_
            refine x_iload_n (pc := 63) dX6_won_63 rfl rfl ?_
            refine x_icmp_gt (pc := 64) dX6_won_64 (tgt := 125) rfl (fun h64 => ?_) (fun h64 => ?_)
            ·
              refine x_iload (pc := 125) dX6_won_125 rfl ?_
              refine x_ldc (pc := 127) kc_X6_154 dX6_won_127 ?_
              refine x_icmp_ne (pc := 129) dX6_won_129 (tgt := 141) rfl (fun h129 => ?_) (fun h129 => ?_)
              ·
                exact absurd ((hneg K (Nat.le_refl K)).2.mpr hres) h129
              ·
                refine x_aload_n (pc := 132) dX6_won_132 rfl rfl ?_
                refine x_ldc (pc := 133) kc_X6_154 dX6_won_133 ?_
                refine x_Vi (pc := 135) ks_X6_56 dX6_won_135 (tb_fv) rfl rfl (hX6_fin 3 (-1000004) (by decide +kernel) (by decide)) rfl rfl rfl (Nat.le_of_ble_eq_true rfl) ?_
                refine x_goto (pc := 138) dX6_won_138 (tgt := 143) rfl ?_
                refine x_iret (pc := 143) dX6_won_143 rfl (by first | rfl | exact fv_nz _) ?_
                exact ⟨rfl, fv_s M 1 (fv_u ρ (fM k 2) w), pFr.rfl'.s (by decide), rfl⟩
            ·
              exact absurd (nI_lt (by omega) (by omega)) h64
        ·
          contradiction
      · skip
        have e22 : M1 22 = M 22 := hF 22 (by decide)
        have hG1 : pGd (M1 22) nb nm := by rw [e22]; exact hG2
        have hE1 : pEq nb nm (M1 22) (M 0) := by rw [e22]; exact hE
        have hB1 := hG1.1
        have hM1 := hG1.2.2.1
        refine fv_P.of (ls := [some (.ref 106), some (.int (nI k)), none, none, none, none]) (by decide) (Nat.le_of_ble_eq_true rfl) rfl ?_
        refine x_aload_n (pc := 0) dX7_won_0 rfl rfl ?_
        refine x_iload_n (pc := 1) dX7_won_1 rfl rfl ?_
        refine x_Vi (pc := 2) ks_X7_126 dX7_won_2 (tb_106) rfl rfl (hX7_isMotion (x := nI nm) hM1) rfl rfl rfl (Nat.le_of_ble_eq_true rfl) ?_
        refine x_ifb_ne (pc := 5) dX7_won_5 (tgt := 14) rfl (fun h5 => ?_) (fun h5 => ?_)
        ·
          refine x_aload_n (pc := 14) dX7_won_14 rfl rfl ?_
          refine x_iload_n (pc := 15) dX7_won_15 rfl rfl ?_
          refine x_iconst (pc := 16) (v := 2) dX7_won_16 rfl ?_
          refine x_Vi (pc := 17) ks_X7_80 dX7_won_17 (tb_106) rfl rfl (((hX7_of1 (f := 2) hk8 (by decide)).v (hE1.m hk (by decide))).v eu) rfl rfl rfl (Nat.le_of_ble_eq_true rfl) ?_
          refine x_istore_n2 (pc := 20) dX7_won_20 rfl ?_
          refine x_iconst (pc := 21) (v := (-1)) dX7_won_21 fv_m1 ?_
          refine x_istore_n3 (pc := 22) dX7_won_22 rfl ?_
          refine x_iconst (pc := 23) (v := 0) dX7_won_23 rfl ?_
          refine x_istore4 (pc := 24) dX7_won_24 rfl ?_
          refine x_loop (fun j => [some (.ref 106), some (.int (nI k)), some (.int (nI u)), some (.int (pWm (WN j))), some (.int (nI j)), none]) (fun _ => M1) K (by rw [← hWn]; rfl) rfl (fun j hj hL => ?_) ?_
          · show fv_X E mX7_won _ _ 26 [some (.ref 106), some (.int (nI k)), some (.int (nI u)), some (.int (pWm (WN j))), some (.int (nI j)), none] [] M1
            replace hL : fv_X E mX7_won (12 + 1) (fun r' M' => r' = some (.int (-1000004)) ∧ ∃ M3, pFr (22 :: pJm) M1 M3 ∧ (∀ nb nm, pI1 (M1 0) (M1 22) nb nm → pEq nb nm (M3 22) (M1 22)) ∧ M' = pNd M3 3) 26 [some (.ref 106), some (.int (nI k)), some (.int (nI u)), some (.int (pWm (WN (j + 1)))), some (.int (nI (j + 1))), none] [] M1 := hL
            have hj8 : j < 256 := by omega
            have hx := pOu_at hu hj8
            have hgo : fv_X E mX7_won (12 + 1) (fun r' M' => r' = some (.int (-1000004)) ∧ ∃ M3, pFr (22 :: pJm) M1 M3 ∧ (∀ nb nm, pI1 (M1 0) (M1 22) nb nm → pEq nb nm (M3 22) (M1 22)) ∧ M' = pNd M3 3) 63 [some (.ref 106), some (.int (nI k)), some (.int (nI u)), some (.int (pWm (WN j))), some (.int (nI j)), none] [.int (bI (nI j &&& nI u = 0 ∧ pLe (WN j) j = true))] M1 := by
              refine x_istore5 (pc := 63) dX7_won_63 rfl ?_
              refine x_iload (pc := 65) dX7_won_65 rfl ?_
              refine x_ifb_eq (pc := 67) dX7_won_67 (tgt := 87) rfl (fun h67 => ?_) (fun h67 => ?_)
              ·
                rw [hs0' j (fun q => h67 q.1)] at hL
                refine x_iload_n (pc := 87) dX7_won_87 rfl rfl ?_
                refine x_istore_n3 (pc := 88) dX7_won_88 rfl ?_
                refine x_fg5 ?_
                refine x_iinc4 (pc := 89) dX7_won_89 (by first | exact fv_inc _ | exact fv_dec _ | rfl) rfl ?_
                refine x_goto (pc := 92) dX7_won_92 (tgt := 26) rfl ?_
                exact hL
              ·
                refine x_aload_n (pc := 70) dX7_won_70 rfl rfl ?_
                refine x_iload_n (pc := 71) dX7_won_71 rfl rfl ?_
                refine x_iload_n (pc := 72) dX7_won_72 rfl rfl ?_
                refine x_iload (pc := 73) dX7_won_73 rfl ?_
                refine x_ior (pc := 75) dX7_won_75 ?_
                rw [hx.1]
                refine x_Vi (pc := 76) ks_X7_97 dX7_won_76 (tb_106) rfl rfl (hX7_pby hG1 hE1 hk hx.2) rfl rfl rfl (Nat.le_of_ble_eq_true rfl) ?_
                rw [← hx.1]
                refine x_ifb_eq (pc := 79) dX7_won_79 (tgt := 87) rfl (fun h79 => ?_) (fun h79 => ?_)
                ·
                  rw [hs0' j (fun q => h79 q.2)] at hL
                  refine x_iload_n (pc := 87) dX7_won_87 rfl rfl ?_
                  refine x_istore_n3 (pc := 88) dX7_won_88 rfl ?_
                  refine x_fg5 ?_
                  refine x_iinc4 (pc := 89) dX7_won_89 (by first | exact fv_inc _ | exact fv_dec _ | rfl) rfl ?_
                  refine x_goto (pc := 92) dX7_won_92 (tgt := 26) rfl ?_
                  exact hL
                ·
                  rw [hs1' j ⟨h67, h79⟩] at hL
                  refine x_iload (pc := 82) dX7_won_82 rfl ?_
                  refine x_goto (pc := 84) dX7_won_84 (tgt := 88) rfl ?_
                  refine x_istore_n3 (pc := 88) dX7_won_88 rfl ?_
                  refine x_fg5 ?_
                  refine x_iinc4 (pc := 89) dX7_won_89 (by first | exact fv_inc _ | exact fv_dec _ | rfl) rfl ?_
                  refine x_goto (pc := 92) dX7_won_92 (tgt := 26) rfl ?_
                  exact hL
            refine x_iload (pc := 26) dX7_won_26 rfl ?_
            refine x_aload_n (pc := 28) dX7_won_28 rfl rfl ?_
            refine x_Vi (pc := 29) ks_X7_129 dX7_won_29 (tb_106) rfl rfl ((hX7_allBirds hB1).v a1) rfl rfl rfl (Nat.le_of_ble_eq_true rfl) ?_
            refine x_icmp_gt (pc := 32) dX7_won_32 (tgt := 95) rfl (fun h32 => ?_) (fun h32 => ?_)
            ·
              exact absurd h32 (nI_nlt (by omega) (by omega))
            ·
              refine x_iload (pc := 35) dX7_won_35 rfl ?_
              refine x_iload_n (pc := 37) dX7_won_37 rfl rfl ?_
              refine x_iand (pc := 38) dX7_won_38 ?_
              refine x_if_ne (pc := 39) dX7_won_39 (tgt := 62) rfl (fun h39 => ?_) (fun h39 => ?_)
              ·
                rw [bI_f (fun q => h39 q.1)] at hgo
                refine x_iconst (pc := 62) (v := 0) dX7_won_62 rfl ?_
                exact hgo
              ·
                refine x_iload_n (pc := 42) dX7_won_42 rfl rfl ?_
                refine x_if_lt (pc := 43) dX7_won_43 (tgt := 58) rfl (fun h43 => ?_) (fun h43 => ?_)
                ·
                  have en := (hneg j (by omega)).1.mp h43
                  rw [bI_t ⟨h39, by rw [en]; rfl⟩] at hgo
                  refine x_iconst (pc := 58) (v := 1) dX7_won_58 rfl ?_
                  refine x_goto (pc := 59) dX7_won_59 (tgt := 63) rfl ?_
                  exact hgo
                ·
                  obtain ⟨x, ex⟩ : ∃ x, WN j = some x := Option.ne_none_iff_exists'.mp (fun q => h43 ((hneg j (by omega)).1.mpr q))
                  have hx8 : x < 256 := by have := hlt j x ex; omega
                  refine x_iload (pc := 46) dX7_won_46 rfl ?_
                  refine x_Si (pc := 48) ks_X7_158 dX7_won_48 (hX7_bits hj8) rfl rfl rfl (Nat.le_of_ble_eq_true rfl) ?_
                  refine x_iload_n (pc := 51) dX7_won_51 rfl rfl ?_
                  rw [show pWm (WN j) = nI x from by rw [ex]; rfl]
                  refine x_Si (pc := 52) ks_X7_158 dX7_won_52 (hX7_bits hx8) rfl rfl rfl (Nat.le_of_ble_eq_true rfl) ?_
                  refine x_icmp_ge (pc := 55) dX7_won_55 (tgt := 62) rfl (fun h55 => ?_) (fun h55 => ?_)
                  ·
                    rw [bI_f (fun q => (pLe_f _ _).mp q.2 (by rw [ex]; exact h55)), show pWm (WN j) = nI x from by rw [ex]; rfl] at hgo
                    refine x_iconst (pc := 62) (v := 0) dX7_won_62 rfl ?_
                    exact hgo
                  ·
                    rw [bI_t ⟨h39, (pLe_f _ _).mpr (by rw [ex]; exact h55)⟩, show pWm (WN j) = nI x from by rw [ex]; rfl] at hgo
                    refine x_iconst (pc := 58) (v := 1) dX7_won_58 rfl ?_
                    refine x_goto (pc := 59) dX7_won_59 (tgt := 63) rfl ?_
                    exact hgo
          · show fv_X E mX7_won _ _ 26 [some (.ref 106), some (.int (nI k)), some (.int (nI u)), some (.int (pWm (WN K))), some (.int (nI K)), none] [] M1
            refine x_iload (pc := 26) dX7_won_26 rfl ?_
            refine x_aload_n (pc := 28) dX7_won_28 rfl rfl ?_
            refine x_Vi (pc := 29) ks_X7_129 dX7_won_29 (tb_106) rfl rfl ((hX7_allBirds hB1).v a1) rfl rfl rfl (Nat.le_of_ble_eq_true rfl) ?_
            refine x_icmp_gt (pc := 32) dX7_won_32 (tgt := 95) rfl (fun h32 => ?_) (fun h32 => ?_)
            ·
              refine x_iload_n (pc := 95) dX7_won_95 rfl rfl ?_
              refine x_if_ge (pc := 96) dX7_won_96 (tgt := 107) rfl (fun h96 => ?_) (fun h96 => ?_)
              ·
                exact absurd ((hneg K (Nat.le_refl K)).1.mpr hres) (Int32.not_lt.mpr h96)
              ·
                refine x_aload_n (pc := 99) dX7_won_99 rfl rfl ?_
                refine x_iconst (pc := 100) (v := 3) dX7_won_100 rfl ?_
                refine x_Vi (pc := 101) ks_X7_114 dX7_won_101 (tb_106) rfl rfl (hX7_noL 3 (-1000004) (by decide) (by decide +kernel)) rfl rfl rfl (Nat.le_of_ble_eq_true rfl) ?_
                refine x_goto (pc := 104) dX7_won_104 (tgt := 108) rfl ?_
                refine x_iret (pc := 108) dX7_won_108 rfl (by first | rfl | exact fv_nz _) ?_
                exact ⟨rfl, M1, pFr.rfl', fun _ _ _ => pEq.rfl', rfl⟩
            ·
              exact absurd (nI_lt (by omega) (by omega)) h32
        ·
          contradiction
    | some x =>
      refine pOp.qry (v := nI x) I ?_ (fun M1 hF => ?_)
      · have hbec := hX4_become (E := E) (d := 10) (s := 1) (t := 0) (nb := nb) (nm := nm) (M := M) hs1 hs0 (by decide) hB hb hM hn
        generalize hρ : pSB (M 1) (M 0) nb nm = ρ at hbec
        have hρe : pEq nb nm ρ (M 0) := by rw [← hρ]; exact pSB_eq hb
        have hGρ : pGd ρ nb nm := hG.cg hρe
        have n0 : ∀ X, (fv_s M 1 X) 0 = M 0 := fun X => fv_s_ne _ _ (by decide)
        have hI0 : fv_s M 1 ρ = fv_s M 1 (fv_u ρ (fM k 2) (ρ (fM k 2))) := by rw [fv_u_id]
        refine fv_P.of (ls := [some (.ref 0), some (.int (nI k)), none, none, none, none, none, none]) (by decide) (Nat.le_of_ble_eq_true rfl) rfl ?_
        refine x_aload_n (pc := 0) dX6_won_0 rfl rfl ?_
        refine x_geta (pc := 1) fl_X6_12 dX6_won_1 (tb_fv) rfl ?_
        refine x_iload_n (pc := 4) dX6_won_4 rfl rfl ?_
        refine x_Vi (pc := 5) ks_X6_94 dX6_won_5 (tb_st (by assumption)) rfl rfl (hHm hM) rfl rfl rfl (Nat.le_of_ble_eq_true rfl) ?_
        refine x_ifb_ne (pc := 8) dX6_won_8 (tgt := 18) rfl (fun h8 => ?_) (fun h8 => ?_)
        ·
          refine x_aload_n (pc := 18) dX6_won_18 rfl rfl ?_
          refine x_geta (pc := 19) fl_X6_16 dX6_won_19 (tb_fv) rfl ?_
          refine x_aload_n (pc := 22) dX6_won_22 rfl rfl ?_
          refine x_geta (pc := 23) fl_X6_12 dX6_won_23 (tb_fv) rfl ?_
          refine x_Vv (pc := 26) ks_X6_150 dX6_won_26 (tb_st (by assumption)) rfl rfl (hbec) rfl rfl rfl (Nat.le_of_ble_eq_true rfl) ?_
          refine x_aload_n (pc := 29) dX6_won_29 rfl rfl ?_
          refine x_geta (pc := 30) fl_X6_12 dX6_won_30 (tb_fv) rfl ?_
          refine x_Vi (pc := 33) ks_X6_104 dX6_won_33 (tb_st (by assumption)) rfl rfl (((hX4_allBirds hs0 (by rw [n0]; exact hB)).v a1)) rfl rfl rfl (Nat.le_of_ble_eq_true rfl) ?_
          refine x_istore_n2 (pc := 36) dX6_won_36 rfl ?_
          refine x_aload_n (pc := 37) dX6_won_37 rfl rfl ?_
          refine x_geta (pc := 38) fl_X6_12 dX6_won_38 (tb_fv) rfl ?_
          refine x_geta (pc := 41) fl_X6_97 dX6_won_41 (tb_st (by assumption)) rfl ?_
          refine x_iload_n (pc := 44) dX6_won_44 rfl rfl ?_
          refine x_motion (pc := 45) dX6_won_45 (by assumption) (rfl) (hk8) ?_
          refine x_geti (pc := 46) fl_X6_159 dX6_won_46 (tb_m (by assumption) (by assumption)) rfl ((congrFun (n0 ρ) _).trans eu) ?_
          refine x_istore_n3 (pc := 49) dX6_won_49 rfl ?_
          refine x_ldc (pc := 50) kc_X6_154 dX6_won_50 ?_
          refine x_istore4 (pc := 52) dX6_won_52 rfl ?_
          refine x_bipush (pc := 54) (v := 9) dX6_won_54 rfl ?_
          refine x_istore5 (pc := 56) dX6_won_56 rfl ?_
          refine x_iconst (pc := 58) (v := 0) dX6_won_58 rfl ?_
          refine x_istore6 (pc := 59) dX6_won_59 rfl ?_
          refine x_loopI (fun j => [some (.ref 0), some (.int (nI k)), some (.int (nI (K - 1))), some (.int (nI u)), some (.int (pWc (WN j))), some (.int (pWf (WN j))), some (.int (nI j)), none]) (fun j M' => ∃ w, M' = fv_s M 1 (fv_u ρ (fM k 2) w)) K (by rw [← hWn]; rfl) ⟨_, hI0⟩ ?_ ?_
          · rintro j M' hj ⟨w, rfl⟩ hL
            have hj8 : j < 256 := by omega
            have hgo : fv_X E mX6_won (12 + 1) (fun r' M' => r' = some (.int (nI x)) ∧ pFr pJk M M') 89 [some (.ref 0), some (.int (nI k)), some (.int (nI (K - 1))), some (.int (nI u)), some (.int (pWc (WN j))), some (.int (pWf (WN j))), some (.int (nI j)), none] [.int (bI (nI j &&& nI u = 0 ∧ pLe (WN j) j = true))] (fv_s M 1 (fv_u ρ (fM k 2) w)) := by
              refine x_istore7 (pc := 89) dX6_won_89 rfl ?_
              refine x_iload (pc := 91) dX6_won_91 rfl ?_
              refine x_ifb_eq (pc := 93) dX6_won_93 (tgt := 119) rfl (fun h93 => ?_) (fun h93 => ?_)
              ·
                rw [hs0' j (fun q => h93 q.1)] at hL
                refine x_fg7 ?_
                refine x_iinc6 (pc := 119) dX6_won_119 (by first | exact fv_inc _ | exact fv_dec _ | rfl) rfl ?_
                refine x_goto (pc := 122) dX6_won_122 (tgt := 61) rfl ?_
                exact hL _ ⟨_, rfl⟩
              ·
                refine x_aload_n (pc := 96) dX6_won_96 rfl rfl ?_
                refine x_iload_n (pc := 97) dX6_won_97 rfl rfl ?_
                refine x_iload_n (pc := 98) dX6_won_98 rfl rfl ?_
                refine x_iload (pc := 99) dX6_won_99 rfl ?_
                refine x_ior (pc := 101) dX6_won_101 ?_
                refine x_Vi (pc := 102) ks_X6_162 dX6_won_102 (tb_fv) rfl rfl (hX6_try hG hρe hk) rfl rfl rfl (Nat.le_of_ble_eq_true rfl) ?_
                refine x_ifb_eq (pc := 105) dX6_won_105 (tgt := 119) rfl (fun h105 => ?_) (fun h105 => ?_)
                ·
                  rw [hs0' j (fun q => h105 q.2)] at hL
                  refine x_fg7 ?_
                  refine x_iinc6 (pc := 119) dX6_won_119 (by first | exact fv_inc _ | exact fv_dec _ | rfl) rfl ?_
                  refine x_goto (pc := 122) dX6_won_122 (tgt := 61) rfl ?_
                  exact hL _ ⟨_, rfl⟩
                ·
                  rw [hs1' j ⟨h93, h105⟩] at hL
                  refine x_iload (pc := 108) dX6_won_108 rfl ?_
                  refine x_istore4 (pc := 110) dX6_won_110 rfl ?_
                  refine x_iload (pc := 112) dX6_won_112 rfl ?_
                  refine x_Si (pc := 114) ks_X6_165 dX6_won_114 (hJ6_bitCount_0f7a4 hj8) rfl rfl rfl (Nat.le_of_ble_eq_true rfl) ?_
                  refine x_istore5 (pc := 117) dX6_won_117 rfl ?_
                  refine x_fg7 ?_
                  refine x_iinc6 (pc := 119) dX6_won_119 (by first | exact fv_inc _ | exact fv_dec _ | rfl) rfl ?_
                  refine x_goto (pc := 122) dX6_won_122 (tgt := 61) rfl ?_
                  exact hL _ ⟨_, rfl⟩
            refine x_iload (pc := 61) dX6_won_61 rfl ?_
            refine x_iload_n (pc := 63) dX6_won_63 rfl rfl ?_
            refine x_icmp_gt (pc := 64) dX6_won_64 (tgt := 125) rfl (fun h64 => ?_) (fun h64 => ?_)
            ·
              exact absurd h64 (nI_nlt (by omega) (by omega))
            ·
              refine x_iload (pc := 67) dX6_won_67 rfl ?_
              refine x_iload_n (pc := 69) dX6_won_69 rfl rfl ?_
              refine x_iand (pc := 70) dX6_won_70 ?_
              refine x_if_ne (pc := 71) dX6_won_71 (tgt := 88) rfl (fun h71 => ?_) (fun h71 => ?_)
              ·
                rw [bI_f (fun q => h71 q.1)] at hgo
                refine x_iconst (pc := 88) (v := 0) dX6_won_88 rfl ?_
                exact hgo
              ·
                refine x_iload (pc := 74) dX6_won_74 rfl ?_
                refine x_Si (pc := 76) ks_X6_165 dX6_won_76 (hJ6_bitCount_0f7a4 hj8) rfl rfl rfl (Nat.le_of_ble_eq_true rfl) ?_
                refine x_iload (pc := 79) dX6_won_79 rfl ?_
                refine x_icmp_ge (pc := 81) dX6_won_81 (tgt := 88) rfl (fun h81 => ?_) (fun h81 => ?_)
                ·
                  rw [bI_f (fun q => (pLe_f _ _).mp q.2 h81)] at hgo
                  refine x_iconst (pc := 88) (v := 0) dX6_won_88 rfl ?_
                  exact hgo
                ·
                  rw [bI_t ⟨h71, (pLe_f _ _).mpr h81⟩] at hgo
                  refine x_iconst (pc := 84) (v := 1) dX6_won_84 rfl ?_
                  refine x_goto (pc := 85) dX6_won_85 (tgt := 89) rfl ?_
                  exact hgo
          · rintro M' ⟨w, rfl⟩
            refine x_iload (pc := 61) dX6_won_61 rfl ?_
            refine x_iload_n (pc := 63) dX6_won_63 rfl rfl ?_
            refine x_icmp_gt (pc := 64) dX6_won_64 (tgt := 125) rfl (fun h64 => ?_) (fun h64 => ?_)
            ·
              refine x_iload (pc := 125) dX6_won_125 rfl ?_
              refine x_ldc (pc := 127) kc_X6_154 dX6_won_127 ?_
              refine x_icmp_ne (pc := 129) dX6_won_129 (tgt := 141) rfl (fun h129 => ?_) (fun h129 => ?_)
              ·
                refine x_iload (pc := 141) dX6_won_141 rfl ?_
                refine x_iret (pc := 143) dX6_won_143 rfl (by first | rfl | exact fv_nz _) ?_
                exact ⟨by rw [hres]; rfl, pFr.rfl'.s (by decide)⟩
              ·
                exact absurd ((hneg K (Nat.le_refl K)).2.mp h129) (by rw [hres]; exact fun q => by cases q)
            ·
              exact absurd (nI_lt (by omega) (by omega)) h64
        ·
          contradiction
      · skip
        have e22 : M1 22 = M 22 := hF 22 (by decide)
        have hG1 : pGd (M1 22) nb nm := by rw [e22]; exact hG2
        have hE1 : pEq nb nm (M1 22) (M 0) := by rw [e22]; exact hE
        have hB1 := hG1.1
        have hM1 := hG1.2.2.1
        refine fv_P.of (ls := [some (.ref 106), some (.int (nI k)), none, none, none, none]) (by decide) (Nat.le_of_ble_eq_true rfl) rfl ?_
        refine x_aload_n (pc := 0) dX7_won_0 rfl rfl ?_
        refine x_iload_n (pc := 1) dX7_won_1 rfl rfl ?_
        refine x_Vi (pc := 2) ks_X7_126 dX7_won_2 (tb_106) rfl rfl (hX7_isMotion (x := nI nm) hM1) rfl rfl rfl (Nat.le_of_ble_eq_true rfl) ?_
        refine x_ifb_ne (pc := 5) dX7_won_5 (tgt := 14) rfl (fun h5 => ?_) (fun h5 => ?_)
        ·
          refine x_aload_n (pc := 14) dX7_won_14 rfl rfl ?_
          refine x_iload_n (pc := 15) dX7_won_15 rfl rfl ?_
          refine x_iconst (pc := 16) (v := 2) dX7_won_16 rfl ?_
          refine x_Vi (pc := 17) ks_X7_80 dX7_won_17 (tb_106) rfl rfl (((hX7_of1 (f := 2) hk8 (by decide)).v (hE1.m hk (by decide))).v eu) rfl rfl rfl (Nat.le_of_ble_eq_true rfl) ?_
          refine x_istore_n2 (pc := 20) dX7_won_20 rfl ?_
          refine x_iconst (pc := 21) (v := (-1)) dX7_won_21 fv_m1 ?_
          refine x_istore_n3 (pc := 22) dX7_won_22 rfl ?_
          refine x_iconst (pc := 23) (v := 0) dX7_won_23 rfl ?_
          refine x_istore4 (pc := 24) dX7_won_24 rfl ?_
          refine x_loop (fun j => [some (.ref 106), some (.int (nI k)), some (.int (nI u)), some (.int (pWm (WN j))), some (.int (nI j)), none]) (fun _ => M1) K (by rw [← hWn]; rfl) rfl (fun j hj hL => ?_) ?_
          · show fv_X E mX7_won _ _ 26 [some (.ref 106), some (.int (nI k)), some (.int (nI u)), some (.int (pWm (WN j))), some (.int (nI j)), none] [] M1
            replace hL : fv_X E mX7_won (12 + 1) (fun r' M2 => r' = some (.int (nI x)) ∧ pFr (21 :: 22 :: pJm) M1 M2 ∧ M2 21 3 = M1 21 3 ∧ M2 21 12 = M1 21 12 ∧ ∀ nb nm, pI1 (M1 0) (M1 22) nb nm → pEq nb nm (M2 22) (M1 22)) 26 [some (.ref 106), some (.int (nI k)), some (.int (nI u)), some (.int (pWm (WN (j + 1)))), some (.int (nI (j + 1))), none] [] M1 := hL
            have hj8 : j < 256 := by omega
            have hx := pOu_at hu hj8
            have hgo : fv_X E mX7_won (12 + 1) (fun r' M2 => r' = some (.int (nI x)) ∧ pFr (21 :: 22 :: pJm) M1 M2 ∧ M2 21 3 = M1 21 3 ∧ M2 21 12 = M1 21 12 ∧ ∀ nb nm, pI1 (M1 0) (M1 22) nb nm → pEq nb nm (M2 22) (M1 22)) 63 [some (.ref 106), some (.int (nI k)), some (.int (nI u)), some (.int (pWm (WN j))), some (.int (nI j)), none] [.int (bI (nI j &&& nI u = 0 ∧ pLe (WN j) j = true))] M1 := by
              refine x_istore5 (pc := 63) dX7_won_63 rfl ?_
              refine x_iload (pc := 65) dX7_won_65 rfl ?_
              refine x_ifb_eq (pc := 67) dX7_won_67 (tgt := 87) rfl (fun h67 => ?_) (fun h67 => ?_)
              ·
                rw [hs0' j (fun q => h67 q.1)] at hL
                refine x_iload_n (pc := 87) dX7_won_87 rfl rfl ?_
                refine x_istore_n3 (pc := 88) dX7_won_88 rfl ?_
                refine x_fg5 ?_
                refine x_iinc4 (pc := 89) dX7_won_89 (by first | exact fv_inc _ | exact fv_dec _ | rfl) rfl ?_
                refine x_goto (pc := 92) dX7_won_92 (tgt := 26) rfl ?_
                exact hL
              ·
                refine x_aload_n (pc := 70) dX7_won_70 rfl rfl ?_
                refine x_iload_n (pc := 71) dX7_won_71 rfl rfl ?_
                refine x_iload_n (pc := 72) dX7_won_72 rfl rfl ?_
                refine x_iload (pc := 73) dX7_won_73 rfl ?_
                refine x_ior (pc := 75) dX7_won_75 ?_
                rw [hx.1]
                refine x_Vi (pc := 76) ks_X7_97 dX7_won_76 (tb_106) rfl rfl (hX7_pby hG1 hE1 hk hx.2) rfl rfl rfl (Nat.le_of_ble_eq_true rfl) ?_
                rw [← hx.1]
                refine x_ifb_eq (pc := 79) dX7_won_79 (tgt := 87) rfl (fun h79 => ?_) (fun h79 => ?_)
                ·
                  rw [hs0' j (fun q => h79 q.2)] at hL
                  refine x_iload_n (pc := 87) dX7_won_87 rfl rfl ?_
                  refine x_istore_n3 (pc := 88) dX7_won_88 rfl ?_
                  refine x_fg5 ?_
                  refine x_iinc4 (pc := 89) dX7_won_89 (by first | exact fv_inc _ | exact fv_dec _ | rfl) rfl ?_
                  refine x_goto (pc := 92) dX7_won_92 (tgt := 26) rfl ?_
                  exact hL
                ·
                  rw [hs1' j ⟨h67, h79⟩] at hL
                  refine x_iload (pc := 82) dX7_won_82 rfl ?_
                  refine x_goto (pc := 84) dX7_won_84 (tgt := 88) rfl ?_
                  refine x_istore_n3 (pc := 88) dX7_won_88 rfl ?_
                  refine x_fg5 ?_
                  refine x_iinc4 (pc := 89) dX7_won_89 (by first | exact fv_inc _ | exact fv_dec _ | rfl) rfl ?_
                  refine x_goto (pc := 92) dX7_won_92 (tgt := 26) rfl ?_
                  exact hL
            refine x_iload (pc := 26) dX7_won_26 rfl ?_
            refine x_aload_n (pc := 28) dX7_won_28 rfl rfl ?_
            refine x_Vi (pc := 29) ks_X7_129 dX7_won_29 (tb_106) rfl rfl ((hX7_allBirds hB1).v a1) rfl rfl rfl (Nat.le_of_ble_eq_true rfl) ?_
            refine x_icmp_gt (pc := 32) dX7_won_32 (tgt := 95) rfl (fun h32 => ?_) (fun h32 => ?_)
            ·
              exact absurd h32 (nI_nlt (by omega) (by omega))
            ·
              refine x_iload (pc := 35) dX7_won_35 rfl ?_
              refine x_iload_n (pc := 37) dX7_won_37 rfl rfl ?_
              refine x_iand (pc := 38) dX7_won_38 ?_
              refine x_if_ne (pc := 39) dX7_won_39 (tgt := 62) rfl (fun h39 => ?_) (fun h39 => ?_)
              ·
                rw [bI_f (fun q => h39 q.1)] at hgo
                refine x_iconst (pc := 62) (v := 0) dX7_won_62 rfl ?_
                exact hgo
              ·
                refine x_iload_n (pc := 42) dX7_won_42 rfl rfl ?_
                refine x_if_lt (pc := 43) dX7_won_43 (tgt := 58) rfl (fun h43 => ?_) (fun h43 => ?_)
                ·
                  have en := (hneg j (by omega)).1.mp h43
                  rw [bI_t ⟨h39, by rw [en]; rfl⟩] at hgo
                  refine x_iconst (pc := 58) (v := 1) dX7_won_58 rfl ?_
                  refine x_goto (pc := 59) dX7_won_59 (tgt := 63) rfl ?_
                  exact hgo
                ·
                  obtain ⟨x, ex⟩ : ∃ x, WN j = some x := Option.ne_none_iff_exists'.mp (fun q => h43 ((hneg j (by omega)).1.mpr q))
                  have hx8 : x < 256 := by have := hlt j x ex; omega
                  refine x_iload (pc := 46) dX7_won_46 rfl ?_
                  refine x_Si (pc := 48) ks_X7_158 dX7_won_48 (hX7_bits hj8) rfl rfl rfl (Nat.le_of_ble_eq_true rfl) ?_
                  refine x_iload_n (pc := 51) dX7_won_51 rfl rfl ?_
                  rw [show pWm (WN j) = nI x from by rw [ex]; rfl]
                  refine x_Si (pc := 52) ks_X7_158 dX7_won_52 (hX7_bits hx8) rfl rfl rfl (Nat.le_of_ble_eq_true rfl) ?_
                  refine x_icmp_ge (pc := 55) dX7_won_55 (tgt := 62) rfl (fun h55 => ?_) (fun h55 => ?_)
                  ·
                    rw [bI_f (fun q => (pLe_f _ _).mp q.2 (by rw [ex]; exact h55)), show pWm (WN j) = nI x from by rw [ex]; rfl] at hgo
                    refine x_iconst (pc := 62) (v := 0) dX7_won_62 rfl ?_
                    exact hgo
                  ·
                    rw [bI_t ⟨h39, (pLe_f _ _).mpr (by rw [ex]; exact h55)⟩, show pWm (WN j) = nI x from by rw [ex]; rfl] at hgo
                    refine x_iconst (pc := 58) (v := 1) dX7_won_58 rfl ?_
                    refine x_goto (pc := 59) dX7_won_59 (tgt := 63) rfl ?_
                    exact hgo
          · show fv_X E mX7_won _ _ 26 [some (.ref 106), some (.int (nI k)), some (.int (nI u)), some (.int (pWm (WN K))), some (.int (nI K)), none] [] M1
            refine x_iload (pc := 26) dX7_won_26 rfl ?_
            refine x_aload_n (pc := 28) dX7_won_28 rfl rfl ?_
            refine x_Vi (pc := 29) ks_X7_129 dX7_won_29 (tb_106) rfl rfl ((hX7_allBirds hB1).v a1) rfl rfl rfl (Nat.le_of_ble_eq_true rfl) ?_
            refine x_icmp_gt (pc := 32) dX7_won_32 (tgt := 95) rfl (fun h32 => ?_) (fun h32 => ?_)
            ·
              refine x_iload_n (pc := 95) dX7_won_95 rfl rfl ?_
              refine x_if_ge (pc := 96) dX7_won_96 (tgt := 107) rfl (fun h96 => ?_) (fun h96 => ?_)
              ·
                refine x_iload_n (pc := 107) dX7_won_107 rfl rfl ?_
                refine x_iret (pc := 108) dX7_won_108 rfl (by first | rfl | exact fv_nz _) ?_
                exact ⟨by rw [hres]; rfl, pFr.rfl', rfl, rfl, fun _ _ _ => pEq.rfl'⟩
              ·
                exact absurd ((hneg K (Nat.le_refl K)).1.mp (Int32.not_le.mp h96)) (by rw [hres]; exact fun q => by cases q)
            ·
              exact absurd (nI_lt (by omega) (by omega)) h32
        ·
          contradiction
  · skip
    refine pOp.bad (v := -1000001) 0 I ?_ (fun M1 hF => ?_)
    · skip
      refine fv_F.of (ls := [some (.ref 0), some (.int m), none, none, none, none, none, none]) (by decide) (Nat.le_of_ble_eq_true rfl) rfl ?_
      refine x_aload_n (pc := 0) dX6_won_0 rfl rfl ?_
      refine x_geta (pc := 1) fl_X6_12 dX6_won_1 (tb_fv) rfl ?_
      refine x_iload_n (pc := 4) dX6_won_4 rfl rfl ?_
      refine x_Vi (pc := 5) ks_X6_94 dX6_won_5 (tb_st (by assumption)) rfl rfl (hHm hM) rfl rfl rfl (Nat.le_of_ble_eq_true rfl) ?_
      refine x_ifb_ne (pc := 8) dX6_won_8 (tgt := 18) rfl (fun h8 => ?_) (fun h8 => ?_)
      ·
        contradiction
      ·
        refine x_aload_n (pc := 11) dX6_won_11 rfl rfl ?_
        refine x_ldc (pc := 12) kc_X6_55 dX6_won_12 ?_
        refine x_Vi (pc := 14) ks_X6_56 dX6_won_14 (tb_fv) rfl rfl (hX6_fin 0 (-1000001) (by decide +kernel) (by decide)) rfl rfl rfl (Nat.le_of_ble_eq_true rfl) ?_
        refine x_iret (pc := 17) dX6_won_17 rfl (by first | rfl | exact fv_nz _) ?_
        exact ⟨rfl, rfl⟩
    · skip
      have e22 : M1 22 = M 22 := hF 22 (by decide)
      have hG1 : pGd (M1 22) nb nm := by rw [e22]; exact hG2
      have hE1 : pEq nb nm (M1 22) (M 0) := by rw [e22]; exact hE
      have hB1 := hG1.1
      have hM1 := hG1.2.2.1
      refine fv_F.of (ls := [some (.ref 106), some (.int m), none, none, none, none]) (by decide) (Nat.le_of_ble_eq_true rfl) rfl ?_
      refine x_aload_n (pc := 0) dX7_won_0 rfl rfl ?_
      refine x_iload_n (pc := 1) dX7_won_1 rfl rfl ?_
      refine x_Vi (pc := 2) ks_X7_126 dX7_won_2 (tb_106) rfl rfl (hX7_isMotion (x := nI nm) hM1) rfl rfl rfl (Nat.le_of_ble_eq_true rfl) ?_
      refine x_ifb_ne (pc := 5) dX7_won_5 (tgt := 14) rfl (fun h5 => ?_) (fun h5 => ?_)
      ·
        contradiction
      ·
        refine x_aload_n (pc := 8) dX7_won_8 rfl rfl ?_
        refine x_iconst (pc := 9) (v := 0) dX7_won_9 rfl ?_
        refine x_Vi (pc := 10) ks_X7_114 dX7_won_10 (tb_106) rfl rfl (hX7_noL 0 (-1000001) (by decide) (by decide +kernel)) rfl rfl rfl (Nat.le_of_ble_eq_true rfl) ?_
        refine x_iret (pc := 13) dX7_won_13 rfl (by first | rfl | exact fv_nz _) ?_
        exact ⟨rfl, rfl⟩
