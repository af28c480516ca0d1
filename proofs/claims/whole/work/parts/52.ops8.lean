section INV
variable {M M' : fv_M}
theorem pInv.kept (I : pInv M) (F : pFr [0, 2, 3, 21, 22, 23] M M') (h0 : ∃ nb nm, pI1 (M' 0) (M' 22) nb nm) (h2 : pI2 (M' 3 3) (M' 21 3) (M' 2) (M' 23)) (h12 : M' 21 12 = M 21 12) : pInv M' := by
  obtain ⟨i1, i2, i3, i4, i5, i6⟩ := I
  refine ⟨h0, h2, ?_, fun t ht => ?_, ?_, ?_⟩
  · rw [h12, F 4 (by decide), F 5 (by decide), F 29 (by decide)]; exact i3
  · have hh : 13 + 2 * t ∉ [0, 2, 3, 21, 22, 23] ∧ 14 + 2 * t ∉ [0, 2, 3, 21, 22, 23] := by
      match t, ht with
      | 0, _ => decide
      | 1, _ => decide
      | 2, _ => decide
      | 3, _ => decide
      | n + 4, h => omega
    rw [F _ hh.1, F _ hh.2, F 34 (by decide), F 35 (by decide), F 36 (by decide)]; exact i4 t ht
  · rw [F 12 (by decide), F 25 (by decide)]; exact i5
  · rw [F 30 (by decide), F 31 (by decide), F 32 (by decide), F 33 (by decide)]; exact i6
theorem pInv.tape (I : pInv M) (F : pFr [4, 5, 21, 29] M M') (h3 : pI3 (M' 4 0) (M' 21 12) (M' 5) (M' 29)) (h21 : M' 21 3 = M 21 3) : pInv M' := by
  obtain ⟨i1, i2, i3, i4, i5, i6⟩ := I
  refine ⟨?_, ?_, h3, fun t ht => ?_, ?_, ?_⟩
  · rw [F 0 (by decide), F 22 (by decide)]; exact i1
  · rw [h21, F 3 (by decide), F 2 (by decide), F 23 (by decide)]; exact i2
  · have hh : 13 + 2 * t ∉ [4, 5, 21, 29] ∧ 14 + 2 * t ∉ [4, 5, 21, 29] := by
      match t, ht with
      | 0, _ => decide
      | 1, _ => decide
      | 2, _ => decide
      | 3, _ => decide
      | n + 4, h => omega
    rw [F _ hh.1, F _ hh.2, F 34 (by decide), F 35 (by decide), F 36 (by decide)]; exact i4 t ht
  · rw [F 12 (by decide), F 25 (by decide)]; exact i5
  · rw [F 30 (by decide), F 31 (by decide), F 32 (by decide), F 33 (by decide)]; exact i6
end INV
theorem hX7_isSpot {E : fv_E} {d : Nat} {k : Int32} {M : fv_M} : fv_F E (d + 1) mX7_isSpot [.int k] M (some (.int (bI (0 ≤ k ∧ k ≤ 9)))) M := by
  refine fv_F.of (ls := [some (.int k)]) (by decide) (Nat.le_of_ble_eq_true rfl) rfl ?_
  refine x_iload_n (pc := 0) dX7_isSpot_0 rfl rfl ?_
  refine x_iconst (pc := 1) (v := 0) dX7_isSpot_1 rfl ?_
  refine x_bipush (pc := 2) (v := 9) dX7_isSpot_2 rfl ?_
  refine x_Si (pc := 4) ks_X7_60 dX7_isSpot_4 (hX7_in1) rfl rfl rfl (Nat.le_of_ble_eq_true rfl) ?_
  refine x_iret (pc := 7) dX7_isSpot_7 rfl (by first | rfl | exact fv_nz _) ?_
  exact ⟨rfl, rfl⟩
def pAb (k : Nat) : Nat := if k = 6 then 5 else if k = 4 then 3 else if k = 3 then 2 else 0
theorem hX7_above {E : fv_E} {d k : Nat} {M : fv_M} (hk : k < 7) : fv_F E d mX7_above [.int (nI k)] M (some (.int (nI (pAb k)))) M := by
  have q : ∀ a b : Nat, a < 7 → b < 7 → (nI a = nI b ↔ a = b) := fun a b _ _ => nI_eq (by omega) (by omega)
  refine fv_F.of (ls := [some (.int (nI k))]) (by decide) (Nat.le_of_ble_eq_true rfl) rfl ?_
  refine x_iload_n (pc := 0) dX7_above_0 rfl rfl ?_
  refine x_bipush (pc := 1) (v := 6) dX7_above_1 rfl ?_
  refine x_icmp_ne (pc := 3) dX7_above_3 (tgt := 10) rfl (fun h3 => ?_) (fun h3 => ?_)
  ·
    have n6 : ¬ k = 6 := fun e => h3 (congrArg nI e)
    refine x_iload_n (pc := 10) dX7_above_10 rfl rfl ?_
    refine x_iconst (pc := 11) (v := 4) dX7_above_11 rfl ?_
    refine x_icmp_ne (pc := 12) dX7_above_12 (tgt := 19) rfl (fun h12 => ?_) (fun h12 => ?_)
    ·
      have n4 : ¬ k = 4 := fun e => h12 (congrArg nI e)
      refine x_iload_n (pc := 19) dX7_above_19 rfl rfl ?_
      refine x_iconst (pc := 20) (v := 3) dX7_above_20 rfl ?_
      refine x_icmp_ne (pc := 21) dX7_above_21 (tgt := 28) rfl (fun h21 => ?_) (fun h21 => ?_)
      ·
        have n3 : ¬ k = 3 := fun e => h21 (congrArg nI e)
        refine x_iconst (pc := 28) (v := 0) dX7_above_28 rfl ?_
        refine x_iret (pc := 29) dX7_above_29 rfl (by first | rfl | exact fv_nz _) ?_
        refine ⟨?_, rfl⟩
        unfold pAb
        first | (subst e; rfl) | (rw [if_neg n6, if_neg n4, if_neg n3]; rfl)
      ·
        have e : k = 3 := (q k 3 hk (by decide)).mp h21
        refine x_iconst (pc := 24) (v := 2) dX7_above_24 rfl ?_
        refine x_goto (pc := 25) dX7_above_25 (tgt := 29) rfl ?_
        refine x_iret (pc := 29) dX7_above_29 rfl (by first | rfl | exact fv_nz _) ?_
        refine ⟨?_, rfl⟩
        unfold pAb
        first | (subst e; rfl) | (rw [if_neg n6, if_neg n4, if_neg n3]; rfl)
    ·
      have e : k = 4 := (q k 4 hk (by decide)).mp h12
      refine x_iconst (pc := 15) (v := 3) dX7_above_15 rfl ?_
      refine x_goto (pc := 16) dX7_above_16 (tgt := 29) rfl ?_
      refine x_iret (pc := 29) dX7_above_29 rfl (by first | rfl | exact fv_nz _) ?_
      refine ⟨?_, rfl⟩
      unfold pAb
      first | (subst e; rfl) | (rw [if_neg n6, if_neg n4, if_neg n3]; rfl)
  ·
    have e : k = 6 := (q k 6 hk (by decide)).mp h3
    refine x_iconst (pc := 6) (v := 5) dX7_above_6 rfl ?_
    refine x_goto (pc := 7) dX7_above_7 (tgt := 29) rfl ?_
    refine x_iret (pc := 29) dX7_above_29 rfl (by first | rfl | exact fv_nz _) ?_
    refine ⟨?_, rfl⟩
    unfold pAb
    first | (subst e; rfl) | (rw [if_neg n6, if_neg n4, if_neg n3]; rfl)
def pAbN (k : Nat) : Nat → Nat
  | 0 => k
  | n + 1 => pAb (pAbN k n)
def pAbT (k a : Nat) : Nat := wT (fun j => !(decide (pAbN k j = a) || decide (pAbN k j = 0))) 7
theorem pAb_all : ((List.range 7).all fun k => (List.range 7).all fun a => decide ((pAbN k (pAbT k a) = a ∨ pAbN k (pAbT k a) = 0) ∧ (pAbN k (pAbT k a) = a ↔ a ∈ pCh k)) && (List.range 8).all fun j => decide (pAbN k j < 7)) = true := by decide +kernel
theorem pAb_at {k a : Nat} (hk : k < 7) (ha : a < 7) : ((pAbN k (pAbT k a) = a ∨ pAbN k (pAbT k a) = 0) ∧ (pAbN k (pAbT k a) = a ↔ a ∈ pCh k)) ∧ ∀ j, j < 8 → pAbN k j < 7 := by
  have h := fv_all1 (fv_all1 pAb_all hk) ha
  rw [Bool.and_eq_true] at h
  exact ⟨of_decide_eq_true h.1, fun j hj => of_decide_eq_true (fv_all1 h.2 hj)⟩
theorem op_hold {E : fv_E} {k b : Int32} {M : fv_M} (I : pInv M) : pOp E mX6_hold mX7_hold [.int k, .int b] M := by
  obtain ⟨nb, nm, hG, hE, t, ht, eT⟩ := I.1
  have hs0 : 0 < 3 := by decide
  have hs1 : 1 < 3 := by decide
  have hB := hG.1
  have hb := hG.2.1
  have hM := hG.2.2.1
  have hn := hG.2.2.2.1
  have hK := hG.K
  have hC := hG.C
  have hG2 : pGd (M 22) nb nm := hG.cg hE
  by_cases hk : 0 ≤ k ∧ k ≤ 9
  · obtain ⟨z, hz, rfl⟩ := pUm (n := 9) (by decide) hk
    by_cases hbn : b = -1 ∨ (0 ≤ b ∧ b ≤ nI nb - 1)
    · have hG3 : pGd (fv_u (M 0) (104 + z) b) nb nm := pGd_u hG (by omega) (by omega) (fun b' hb' => pG1_of (fun j j1 j2 => by unfold fB at j1 j2; exact fv_u_ne _ _ (by omega)) (hG.2.2.2.2.1 b' hb')) (fun m hm => pG2_of (fun j j1 j2 => by unfold fM at j1 j2; exact fv_u_ne _ _ (by omega)) (hG.2.2.2.2.2.1 m hm)) (fun c _ e => by omega) (fun c _ e => by
        rcases hbn with q | q
        · exact Or.inl q
        · obtain ⟨x, hx, e2⟩ := pUx (by omega) q
          exact Or.inr ⟨x, hx, e2⟩) (fun e => by omega)
      refine pOp.mut (v := 1) (fv_u (M 0) (104 + z) b) I ?_ (fun M1 hF h0 => ?_)
      · skip
        refine fv_P.of (ls := [some (.ref 0), some (.int (nI z)), some (.int b)]) (by decide) (Nat.le_of_ble_eq_true rfl) rfl ?_
        refine x_iload_n (pc := 0) dX6_hold_0 rfl rfl ?_
        refine x_bipush (pc := 1) (v := 9) dX6_hold_1 rfl ?_
        refine x_Si (pc := 3) ks_X6_51 dX6_hold_3 (hX6_isUpTo) rfl rfl rfl (Nat.le_of_ble_eq_true rfl) ?_
        refine x_ifb_eq (pc := 6) dX6_hold_6 (tgt := 25) rfl (fun h6 => ?_) (fun h6 => ?_)
        ·
          contradiction
        ·
          refine x_iload_n (pc := 9) dX6_hold_9 rfl rfl ?_
          refine x_iconst (pc := 10) (v := (-1)) dX6_hold_10 fv_m1 ?_
          refine x_icmp_eq (pc := 11) dX6_hold_11 (tgt := 32) rfl (fun h11 => ?_) (fun h11 => ?_)
          ·
            refine x_aload_n (pc := 32) dX6_hold_32 rfl rfl ?_
            refine x_geta (pc := 33) fl_X6_12 dX6_hold_33 (tb_fv) rfl ?_
            refine x_geta (pc := 36) fl_X6_242 dX6_hold_36 (tb_st (by assumption)) rfl ?_
            refine x_iload_n (pc := 39) dX6_hold_39 rfl rfl ?_
            refine x_iload_n (pc := 40) dX6_hold_40 rfl rfl ?_
            refine x_iast (pc := 41) dX6_hold_41 (tb_sp (by assumption)) (rfl) (by omega) (by first | decide | assumption) ?_
            refine x_iconst (pc := 42) (v := 1) dX6_hold_42 rfl ?_
            refine x_iret (pc := 43) dX6_hold_43 rfl (by first | rfl | exact fv_nz _) ?_
            exact ⟨rfl, pFr.rfl'.s (by decide), fv_s_same _ _ _⟩
          ·
            refine x_aload_n (pc := 14) dX6_hold_14 rfl rfl ?_
            refine x_geta (pc := 15) fl_X6_12 dX6_hold_15 (tb_fv) rfl ?_
            refine x_iload_n (pc := 18) dX6_hold_18 rfl rfl ?_
            refine x_Vi (pc := 19) ks_X6_68 dX6_hold_19 (tb_st (by assumption)) rfl rfl (hHb hB) rfl rfl rfl (Nat.le_of_ble_eq_true rfl) ?_
            refine x_ifb_ne (pc := 22) dX6_hold_22 (tgt := 32) rfl (fun h22 => ?_) (fun h22 => ?_)
            ·
              refine x_aload_n (pc := 32) dX6_hold_32 rfl rfl ?_
              refine x_geta (pc := 33) fl_X6_12 dX6_hold_33 (tb_fv) rfl ?_
              refine x_geta (pc := 36) fl_X6_242 dX6_hold_36 (tb_st (by assumption)) rfl ?_
              refine x_iload_n (pc := 39) dX6_hold_39 rfl rfl ?_
              refine x_iload_n (pc := 40) dX6_hold_40 rfl rfl ?_
              refine x_iast (pc := 41) dX6_hold_41 (tb_sp (by assumption)) (rfl) (by omega) (by first | decide | assumption) ?_
              refine x_iconst (pc := 42) (v := 1) dX6_hold_42 rfl ?_
              refine x_iret (pc := 43) dX6_hold_43 rfl (by first | rfl | exact fv_nz _) ?_
              exact ⟨rfl, pFr.rfl'.s (by decide), fv_s_same _ _ _⟩
            ·
              exact absurd (hbn.resolve_left h11) h22
      · skip
        have e22 : M1 22 = M 22 := hF 22 (by decide)
        have hG1 : pGd (M1 22) nb nm := by rw [e22]; exact hG2
        have hE1 : pEq nb nm (M1 22) (M 0) := by rw [e22]; exact hE
        have hB1 := hG1.1
        have hM1 := hG1.2.2.1
        skip
        refine fv_P.of (ls := [some (.ref 106), some (.int (nI z)), some (.int b)]) (by decide) (Nat.le_of_ble_eq_true rfl) rfl ?_
        refine x_iload_n (pc := 0) dX7_hold_0 rfl rfl ?_
        refine x_Si (pc := 1) ks_X7_261 dX7_hold_1 (hX7_isSpot) rfl rfl rfl (Nat.le_of_ble_eq_true rfl) ?_
        refine x_ifb_eq (pc := 4) dX7_hold_4 (tgt := 20) rfl (fun h4 => ?_) (fun h4 => ?_)
        ·
          contradiction
        ·
          refine x_iload_n (pc := 7) dX7_hold_7 rfl rfl ?_
          refine x_iconst (pc := 8) (v := (-1)) dX7_hold_8 fv_m1 ?_
          refine x_icmp_eq (pc := 9) dX7_hold_9 (tgt := 26) rfl (fun h9 => ?_) (fun h9 => ?_)
          ·
            refine x_aload_n (pc := 26) dX7_hold_26 rfl rfl ?_
            refine x_geta (pc := 27) fl_X7_9 dX7_hold_27 (tb_106) rfl ?_
            refine x_bipush (pc := 30) (v := 104) dX7_hold_30 rfl ?_
            refine x_iload_n (pc := 32) dX7_hold_32 rfl rfl ?_
            refine x_iadd (pc := 33) dX7_hold_33 ?_
            refine x_iload_n (pc := 34) dX7_hold_34 rfl rfl ?_
            refine x_iast (pc := 35) dX7_hold_35 (tb_107) (nI_add 104 z) (by omega) (by first | decide | assumption) ?_
            refine x_iconst (pc := 36) (v := 1) dX7_hold_36 rfl ?_
            refine x_iret (pc := 37) dX7_hold_37 rfl (by first | rfl | exact fv_nz _) ?_
            exact ⟨rfl, pFr.rfl'.s (by decide), nb, nm, by rw [fv_s_same, Nat.zero_add]; exact pI1.u ht eT hE1 hG3 (by omega)⟩
          ·
            refine x_aload_n (pc := 12) dX7_hold_12 rfl rfl ?_
            refine x_iload_n (pc := 13) dX7_hold_13 rfl rfl ?_
            refine x_Vi (pc := 14) ks_X7_120 dX7_hold_14 (tb_106) rfl rfl (hX7_isBird (x := nI nb) hB1) rfl rfl rfl (Nat.le_of_ble_eq_true rfl) ?_
            refine x_ifb_ne (pc := 17) dX7_hold_17 (tgt := 26) rfl (fun h17 => ?_) (fun h17 => ?_)
            ·
              refine x_aload_n (pc := 26) dX7_hold_26 rfl rfl ?_
              refine x_geta (pc := 27) fl_X7_9 dX7_hold_27 (tb_106) rfl ?_
              refine x_bipush (pc := 30) (v := 104) dX7_hold_30 rfl ?_
              refine x_iload_n (pc := 32) dX7_hold_32 rfl rfl ?_
              refine x_iadd (pc := 33) dX7_hold_33 ?_
              refine x_iload_n (pc := 34) dX7_hold_34 rfl rfl ?_
              refine x_iast (pc := 35) dX7_hold_35 (tb_107) (nI_add 104 z) (by omega) (by first | decide | assumption) ?_
              refine x_iconst (pc := 36) (v := 1) dX7_hold_36 rfl ?_
              refine x_iret (pc := 37) dX7_hold_37 rfl (by first | rfl | exact fv_nz _) ?_
              exact ⟨rfl, pFr.rfl'.s (by decide), nb, nm, by rw [fv_s_same, Nat.zero_add]; exact pI1.u ht eT hE1 hG3 (by omega)⟩
            ·
              exact absurd (hbn.resolve_left h9) h17
    · skip
      refine pOp.bad (v := -1000001) 0 I ?_ (fun M1 hF => ?_)
      · skip
        refine fv_F.of (ls := [some (.ref 0), some (.int (nI z)), some (.int b)]) (by decide) (Nat.le_of_ble_eq_true rfl) rfl ?_
        refine x_iload_n (pc := 0) dX6_hold_0 rfl rfl ?_
        refine x_bipush (pc := 1) (v := 9) dX6_hold_1 rfl ?_
        refine x_Si (pc := 3) ks_X6_51 dX6_hold_3 (hX6_isUpTo) rfl rfl rfl (Nat.le_of_ble_eq_true rfl) ?_
        refine x_ifb_eq (pc := 6) dX6_hold_6 (tgt := 25) rfl (fun h6 => ?_) (fun h6 => ?_)
        ·
          contradiction
        ·
          refine x_iload_n (pc := 9) dX6_hold_9 rfl rfl ?_
          refine x_iconst (pc := 10) (v := (-1)) dX6_hold_10 fv_m1 ?_
          refine x_icmp_eq (pc := 11) dX6_hold_11 (tgt := 32) rfl (fun h11 => ?_) (fun h11 => ?_)
          ·
            exact absurd (Or.inl h11) hbn
          ·
            refine x_aload_n (pc := 14) dX6_hold_14 rfl rfl ?_
            refine x_geta (pc := 15) fl_X6_12 dX6_hold_15 (tb_fv) rfl ?_
            refine x_iload_n (pc := 18) dX6_hold_18 rfl rfl ?_
            refine x_Vi (pc := 19) ks_X6_68 dX6_hold_19 (tb_st (by assumption)) rfl rfl (hHb hB) rfl rfl rfl (Nat.le_of_ble_eq_true rfl) ?_
            refine x_ifb_ne (pc := 22) dX6_hold_22 (tgt := 32) rfl (fun h22 => ?_) (fun h22 => ?_)
            ·
              exact absurd (Or.inr h22) hbn
            ·
              refine x_aload_n (pc := 25) dX6_hold_25 rfl rfl ?_
              refine x_ldc (pc := 26) kc_X6_55 dX6_hold_26 ?_
              refine x_Vi (pc := 28) ks_X6_56 dX6_hold_28 (tb_fv) rfl rfl (hX6_fin 0 (-1000001) (by decide +kernel) (by decide)) rfl rfl rfl (Nat.le_of_ble_eq_true rfl) ?_
              refine x_iret (pc := 31) dX6_hold_31 rfl (by first | rfl | exact fv_nz _) ?_
              exact ⟨rfl, rfl⟩
      · skip
        have e22 : M1 22 = M 22 := hF 22 (by decide)
        have hG1 : pGd (M1 22) nb nm := by rw [e22]; exact hG2
        have hE1 : pEq nb nm (M1 22) (M 0) := by rw [e22]; exact hE
        have hB1 := hG1.1
        have hM1 := hG1.2.2.1
        refine fv_F.of (ls := [some (.ref 106), some (.int (nI z)), some (.int b)]) (by decide) (Nat.le_of_ble_eq_true rfl) rfl ?_
        refine x_iload_n (pc := 0) dX7_hold_0 rfl rfl ?_
        refine x_Si (pc := 1) ks_X7_261 dX7_hold_1 (hX7_isSpot) rfl rfl rfl (Nat.le_of_ble_eq_true rfl) ?_
        refine x_ifb_eq (pc := 4) dX7_hold_4 (tgt := 20) rfl (fun h4 => ?_) (fun h4 => ?_)
        ·
          contradiction
        ·
          refine x_iload_n (pc := 7) dX7_hold_7 rfl rfl ?_
          refine x_iconst (pc := 8) (v := (-1)) dX7_hold_8 fv_m1 ?_
          refine x_icmp_eq (pc := 9) dX7_hold_9 (tgt := 26) rfl (fun h9 => ?_) (fun h9 => ?_)
          ·
            exact absurd (Or.inl h9) hbn
          ·
            refine x_aload_n (pc := 12) dX7_hold_12 rfl rfl ?_
            refine x_iload_n (pc := 13) dX7_hold_13 rfl rfl ?_
            refine x_Vi (pc := 14) ks_X7_120 dX7_hold_14 (tb_106) rfl rfl (hX7_isBird (x := nI nb) hB1) rfl rfl rfl (Nat.le_of_ble_eq_true rfl) ?_
            refine x_ifb_ne (pc := 17) dX7_hold_17 (tgt := 26) rfl (fun h17 => ?_) (fun h17 => ?_)
            ·
              exact absurd (Or.inr h17) hbn
            ·
              refine x_aload_n (pc := 20) dX7_hold_20 rfl rfl ?_
              refine x_iconst (pc := 21) (v := 0) dX7_hold_21 rfl ?_
              refine x_Vi (pc := 22) ks_X7_114 dX7_hold_22 (tb_106) rfl rfl (hX7_noL 0 (-1000001) (by decide) (by decide +kernel)) rfl rfl rfl (Nat.le_of_ble_eq_true rfl) ?_
              refine x_iret (pc := 25) dX7_hold_25 rfl (by first | rfl | exact fv_nz _) ?_
              exact ⟨rfl, rfl⟩
  · skip
    refine pOp.bad (v := -1000001) 0 I ?_ (fun M1 hF => ?_)
    · skip
      refine fv_F.of (ls := [some (.ref 0), some (.int k), some (.int b)]) (by decide) (Nat.le_of_ble_eq_true rfl) rfl ?_
      refine x_iload_n (pc := 0) dX6_hold_0 rfl rfl ?_
      refine x_bipush (pc := 1) (v := 9) dX6_hold_1 rfl ?_
      refine x_Si (pc := 3) ks_X6_51 dX6_hold_3 (hX6_isUpTo) rfl rfl rfl (Nat.le_of_ble_eq_true rfl) ?_
      refine x_ifb_eq (pc := 6) dX6_hold_6 (tgt := 25) rfl (fun h6 => ?_) (fun h6 => ?_)
      ·
        refine x_aload_n (pc := 25) dX6_hold_25 rfl rfl ?_
        refine x_ldc (pc := 26) kc_X6_55 dX6_hold_26 ?_
        refine x_Vi (pc := 28) ks_X6_56 dX6_hold_28 (tb_fv) rfl rfl (hX6_fin 0 (-1000001) (by decide +kernel) (by decide)) rfl rfl rfl (Nat.le_of_ble_eq_true rfl) ?_
        refine x_iret (pc := 31) dX6_hold_31 rfl (by first | rfl | exact fv_nz _) ?_
        exact ⟨rfl, rfl⟩
      ·
        contradiction
    · skip
      have e22 : M1 22 = M 22 := hF 22 (by decide)
      have hG1 : pGd (M1 22) nb nm := by rw [e22]; exact hG2
      have hE1 : pEq nb nm (M1 22) (M 0) := by rw [e22]; exact hE
      have hB1 := hG1.1
      have hM1 := hG1.2.2.1
      refine fv_F.of (ls := [some (.ref 106), some (.int k), some (.int b)]) (by decide) (Nat.le_of_ble_eq_true rfl) rfl ?_
      refine x_iload_n (pc := 0) dX7_hold_0 rfl rfl ?_
      refine x_Si (pc := 1) ks_X7_261 dX7_hold_1 (hX7_isSpot) rfl rfl rfl (Nat.le_of_ble_eq_true rfl) ?_
      refine x_ifb_eq (pc := 4) dX7_hold_4 (tgt := 20) rfl (fun h4 => ?_) (fun h4 => ?_)
      ·
        refine x_aload_n (pc := 20) dX7_hold_20 rfl rfl ?_
        refine x_iconst (pc := 21) (v := 0) dX7_hold_21 rfl ?_
        refine x_Vi (pc := 22) ks_X7_114 dX7_hold_22 (tb_106) rfl rfl (hX7_noL 0 (-1000001) (by decide) (by decide +kernel)) rfl rfl rfl (Nat.le_of_ble_eq_true rfl) ?_
        refine x_iret (pc := 25) dX7_hold_25 rfl (by first | rfl | exact fv_nz _) ?_
        exact ⟨rfl, rfl⟩
      ·
        contradiction
theorem op_as {E : fv_E} {k a : Int32} {M : fv_M} (I : pInv M) : pOp E mX6_as mX7_as [.int k, .int a] M := by
  obtain ⟨nb, nm, hG, hE, t, ht, eT⟩ := I.1
  have hs0 : 0 < 3 := by decide
  have hs1 : 1 < 3 := by decide
  have hB := hG.1
  have hb := hG.2.1
  have hM := hG.2.2.1
  have hn := hG.2.2.2.1
  have hK := hG.K
  have hC := hG.C
  have hG2 : pGd (M 22) nb nm := hG.cg hE
  by_cases hk : 0 ≤ k ∧ k ≤ 9
  · by_cases ha : 0 ≤ a ∧ a ≤ 6
    · obtain ⟨z, hz, rfl⟩ := pUm (n := 9) (by decide) hk
      obtain ⟨q, hq, rfl⟩ := pUm (n := 6) (by decide) ha
      have hsp := hG.2.2.2.2.2.2.2.1 z (by omega)
      rcases hsp with hsp | ⟨x, hx, hsp⟩
      · have hno : ¬ ((0 : Int32) ≤ -1 ∧ -1 ≤ nI nb - 1) := fun q => absurd q.1 (by decide)
        refine pOp.bad (v := -1000006) 5 I ?_ (fun M1 hF => ?_)
        · skip
          refine fv_F.of (ls := [some (.ref 0), some (.int (nI z)), some (.int (nI q)), none]) (by decide) (Nat.le_of_ble_eq_true rfl) rfl ?_
          refine x_iload_n (pc := 0) dX6_as_0 rfl rfl ?_
          refine x_bipush (pc := 1) (v := 9) dX6_as_1 rfl ?_
          refine x_Si (pc := 3) ks_X6_51 dX6_as_3 (hX6_isUpTo) rfl rfl rfl (Nat.le_of_ble_eq_true rfl) ?_
          refine x_ifb_eq (pc := 6) dX6_as_6 (tgt := 18) rfl (fun h6 => ?_) (fun h6 => ?_)
          ·
            contradiction
          ·
            refine x_iload_n (pc := 9) dX6_as_9 rfl rfl ?_
            refine x_bipush (pc := 10) (v := 6) dX6_as_10 rfl ?_
            refine x_Si (pc := 12) ks_X6_51 dX6_as_12 (hX6_isUpTo) rfl rfl rfl (Nat.le_of_ble_eq_true rfl) ?_
            refine x_ifb_ne (pc := 15) dX6_as_15 (tgt := 25) rfl (fun h15 => ?_) (fun h15 => ?_)
            ·
              refine x_aload_n (pc := 25) dX6_as_25 rfl rfl ?_
              refine x_geta (pc := 26) fl_X6_12 dX6_as_26 (tb_fv) rfl ?_
              refine x_geta (pc := 29) fl_X6_242 dX6_as_29 (tb_st (by assumption)) rfl ?_
              refine x_iload_n (pc := 32) dX6_as_32 rfl rfl ?_
              refine x_iale (pc := 33) dX6_as_33 (tb_sp (by assumption)) (rfl) (by omega) (by first | decide | assumption) (hsp) ?_
              refine x_istore_n3 (pc := 34) dX6_as_34 rfl ?_
              refine x_aload_n (pc := 35) dX6_as_35 rfl rfl ?_
              refine x_geta (pc := 36) fl_X6_12 dX6_as_36 (tb_fv) rfl ?_
              refine x_iload_n (pc := 39) dX6_as_39 rfl rfl ?_
              refine x_Vi (pc := 40) ks_X6_68 dX6_as_40 (tb_st (by assumption)) rfl rfl (hHb hB) rfl rfl rfl (Nat.le_of_ble_eq_true rfl) ?_
              refine x_ifb_ne (pc := 43) dX6_as_43 (tgt := 53) rfl (fun h43 => ?_) (fun h43 => ?_)
              ·
                contradiction
              ·
                refine x_aload_n (pc := 46) dX6_as_46 rfl rfl ?_
                refine x_ldc (pc := 47) kc_X6_217 dX6_as_47 ?_
                refine x_Vi (pc := 49) ks_X6_56 dX6_as_49 (tb_fv) rfl rfl (hX6_fin 5 (-1000006) (by decide +kernel) (by decide)) rfl rfl rfl (Nat.le_of_ble_eq_true rfl) ?_
                refine x_iret (pc := 52) dX6_as_52 rfl (by first | rfl | exact fv_nz _) ?_
                exact ⟨rfl, rfl⟩
            ·
              contradiction
        · skip
          have e22 : M1 22 = M 22 := hF 22 (by decide)
          have hG1 : pGd (M1 22) nb nm := by rw [e22]; exact hG2
          have hE1 : pEq nb nm (M1 22) (M 0) := by rw [e22]; exact hE
          have hB1 := hG1.1
          have hM1 := hG1.2.2.1
          refine fv_F.of (ls := [some (.ref 106), some (.int (nI z)), some (.int (nI q)), none, none]) (by decide) (Nat.le_of_ble_eq_true rfl) rfl ?_
          refine x_iload_n (pc := 0) dX7_as_0 rfl rfl ?_
          refine x_Si (pc := 1) ks_X7_261 dX7_as_1 (hX7_isSpot) rfl rfl rfl (Nat.le_of_ble_eq_true rfl) ?_
          refine x_ifb_eq (pc := 4) dX7_as_4 (tgt := 17) rfl (fun h4 => ?_) (fun h4 => ?_)
          ·
            contradiction
          ·
            refine x_iload_n (pc := 7) dX7_as_7 rfl rfl ?_
            refine x_iconst (pc := 8) (v := 0) dX7_as_8 rfl ?_
            refine x_bipush (pc := 9) (v := 6) dX7_as_9 rfl ?_
            refine x_Si (pc := 11) ks_X7_60 dX7_as_11 (hX7_in1) rfl rfl rfl (Nat.le_of_ble_eq_true rfl) ?_
            refine x_ifb_ne (pc := 14) dX7_as_14 (tgt := 23) rfl (fun h14 => ?_) (fun h14 => ?_)
            ·
              refine x_aload_n (pc := 23) dX7_as_23 rfl rfl ?_
              refine x_geta (pc := 24) fl_X7_9 dX7_as_24 (tb_106) rfl ?_
              refine x_bipush (pc := 27) (v := 104) dX7_as_27 rfl ?_
              refine x_iload_n (pc := 29) dX7_as_29 rfl rfl ?_
              refine x_iadd (pc := 30) dX7_as_30 ?_
              refine x_iale (pc := 31) dX7_as_31 (tb_107) (nI_add 104 z) (by omega) (by first | decide | assumption) (show _ = (-1 : Int32) from by rw [Nat.zero_add]; exact (hE1.s (by omega)).trans hsp) ?_
              refine x_istore_n3 (pc := 32) dX7_as_32 rfl ?_
              refine x_iload_n (pc := 33) dX7_as_33 rfl rfl ?_
              refine x_if_ge (pc := 34) dX7_as_34 (tgt := 43) rfl (fun h34 => ?_) (fun h34 => ?_)
              ·
                exact absurd h34 (by decide)
              ·
                refine x_aload_n (pc := 37) dX7_as_37 rfl rfl ?_
                refine x_iconst (pc := 38) (v := 5) dX7_as_38 rfl ?_
                refine x_Vi (pc := 39) ks_X7_114 dX7_as_39 (tb_106) rfl rfl (hX7_noL 5 (-1000006) (by decide) (by decide +kernel)) rfl rfl rfl (Nat.le_of_ble_eq_true rfl) ?_
                refine x_iret (pc := 42) dX7_as_42 rfl (by first | rfl | exact fv_nz _) ?_
                exact ⟨rfl, rfl⟩
            ·
              contradiction
      · have hb8 : x < 8 := by omega
        obtain ⟨kd, hkd, ekd⟩ := (hG.2.2.2.2.1 x hx).1
        obtain ⟨⟨w1, w2⟩, w3⟩ := pAb_at hkd (show q < 7 by omega)
        obtain ⟨t1, t2, t3⟩ := wT_all (fun j => !(decide (pAbN kd j = q) || decide (pAbN kd j = 0))) 7
        rw [show wT (fun j => !(decide (pAbN kd j = q) || decide (pAbN kd j = 0))) 7 = pAbT kd q from rfl] at t1 t2
        have n2 : ∀ j, j < pAbT kd q → ¬ pAbN kd j = q ∧ ¬ pAbN kd j = 0 := fun j hj => by
          have h := t2 j hj
          rw [Bool.not_eq_true', Bool.or_eq_false_iff, decide_eq_false_iff_not, decide_eq_false_iff_not] at h
          exact h
        clear t3
        generalize hT : pAbT kd q = T at *
        have hyes : 0 ≤ nI x ∧ nI x ≤ nI nb - 1 := (pUp (by omega) (by omega)).mpr hx
        by_cases hin : q ∈ pCh kd
        · have eT' : pAbN kd T = q := w2.mpr hin
          refine pOp.qry (v := nI x) I ?_ (fun M1 hF => ?_)
          · skip
            refine fv_P.of (ls := [some (.ref 0), some (.int (nI z)), some (.int (nI q)), none]) (by decide) (Nat.le_of_ble_eq_true rfl) rfl ?_
            refine x_iload_n (pc := 0) dX6_as_0 rfl rfl ?_
            refine x_bipush (pc := 1) (v := 9) dX6_as_1 rfl ?_
            refine x_Si (pc := 3) ks_X6_51 dX6_as_3 (hX6_isUpTo) rfl rfl rfl (Nat.le_of_ble_eq_true rfl) ?_
            refine x_ifb_eq (pc := 6) dX6_as_6 (tgt := 18) rfl (fun h6 => ?_) (fun h6 => ?_)
            ·
              contradiction
            ·
              refine x_iload_n (pc := 9) dX6_as_9 rfl rfl ?_
              refine x_bipush (pc := 10) (v := 6) dX6_as_10 rfl ?_
              refine x_Si (pc := 12) ks_X6_51 dX6_as_12 (hX6_isUpTo) rfl rfl rfl (Nat.le_of_ble_eq_true rfl) ?_
              refine x_ifb_ne (pc := 15) dX6_as_15 (tgt := 25) rfl (fun h15 => ?_) (fun h15 => ?_)
              ·
                refine x_aload_n (pc := 25) dX6_as_25 rfl rfl ?_
                refine x_geta (pc := 26) fl_X6_12 dX6_as_26 (tb_fv) rfl ?_
                refine x_geta (pc := 29) fl_X6_242 dX6_as_29 (tb_st (by assumption)) rfl ?_
                refine x_iload_n (pc := 32) dX6_as_32 rfl rfl ?_
                refine x_iale (pc := 33) dX6_as_33 (tb_sp (by assumption)) (rfl) (by omega) (by first | decide | assumption) (hsp) ?_
                refine x_istore_n3 (pc := 34) dX6_as_34 rfl ?_
                refine x_aload_n (pc := 35) dX6_as_35 rfl rfl ?_
                refine x_geta (pc := 36) fl_X6_12 dX6_as_36 (tb_fv) rfl ?_
                refine x_iload_n (pc := 39) dX6_as_39 rfl rfl ?_
                refine x_Vi (pc := 40) ks_X6_68 dX6_as_40 (tb_st (by assumption)) rfl rfl (hHb hB) rfl rfl rfl (Nat.le_of_ble_eq_true rfl) ?_
                refine x_ifb_ne (pc := 43) dX6_as_43 (tgt := 53) rfl (fun h43 => ?_) (fun h43 => ?_)
                ·
                  refine x_aload_n (pc := 53) dX6_as_53 rfl rfl ?_
                  refine x_geta (pc := 54) fl_X6_12 dX6_as_54 (tb_fv) rfl ?_
                  refine x_geta (pc := 57) fl_X6_72 dX6_as_57 (tb_st (by assumption)) rfl ?_
                  refine x_iload_n (pc := 60) dX6_as_60 rfl rfl ?_
                  refine x_bird (pc := 61) dX6_as_61 (by assumption) (rfl) (hb8) ?_
                  refine x_iload_n (pc := 62) dX6_as_62 rfl rfl ?_
                  refine x_Vi (pc := 63) ks_X6_245 dX6_as_63 (tb_b (by assumption) (by assumption)) rfl rfl (hX0_isA hs0 hb8 ekd hkd (by omega)) rfl rfl rfl (Nat.le_of_ble_eq_true rfl) ?_
                  refine x_ifb_eq (pc := 66) dX6_as_66 (tgt := 73) rfl (fun h66 => ?_) (fun h66 => ?_)
                  ·
                    contradiction
                  ·
                    refine x_iload_n (pc := 69) dX6_as_69 rfl rfl ?_
                    refine x_goto (pc := 70) dX6_as_70 (tgt := 79) rfl ?_
                    refine x_iret (pc := 79) dX6_as_79 rfl (by first | rfl | exact fv_nz _) ?_
                    exact ⟨rfl, pFr.rfl'⟩
                ·
                  contradiction
              ·
                contradiction
          · skip
            have e22 : M1 22 = M 22 := hF 22 (by decide)
            have hG1 : pGd (M1 22) nb nm := by rw [e22]; exact hG2
            have hE1 : pEq nb nm (M1 22) (M 0) := by rw [e22]; exact hE
            have hB1 := hG1.1
            have hM1 := hG1.2.2.1
            refine fv_P.of (ls := [some (.ref 106), some (.int (nI z)), some (.int (nI q)), none, none]) (by decide) (Nat.le_of_ble_eq_true rfl) rfl ?_
            refine x_iload_n (pc := 0) dX7_as_0 rfl rfl ?_
            refine x_Si (pc := 1) ks_X7_261 dX7_as_1 (hX7_isSpot) rfl rfl rfl (Nat.le_of_ble_eq_true rfl) ?_
            refine x_ifb_eq (pc := 4) dX7_as_4 (tgt := 17) rfl (fun h4 => ?_) (fun h4 => ?_)
            ·
              contradiction
            ·
              refine x_iload_n (pc := 7) dX7_as_7 rfl rfl ?_
              refine x_iconst (pc := 8) (v := 0) dX7_as_8 rfl ?_
              refine x_bipush (pc := 9) (v := 6) dX7_as_9 rfl ?_
              refine x_Si (pc := 11) ks_X7_60 dX7_as_11 (hX7_in1) rfl rfl rfl (Nat.le_of_ble_eq_true rfl) ?_
              refine x_ifb_ne (pc := 14) dX7_as_14 (tgt := 23) rfl (fun h14 => ?_) (fun h14 => ?_)
              ·
                refine x_aload_n (pc := 23) dX7_as_23 rfl rfl ?_
                refine x_geta (pc := 24) fl_X7_9 dX7_as_24 (tb_106) rfl ?_
                refine x_bipush (pc := 27) (v := 104) dX7_as_27 rfl ?_
                refine x_iload_n (pc := 29) dX7_as_29 rfl rfl ?_
                refine x_iadd (pc := 30) dX7_as_30 ?_
                refine x_iale (pc := 31) dX7_as_31 (tb_107) (nI_add 104 z) (by omega) (by first | decide | assumption) (show _ = nI x from by rw [Nat.zero_add]; exact (hE1.s (by omega)).trans hsp) ?_
                refine x_istore_n3 (pc := 32) dX7_as_32 rfl ?_
                refine x_iload_n (pc := 33) dX7_as_33 rfl rfl ?_
                refine x_if_ge (pc := 34) dX7_as_34 (tgt := 43) rfl (fun h34 => ?_) (fun h34 => ?_)
                ·
                  refine x_aload_n (pc := 43) dX7_as_43 rfl rfl ?_
                  refine x_iload_n (pc := 44) dX7_as_44 rfl rfl ?_
                  refine x_iconst (pc := 45) (v := 0) dX7_as_45 rfl ?_
                  refine x_Vi (pc := 46) ks_X7_64 dX7_as_46 (tb_106) rfl rfl ((hX7_get (f := 0) hb8 (by decide)).v ((hE1.b hx (by decide)).trans ekd)) rfl rfl rfl (Nat.le_of_ble_eq_true rfl) ?_
                  refine x_istore4 (pc := 49) dX7_as_49 rfl ?_
                  refine x_loop (fun j => [some (.ref 106), some (.int (nI z)), some (.int (nI q)), some (.int (nI x)), some (.int (nI (pAbN kd j)))]) (fun _ => M1) T rfl rfl (fun j hj hL => ?_) ?_
                  · show fv_X E mX7_as _ _ 51 [some (.ref 106), some (.int (nI z)), some (.int (nI q)), some (.int (nI x)), some (.int (nI (pAbN kd j)))] [] M1
                    replace hL : fv_X E mX7_as _ _ 51 [some (.ref 106), some (.int (nI z)), some (.int (nI q)), some (.int (nI x)), some (.int (nI (pAb (pAbN kd j))))] [] M1 := hL
                    have hl7 := w3 j (by omega)
                    refine x_iload (pc := 51) dX7_as_51 rfl ?_
                    refine x_iload_n (pc := 53) dX7_as_53 rfl rfl ?_
                    refine x_icmp_eq (pc := 54) dX7_as_54 (tgt := 72) rfl (fun h54 => ?_) (fun h54 => ?_)
                    ·
                      exact ((n2 j hj).1 ((nI_eq (by omega) (by omega)).mp h54)).elim
                    ·
                      refine x_iload (pc := 57) dX7_as_57 rfl ?_
                      refine x_if_eq (pc := 59) dX7_as_59 (tgt := 72) rfl (fun h59 => ?_) (fun h59 => ?_)
                      ·
                        exact ((n2 j hj).2 ((nI_eq (b := 0) (by omega) (by omega)).mp h59)).elim
                      ·
                        refine x_iload (pc := 62) dX7_as_62 rfl ?_
                        refine x_Si (pc := 64) ks_X7_264 dX7_as_64 (hX7_above hl7) rfl rfl rfl (Nat.le_of_ble_eq_true rfl) ?_
                        refine x_istore4 (pc := 67) dX7_as_67 rfl ?_
                        refine x_goto (pc := 69) dX7_as_69 (tgt := 51) rfl ?_
                        exact hL
                  · show fv_X E mX7_as _ _ 51 [some (.ref 106), some (.int (nI z)), some (.int (nI q)), some (.int (nI x)), some (.int (nI (pAbN kd T)))] [] M1
                    have hl7 := w3 T (by omega)
                    refine x_iload (pc := 51) dX7_as_51 rfl ?_
                    refine x_iload_n (pc := 53) dX7_as_53 rfl rfl ?_
                    refine x_icmp_eq (pc := 54) dX7_as_54 (tgt := 72) rfl (fun h54 => ?_) (fun h54 => ?_)
                    ·
                      refine x_iload (pc := 72) dX7_as_72 rfl ?_
                      refine x_iload_n (pc := 74) dX7_as_74 rfl rfl ?_
                      refine x_icmp_ne (pc := 75) dX7_as_75 (tgt := 82) rfl (fun h75 => ?_) (fun h75 => ?_)
                      ·
                        exact absurd (congrArg nI eT') h75
                      ·
                        refine x_iload_n (pc := 78) dX7_as_78 rfl rfl ?_
                        refine x_goto (pc := 79) dX7_as_79 (tgt := 87) rfl ?_
                        refine x_iret (pc := 87) dX7_as_87 rfl (by first | rfl | exact fv_nz _) ?_
                        exact ⟨rfl, pFr.rfl', rfl, rfl, fun _ _ _ => pEq.rfl'⟩
                    ·
                      refine x_iload (pc := 57) dX7_as_57 rfl ?_
                      refine x_if_eq (pc := 59) dX7_as_59 (tgt := 72) rfl (fun h59 => ?_) (fun h59 => ?_)
                      ·
                        refine x_iload (pc := 72) dX7_as_72 rfl ?_
                        refine x_iload_n (pc := 74) dX7_as_74 rfl rfl ?_
                        refine x_icmp_ne (pc := 75) dX7_as_75 (tgt := 82) rfl (fun h75 => ?_) (fun h75 => ?_)
                        ·
                          exact absurd (congrArg nI eT') h75
                        ·
                          refine x_iload_n (pc := 78) dX7_as_78 rfl rfl ?_
                          refine x_goto (pc := 79) dX7_as_79 (tgt := 87) rfl ?_
                          refine x_iret (pc := 87) dX7_as_87 rfl (by first | rfl | exact fv_nz _) ?_
                          exact ⟨rfl, pFr.rfl', rfl, rfl, fun _ _ _ => pEq.rfl'⟩
                      ·
                        exact absurd (w1.resolve_left (fun e => h54 (congrArg nI e))) (fun e => h59 (congrArg nI e))
                ·
                  exact absurd (nI_pos' (by omega)) h34
              ·
                contradiction
        · have eT' : ¬ pAbN kd T = q := fun e => hin (w2.mp e)
          refine pOp.bad (v := -1000003) 2 I ?_ (fun M1 hF => ?_)
          · skip
            refine fv_F.of (ls := [some (.ref 0), some (.int (nI z)), some (.int (nI q)), none]) (by decide) (Nat.le_of_ble_eq_true rfl) rfl ?_
            refine x_iload_n (pc := 0) dX6_as_0 rfl rfl ?_
            refine x_bipush (pc := 1) (v := 9) dX6_as_1 rfl ?_
            refine x_Si (pc := 3) ks_X6_51 dX6_as_3 (hX6_isUpTo) rfl rfl rfl (Nat.le_of_ble_eq_true rfl) ?_
            refine x_ifb_eq (pc := 6) dX6_as_6 (tgt := 18) rfl (fun h6 => ?_) (fun h6 => ?_)
            ·
              contradiction
            ·
              refine x_iload_n (pc := 9) dX6_as_9 rfl rfl ?_
              refine x_bipush (pc := 10) (v := 6) dX6_as_10 rfl ?_
              refine x_Si (pc := 12) ks_X6_51 dX6_as_12 (hX6_isUpTo) rfl rfl rfl (Nat.le_of_ble_eq_true rfl) ?_
              refine x_ifb_ne (pc := 15) dX6_as_15 (tgt := 25) rfl (fun h15 => ?_) (fun h15 => ?_)
              ·
                refine x_aload_n (pc := 25) dX6_as_25 rfl rfl ?_
                refine x_geta (pc := 26) fl_X6_12 dX6_as_26 (tb_fv) rfl ?_
                refine x_geta (pc := 29) fl_X6_242 dX6_as_29 (tb_st (by assumption)) rfl ?_
                refine x_iload_n (pc := 32) dX6_as_32 rfl rfl ?_
                refine x_iale (pc := 33) dX6_as_33 (tb_sp (by assumption)) (rfl) (by omega) (by first | decide | assumption) (hsp) ?_
                refine x_istore_n3 (pc := 34) dX6_as_34 rfl ?_
                refine x_aload_n (pc := 35) dX6_as_35 rfl rfl ?_
                refine x_geta (pc := 36) fl_X6_12 dX6_as_36 (tb_fv) rfl ?_
                refine x_iload_n (pc := 39) dX6_as_39 rfl rfl ?_
                refine x_Vi (pc := 40) ks_X6_68 dX6_as_40 (tb_st (by assumption)) rfl rfl (hHb hB) rfl rfl rfl (Nat.le_of_ble_eq_true rfl) ?_
                refine x_ifb_ne (pc := 43) dX6_as_43 (tgt := 53) rfl (fun h43 => ?_) (fun h43 => ?_)
                ·
                  refine x_aload_n (pc := 53) dX6_as_53 rfl rfl ?_
                  refine x_geta (pc := 54) fl_X6_12 dX6_as_54 (tb_fv) rfl ?_
                  refine x_geta (pc := 57) fl_X6_72 dX6_as_57 (tb_st (by assumption)) rfl ?_
                  refine x_iload_n (pc := 60) dX6_as_60 rfl rfl ?_
                  refine x_bird (pc := 61) dX6_as_61 (by assumption) (rfl) (hb8) ?_
                  refine x_iload_n (pc := 62) dX6_as_62 rfl rfl ?_
                  refine x_Vi (pc := 63) ks_X6_245 dX6_as_63 (tb_b (by assumption) (by assumption)) rfl rfl (hX0_isA hs0 hb8 ekd hkd (by omega)) rfl rfl rfl (Nat.le_of_ble_eq_true rfl) ?_
                  refine x_ifb_eq (pc := 66) dX6_as_66 (tgt := 73) rfl (fun h66 => ?_) (fun h66 => ?_)
                  ·
                    refine x_aload_n (pc := 73) dX6_as_73 rfl rfl ?_
                    refine x_ldc (pc := 74) kc_X6_248 dX6_as_74 ?_
                    refine x_Vi (pc := 76) ks_X6_56 dX6_as_76 (tb_fv) rfl rfl (hX6_fin 2 (-1000003) (by decide +kernel) (by decide)) rfl rfl rfl (Nat.le_of_ble_eq_true rfl) ?_
                    refine x_iret (pc := 79) dX6_as_79 rfl (by first | rfl | exact fv_nz _) ?_
                    exact ⟨rfl, rfl⟩
                  ·
                    contradiction
                ·
                  contradiction
              ·
                contradiction
          · skip
            have e22 : M1 22 = M 22 := hF 22 (by decide)
            have hG1 : pGd (M1 22) nb nm := by rw [e22]; exact hG2
            have hE1 : pEq nb nm (M1 22) (M 0) := by rw [e22]; exact hE
            have hB1 := hG1.1
            have hM1 := hG1.2.2.1
            refine fv_F.of (ls := [some (.ref 106), some (.int (nI z)), some (.int (nI q)), none, none]) (by decide) (Nat.le_of_ble_eq_true rfl) rfl ?_
            refine x_iload_n (pc := 0) dX7_as_0 rfl rfl ?_
            refine x_Si (pc := 1) ks_X7_261 dX7_as_1 (hX7_isSpot) rfl rfl rfl (Nat.le_of_ble_eq_true rfl) ?_
            refine x_ifb_eq (pc := 4) dX7_as_4 (tgt := 17) rfl (fun h4 => ?_) (fun h4 => ?_)
            ·
              contradiction
            ·
              refine x_iload_n (pc := 7) dX7_as_7 rfl rfl ?_
              refine x_iconst (pc := 8) (v := 0) dX7_as_8 rfl ?_
              refine x_bipush (pc := 9) (v := 6) dX7_as_9 rfl ?_
              refine x_Si (pc := 11) ks_X7_60 dX7_as_11 (hX7_in1) rfl rfl rfl (Nat.le_of_ble_eq_true rfl) ?_
              refine x_ifb_ne (pc := 14) dX7_as_14 (tgt := 23) rfl (fun h14 => ?_) (fun h14 => ?_)
              ·
                refine x_aload_n (pc := 23) dX7_as_23 rfl rfl ?_
                refine x_geta (pc := 24) fl_X7_9 dX7_as_24 (tb_106) rfl ?_
                refine x_bipush (pc := 27) (v := 104) dX7_as_27 rfl ?_
                refine x_iload_n (pc := 29) dX7_as_29 rfl rfl ?_
                refine x_iadd (pc := 30) dX7_as_30 ?_
                refine x_iale (pc := 31) dX7_as_31 (tb_107) (nI_add 104 z) (by omega) (by first | decide | assumption) (show _ = nI x from by rw [Nat.zero_add]; exact (hE1.s (by omega)).trans hsp) ?_
                refine x_istore_n3 (pc := 32) dX7_as_32 rfl ?_
                refine x_iload_n (pc := 33) dX7_as_33 rfl rfl ?_
                refine x_if_ge (pc := 34) dX7_as_34 (tgt := 43) rfl (fun h34 => ?_) (fun h34 => ?_)
                ·
                  refine x_aload_n (pc := 43) dX7_as_43 rfl rfl ?_
                  refine x_iload_n (pc := 44) dX7_as_44 rfl rfl ?_
                  refine x_iconst (pc := 45) (v := 0) dX7_as_45 rfl ?_
                  refine x_Vi (pc := 46) ks_X7_64 dX7_as_46 (tb_106) rfl rfl ((hX7_get (f := 0) hb8 (by decide)).v ((hE1.b hx (by decide)).trans ekd)) rfl rfl rfl (Nat.le_of_ble_eq_true rfl) ?_
                  refine x_istore4 (pc := 49) dX7_as_49 rfl ?_
                  refine x_loop (fun j => [some (.ref 106), some (.int (nI z)), some (.int (nI q)), some (.int (nI x)), some (.int (nI (pAbN kd j)))]) (fun _ => M1) T rfl rfl (fun j hj hL => ?_) ?_
                  · show fv_X E mX7_as _ _ 51 [some (.ref 106), some (.int (nI z)), some (.int (nI q)), some (.int (nI x)), some (.int (nI (pAbN kd j)))] [] M1
                    replace hL : fv_X E mX7_as _ _ 51 [some (.ref 106), some (.int (nI z)), some (.int (nI q)), some (.int (nI x)), some (.int (nI (pAb (pAbN kd j))))] [] M1 := hL
                    have hl7 := w3 j (by omega)
                    refine x_iload (pc := 51) dX7_as_51 rfl ?_
                    refine x_iload_n (pc := 53) dX7_as_53 rfl rfl ?_
                    refine x_icmp_eq (pc := 54) dX7_as_54 (tgt := 72) rfl (fun h54 => ?_) (fun h54 => ?_)
                    ·
                      exact ((n2 j hj).1 ((nI_eq (by omega) (by omega)).mp h54)).elim
                    ·
                      refine x_iload (pc := 57) dX7_as_57 rfl ?_
                      refine x_if_eq (pc := 59) dX7_as_59 (tgt := 72) rfl (fun h59 => ?_) (fun h59 => ?_)
                      ·
                        exact ((n2 j hj).2 ((nI_eq (b := 0) (by omega) (by omega)).mp h59)).elim
                      ·
                        refine x_iload (pc := 62) dX7_as_62 rfl ?_
                        refine x_Si (pc := 64) ks_X7_264 dX7_as_64 (hX7_above hl7) rfl rfl rfl (Nat.le_of_ble_eq_true rfl) ?_
                        refine x_istore4 (pc := 67) dX7_as_67 rfl ?_
                        refine x_goto (pc := 69) dX7_as_69 (tgt := 51) rfl ?_
                        exact hL
                  · show fv_X E mX7_as _ _ 51 [some (.ref 106), some (.int (nI z)), some (.int (nI q)), some (.int (nI x)), some (.int (nI (pAbN kd T)))] [] M1
                    have hl7 := w3 T (by omega)
                    refine x_iload (pc := 51) dX7_as_51 rfl ?_
                    refine x_iload_n (pc := 53) dX7_as_53 rfl rfl ?_
                    refine x_icmp_eq (pc := 54) dX7_as_54 (tgt := 72) rfl (fun h54 => ?_) (fun h54 => ?_)
                    ·
                      refine x_iload (pc := 72) dX7_as_72 rfl ?_
                      refine x_iload_n (pc := 74) dX7_as_74 rfl rfl ?_
                      refine x_icmp_ne (pc := 75) dX7_as_75 (tgt := 82) rfl (fun h75 => ?_) (fun h75 => ?_)
                      ·
                        refine x_aload_n (pc := 82) dX7_as_82 rfl rfl ?_
                        refine x_iconst (pc := 83) (v := 2) dX7_as_83 rfl ?_
                        refine x_Vi (pc := 84) ks_X7_114 dX7_as_84 (tb_106) rfl rfl (hX7_noL 2 (-1000003) (by decide) (by decide +kernel)) rfl rfl rfl (Nat.le_of_ble_eq_true rfl) ?_
                        refine x_iret (pc := 87) dX7_as_87 rfl (by first | rfl | exact fv_nz _) ?_
                        exact ⟨rfl, rfl⟩
                      ·
                        exact absurd ((nI_eq (by omega) (by omega)).mp h75) eT'
                    ·
                      refine x_iload (pc := 57) dX7_as_57 rfl ?_
                      refine x_if_eq (pc := 59) dX7_as_59 (tgt := 72) rfl (fun h59 => ?_) (fun h59 => ?_)
                      ·
                        refine x_iload (pc := 72) dX7_as_72 rfl ?_
                        refine x_iload_n (pc := 74) dX7_as_74 rfl rfl ?_
                        refine x_icmp_ne (pc := 75) dX7_as_75 (tgt := 82) rfl (fun h75 => ?_) (fun h75 => ?_)
                        ·
                          refine x_aload_n (pc := 82) dX7_as_82 rfl rfl ?_
                          refine x_iconst (pc := 83) (v := 2) dX7_as_83 rfl ?_
                          refine x_Vi (pc := 84) ks_X7_114 dX7_as_84 (tb_106) rfl rfl (hX7_noL 2 (-1000003) (by decide) (by decide +kernel)) rfl rfl rfl (Nat.le_of_ble_eq_true rfl) ?_
                          refine x_iret (pc := 87) dX7_as_87 rfl (by first | rfl | exact fv_nz _) ?_
                          exact ⟨rfl, rfl⟩
                        ·
                          exact absurd ((nI_eq (by omega) (by omega)).mp h75) eT'
                      ·
                        exact absurd (w1.resolve_left (fun e => h54 (congrArg nI e))) (fun e => h59 (congrArg nI e))
                ·
                  exact absurd (nI_pos' (by omega)) h34
              ·
                contradiction
    · skip
      refine pOp.bad (v := -1000001) 0 I ?_ (fun M1 hF => ?_)
      · skip
        refine fv_F.of (ls := [some (.ref 0), some (.int k), some (.int a), none]) (by decide) (Nat.le_of_ble_eq_true rfl) rfl ?_
        refine x_iload_n (pc := 0) dX6_as_0 rfl rfl ?_
        refine x_bipush (pc := 1) (v := 9) dX6_as_1 rfl ?_
        refine x_Si (pc := 3) ks_X6_51 dX6_as_3 (hX6_isUpTo) rfl rfl rfl (Nat.le_of_ble_eq_true rfl) ?_
        refine x_ifb_eq (pc := 6) dX6_as_6 (tgt := 18) rfl (fun h6 => ?_) (fun h6 => ?_)
        ·
          contradiction
        ·
          refine x_iload_n (pc := 9) dX6_as_9 rfl rfl ?_
          refine x_bipush (pc := 10) (v := 6) dX6_as_10 rfl ?_
          refine x_Si (pc := 12) ks_X6_51 dX6_as_12 (hX6_isUpTo) rfl rfl rfl (Nat.le_of_ble_eq_true rfl) ?_
          refine x_ifb_ne (pc := 15) dX6_as_15 (tgt := 25) rfl (fun h15 => ?_) (fun h15 => ?_)
          ·
            contradiction
          ·
            refine x_aload_n (pc := 18) dX6_as_18 rfl rfl ?_
            refine x_ldc (pc := 19) kc_X6_55 dX6_as_19 ?_
            refine x_Vi (pc := 21) ks_X6_56 dX6_as_21 (tb_fv) rfl rfl (hX6_fin 0 (-1000001) (by decide +kernel) (by decide)) rfl rfl rfl (Nat.le_of_ble_eq_true rfl) ?_
            refine x_iret (pc := 24) dX6_as_24 rfl (by first | rfl | exact fv_nz _) ?_
            exact ⟨rfl, rfl⟩
      · skip
        have e22 : M1 22 = M 22 := hF 22 (by decide)
        have hG1 : pGd (M1 22) nb nm := by rw [e22]; exact hG2
        have hE1 : pEq nb nm (M1 22) (M 0) := by rw [e22]; exact hE
        have hB1 := hG1.1
        have hM1 := hG1.2.2.1
        refine fv_F.of (ls := [some (.ref 106), some (.int k), some (.int a), none, none]) (by decide) (Nat.le_of_ble_eq_true rfl) rfl ?_
        refine x_iload_n (pc := 0) dX7_as_0 rfl rfl ?_
        refine x_Si (pc := 1) ks_X7_261 dX7_as_1 (hX7_isSpot) rfl rfl rfl (Nat.le_of_ble_eq_true rfl) ?_
        refine x_ifb_eq (pc := 4) dX7_as_4 (tgt := 17) rfl (fun h4 => ?_) (fun h4 => ?_)
        ·
          contradiction
        ·
          refine x_iload_n (pc := 7) dX7_as_7 rfl rfl ?_
          refine x_iconst (pc := 8) (v := 0) dX7_as_8 rfl ?_
          refine x_bipush (pc := 9) (v := 6) dX7_as_9 rfl ?_
          refine x_Si (pc := 11) ks_X7_60 dX7_as_11 (hX7_in1) rfl rfl rfl (Nat.le_of_ble_eq_true rfl) ?_
          refine x_ifb_ne (pc := 14) dX7_as_14 (tgt := 23) rfl (fun h14 => ?_) (fun h14 => ?_)
          ·
            contradiction
          ·
            refine x_aload_n (pc := 17) dX7_as_17 rfl rfl ?_
            refine x_iconst (pc := 18) (v := 0) dX7_as_18 rfl ?_
            refine x_Vi (pc := 19) ks_X7_114 dX7_as_19 (tb_106) rfl rfl (hX7_noL 0 (-1000001) (by decide) (by decide +kernel)) rfl rfl rfl (Nat.le_of_ble_eq_true rfl) ?_
            refine x_iret (pc := 22) dX7_as_22 rfl (by first | rfl | exact fv_nz _) ?_
            exact ⟨rfl, rfl⟩
  · skip
    refine pOp.bad (v := -1000001) 0 I ?_ (fun M1 hF => ?_)
    · skip
      refine fv_F.of (ls := [some (.ref 0), some (.int k), some (.int a), none]) (by decide) (Nat.le_of_ble_eq_true rfl) rfl ?_
      refine x_iload_n (pc := 0) dX6_as_0 rfl rfl ?_
      refine x_bipush (pc := 1) (v := 9) dX6_as_1 rfl ?_
      refine x_Si (pc := 3) ks_X6_51 dX6_as_3 (hX6_isUpTo) rfl rfl rfl (Nat.le_of_ble_eq_true rfl) ?_
      refine x_ifb_eq (pc := 6) dX6_as_6 (tgt := 18) rfl (fun h6 => ?_) (fun h6 => ?_)
      ·
        refine x_aload_n (pc := 18) dX6_as_18 rfl rfl ?_
        refine x_ldc (pc := 19) kc_X6_55 dX6_as_19 ?_
        refine x_Vi (pc := 21) ks_X6_56 dX6_as_21 (tb_fv) rfl rfl (hX6_fin 0 (-1000001) (by decide +kernel) (by decide)) rfl rfl rfl (Nat.le_of_ble_eq_true rfl) ?_
        refine x_iret (pc := 24) dX6_as_24 rfl (by first | rfl | exact fv_nz _) ?_
        exact ⟨rfl, rfl⟩
      ·
        contradiction
    · skip
      have e22 : M1 22 = M 22 := hF 22 (by decide)
      have hG1 : pGd (M1 22) nb nm := by rw [e22]; exact hG2
      have hE1 : pEq nb nm (M1 22) (M 0) := by rw [e22]; exact hE
      have hB1 := hG1.1
      have hM1 := hG1.2.2.1
      refine fv_F.of (ls := [some (.ref 106), some (.int k), some (.int a), none, none]) (by decide) (Nat.le_of_ble_eq_true rfl) rfl ?_
      refine x_iload_n (pc := 0) dX7_as_0 rfl rfl ?_
      refine x_Si (pc := 1) ks_X7_261 dX7_as_1 (hX7_isSpot) rfl rfl rfl (Nat.le_of_ble_eq_true rfl) ?_
      refine x_ifb_eq (pc := 4) dX7_as_4 (tgt := 17) rfl (fun h4 => ?_) (fun h4 => ?_)
      ·
        refine x_aload_n (pc := 17) dX7_as_17 rfl rfl ?_
        refine x_iconst (pc := 18) (v := 0) dX7_as_18 rfl ?_
        refine x_Vi (pc := 19) ks_X7_114 dX7_as_19 (tb_106) rfl rfl (hX7_noL 0 (-1000001) (by decide) (by decide +kernel)) rfl rfl rfl (Nat.le_of_ble_eq_true rfl) ?_
        refine x_iret (pc := 22) dX7_as_22 rfl (by first | rfl | exact fv_nz _) ?_
        exact ⟨rfl, rfl⟩
      ·
        contradiction
theorem op_tear {E : fv_E} {M : fv_M} (I : pInv M) : pOp E mX6_tear mX7_tear [] M := by
  obtain ⟨nb, nm, hG, hE, t, ht, eT⟩ := I.1
  have hs0 : 0 < 3 := by decide
  have hs1 : 1 < 3 := by decide
  have hB := hG.1
  have hb := hG.2.1
  have hM := hG.2.2.1
  have hn := hG.2.2.2.1
  have hK := hG.K
  have hC := hG.C
  have hG2 : pGd (M 22) nb nm := hG.cg hE
  obtain ⟨e3, hk3⟩ := I.2.1
  have hv : M 3 3 = 0 ∨ M 3 3 = 1 := hk3.imp (fun h => h) (fun h => h.1)
  refine pOp.of (v := M 3 3) (P := fun M1 => M1 = fv_s M 3 (fv_u (M 3) 3 0)) ?_ (fun M1 hM1 => ?_)
  · skip
    refine fv_P.of (ls := [some (.ref 0), none]) (by decide) (Nat.le_of_ble_eq_true rfl) rfl ?_
    refine x_aload_n (pc := 0) dX6_tear_0 rfl rfl ?_
    refine x_geti (pc := 1) fl_X6_22 dX6_tear_1 (tb_fv) rfl (rfl) ?_
    refine x_if_eq (pc := 4) dX6_tear_4 (tgt := 11) rfl (fun h4 => ?_) (fun h4 => ?_)
    ·
      refine x_iconst (pc := 11) (v := 0) dX6_tear_11 rfl ?_
      refine x_istore_n1 (pc := 12) dX6_tear_12 rfl ?_
      refine x_aload_n (pc := 13) dX6_tear_13 rfl rfl ?_
      refine x_iconst (pc := 14) (v := 0) dX6_tear_14 rfl ?_
      refine x_put (pc := 15) fl_X6_22 dX6_tear_15 (tb_fv) rfl (by first | rfl | exact fv_nz _) rfl ?_
      refine x_iload_n (pc := 18) dX6_tear_18 rfl rfl ?_
      refine x_iret (pc := 19) dX6_tear_19 rfl (by first | rfl | exact fv_nz _) ?_
      first | exact ⟨congrArg (fun z => some (Value.int z)) (hv.resolve_left h4).symm, rfl⟩ | exact ⟨congrArg (fun z => some (Value.int z)) h4.symm, rfl⟩
    ·
      refine x_iconst (pc := 7) (v := 1) dX6_tear_7 rfl ?_
      refine x_goto (pc := 8) dX6_tear_8 (tgt := 12) rfl ?_
      refine x_istore_n1 (pc := 12) dX6_tear_12 rfl ?_
      refine x_aload_n (pc := 13) dX6_tear_13 rfl rfl ?_
      refine x_iconst (pc := 14) (v := 0) dX6_tear_14 rfl ?_
      refine x_put (pc := 15) fl_X6_22 dX6_tear_15 (tb_fv) rfl (by first | rfl | exact fv_nz _) rfl ?_
      refine x_iload_n (pc := 18) dX6_tear_18 rfl rfl ?_
      refine x_iret (pc := 19) dX6_tear_19 rfl (by first | rfl | exact fv_nz _) ?_
      first | exact ⟨congrArg (fun z => some (Value.int z)) (hv.resolve_left h4).symm, rfl⟩ | exact ⟨congrArg (fun z => some (Value.int z)) h4.symm, rfl⟩
  · subst hM1
    have e21 : (fv_s M 3 (fv_u (M 3) 3 0)) 21 3 = M 3 3 := by rw [fv_s_ne _ _ (by decide)]; exact e3
    have hend : pInv (fv_s (fv_s M 3 (fv_u (M 3) 3 0)) 21 (fv_u ((fv_s M 3 (fv_u (M 3) 3 0)) 21) 3 0)) := I.kept ((pFr.rfl'.s (by decide)).s (by decide)) (by rw [fv_s_ne _ _ (by decide), fv_s_ne _ _ (by decide), fv_s_ne _ _ (by decide), fv_s_ne _ _ (by decide)]; exact I.1) (by rw [fv_s_ne _ _ (by decide), fv_s_same, fv_u_same, fv_s_same, fv_u_same]; exact ⟨rfl, Or.inl rfl⟩) (by rw [fv_s_same, fv_u_ne _ _ (by decide), fv_s_ne _ _ (by decide)])
    refine fv_P.of (ls := [some (.ref 106), none]) (by decide) (Nat.le_of_ble_eq_true rfl) rfl ?_
    refine x_aload_n (pc := 0) dX7_tear_0 rfl rfl ?_
    refine x_geti (pc := 1) fl_X7_267 dX7_tear_1 (tb_106) rfl (e21) ?_
    refine x_if_eq (pc := 4) dX7_tear_4 (tgt := 11) rfl (fun h4 => ?_) (fun h4 => ?_)
    ·
      refine x_iconst (pc := 11) (v := 0) dX7_tear_11 rfl ?_
      refine x_istore_n1 (pc := 12) dX7_tear_12 rfl ?_
      refine x_aload_n (pc := 13) dX7_tear_13 rfl rfl ?_
      refine x_iconst (pc := 14) (v := 0) dX7_tear_14 rfl ?_
      refine x_put (pc := 15) fl_X7_267 dX7_tear_15 (tb_106) rfl (by first | rfl | exact fv_nz _) rfl ?_
      refine x_iload_n (pc := 18) dX7_tear_18 rfl rfl ?_
      refine x_iret (pc := 19) dX7_tear_19 rfl (by first | rfl | exact fv_nz _) ?_
      first | exact ⟨congrArg (fun z => some (Value.int z)) (hv.resolve_left h4).symm, hend⟩ | exact ⟨congrArg (fun z => some (Value.int z)) h4.symm, hend⟩
    ·
      refine x_iconst (pc := 7) (v := 1) dX7_tear_7 rfl ?_
      refine x_goto (pc := 8) dX7_tear_8 (tgt := 12) rfl ?_
      refine x_istore_n1 (pc := 12) dX7_tear_12 rfl ?_
      refine x_aload_n (pc := 13) dX7_tear_13 rfl rfl ?_
      refine x_iconst (pc := 14) (v := 0) dX7_tear_14 rfl ?_
      refine x_put (pc := 15) fl_X7_267 dX7_tear_15 (tb_106) rfl (by first | rfl | exact fv_nz _) rfl ?_
      refine x_iload_n (pc := 18) dX7_tear_18 rfl rfl ?_
      refine x_iret (pc := 19) dX7_tear_19 rfl (by first | rfl | exact fv_nz _) ?_
      first | exact ⟨congrArg (fun z => some (Value.int z)) (hv.resolve_left h4).symm, hend⟩ | exact ⟨congrArg (fun z => some (Value.int z)) h4.symm, hend⟩
theorem op_wipe {E : fv_E} {M : fv_M} (I : pInv M) : pOp E mX6_wipe mX7_wipe [] M := by
  obtain ⟨nb, nm, hG, hE, t, ht, eT⟩ := I.1
  have hs0 : 0 < 3 := by decide
  have hs1 : 1 < 3 := by decide
  have hB := hG.1
  have hb := hG.2.1
  have hM := hG.2.2.1
  have hn := hG.2.2.2.1
  have hK := hG.K
  have hC := hG.C
  have hG2 : pGd (M 22) nb nm := hG.cg hE
  obtain ⟨L, hL, e4, e21, hby⟩ := I.2.2.1
  refine pOp.of (v := nI L) (P := fun M1 => M1 = fv_s M 4 (fv_u (M 4) 0 0)) ?_ (fun M1 hM1 => ?_)
  · skip
    refine fv_P.of (ls := [some (.ref 0), none]) (by decide) (Nat.le_of_ble_eq_true rfl) rfl ?_
    refine x_aload_n (pc := 0) dX6_wipe_0 rfl rfl ?_
    refine x_geta (pc := 1) fl_X6_29 dX6_wipe_1 (tb_fv) rfl ?_
    refine x_geti (pc := 4) fl_X6_231 dX6_wipe_4 (tb_88) rfl (e4) ?_
    refine x_istore_n1 (pc := 7) dX6_wipe_7 rfl ?_
    refine x_aload_n (pc := 8) dX6_wipe_8 rfl rfl ?_
    refine x_geta (pc := 9) fl_X6_29 dX6_wipe_9 (tb_fv) rfl ?_
    refine x_iconst (pc := 12) (v := 0) dX6_wipe_12 rfl ?_
    refine x_put (pc := 13) fl_X6_231 dX6_wipe_13 (tb_88) rfl rfl rfl ?_
    refine x_iload_n (pc := 16) dX6_wipe_16 rfl rfl ?_
    refine x_iret (pc := 17) dX6_wipe_17 rfl (by first | rfl | exact fv_nz _) ?_
    exact ⟨rfl, rfl⟩
  · subst hM1
    have e21' : (fv_s M 4 (fv_u (M 4) 0 0)) 21 12 = nI L := by rw [fv_s_ne _ _ (by decide)]; exact e21
    have hend : pInv (fv_s (fv_s M 4 (fv_u (M 4) 0 0)) 21 (fv_u ((fv_s M 4 (fv_u (M 4) 0 0)) 21) 12 0)) := I.tape ((pFr.rfl'.s (by decide)).s (by decide)) (by rw [fv_s_ne _ _ (by decide), fv_s_same, fv_u_same, fv_s_same, fv_u_same]; exact ⟨0, by decide, rfl, rfl, fun i hi => absurd hi (Nat.not_lt_zero i)⟩) (by rw [fv_s_same, fv_u_ne _ _ (by decide), fv_s_ne _ _ (by decide)])
    refine fv_P.of (ls := [some (.ref 106), none]) (by decide) (Nat.le_of_ble_eq_true rfl) rfl ?_
    refine x_aload_n (pc := 0) dX7_wipe_0 rfl rfl ?_
    refine x_geti (pc := 1) fl_X7_209 dX7_wipe_1 (tb_106) rfl (e21') ?_
    refine x_istore_n1 (pc := 4) dX7_wipe_4 rfl ?_
    refine x_aload_n (pc := 5) dX7_wipe_5 rfl rfl ?_
    refine x_iconst (pc := 6) (v := 0) dX7_wipe_6 rfl ?_
    refine x_put (pc := 7) fl_X7_209 dX7_wipe_7 (tb_106) rfl rfl rfl ?_
    refine x_iload_n (pc := 10) dX7_wipe_10 rfl rfl ?_
    refine x_iret (pc := 11) dX7_wipe_11 rfl (by first | rfl | exact fv_nz _) ?_
    exact ⟨rfl, hend⟩
theorem op_image {E : fv_E} {M : fv_M} (I : pInv M) : pOp E mX6_image mX7_image [] M := by
  obtain ⟨nb, nm, hG, hE, t, ht, eT⟩ := I.1
  have hs0 : 0 < 3 := by decide
  have hs1 : 1 < 3 := by decide
  have hB := hG.1
  have hb := hG.2.1
  have hM := hG.2.2.1
  have hn := hG.2.2.2.1
  have hK := hG.K
  have hC := hG.C
  have hG2 : pGd (M 22) nb nm := hG.cg hE
  have hbec := hX4_become (E := E) (d := 10) (s := 2) (t := 0) (nb := nb) (nm := nm) (M := M) (by decide) hs0 (by decide) hB hb hM hn
  have hs2 : 2 < 3 := by decide
  generalize hρ : pSB (M 2) (M 0) nb nm = ρ at hbec
  have hρe : pEq nb nm ρ (M 0) := by rw [← hρ]; exact pSB_eq hb
  have hGρ : pGd ρ nb nm := hG.cg hρe
  refine pOp.of (v := 1) (P := fun M1 => M1 = fv_s (fv_s M 2 ρ) 3 (fv_u (M 3) 3 1)) ?_ (fun M1 hM1 => ?_)
  · skip
    refine fv_P.of (ls := [some (.ref 0)]) (by decide) (Nat.le_of_ble_eq_true rfl) rfl ?_
    refine x_aload_n (pc := 0) dX6_image_0 rfl rfl ?_
    refine x_geta (pc := 1) fl_X6_19 dX6_image_1 (tb_fv) rfl ?_
    refine x_aload_n (pc := 4) dX6_image_4 rfl rfl ?_
    refine x_geta (pc := 5) fl_X6_12 dX6_image_5 (tb_fv) rfl ?_
    refine x_Vv (pc := 8) ks_X6_150 dX6_image_8 (tb_st hs2) rfl rfl (hbec) rfl rfl rfl (Nat.le_of_ble_eq_true rfl) ?_
    refine x_aload_n (pc := 11) dX6_image_11 rfl rfl ?_
    refine x_iconst (pc := 12) (v := 1) dX6_image_12 rfl ?_
    refine x_put (pc := 13) fl_X6_22 dX6_image_13 (tb_fv) rfl (by first | rfl | exact fv_nz _) rfl ?_
    refine x_iconst (pc := 16) (v := 1) dX6_image_16 rfl ?_
    refine x_iret (pc := 17) dX6_image_17 rfl (by first | rfl | exact fv_nz _) ?_
    exact ⟨rfl, by rw [fv_s_ne _ _ (by decide)]⟩
  · have e22 : M1 22 = M 22 := by rw [hM1, fv_s_ne _ _ (by decide), fv_s_ne _ _ (by decide)]
    have hend : ∀ M2, M2 = fv_s (fv_s M1 23 (pCpy (M1 23) (M1 22) 114)) 21 (fv_u (M1 21) 3 1) → pInv M2 := fun M2 h => by
      subst h
      subst hM1
      refine I.kept ((((pFr.rfl'.s (by decide)).s (by decide)).s (by decide)).s (by decide)) ⟨nb, nm, ?_⟩ ?_ ?_
      · rw [fv_s_ne _ _ (by decide), fv_s_ne _ _ (by decide), fv_s_ne _ _ (by decide), fv_s_ne _ _ (by decide), fv_s_ne _ _ (by decide), fv_s_ne _ _ (by decide), fv_s_ne _ _ (by decide), fv_s_ne _ _ (by decide)]; exact ⟨hG, hE, t, ht, eT⟩
      · rw [fv_s_ne _ _ (by decide), fv_s_ne _ _ (by decide), fv_s_same, fv_u_same, fv_s_same, fv_u_same]
        refine ⟨rfl, Or.inr ⟨rfl, nb, nm, ?_⟩⟩
        rw [fv_s_ne _ _ (by decide), fv_s_ne _ _ (by decide), fv_s_ne _ _ (by decide), fv_s_same, fv_s_ne _ _ (by decide), fv_s_same, e22]
        refine ⟨hGρ, fun j hj => ?_, t, ht, (hρe.n (by decide)).trans eT⟩
        rw [pCpy_lt (pLv_lt hb hn hj)]
        exact (hE j hj).trans (hρe j hj).symm
      · rw [fv_s_same, fv_u_ne _ _ (by decide), fv_s_ne _ _ (by decide), fv_s_ne _ _ (by decide)]
    refine fv_P.of (ls := [some (.ref 106), none]) (by decide) (Nat.le_of_ble_eq_true rfl) rfl ?_
    refine x_iconst (pc := 0) (v := 0) dX7_image_0 rfl ?_
    refine x_istore_n1 (pc := 1) dX7_image_1 rfl ?_
    refine x_loop (fun j => [some (.ref 106), some (.int (nI j))]) (fun j => fv_s M1 23 (pCpy (M1 23) (M1 22) j)) (114) (rfl) (by rw [pCpy_0, fv_s_id]) (fun j hj hn2 => ?_) ?_
    ·
      replace hn2 : fv_X E mX7_image _ _ 2 ([some (.ref 106), some (.int (nI (j + 1)))]) ([]) (fv_s M1 23 (pCpy (M1 23) (M1 22) (j + 1))) := hn2
      show fv_X E mX7_image _ _ 2 ([some (.ref 106), some (.int (nI j))]) ([]) (fv_s M1 23 (pCpy (M1 23) (M1 22) j))
      refine x_iload_n (pc := 2) dX7_image_2 rfl rfl ?_
      refine x_bipush (pc := 3) (v := 114) dX7_image_3 rfl ?_
      refine x_icmp_ge (pc := 5) dX7_image_5 (tgt := 26) rfl (fun h5 => ?_) (fun h5 => ?_)
      ·
        exact absurd h5 (nI_ge hj (by first | decide | omega))
      ·
        refine x_aload_n (pc := 8) dX7_image_8 rfl rfl ?_
        refine x_geta (pc := 9) fl_X7_13 dX7_image_9 (tb_106) rfl ?_
        refine x_iload_n (pc := 12) dX7_image_12 rfl rfl ?_
        refine x_aload_n (pc := 13) dX7_image_13 rfl rfl ?_
        refine x_geta (pc := 14) fl_X7_9 dX7_image_14 (tb_106) rfl ?_
        refine x_iload_n (pc := 17) dX7_image_17 rfl rfl ?_
        refine x_iald (pc := 18) dX7_image_18 (tb_107) (rfl) (by first | assumption | decide | omega) (by first | decide | assumption) ?_
        refine x_iast (pc := 19) dX7_image_19 (tb_108) (rfl) (by first | assumption | decide | omega) (by first | decide | assumption) ?_
        rw [fv_s_same, fv_s_s, fv_s_ne _ _ (by decide), Nat.zero_add, pCpy_s]
        refine x_iinc1 (pc := 20) dX7_image_20 (by first | exact fv_inc _ | exact fv_dec _ | rfl) rfl ?_
        refine x_goto (pc := 23) dX7_image_23 (tgt := 2) rfl ?_
        exact hn2
    ·
      show fv_X E mX7_image _ _ 2 ([some (.ref 106), some (.int (nI (114)))]) ([]) (fv_s M1 23 (pCpy (M1 23) (M1 22) (114)))
      refine x_iload_n (pc := 2) dX7_image_2 rfl rfl ?_
      refine x_bipush (pc := 3) (v := 114) dX7_image_3 rfl ?_
      refine x_icmp_ge (pc := 5) dX7_image_5 (tgt := 26) rfl (fun h5 => ?_) (fun h5 => ?_)
      ·
        refine x_aload_n (pc := 26) dX7_image_26 rfl rfl ?_
        refine x_iconst (pc := 27) (v := 1) dX7_image_27 rfl ?_
        refine x_put (pc := 28) fl_X7_267 dX7_image_28 (tb_106) rfl (by first | rfl | exact fv_nz _) rfl ?_
        refine x_iconst (pc := 31) (v := 1) dX7_image_31 rfl ?_
        refine x_iret (pc := 32) dX7_image_32 rfl (by first | rfl | exact fv_nz _) ?_
        exact ⟨rfl, hend _ (by rw [fv_s_ne _ _ (by decide)])⟩
      ·
        exact absurd (Int32.le_refl _) h5
theorem op_undo {E : fv_E} {M : fv_M} (I : pInv M) : pOp E mX6_undo mX7_undo [] M := by
  obtain ⟨nb, nm, hG, hE, t, ht, eT⟩ := I.1
  have hs0 : 0 < 3 := by decide
  have hs1 : 1 < 3 := by decide
  have hB := hG.1
  have hb := hG.2.1
  have hM := hG.2.2.1
  have hn := hG.2.2.2.1
  have hK := hG.K
  have hC := hG.C
  have hG2 : pGd (M 22) nb nm := hG.cg hE
  obtain ⟨e3, hk3⟩ := I.2.1
  rcases hk3 with h30 | ⟨h31, kb, km, hGk, hEk, t2, ht2, eT2⟩
  · skip
    refine pOp.bad (v := -1000004) 3 I ?_ (fun M1 hF => ?_)
    · skip
      refine fv_F.of (ls := [some (.ref 0)]) (by decide) (Nat.le_of_ble_eq_true rfl) rfl ?_
      refine x_aload_n (pc := 0) dX6_undo_0 rfl rfl ?_
      refine x_geti (pc := 1) fl_X6_22 dX6_undo_1 (tb_fv) rfl (rfl) ?_
      refine x_if_ne (pc := 4) dX6_undo_4 (tgt := 14) rfl (fun h4 => ?_) (fun h4 => ?_)
      ·
        exact absurd h30 h4
      ·
        refine x_aload_n (pc := 7) dX6_undo_7 rfl rfl ?_
        refine x_ldc (pc := 8) kc_X6_154 dX6_undo_8 ?_
        refine x_Vi (pc := 10) ks_X6_56 dX6_undo_10 (tb_fv) rfl rfl (hX6_fin 3 (-1000004) (by decide +kernel) (by decide)) rfl rfl rfl (Nat.le_of_ble_eq_true rfl) ?_
        refine x_iret (pc := 13) dX6_undo_13 rfl (by first | rfl | exact fv_nz _) ?_
        exact ⟨rfl, rfl⟩
    · skip
      have e22 : M1 22 = M 22 := hF 22 (by decide)
      have hG1 : pGd (M1 22) nb nm := by rw [e22]; exact hG2
      have hE1 : pEq nb nm (M1 22) (M 0) := by rw [e22]; exact hE
      have hB1 := hG1.1
      have hM1 := hG1.2.2.1
      refine fv_F.of (ls := [some (.ref 106), none]) (by decide) (Nat.le_of_ble_eq_true rfl) rfl ?_
      refine x_aload_n (pc := 0) dX7_undo_0 rfl rfl ?_
      refine x_geti (pc := 1) fl_X7_267 dX7_undo_1 (tb_106) rfl ((congrFun (hF 21 (by decide)) 3).trans e3) ?_
      refine x_if_ne (pc := 4) dX7_undo_4 (tgt := 13) rfl (fun h4 => ?_) (fun h4 => ?_)
      ·
        exact absurd h30 h4
      ·
        refine x_aload_n (pc := 7) dX7_undo_7 rfl rfl ?_
        refine x_iconst (pc := 8) (v := 3) dX7_undo_8 rfl ?_
        refine x_Vi (pc := 9) ks_X7_114 dX7_undo_9 (tb_106) rfl rfl (hX7_noL 3 (-1000004) (by decide) (by decide +kernel)) rfl rfl rfl (Nat.le_of_ble_eq_true rfl) ?_
        refine x_iret (pc := 12) dX7_undo_12 rfl (by first | rfl | exact fv_nz _) ?_
        exact ⟨rfl, rfl⟩
  · have hs2 : 2 < 3 := by decide
    have hbec := hX4_become (E := E) (d := 10) (s := 0) (t := 2) (nb := kb) (nm := km) (M := M) hs0 hs2 (by decide) hGk.1 hGk.2.1 hGk.2.2.1 hGk.2.2.2.1
    generalize hρ : pSB (M 0) (M 2) kb km = ρ at hbec
    have hρe : pEq kb km ρ (M 2) := by rw [← hρ]; exact pSB_eq hGk.2.1
    have hGρ : pGd ρ kb km := hGk.cg hρe
    have hρ0 : ρ 0 = nI t2 := (hρe.n (by decide)).trans eT2
    refine pOp.of (v := nI t2) (P := fun M1 => M1 = fv_s M 0 ρ) ?_ (fun M1 hM1 => ?_)
    · skip
      refine fv_P.of (ls := [some (.ref 0)]) (by decide) (Nat.le_of_ble_eq_true rfl) rfl ?_
      refine x_aload_n (pc := 0) dX6_undo_0 rfl rfl ?_
      refine x_geti (pc := 1) fl_X6_22 dX6_undo_1 (tb_fv) rfl (rfl) ?_
      refine x_if_ne (pc := 4) dX6_undo_4 (tgt := 14) rfl (fun h4 => ?_) (fun h4 => ?_)
      ·
        refine x_aload_n (pc := 14) dX6_undo_14 rfl rfl ?_
        refine x_geta (pc := 15) fl_X6_12 dX6_undo_15 (tb_fv) rfl ?_
        refine x_aload_n (pc := 18) dX6_undo_18 rfl rfl ?_
        refine x_geta (pc := 19) fl_X6_19 dX6_undo_19 (tb_fv) rfl ?_
        refine x_Vv (pc := 22) ks_X6_150 dX6_undo_22 (tb_st hs0) rfl rfl (hbec) rfl rfl rfl (Nat.le_of_ble_eq_true rfl) ?_
        refine x_aload_n (pc := 25) dX6_undo_25 rfl rfl ?_
        refine x_geta (pc := 26) fl_X6_12 dX6_undo_26 (tb_fv) rfl ?_
        refine x_geti (pc := 29) fl_X6_130 dX6_undo_29 (tb_st (by assumption)) rfl ((congrFun (fv_s_same M 0 ρ) 0).trans hρ0) ?_
        refine x_iret (pc := 32) dX6_undo_32 rfl (by first | rfl | exact fv_nz _) ?_
        exact ⟨rfl, rfl⟩
      ·
        exact absurd (h31.symm.trans h4) (by decide)
    · have e23 : M1 23 = M 23 := by rw [hM1, fv_s_ne _ _ (by decide)]
      have e21 : M1 21 3 = 1 := by rw [hM1, fv_s_ne _ _ (by decide), e3, h31]
      have q0 : pCpy (M1 22) (M1 23) 114 0 = nI t2 := by rw [pCpy_lt (by decide), e23]; exact (hEk.n (by decide)).trans eT2
      have hend : ∀ M2, M2 = fv_s M1 22 (pCpy (M1 22) (M1 23) 114) → pInv M2 := fun M2 h => by
        subst h
        rw [e23]
        subst hM1
        refine I.kept ((pFr.rfl'.s (by decide)).s (by decide)) ⟨kb, km, ?_⟩ ?_ ?_
        · rw [fv_s_ne _ _ (by decide), fv_s_same, fv_s_same, fv_s_ne _ _ (by decide)]
          refine ⟨hGρ, fun j hj => ?_, t2, ht2, hρ0⟩
          rw [pCpy_lt (pLv_lt hGk.2.1 hGk.2.2.2.1 hj)]
          exact (hEk j hj).trans (hρe j hj).symm
        · rw [fv_s_ne _ _ (by decide), fv_s_ne _ _ (by decide), fv_s_ne _ _ (by decide), fv_s_ne _ _ (by decide), fv_s_ne _ _ (by decide), fv_s_ne _ _ (by decide), fv_s_ne _ _ (by decide), fv_s_ne _ _ (by decide)]; exact I.2.1
        · rw [fv_s_ne _ _ (by decide), fv_s_ne _ _ (by decide)]
      refine fv_P.of (ls := [some (.ref 106), none]) (by decide) (Nat.le_of_ble_eq_true rfl) rfl ?_
      refine x_aload_n (pc := 0) dX7_undo_0 rfl rfl ?_
      refine x_geti (pc := 1) fl_X7_267 dX7_undo_1 (tb_106) rfl (e21) ?_
      refine x_if_ne (pc := 4) dX7_undo_4 (tgt := 13) rfl (fun h4 => ?_) (fun h4 => ?_)
      ·
        refine x_iconst (pc := 13) (v := 0) dX7_undo_13 rfl ?_
        refine x_istore_n1 (pc := 14) dX7_undo_14 rfl ?_
        refine x_loop (fun j => [some (.ref 106), some (.int (nI j))]) (fun j => fv_s M1 22 (pCpy (M1 22) (M1 23) j)) (114) (rfl) (by rw [pCpy_0, fv_s_id]) (fun j hj hn15 => ?_) ?_
        ·
          replace hn15 : fv_X E mX7_undo _ _ 15 ([some (.ref 106), some (.int (nI (j + 1)))]) ([]) (fv_s M1 22 (pCpy (M1 22) (M1 23) (j + 1))) := hn15
          show fv_X E mX7_undo _ _ 15 ([some (.ref 106), some (.int (nI j))]) ([]) (fv_s M1 22 (pCpy (M1 22) (M1 23) j))
          refine x_iload_n (pc := 15) dX7_undo_15 rfl rfl ?_
          refine x_bipush (pc := 16) (v := 114) dX7_undo_16 rfl ?_
          refine x_icmp_ge (pc := 18) dX7_undo_18 (tgt := 39) rfl (fun h18 => ?_) (fun h18 => ?_)
          ·
            exact absurd h18 (nI_ge hj (by first | decide | omega))
          ·
            refine x_aload_n (pc := 21) dX7_undo_21 rfl rfl ?_
            refine x_geta (pc := 22) fl_X7_9 dX7_undo_22 (tb_106) rfl ?_
            refine x_iload_n (pc := 25) dX7_undo_25 rfl rfl ?_
            refine x_aload_n (pc := 26) dX7_undo_26 rfl rfl ?_
            refine x_geta (pc := 27) fl_X7_13 dX7_undo_27 (tb_106) rfl ?_
            refine x_iload_n (pc := 30) dX7_undo_30 rfl rfl ?_
            refine x_iald (pc := 31) dX7_undo_31 (tb_108) (rfl) (by first | assumption | decide | omega) (by first | decide | assumption) ?_
            refine x_iast (pc := 32) dX7_undo_32 (tb_107) (rfl) (by first | assumption | decide | omega) (by first | decide | assumption) ?_
            rw [fv_s_same, fv_s_s, fv_s_ne _ _ (by decide), Nat.zero_add, pCpy_s]
            refine x_iinc1 (pc := 33) dX7_undo_33 (by first | exact fv_inc _ | exact fv_dec _ | rfl) rfl ?_
            refine x_goto (pc := 36) dX7_undo_36 (tgt := 15) rfl ?_
            exact hn15
        ·
          show fv_X E mX7_undo _ _ 15 ([some (.ref 106), some (.int (nI (114)))]) ([]) (fv_s M1 22 (pCpy (M1 22) (M1 23) (114)))
          refine x_iload_n (pc := 15) dX7_undo_15 rfl rfl ?_
          refine x_bipush (pc := 16) (v := 114) dX7_undo_16 rfl ?_
          refine x_icmp_ge (pc := 18) dX7_undo_18 (tgt := 39) rfl (fun h18 => ?_) (fun h18 => ?_)
          ·
            refine x_aload_n (pc := 39) dX7_undo_39 rfl rfl ?_
            refine x_geta (pc := 40) fl_X7_9 dX7_undo_40 (tb_106) rfl ?_
            refine x_iconst (pc := 43) (v := 0) dX7_undo_43 rfl ?_
            refine x_iale (pc := 44) dX7_undo_44 (tb_107) ((rfl : (0 : Int32) = nI 0)) (by decide) (by first | decide | assumption) ((congrFun (fv_s_same M1 22 _) 0).trans q0) ?_
            refine x_iret (pc := 45) dX7_undo_45 rfl (by first | rfl | exact fv_nz _) ?_
            exact ⟨rfl, hend _ rfl⟩
          ·
            exact absurd (Int32.le_refl _) h18
      ·
        exact absurd h4 (by decide)
