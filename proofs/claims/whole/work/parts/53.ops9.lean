theorem pLw_all : ((List.range 8).all fun m => (List.range (2 ^ m)).all fun a => (List.range 2).all fun l => decide ((nI a ||| (nI l <<< (nI m &&& 31))) = nI (a + l * 2 ^ m) ∧ a + l * 2 ^ m < 2 ^ (m + 1))) = true := by decide +kernel
theorem pLw_n {σ : Nat → Int32} {nm : Nat} (h : ∀ m, m < nm → pG2 σ m) (hn : nm ≤ 8) : ∀ m, m ≤ nm → ∃ u, u < 2 ^ m ∧ pLw σ m = nI u := by
  intro m
  induction m with
  | zero => intro _; exact ⟨0, by decide, nI_0.symm⟩
  | succ m ih =>
    intro hm
    obtain ⟨a, ha, ea⟩ := ih (by omega)
    obtain ⟨l, hl, el⟩ := (h m (by omega)).2.2.2.2
    show ∃ u, u < 2 ^ (m + 1) ∧ pLw σ m ||| (σ (fM m 4) <<< (nI m &&& 31)) = nI u
    rw [ea, el]
    have q := of_decide_eq_true (fv_all1 (fv_all1 (fv_all1 pLw_all (show m < 8 by omega)) ha) hl)
    exact ⟨_, q.2, q.1⟩
theorem pLw_8 {σ : Nat → Int32} {nb nm : Nat} (h : pGd σ nb nm) : ∃ u, u < 256 ∧ pLw σ nm = nI u := by
  obtain ⟨u, hu, e⟩ := pLw_n h.2.2.2.2.2.1 h.2.2.2.1 nm (Nat.le_refl _)
  exact ⟨u, Nat.lt_of_lt_of_le hu (pAll_of h.2.2.2.1).2.1, e⟩
theorem sN_at (f : Nat → Int32) (w : Nat) : ∀ n, sN (fun k => if k = w then f k else 0) n = if w < n then f w else 0 := by
  intro n
  induction n with
  | zero => rw [if_neg (Nat.not_lt_zero w)]; rfl
  | succ n ih =>
    show sN (fun k => if k = w then f k else 0) n + (if n = w then f n else 0) = _
    rw [ih]
    by_cases h : n = w
    · subst h; rw [if_neg (Nat.lt_irrefl n), if_pos rfl, if_pos (Nat.lt_succ_self n), Int32.zero_add]
    · rw [if_neg h, Int32.add_zero]
      by_cases h2 : w < n
      · rw [if_pos h2, if_pos (by omega)]
      · rw [if_neg h2, if_neg (by omega)]
theorem pFdN (b : Int32) {i : Nat} (hi : i < 4) : ((b.toUInt32 >>> ((8 * nI i).toUInt32 &&& Int32.toUInt32 31)).toInt32 &&& 255) = ((b >>> ((8 * nI i) &&& 31)) &&& 255) ∧ ∃ x, x < 256 ∧ ((b >>> ((8 * nI i) &&& 31)) &&& 255) = nI x := by
  have h255 : (255 : Int32).toBitVec.toNat = 2 ^ 8 - 1 := by decide
  rw [pk_and _ 8 h255, pk_and _ 8 h255]
  refine ⟨?_, _, Nat.mod_lt _ (by decide), rfl⟩
  congr 1
  have hu : ∀ s : Int32, ∀ k, ((s.toUInt32 &&& Int32.toUInt32 31).toBitVec % 32).toNat = k → (b.toUInt32 >>> (s.toUInt32 &&& Int32.toUInt32 31)).toInt32.toBitVec.toNat = b.toBitVec.toNat / 2 ^ k := fun s k h => pk_ushr b s k h
  have hs : ∀ s : Int32, ∀ k, (s.toBitVec.smod 32).toNat = k → (b >>> s).toInt = b.toInt >>> k := fun s k h => pk_shr b s k h
  have tn : ∀ x : Int32, x.toInt = if 2 * x.toBitVec.toNat < 2 ^ 32 then (x.toBitVec.toNat : Int) else (x.toBitVec.toNat : Int) - (2 ^ 32 : Nat) := fun x => BitVec.toInt_eq_toNat_cond x.toBitVec
  have hb := tn b
  have hlt : b.toBitVec.toNat < 2 ^ 32 := b.toBitVec.isLt
  have key : ∀ k : Nat, k = 0 ∨ k = 8 ∨ k = 16 ∨ k = 24 → ∀ y : Int32, y.toInt = b.toInt >>> k → b.toBitVec.toNat / 2 ^ k % 2 ^ 8 = y.toBitVec.toNat % 2 ^ 8 := fun k hk y hy => by
    have hy2 := tn y
    have hyl : y.toBitVec.toNat < 2 ^ 32 := y.toBitVec.isLt
    rw [Int.shiftRight_eq_div_pow] at hy
    rcases hk with rfl | rfl | rfl | rfl
    · split at hb <;> split at hy2 <;> omega
    · split at hb <;> split at hy2 <;> omega
    · split at hb <;> split at hy2 <;> omega
    · split at hb <;> split at hy2 <;> omega
  match i, hi with
  | 0, _ => rw [hu _ 0 (by decide +kernel)]; exact key 0 (Or.inl rfl) _ (hs _ 0 (by decide +kernel))
  | 1, _ => rw [hu _ 8 (by decide +kernel)]; exact key 8 (Or.inr (Or.inl rfl)) _ (hs _ 8 (by decide +kernel))
  | 2, _ => rw [hu _ 16 (by decide +kernel)]; exact key 16 (Or.inr (Or.inr (Or.inl rfl))) _ (hs _ 16 (by decide +kernel))
  | 3, _ => rw [hu _ 24 (by decide +kernel)]; exact key 24 (Or.inr (Or.inr (Or.inr rfl))) _ (hs _ 24 (by decide +kernel))
  | n + 4, h => omega
theorem hX5_add {E : fv_E} {d L : Nat} {v : Int32} {M : fv_M} (h4 : M 4 0 = nI L) (hL : L < 120) : fv_F E d mX5_add [.ref 88, .int v] M none (fv_s (fv_s M 5 (fv_u (M 5) L v)) 4 (fv_u (M 4) 0 (nI L + 1))) := by
  refine fv_F.of (ls := [some (.ref 88), some (.int v)]) (by decide) (Nat.le_of_ble_eq_true rfl) rfl ?_
  refine x_aload_n (pc := 0) dX5_add_0 rfl rfl ?_
  refine x_geti (pc := 1) fl_X5_9 dX5_add_1 (tb_88) rfl (h4) ?_
  refine x_bipush (pc := 4) (v := 120) dX5_add_4 rfl ?_
  refine x_icmp_ge (pc := 6) dX5_add_6 (tgt := 29) rfl (fun h6 => ?_) (fun h6 => ?_)
  ·
    exact absurd h6 (nI_ge (b := 120) hL (by omega))
  ·
    refine x_aload_n (pc := 9) dX5_add_9 rfl rfl ?_
    refine x_geta (pc := 10) fl_X5_15 dX5_add_10 (tb_88) rfl ?_
    refine x_aload_n (pc := 13) dX5_add_13 rfl rfl ?_
    refine x_geti (pc := 14) fl_X5_9 dX5_add_14 (tb_88) rfl (h4) ?_
    refine x_iload_n (pc := 17) dX5_add_17 rfl rfl ?_
    refine x_iast (pc := 18) dX5_add_18 (tb_89) (rfl) (hL) (by first | decide | assumption) ?_
    refine x_aload_n (pc := 19) dX5_add_19 rfl rfl ?_
    first | refine x_dupa (pc := 20) dX5_add_20 ?_ | refine x_dupi (pc := 20) dX5_add_20 ?_
    refine x_geti (pc := 21) fl_X5_9 dX5_add_21 (tb_88) rfl (show _ = nI L from by rw [fv_s_ne _ _ (by decide)]; exact h4) ?_
    refine x_iconst (pc := 24) (v := 1) dX5_add_24 rfl ?_
    refine x_iadd (pc := 25) dX5_add_25 ?_
    refine x_put (pc := 26) fl_X5_9 dX5_add_26 (tb_88) rfl rfl rfl ?_
    refine x_ret (pc := 29) dX5_add_29 rfl ?_
    exact ⟨rfl, by rw [fv_s_ne _ _ (by decide), Nat.zero_add]⟩
theorem op_count {E : fv_E} {q : Int32} {M : fv_M} (I : pInv M) : pOp E mX6_count mX7_count [.int q] M := by
  obtain ⟨nb, nm, hG, hE, t, ht, eT⟩ := I.1
  have hs0 : 0 < 3 := by decide
  have hs1 : 1 < 3 := by decide
  have hB := hG.1
  have hb := hG.2.1
  have hM := hG.2.2.1
  have hn := hG.2.2.2.1
  have hK := hG.K
  have hC := hG.C
  have hG2 : pGd (M 22) nb nm := hG.cg hE
  by_cases hq : 0 ≤ q ∧ q ≤ 7
  · obtain ⟨z, hz, rfl⟩ := pUm (n := 7) (by decide) hq
    obtain ⟨u, hu, eu⟩ := pLw_8 hG
    obtain ⟨L, hL, e4, e21, -⟩ := I.2.2.1
    rcases (show z = 0 ∨ z = 1 ∨ z = 2 ∨ z = 3 ∨ z = 4 ∨ z = 5 ∨ z = 6 ∨ z = 7 by omega) with rfl | rfl | rfl | rfl | rfl | rfl | rfl | rfl
    · skip
      refine pOp.qry (v := M 0 0) I ?_ (fun M1 hF => ?_)
      · skip
        refine fv_P.of (ls := [some (.ref 0), some (.int (nI 0))]) (by decide) (Nat.le_of_ble_eq_true rfl) rfl ?_
        refine x_iload_n (pc := 0) dX6_count_0 rfl rfl ?_
        refine x_tableIn (pc := 1) dX6_count_1 (by decide) (by decide) rfl (tgt := 48) rfl ?_
        refine x_aload_n (pc := 48) dX6_count_48 rfl rfl ?_
        refine x_geta (pc := 49) fl_X6_12 dX6_count_49 (tb_fv) rfl ?_
        refine x_geti (pc := 52) fl_X6_130 dX6_count_52 (tb_st (by assumption)) rfl (rfl) ?_
        refine x_iret (pc := 55) dX6_count_55 rfl (by first | rfl | exact fv_nz _) ?_
        exact ⟨rfl, pFr.rfl'⟩
      · skip
        have e22 : M1 22 = M 22 := hF 22 (by decide)
        have hG1 : pGd (M1 22) nb nm := by rw [e22]; exact hG2
        have hE1 : pEq nb nm (M1 22) (M 0) := by rw [e22]; exact hE
        have hB1 := hG1.1
        have hM1 := hG1.2.2.1
        refine fv_P.of (ls := [some (.ref 106), some (.int (nI 0)), none, none]) (by decide) (Nat.le_of_ble_eq_true rfl) rfl ?_
        refine x_iconst (pc := 0) (v := 0) dX7_count_0 rfl ?_
        refine x_istore_n2 (pc := 1) dX7_count_1 rfl ?_
        refine x_iload_n (pc := 2) dX7_count_2 rfl rfl ?_
        refine x_tableIn (pc := 3) dX7_count_3 (by decide) (by decide) rfl (tgt := 48) rfl ?_
        refine x_aload_n (pc := 48) dX7_count_48 rfl rfl ?_
        refine x_geta (pc := 49) fl_X7_9 dX7_count_49 (tb_106) rfl ?_
        refine x_iconst (pc := 52) (v := 0) dX7_count_52 rfl ?_
        refine x_iale (pc := 53) dX7_count_53 (tb_107) ((rfl : (0 : Int32) = nI 0)) (by decide) (by first | decide | assumption) (hE1.n (j := 0) (by decide)) ?_
        refine x_iret (pc := 54) dX7_count_54 rfl (by first | rfl | exact fv_nz _) ?_
        exact ⟨rfl, pFr.rfl', rfl, rfl, fun _ _ _ => pEq.rfl'⟩
    · skip
      refine pOp.qry (v := nI nb) I ?_ (fun M1 hF => ?_)
      · skip
        refine fv_P.of (ls := [some (.ref 0), some (.int (nI 1))]) (by decide) (Nat.le_of_ble_eq_true rfl) rfl ?_
        refine x_iload_n (pc := 0) dX6_count_0 rfl rfl ?_
        refine x_tableIn (pc := 1) dX6_count_1 (by decide) (by decide) rfl (tgt := 56) rfl ?_
        refine x_aload_n (pc := 56) dX6_count_56 rfl rfl ?_
        refine x_geta (pc := 57) fl_X6_12 dX6_count_57 (tb_fv) rfl ?_
        refine x_geti (pc := 60) fl_X6_60 dX6_count_60 (tb_st (by assumption)) rfl (hB) ?_
        refine x_iret (pc := 63) dX6_count_63 rfl (by first | rfl | exact fv_nz _) ?_
        exact ⟨rfl, pFr.rfl'⟩
      · skip
        have e22 : M1 22 = M 22 := hF 22 (by decide)
        have hG1 : pGd (M1 22) nb nm := by rw [e22]; exact hG2
        have hE1 : pEq nb nm (M1 22) (M 0) := by rw [e22]; exact hE
        have hB1 := hG1.1
        have hM1 := hG1.2.2.1
        refine fv_P.of (ls := [some (.ref 106), some (.int (nI 1)), none, none]) (by decide) (Nat.le_of_ble_eq_true rfl) rfl ?_
        refine x_iconst (pc := 0) (v := 0) dX7_count_0 rfl ?_
        refine x_istore_n2 (pc := 1) dX7_count_1 rfl ?_
        refine x_iload_n (pc := 2) dX7_count_2 rfl rfl ?_
        refine x_tableIn (pc := 3) dX7_count_3 (by decide) (by decide) rfl (tgt := 55) rfl ?_
        refine x_aload_n (pc := 55) dX7_count_55 rfl rfl ?_
        refine x_geta (pc := 56) fl_X7_9 dX7_count_56 (tb_106) rfl ?_
        refine x_iconst (pc := 59) (v := 1) dX7_count_59 rfl ?_
        refine x_iale (pc := 60) dX7_count_60 (tb_107) ((rfl : (1 : Int32) = nI 1)) (by decide) (by first | decide | assumption) (hB1) ?_
        refine x_iret (pc := 61) dX7_count_61 rfl (by first | rfl | exact fv_nz _) ?_
        exact ⟨rfl, pFr.rfl', rfl, rfl, fun _ _ _ => pEq.rfl'⟩
    · skip
      refine pOp.qry (v := nI nm) I ?_ (fun M1 hF => ?_)
      · skip
        refine fv_P.of (ls := [some (.ref 0), some (.int (nI 2))]) (by decide) (Nat.le_of_ble_eq_true rfl) rfl ?_
        refine x_iload_n (pc := 0) dX6_count_0 rfl rfl ?_
        refine x_tableIn (pc := 1) dX6_count_1 (by decide) (by decide) rfl (tgt := 64) rfl ?_
        refine x_aload_n (pc := 64) dX6_count_64 rfl rfl ?_
        refine x_geta (pc := 65) fl_X6_12 dX6_count_65 (tb_fv) rfl ?_
        refine x_geti (pc := 68) fl_X6_88 dX6_count_68 (tb_st (by assumption)) rfl (hM) ?_
        refine x_iret (pc := 71) dX6_count_71 rfl (by first | rfl | exact fv_nz _) ?_
        exact ⟨rfl, pFr.rfl'⟩
      · skip
        have e22 : M1 22 = M 22 := hF 22 (by decide)
        have hG1 : pGd (M1 22) nb nm := by rw [e22]; exact hG2
        have hE1 : pEq nb nm (M1 22) (M 0) := by rw [e22]; exact hE
        have hB1 := hG1.1
        have hM1 := hG1.2.2.1
        refine fv_P.of (ls := [some (.ref 106), some (.int (nI 2)), none, none]) (by decide) (Nat.le_of_ble_eq_true rfl) rfl ?_
        refine x_iconst (pc := 0) (v := 0) dX7_count_0 rfl ?_
        refine x_istore_n2 (pc := 1) dX7_count_1 rfl ?_
        refine x_iload_n (pc := 2) dX7_count_2 rfl rfl ?_
        refine x_tableIn (pc := 3) dX7_count_3 (by decide) (by decide) rfl (tgt := 62) rfl ?_
        refine x_aload_n (pc := 62) dX7_count_62 rfl rfl ?_
        refine x_geta (pc := 63) fl_X7_9 dX7_count_63 (tb_106) rfl ?_
        refine x_iconst (pc := 66) (v := 2) dX7_count_66 rfl ?_
        refine x_iale (pc := 67) dX7_count_67 (tb_107) ((rfl : (2 : Int32) = nI 2)) (by decide) (by first | decide | assumption) (hM1) ?_
        refine x_iret (pc := 68) dX7_count_68 rfl (by first | rfl | exact fv_nz _) ?_
        exact ⟨rfl, pFr.rfl', rfl, rfl, fun _ _ _ => pEq.rfl'⟩
    · skip
      refine pOp.qry (v := nI (pBc u)) I ?_ (fun M1 hF => ?_)
      · skip
        refine fv_P.of (ls := [some (.ref 0), some (.int (nI 3))]) (by decide) (Nat.le_of_ble_eq_true rfl) rfl ?_
        refine x_iload_n (pc := 0) dX6_count_0 rfl rfl ?_
        refine x_tableIn (pc := 1) dX6_count_1 (by decide) (by decide) rfl (tgt := 72) rfl ?_
        refine x_aload_n (pc := 72) dX6_count_72 rfl rfl ?_
        refine x_geta (pc := 73) fl_X6_12 dX6_count_73 (tb_fv) rfl ?_
        refine x_Vi (pc := 76) ks_X6_141 dX6_count_76 (tb_st (by assumption)) rfl rfl ((hX4_laws hs0 hM hn).v eu) rfl rfl rfl (Nat.le_of_ble_eq_true rfl) ?_
        refine x_Si (pc := 79) ks_X6_165 dX6_count_79 (hJ6_bitCount_0f7a4 hu) rfl rfl rfl (Nat.le_of_ble_eq_true rfl) ?_
        refine x_iret (pc := 82) dX6_count_82 rfl (by first | rfl | exact fv_nz _) ?_
        exact ⟨rfl, pFr.rfl'⟩
      · skip
        have e22 : M1 22 = M 22 := hF 22 (by decide)
        have hG1 : pGd (M1 22) nb nm := by rw [e22]; exact hG2
        have hE1 : pEq nb nm (M1 22) (M 0) := by rw [e22]; exact hE
        have hB1 := hG1.1
        have hM1 := hG1.2.2.1
        refine fv_P.of (ls := [some (.ref 106), some (.int (nI 3)), none, none]) (by decide) (Nat.le_of_ble_eq_true rfl) rfl ?_
        refine x_iconst (pc := 0) (v := 0) dX7_count_0 rfl ?_
        refine x_istore_n2 (pc := 1) dX7_count_1 rfl ?_
        refine x_iload_n (pc := 2) dX7_count_2 rfl rfl ?_
        refine x_tableIn (pc := 3) dX7_count_3 (by decide) (by decide) rfl (tgt := 69) rfl ?_
        refine x_aload_n (pc := 69) dX7_count_69 rfl rfl ?_
        refine x_Vi (pc := 70) ks_X7_146 dX7_count_70 (tb_106) rfl rfl (((hX7_laws hM1 hn).v (pLw_cg hE1)).v eu) rfl rfl rfl (Nat.le_of_ble_eq_true rfl) ?_
        refine x_Si (pc := 73) ks_X7_158 dX7_count_73 (hX7_bits hu) rfl rfl rfl (Nat.le_of_ble_eq_true rfl) ?_
        refine x_iret (pc := 76) dX7_count_76 rfl (by first | rfl | exact fv_nz _) ?_
        exact ⟨rfl, pFr.rfl', rfl, rfl, fun _ _ _ => pEq.rfl'⟩
    · skip
      refine pOp.qry (v := pAf (M 0) nb) I ?_ (fun M1 hF => ?_)
      · skip
        refine fv_P.of (ls := [some (.ref 0), some (.int (nI 4))]) (by decide) (Nat.le_of_ble_eq_true rfl) rfl ?_
        refine x_iload_n (pc := 0) dX6_count_0 rfl rfl ?_
        refine x_tableIn (pc := 1) dX6_count_1 (by decide) (by decide) rfl (tgt := 83) rfl ?_
        refine x_aload_n (pc := 83) dX6_count_83 rfl rfl ?_
        refine x_geta (pc := 84) fl_X6_12 dX6_count_84 (tb_fv) rfl ?_
        refine x_Vi (pc := 87) ks_X6_138 dX6_count_87 (tb_st (by assumption)) rfl rfl (hX4_allFeathers hs0 hB hb) rfl rfl rfl (Nat.le_of_ble_eq_true rfl) ?_
        refine x_iret (pc := 90) dX6_count_90 rfl (by first | rfl | exact fv_nz _) ?_
        exact ⟨rfl, pFr.rfl'⟩
      · skip
        have e22 : M1 22 = M 22 := hF 22 (by decide)
        have hG1 : pGd (M1 22) nb nm := by rw [e22]; exact hG2
        have hE1 : pEq nb nm (M1 22) (M 0) := by rw [e22]; exact hE
        have hB1 := hG1.1
        have hM1 := hG1.2.2.1
        refine fv_P.of (ls := [some (.ref 106), some (.int (nI 4)), none, none]) (by decide) (Nat.le_of_ble_eq_true rfl) rfl ?_
        refine x_iconst (pc := 0) (v := 0) dX7_count_0 rfl ?_
        refine x_istore_n2 (pc := 1) dX7_count_1 rfl ?_
        refine x_iload_n (pc := 2) dX7_count_2 rfl rfl ?_
        refine x_tableIn (pc := 3) dX7_count_3 (by decide) (by decide) rfl (tgt := 77) rfl ?_
        refine x_aload_n (pc := 77) dX7_count_77 rfl rfl ?_
        refine x_Vi (pc := 78) ks_X7_143 dX7_count_78 (tb_106) rfl rfl ((hX7_allFeathers hB1 hb).v (pAf_cg hE1)) rfl rfl rfl (Nat.le_of_ble_eq_true rfl) ?_
        refine x_iret (pc := 81) dX7_count_81 rfl (by first | rfl | exact fv_nz _) ?_
        exact ⟨rfl, pFr.rfl', rfl, rfl, fun _ _ _ => pEq.rfl'⟩
    · skip
      refine pOp.qry (v := nI L) I ?_ (fun M1 hF => ?_)
      · skip
        refine fv_P.of (ls := [some (.ref 0), some (.int (nI 5))]) (by decide) (Nat.le_of_ble_eq_true rfl) rfl ?_
        refine x_iload_n (pc := 0) dX6_count_0 rfl rfl ?_
        refine x_tableIn (pc := 1) dX6_count_1 (by decide) (by decide) rfl (tgt := 91) rfl ?_
        refine x_aload_n (pc := 91) dX6_count_91 rfl rfl ?_
        refine x_geta (pc := 92) fl_X6_29 dX6_count_92 (tb_fv) rfl ?_
        refine x_geti (pc := 95) fl_X6_231 dX6_count_95 (tb_88) rfl (e4) ?_
        refine x_iret (pc := 98) dX6_count_98 rfl (by first | rfl | exact fv_nz _) ?_
        exact ⟨rfl, pFr.rfl'⟩
      · skip
        have e22 : M1 22 = M 22 := hF 22 (by decide)
        have hG1 : pGd (M1 22) nb nm := by rw [e22]; exact hG2
        have hE1 : pEq nb nm (M1 22) (M 0) := by rw [e22]; exact hE
        have hB1 := hG1.1
        have hM1 := hG1.2.2.1
        refine fv_P.of (ls := [some (.ref 106), some (.int (nI 5)), none, none]) (by decide) (Nat.le_of_ble_eq_true rfl) rfl ?_
        refine x_iconst (pc := 0) (v := 0) dX7_count_0 rfl ?_
        refine x_istore_n2 (pc := 1) dX7_count_1 rfl ?_
        refine x_iload_n (pc := 2) dX7_count_2 rfl rfl ?_
        refine x_tableIn (pc := 3) dX7_count_3 (by decide) (by decide) rfl (tgt := 82) rfl ?_
        refine x_aload_n (pc := 82) dX7_count_82 rfl rfl ?_
        refine x_geti (pc := 83) fl_X7_209 dX7_count_83 (tb_106) rfl ((congrFun (hF 21 (by decide)) 12).trans e21) ?_
        refine x_iret (pc := 86) dX7_count_86 rfl (by first | rfl | exact fv_nz _) ?_
        exact ⟨rfl, pFr.rfl', rfl, rfl, fun _ _ _ => pEq.rfl'⟩
    · skip
      refine pOp.qry (v := M 0 3) I ?_ (fun M1 hF => ?_)
      · skip
        refine fv_P.of (ls := [some (.ref 0), some (.int (nI 6))]) (by decide) (Nat.le_of_ble_eq_true rfl) rfl ?_
        refine x_iload_n (pc := 0) dX6_count_0 rfl rfl ?_
        refine x_tableIn (pc := 1) dX6_count_1 (by decide) (by decide) rfl (tgt := 99) rfl ?_
        refine x_aload_n (pc := 99) dX6_count_99 rfl rfl ?_
        refine x_geta (pc := 100) fl_X6_12 dX6_count_100 (tb_fv) rfl ?_
        refine x_geti (pc := 103) fl_X6_228 dX6_count_103 (tb_st (by assumption)) rfl (rfl) ?_
        refine x_iret (pc := 106) dX6_count_106 rfl (by first | rfl | exact fv_nz _) ?_
        exact ⟨rfl, pFr.rfl'⟩
      · skip
        have e22 : M1 22 = M 22 := hF 22 (by decide)
        have hG1 : pGd (M1 22) nb nm := by rw [e22]; exact hG2
        have hE1 : pEq nb nm (M1 22) (M 0) := by rw [e22]; exact hE
        have hB1 := hG1.1
        have hM1 := hG1.2.2.1
        refine fv_P.of (ls := [some (.ref 106), some (.int (nI 6)), none, none]) (by decide) (Nat.le_of_ble_eq_true rfl) rfl ?_
        refine x_iconst (pc := 0) (v := 0) dX7_count_0 rfl ?_
        refine x_istore_n2 (pc := 1) dX7_count_1 rfl ?_
        refine x_iload_n (pc := 2) dX7_count_2 rfl rfl ?_
        refine x_tableIn (pc := 3) dX7_count_3 (by decide) (by decide) rfl (tgt := 87) rfl ?_
        refine x_aload_n (pc := 87) dX7_count_87 rfl rfl ?_
        refine x_geta (pc := 88) fl_X7_9 dX7_count_88 (tb_106) rfl ?_
        refine x_iconst (pc := 91) (v := 3) dX7_count_91 rfl ?_
        refine x_iale (pc := 92) dX7_count_92 (tb_107) ((rfl : (3 : Int32) = nI 3)) (by decide) (by first | decide | assumption) (hE1.n (j := 3) (by decide)) ?_
        refine x_iret (pc := 93) dX7_count_93 rfl (by first | rfl | exact fv_nz _) ?_
        exact ⟨rfl, pFr.rfl', rfl, rfl, fun _ _ _ => pEq.rfl'⟩
    · skip
      refine pOp.qry (v := pSt (M 0) 10) I ?_ (fun M1 hF => ?_)
      · skip
        refine fv_P.of (ls := [some (.ref 0), some (.int (nI 7))]) (by decide) (Nat.le_of_ble_eq_true rfl) rfl ?_
        refine x_iload_n (pc := 0) dX6_count_0 rfl rfl ?_
        refine x_tableIn (pc := 1) dX6_count_1 (by decide) (by decide) rfl (tgt := 107) rfl ?_
        refine x_aload_n (pc := 107) dX6_count_107 rfl rfl ?_
        refine x_geta (pc := 108) fl_X6_12 dX6_count_108 (tb_fv) rfl ?_
        refine x_Vi (pc := 111) ks_X6_283 dX6_count_111 (tb_st (by assumption)) rfl rfl (hX4_spotsTaken hs0) rfl rfl rfl (Nat.le_of_ble_eq_true rfl) ?_
        refine x_iret (pc := 114) dX6_count_114 rfl (by first | rfl | exact fv_nz _) ?_
        exact ⟨rfl, pFr.rfl'⟩
      · skip
        have e22 : M1 22 = M 22 := hF 22 (by decide)
        have hG1 : pGd (M1 22) nb nm := by rw [e22]; exact hG2
        have hE1 : pEq nb nm (M1 22) (M 0) := by rw [e22]; exact hE
        have hB1 := hG1.1
        have hM1 := hG1.2.2.1
        refine fv_P.of (ls := [some (.ref 106), some (.int (nI 7)), none, none]) (by decide) (Nat.le_of_ble_eq_true rfl) rfl ?_
        refine x_iconst (pc := 0) (v := 0) dX7_count_0 rfl ?_
        refine x_istore_n2 (pc := 1) dX7_count_1 rfl ?_
        refine x_iload_n (pc := 2) dX7_count_2 rfl rfl ?_
        refine x_tableIn (pc := 3) dX7_count_3 (by decide) (by decide) rfl (tgt := 94) rfl ?_
        refine x_iconst (pc := 94) (v := 0) dX7_count_94 rfl ?_
        refine x_istore_n3 (pc := 95) dX7_count_95 rfl ?_
        refine x_loop (fun j => [some (.ref 106), some (.int 7), some (.int (pSt (M 0) j)), some (.int (nI j))]) (fun _ => M1) 10 rfl rfl (fun j hj hL2 => ?_) ?_
        · show fv_X E mX7_count _ _ 96 [some (.ref 106), some (.int 7), some (.int (pSt (M 0) j)), some (.int (nI j))] [] M1
          replace hL2 : fv_X E mX7_count _ _ 96 [some (.ref 106), some (.int 7), some (.int (pSt (M 0) (j + 1))), some (.int (nI (j + 1)))] [] M1 := hL2
          have hsp := hG.2.2.2.2.2.2.2.1 j hj
          have hsv : M1 22 (0 + (104 + j)) = M 0 (104 + j) := by rw [Nat.zero_add]; exact hE1.s hj
          refine x_iload_n (pc := 96) dX7_count_96 rfl rfl ?_
          refine x_bipush (pc := 97) (v := 10) dX7_count_97 rfl ?_
          refine x_icmp_ge (pc := 99) dX7_count_99 (tgt := 128) rfl (fun h99 => ?_) (fun h99 => ?_)
          ·
            exact absurd h99 (nI_ge (b := 10) hj (by omega))
          ·
            refine x_iload_n (pc := 102) dX7_count_102 rfl rfl ?_
            refine x_aload_n (pc := 103) dX7_count_103 rfl rfl ?_
            refine x_geta (pc := 104) fl_X7_9 dX7_count_104 (tb_106) rfl ?_
            refine x_bipush (pc := 107) (v := 104) dX7_count_107 rfl ?_
            refine x_iload_n (pc := 109) dX7_count_109 rfl rfl ?_
            refine x_iadd (pc := 110) dX7_count_110 ?_
            refine x_iale (pc := 111) dX7_count_111 (tb_107) (nI_add 104 j) (by omega) (by first | decide | assumption) (hsv) ?_
            refine x_if_lt (pc := 112) dX7_count_112 (tgt := 119) rfl (fun h112 => ?_) (fun h112 => ?_)
            ·
              have e := pSt_f (σ := M 0) (j := j) (hsp.resolve_right (fun ⟨x, hx, ex⟩ => by rw [ex] at h112; exact nI_pos (by omega) h112))
              refine x_iconst (pc := 119) (v := 0) dX7_count_119 rfl ?_
              refine x_iadd (pc := 120) dX7_count_120 ?_
              first | rw [Int32.add_zero, e] | rw [show ∀ y : Int32, y + 1 = y + Int32.ofInt 1 from fun _ => rfl, e]
              refine x_istore_n2 (pc := 121) dX7_count_121 rfl ?_
              refine x_iinc3 (pc := 122) dX7_count_122 (by first | exact fv_inc _ | exact fv_dec _ | rfl) rfl ?_
              refine x_goto (pc := 125) dX7_count_125 (tgt := 96) rfl ?_
              exact hL2
            ·
              have e := pSt_t (σ := M 0) (j := j) (fun q => by rw [q] at h112; exact h112 (by decide))
              refine x_iconst (pc := 115) (v := 1) dX7_count_115 rfl ?_
              refine x_goto (pc := 116) dX7_count_116 (tgt := 120) rfl ?_
              refine x_iadd (pc := 120) dX7_count_120 ?_
              first | rw [Int32.add_zero, e] | rw [show ∀ y : Int32, y + 1 = y + Int32.ofInt 1 from fun _ => rfl, e]
              refine x_istore_n2 (pc := 121) dX7_count_121 rfl ?_
              refine x_iinc3 (pc := 122) dX7_count_122 (by first | exact fv_inc _ | exact fv_dec _ | rfl) rfl ?_
              refine x_goto (pc := 125) dX7_count_125 (tgt := 96) rfl ?_
              exact hL2
        · show fv_X E mX7_count _ _ 96 [some (.ref 106), some (.int 7), some (.int (pSt (M 0) 10)), some (.int (nI 10))] [] M1
          refine x_iload_n (pc := 96) dX7_count_96 rfl rfl ?_
          refine x_bipush (pc := 97) (v := 10) dX7_count_97 rfl ?_
          refine x_icmp_ge (pc := 99) dX7_count_99 (tgt := 128) rfl (fun h99 => ?_) (fun h99 => ?_)
          ·
            refine x_iload_n (pc := 128) dX7_count_128 rfl rfl ?_
            refine x_iret (pc := 129) dX7_count_129 rfl (by first | rfl | exact fv_nz _) ?_
            exact ⟨rfl, pFr.rfl', rfl, rfl, fun _ _ _ => pEq.rfl'⟩
          ·
            exact absurd (Int32.le_refl _) h99
  · have hlt : ∀ z : Nat, z < 8 → ¬ q = nI z := fun z hz e => hq (by rw [e]; exact ⟨nI_pos' (by omega), nI_le (b := 7) (by omega) (by omega)⟩)
    refine pOp.bad (v := -1000001) 0 I ?_ (fun M1 hF => ?_)
    · skip
      refine fv_F.of (ls := [some (.ref 0), some (.int q)]) (by decide) (Nat.le_of_ble_eq_true rfl) rfl ?_
      refine x_iload_n (pc := 0) dX6_count_0 rfl rfl ?_
      refine x_swc (pc := 1) 0 dX6_count_1 (by decide) (by decide) rfl (tgt := 48) rfl (fun h1_0 => ?_) (fun n1_0 => ?_)
      ·
        exact absurd h1_0 (hlt 0 (by decide))
      refine x_swc (pc := 1) 1 dX6_count_1 (by decide) (by decide) rfl (tgt := 56) rfl (fun h1_1 => ?_) (fun n1_1 => ?_)
      ·
        exact absurd h1_1 (hlt 1 (by decide))
      refine x_swc (pc := 1) 2 dX6_count_1 (by decide) (by decide) rfl (tgt := 64) rfl (fun h1_2 => ?_) (fun n1_2 => ?_)
      ·
        exact absurd h1_2 (hlt 2 (by decide))
      refine x_swc (pc := 1) 3 dX6_count_1 (by decide) (by decide) rfl (tgt := 72) rfl (fun h1_3 => ?_) (fun n1_3 => ?_)
      ·
        exact absurd h1_3 (hlt 3 (by decide))
      refine x_swc (pc := 1) 4 dX6_count_1 (by decide) (by decide) rfl (tgt := 83) rfl (fun h1_4 => ?_) (fun n1_4 => ?_)
      ·
        exact absurd h1_4 (hlt 4 (by decide))
      refine x_swc (pc := 1) 5 dX6_count_1 (by decide) (by decide) rfl (tgt := 91) rfl (fun h1_5 => ?_) (fun n1_5 => ?_)
      ·
        exact absurd h1_5 (hlt 5 (by decide))
      refine x_swc (pc := 1) 6 dX6_count_1 (by decide) (by decide) rfl (tgt := 99) rfl (fun h1_6 => ?_) (fun n1_6 => ?_)
      ·
        exact absurd h1_6 (hlt 6 (by decide))
      refine x_swc (pc := 1) 7 dX6_count_1 (by decide) (by decide) rfl (tgt := 107) rfl (fun h1_7 => ?_) (fun n1_7 => ?_)
      ·
        exact absurd h1_7 (hlt 7 (by decide))
      refine x_swd (pc := 1) dX6_count_1 (fun c hl hh => by rcases (show c = 0 ∨ c = 1 ∨ c = 2 ∨ c = 3 ∨ c = 4 ∨ c = 5 ∨ c = 6 ∨ c = 7 by omega) with rfl | rfl | rfl | rfl | rfl | rfl | rfl | rfl <;> assumption) (tgt := 115) rfl ?_
      refine x_aload_n (pc := 115) dX6_count_115 rfl rfl ?_
      refine x_ldc (pc := 116) kc_X6_55 dX6_count_116 ?_
      refine x_Vi (pc := 118) ks_X6_56 dX6_count_118 (tb_fv) rfl rfl (hX6_fin 0 (-1000001) (by decide +kernel) (by decide)) rfl rfl rfl (Nat.le_of_ble_eq_true rfl) ?_
      refine x_iret (pc := 121) dX6_count_121 rfl (by first | rfl | exact fv_nz _) ?_
      exact ⟨rfl, rfl⟩
    · skip
      have e22 : M1 22 = M 22 := hF 22 (by decide)
      have hG1 : pGd (M1 22) nb nm := by rw [e22]; exact hG2
      have hE1 : pEq nb nm (M1 22) (M 0) := by rw [e22]; exact hE
      have hB1 := hG1.1
      have hM1 := hG1.2.2.1
      refine fv_F.of (ls := [some (.ref 106), some (.int q), none, none]) (by decide) (Nat.le_of_ble_eq_true rfl) rfl ?_
      refine x_iconst (pc := 0) (v := 0) dX7_count_0 rfl ?_
      refine x_istore_n2 (pc := 1) dX7_count_1 rfl ?_
      refine x_iload_n (pc := 2) dX7_count_2 rfl rfl ?_
      refine x_swc (pc := 3) 0 dX7_count_3 (by decide) (by decide) rfl (tgt := 48) rfl (fun h3_0 => ?_) (fun n3_0 => ?_)
      ·
        exact absurd h3_0 (hlt 0 (by decide))
      refine x_swc (pc := 3) 1 dX7_count_3 (by decide) (by decide) rfl (tgt := 55) rfl (fun h3_1 => ?_) (fun n3_1 => ?_)
      ·
        exact absurd h3_1 (hlt 1 (by decide))
      refine x_swc (pc := 3) 2 dX7_count_3 (by decide) (by decide) rfl (tgt := 62) rfl (fun h3_2 => ?_) (fun n3_2 => ?_)
      ·
        exact absurd h3_2 (hlt 2 (by decide))
      refine x_swc (pc := 3) 3 dX7_count_3 (by decide) (by decide) rfl (tgt := 69) rfl (fun h3_3 => ?_) (fun n3_3 => ?_)
      ·
        exact absurd h3_3 (hlt 3 (by decide))
      refine x_swc (pc := 3) 4 dX7_count_3 (by decide) (by decide) rfl (tgt := 77) rfl (fun h3_4 => ?_) (fun n3_4 => ?_)
      ·
        exact absurd h3_4 (hlt 4 (by decide))
      refine x_swc (pc := 3) 5 dX7_count_3 (by decide) (by decide) rfl (tgt := 82) rfl (fun h3_5 => ?_) (fun n3_5 => ?_)
      ·
        exact absurd h3_5 (hlt 5 (by decide))
      refine x_swc (pc := 3) 6 dX7_count_3 (by decide) (by decide) rfl (tgt := 87) rfl (fun h3_6 => ?_) (fun n3_6 => ?_)
      ·
        exact absurd h3_6 (hlt 6 (by decide))
      refine x_swc (pc := 3) 7 dX7_count_3 (by decide) (by decide) rfl (tgt := 94) rfl (fun h3_7 => ?_) (fun n3_7 => ?_)
      ·
        exact absurd h3_7 (hlt 7 (by decide))
      refine x_swd (pc := 3) dX7_count_3 (fun c hl hh => by rcases (show c = 0 ∨ c = 1 ∨ c = 2 ∨ c = 3 ∨ c = 4 ∨ c = 5 ∨ c = 6 ∨ c = 7 by omega) with rfl | rfl | rfl | rfl | rfl | rfl | rfl | rfl <;> assumption) (tgt := 130) rfl ?_
      refine x_aload_n (pc := 130) dX7_count_130 rfl rfl ?_
      refine x_iconst (pc := 131) (v := 0) dX7_count_131 rfl ?_
      refine x_Vi (pc := 132) ks_X7_114 dX7_count_132 (tb_106) rfl rfl (hX7_noL 0 (-1000001) (by decide) (by decide +kernel)) rfl rfl rfl (Nat.le_of_ble_eq_true rfl) ?_
      refine x_iret (pc := 135) dX7_count_135 rfl (by first | rfl | exact fv_nz _) ?_
      exact ⟨rfl, rfl⟩
theorem op_status {E : fv_E} {q : Int32} {M : fv_M} (I : pInv M) : pOp E mX6_status mX7_status [.int q] M := by
  obtain ⟨nb, nm, hG, hE, t, ht, eT⟩ := I.1
  have hs0 : 0 < 3 := by decide
  have hs1 : 1 < 3 := by decide
  have hB := hG.1
  have hb := hG.2.1
  have hM := hG.2.2.1
  have hn := hG.2.2.2.1
  have hK := hG.K
  have hC := hG.C
  have hG2 : pGd (M 22) nb nm := hG.cg hE
  by_cases hm1 : q = -1
  · subst hm1
    have h5 := I.2.2.2.2.1
    refine pOp.qry (v := sN (fun f => M 12 f) 7) I ?_ (fun M1 hF => ?_)
    · skip
      refine fv_P.of (ls := [some (.ref 0), some (.int (-1)), none, none]) (by decide) (Nat.le_of_ble_eq_true rfl) rfl ?_
      refine x_iload_n (pc := 0) dX6_status_0 rfl rfl ?_
      refine x_iconst (pc := 1) (v := (-1)) dX6_status_1 fv_m1 ?_
      refine x_icmp_ne (pc := 2) dX6_status_2 (tgt := 32) rfl (fun h2 => ?_) (fun h2 => ?_)
      ·
        exact absurd rfl h2
      ·
        refine x_iconst (pc := 5) (v := 0) dX6_status_5 rfl ?_
        refine x_istore_n2 (pc := 6) dX6_status_6 rfl ?_
        refine x_iconst (pc := 7) (v := 0) dX6_status_7 rfl ?_
        refine x_istore_n3 (pc := 8) dX6_status_8 rfl ?_
        refine x_loop (fun j => [some (.ref 0), some (.int (-1)), some (.int (sN (fun f => M 12 f) j)), some (.int (nI j))]) (fun _ => M) 7 rfl rfl (fun j hj hL2 => ?_) ?_
        · show fv_X E mX6_status _ _ 9 [some (.ref 0), some (.int (-1)), some (.int (sN (fun f => M 12 f) j)), some (.int (nI j))] [] M
          replace hL2 : fv_X E mX6_status _ _ 9 [some (.ref 0), some (.int (-1)), some (.int (sN (fun f => M 12 f) (j + 1))), some (.int (nI (j + 1)))] [] M := hL2
          refine x_iload_n (pc := 9) dX6_status_9 rfl rfl ?_
          refine x_bipush (pc := 10) (v := 7) dX6_status_10 rfl ?_
          refine x_icmp_ge (pc := 12) dX6_status_12 (tgt := 30) rfl (fun h12 => ?_) (fun h12 => ?_)
          ·
            exact absurd h12 (nI_ge (b := 7) hj (by omega))
          ·
            refine x_iload_n (pc := 15) dX6_status_15 rfl rfl ?_
            refine x_aload_n (pc := 16) dX6_status_16 rfl rfl ?_
            refine x_geta (pc := 17) fl_X6_46 dX6_status_17 (tb_fv) rfl ?_
            refine x_iload_n (pc := 20) dX6_status_20 rfl rfl ?_
            refine x_iale (pc := 21) dX6_status_21 (tb_97) (rfl) (by first | assumption | decide | omega) (by first | decide | assumption) (show _ = M 12 j from by rw [Nat.zero_add]) ?_
            refine x_iadd (pc := 22) dX6_status_22 ?_
            refine x_istore_n2 (pc := 23) dX6_status_23 rfl ?_
            refine x_iinc3 (pc := 24) dX6_status_24 (by first | exact fv_inc _ | exact fv_dec _ | rfl) rfl ?_
            refine x_goto (pc := 27) dX6_status_27 (tgt := 9) rfl ?_
            exact hL2
        · show fv_X E mX6_status _ _ 9 [some (.ref 0), some (.int (-1)), some (.int (sN (fun f => M 12 f) 7)), some (.int (nI 7))] [] M
          refine x_iload_n (pc := 9) dX6_status_9 rfl rfl ?_
          refine x_bipush (pc := 10) (v := 7) dX6_status_10 rfl ?_
          refine x_icmp_ge (pc := 12) dX6_status_12 (tgt := 30) rfl (fun h12 => ?_) (fun h12 => ?_)
          ·
            refine x_iload_n (pc := 30) dX6_status_30 rfl rfl ?_
            refine x_iret (pc := 31) dX6_status_31 rfl (by first | rfl | exact fv_nz _) ?_
            exact ⟨rfl, pFr.rfl'⟩
          ·
            exact absurd (Int32.le_refl _) h12
    · skip
      have e22 : M1 22 = M 22 := hF 22 (by decide)
      have hG1 : pGd (M1 22) nb nm := by rw [e22]; exact hG2
      have hE1 : pEq nb nm (M1 22) (M 0) := by rw [e22]; exact hE
      have hB1 := hG1.1
      have hM1 := hG1.2.2.1
      refine fv_P.of (ls := [some (.ref 106), some (.int (-1)), none, none]) (by decide) (Nat.le_of_ble_eq_true rfl) rfl ?_
      refine x_iload_n (pc := 0) dX7_status_0 rfl rfl ?_
      refine x_iconst (pc := 1) (v := (-1)) dX7_status_1 fv_m1 ?_
      refine x_bipush (pc := 2) (v := 6) dX7_status_2 rfl ?_
      refine x_Si (pc := 4) ks_X7_60 dX7_status_4 (hX7_in1) rfl rfl rfl (Nat.le_of_ble_eq_true rfl) ?_
      refine x_ifb_ne (pc := 7) dX7_status_7 (tgt := 16) rfl (fun h7 => ?_) (fun h7 => ?_)
      ·
        refine x_iconst (pc := 16) (v := 0) dX7_status_16 rfl ?_
        refine x_istore_n2 (pc := 17) dX7_status_17 rfl ?_
        refine x_iconst (pc := 18) (v := 0) dX7_status_18 rfl ?_
        refine x_istore_n3 (pc := 19) dX7_status_19 rfl ?_
        refine x_loop (fun j => [some (.ref 106), some (.int (-1)), some (.int (sN (fun f => M 12 f) j)), some (.int (nI j))]) (fun _ => M1) 7 rfl rfl (fun j hj hL2 => ?_) ?_
        · show fv_X E mX7_status _ _ 20 [some (.ref 106), some (.int (-1)), some (.int (sN (fun f => M 12 f) j)), some (.int (nI j))] [] M1
          replace hL2 : fv_X E mX7_status _ _ 20 [some (.ref 106), some (.int (-1)), some (.int (sN (fun f => M 12 f) (j + 1))), some (.int (nI (j + 1)))] [] M1 := hL2
          refine x_iload_n (pc := 20) dX7_status_20 rfl rfl ?_
          refine x_bipush (pc := 21) (v := 7) dX7_status_21 rfl ?_
          refine x_icmp_ge (pc := 23) dX7_status_23 (tgt := 55) rfl (fun h23 => ?_) (fun h23 => ?_)
          ·
            exact absurd h23 (nI_ge (b := 7) hj (by omega))
          ·
            refine x_iload_n (pc := 26) dX7_status_26 rfl rfl ?_
            refine x_iload_n (pc := 27) dX7_status_27 rfl rfl ?_
            refine x_iconst (pc := 28) (v := (-1)) dX7_status_28 fv_m1 ?_
            refine x_icmp_eq (pc := 29) dX7_status_29 (tgt := 37) rfl (fun h29 => ?_) (fun h29 => ?_)
            ·
              refine x_aload_n (pc := 37) dX7_status_37 rfl rfl ?_
              refine x_geta (pc := 38) fl_X7_19 dX7_status_38 (tb_106) rfl ?_
              refine x_iload_n (pc := 41) dX7_status_41 rfl rfl ?_
              refine x_iale (pc := 42) dX7_status_42 (tb_110) (rfl) (by first | assumption | decide | omega) (by first | decide | assumption) (show _ = M 12 j from by rw [Nat.zero_add, hF 25 (by decide)]; exact h5 j hj) ?_
              refine x_goto (pc := 43) dX7_status_43 (tgt := 47) rfl ?_
              refine x_iadd (pc := 47) dX7_status_47 ?_
              refine x_istore_n2 (pc := 48) dX7_status_48 rfl ?_
              refine x_iinc3 (pc := 49) dX7_status_49 (by first | exact fv_inc _ | exact fv_dec _ | rfl) rfl ?_
              refine x_goto (pc := 52) dX7_status_52 (tgt := 20) rfl ?_
              exact hL2
            ·
              exact absurd rfl h29
        · show fv_X E mX7_status _ _ 20 [some (.ref 106), some (.int (-1)), some (.int (sN (fun f => M 12 f) 7)), some (.int (nI 7))] [] M1
          refine x_iload_n (pc := 20) dX7_status_20 rfl rfl ?_
          refine x_bipush (pc := 21) (v := 7) dX7_status_21 rfl ?_
          refine x_icmp_ge (pc := 23) dX7_status_23 (tgt := 55) rfl (fun h23 => ?_) (fun h23 => ?_)
          ·
            refine x_iload_n (pc := 55) dX7_status_55 rfl rfl ?_
            refine x_iret (pc := 56) dX7_status_56 rfl (by first | rfl | exact fv_nz _) ?_
            exact ⟨rfl, pFr.rfl', rfl, rfl, fun _ _ _ => pEq.rfl'⟩
          ·
            exact absurd (Int32.le_refl _) h23
      ·
        exact absurd (by decide) h7
  · by_cases hq : 0 ≤ q ∧ q ≤ 6
    · obtain ⟨w, hw, rfl⟩ := pUm (n := 6) (by decide) hq
      have h5 := I.2.2.2.2.1
      refine pOp.qry (v := M 12 w) I ?_ (fun M1 hF => ?_)
      · skip
        refine fv_P.of (ls := [some (.ref 0), some (.int (nI w)), none, none]) (by decide) (Nat.le_of_ble_eq_true rfl) rfl ?_
        refine x_iload_n (pc := 0) dX6_status_0 rfl rfl ?_
        refine x_iconst (pc := 1) (v := (-1)) dX6_status_1 fv_m1 ?_
        refine x_icmp_ne (pc := 2) dX6_status_2 (tgt := 32) rfl (fun h2 => ?_) (fun h2 => ?_)
        ·
          refine x_iload_n (pc := 32) dX6_status_32 rfl rfl ?_
          refine x_bipush (pc := 33) (v := 6) dX6_status_33 rfl ?_
          refine x_Si (pc := 35) ks_X6_51 dX6_status_35 (hX6_isUpTo) rfl rfl rfl (Nat.le_of_ble_eq_true rfl) ?_
          refine x_ifb_eq (pc := 38) dX6_status_38 (tgt := 50) rfl (fun h38 => ?_) (fun h38 => ?_)
          ·
            contradiction
          ·
            refine x_aload_n (pc := 41) dX6_status_41 rfl rfl ?_
            refine x_geta (pc := 42) fl_X6_46 dX6_status_42 (tb_fv) rfl ?_
            refine x_iload_n (pc := 45) dX6_status_45 rfl rfl ?_
            refine x_iale (pc := 46) dX6_status_46 (tb_97) (rfl) (by omega) (by first | decide | assumption) (show _ = M 12 w from by rw [Nat.zero_add]) ?_
            refine x_goto (pc := 47) dX6_status_47 (tgt := 56) rfl ?_
            refine x_iret (pc := 56) dX6_status_56 rfl (by first | rfl | exact fv_nz _) ?_
            exact ⟨rfl, pFr.rfl'⟩
        ·
          exact absurd h2 hm1
      · skip
        have e22 : M1 22 = M 22 := hF 22 (by decide)
        have hG1 : pGd (M1 22) nb nm := by rw [e22]; exact hG2
        have hE1 : pEq nb nm (M1 22) (M 0) := by rw [e22]; exact hE
        have hB1 := hG1.1
        have hM1 := hG1.2.2.1
        refine fv_P.of (ls := [some (.ref 106), some (.int (nI w)), none, none]) (by decide) (Nat.le_of_ble_eq_true rfl) rfl ?_
        refine x_iload_n (pc := 0) dX7_status_0 rfl rfl ?_
        refine x_iconst (pc := 1) (v := (-1)) dX7_status_1 fv_m1 ?_
        refine x_bipush (pc := 2) (v := 6) dX7_status_2 rfl ?_
        refine x_Si (pc := 4) ks_X7_60 dX7_status_4 (hX7_in1) rfl rfl rfl (Nat.le_of_ble_eq_true rfl) ?_
        refine x_ifb_ne (pc := 7) dX7_status_7 (tgt := 16) rfl (fun h7 => ?_) (fun h7 => ?_)
        ·
          refine x_iconst (pc := 16) (v := 0) dX7_status_16 rfl ?_
          refine x_istore_n2 (pc := 17) dX7_status_17 rfl ?_
          refine x_iconst (pc := 18) (v := 0) dX7_status_18 rfl ?_
          refine x_istore_n3 (pc := 19) dX7_status_19 rfl ?_
          refine x_loop (fun j => [some (.ref 106), some (.int (nI w)), some (.int (sN (fun k => if k = w then (fun f => M 12 f) k else 0) j)), some (.int (nI j))]) (fun _ => M1) 7 rfl rfl (fun j hj hL2 => ?_) ?_
          · show fv_X E mX7_status _ _ 20 [some (.ref 106), some (.int (nI w)), some (.int (sN (fun k => if k = w then (fun f => M 12 f) k else 0) j)), some (.int (nI j))] [] M1
            replace hL2 : fv_X E mX7_status _ _ 20 [some (.ref 106), some (.int (nI w)), some (.int (sN (fun k => if k = w then (fun f => M 12 f) k else 0) (j + 1))), some (.int (nI (j + 1)))] [] M1 := hL2
            refine x_iload_n (pc := 20) dX7_status_20 rfl rfl ?_
            refine x_bipush (pc := 21) (v := 7) dX7_status_21 rfl ?_
            refine x_icmp_ge (pc := 23) dX7_status_23 (tgt := 55) rfl (fun h23 => ?_) (fun h23 => ?_)
            ·
              exact absurd h23 (nI_ge (b := 7) hj (by omega))
            ·
              refine x_iload_n (pc := 26) dX7_status_26 rfl rfl ?_
              refine x_iload_n (pc := 27) dX7_status_27 rfl rfl ?_
              refine x_iconst (pc := 28) (v := (-1)) dX7_status_28 fv_m1 ?_
              refine x_icmp_eq (pc := 29) dX7_status_29 (tgt := 37) rfl (fun h29 => ?_) (fun h29 => ?_)
              ·
                exact absurd h29 hm1
              ·
                refine x_iload_n (pc := 32) dX7_status_32 rfl rfl ?_
                refine x_iload_n (pc := 33) dX7_status_33 rfl rfl ?_
                refine x_icmp_ne (pc := 34) dX7_status_34 (tgt := 46) rfl (fun h34 => ?_) (fun h34 => ?_)
                ·
                  have e : sN (fun k => if k = w then (fun f => M 12 f) k else 0) j + 0 = sN (fun k => if k = w then (fun f => M 12 f) k else 0) (j + 1) := by show _ = _ + (if j = w then M 12 j else 0); rw [if_neg (fun q => h34 (congrArg nI q.symm))]
                  refine x_iconst (pc := 46) (v := 0) dX7_status_46 rfl ?_
                  refine x_iadd (pc := 47) dX7_status_47 ?_
                  rw [e]
                  refine x_istore_n2 (pc := 48) dX7_status_48 rfl ?_
                  refine x_iinc3 (pc := 49) dX7_status_49 (by first | exact fv_inc _ | exact fv_dec _ | rfl) rfl ?_
                  refine x_goto (pc := 52) dX7_status_52 (tgt := 20) rfl ?_
                  exact hL2
                ·
                  have e : sN (fun k => if k = w then (fun f => M 12 f) k else 0) j + M 12 j = sN (fun k => if k = w then (fun f => M 12 f) k else 0) (j + 1) := by show _ = _ + (if j = w then M 12 j else 0); rw [if_pos ((nI_eq (by omega) (by omega)).mp h34).symm]
                  refine x_aload_n (pc := 37) dX7_status_37 rfl rfl ?_
                  refine x_geta (pc := 38) fl_X7_19 dX7_status_38 (tb_106) rfl ?_
                  refine x_iload_n (pc := 41) dX7_status_41 rfl rfl ?_
                  refine x_iale (pc := 42) dX7_status_42 (tb_110) (rfl) (by first | assumption | decide | omega) (by first | decide | assumption) (show _ = M 12 j from by rw [Nat.zero_add, hF 25 (by decide)]; exact h5 j hj) ?_
                  refine x_goto (pc := 43) dX7_status_43 (tgt := 47) rfl ?_
                  refine x_iadd (pc := 47) dX7_status_47 ?_
                  rw [e]
                  refine x_istore_n2 (pc := 48) dX7_status_48 rfl ?_
                  refine x_iinc3 (pc := 49) dX7_status_49 (by first | exact fv_inc _ | exact fv_dec _ | rfl) rfl ?_
                  refine x_goto (pc := 52) dX7_status_52 (tgt := 20) rfl ?_
                  exact hL2
          · show fv_X E mX7_status _ _ 20 [some (.ref 106), some (.int (nI w)), some (.int (sN (fun k => if k = w then (fun f => M 12 f) k else 0) 7)), some (.int (nI 7))] [] M1
            refine x_iload_n (pc := 20) dX7_status_20 rfl rfl ?_
            refine x_bipush (pc := 21) (v := 7) dX7_status_21 rfl ?_
            refine x_icmp_ge (pc := 23) dX7_status_23 (tgt := 55) rfl (fun h23 => ?_) (fun h23 => ?_)
            ·
              refine x_iload_n (pc := 55) dX7_status_55 rfl rfl ?_
              refine x_iret (pc := 56) dX7_status_56 rfl (by first | rfl | exact fv_nz _) ?_
              exact ⟨by rw [sN_at, if_pos (by omega)], pFr.rfl', rfl, rfl, fun _ _ _ => pEq.rfl'⟩
            ·
              exact absurd (Int32.le_refl _) h23
        ·
          exact absurd ⟨Int32.le_trans (by decide) hq.1, hq.2⟩ h7
    · skip
      refine pOp.bad (v := -1000001) 0 I ?_ (fun M1 hF => ?_)
      · skip
        refine fv_F.of (ls := [some (.ref 0), some (.int q), none, none]) (by decide) (Nat.le_of_ble_eq_true rfl) rfl ?_
        refine x_iload_n (pc := 0) dX6_status_0 rfl rfl ?_
        refine x_iconst (pc := 1) (v := (-1)) dX6_status_1 fv_m1 ?_
        refine x_icmp_ne (pc := 2) dX6_status_2 (tgt := 32) rfl (fun h2 => ?_) (fun h2 => ?_)
        ·
          refine x_iload_n (pc := 32) dX6_status_32 rfl rfl ?_
          refine x_bipush (pc := 33) (v := 6) dX6_status_33 rfl ?_
          refine x_Si (pc := 35) ks_X6_51 dX6_status_35 (hX6_isUpTo) rfl rfl rfl (Nat.le_of_ble_eq_true rfl) ?_
          refine x_ifb_eq (pc := 38) dX6_status_38 (tgt := 50) rfl (fun h38 => ?_) (fun h38 => ?_)
          ·
            refine x_aload_n (pc := 50) dX6_status_50 rfl rfl ?_
            refine x_ldc (pc := 51) kc_X6_55 dX6_status_51 ?_
            refine x_Vi (pc := 53) ks_X6_56 dX6_status_53 (tb_fv) rfl rfl (hX6_fin 0 (-1000001) (by decide +kernel) (by decide)) rfl rfl rfl (Nat.le_of_ble_eq_true rfl) ?_
            refine x_iret (pc := 56) dX6_status_56 rfl (by first | rfl | exact fv_nz _) ?_
            exact ⟨rfl, rfl⟩
          ·
            contradiction
        ·
          exact absurd h2 hm1
      · skip
        have e22 : M1 22 = M 22 := hF 22 (by decide)
        have hG1 : pGd (M1 22) nb nm := by rw [e22]; exact hG2
        have hE1 : pEq nb nm (M1 22) (M 0) := by rw [e22]; exact hE
        have hB1 := hG1.1
        have hM1 := hG1.2.2.1
        refine fv_F.of (ls := [some (.ref 106), some (.int q), none, none]) (by decide) (Nat.le_of_ble_eq_true rfl) rfl ?_
        refine x_iload_n (pc := 0) dX7_status_0 rfl rfl ?_
        refine x_iconst (pc := 1) (v := (-1)) dX7_status_1 fv_m1 ?_
        refine x_bipush (pc := 2) (v := 6) dX7_status_2 rfl ?_
        refine x_Si (pc := 4) ks_X7_60 dX7_status_4 (hX7_in1) rfl rfl rfl (Nat.le_of_ble_eq_true rfl) ?_
        refine x_ifb_ne (pc := 7) dX7_status_7 (tgt := 16) rfl (fun h7 => ?_) (fun h7 => ?_)
        ·
          exact absurd (show 0 ≤ q ∧ q ≤ 6 from ⟨by
            have a := h7.1
            have b : ¬ q.toInt = -1 := fun e => hm1 (Int32.toInt_inj.mp (e.trans (by decide)))
            rw [Int32.le_iff_toInt_le] at a ⊢
            rw [show (-1 : Int32).toInt = -1 by decide +kernel] at a
            rw [show (0 : Int32).toInt = 0 by decide +kernel]
            omega, h7.2⟩) hq
        ·
          refine x_aload_n (pc := 10) dX7_status_10 rfl rfl ?_
          refine x_iconst (pc := 11) (v := 0) dX7_status_11 rfl ?_
          refine x_Vi (pc := 12) ks_X7_114 dX7_status_12 (tb_106) rfl rfl (hX7_noL 0 (-1000001) (by decide) (by decide +kernel)) rfl rfl rfl (Nat.le_of_ble_eq_true rfl) ?_
          refine x_iret (pc := 15) dX7_status_15 rfl (by first | rfl | exact fv_nz _) ?_
          exact ⟨rfl, rfl⟩
theorem op_feed {E : fv_E} {b n : Int32} {M : fv_M} (I : pInv M) : pOp E mX6_feed mX7_feed [.int b, .int n] M := by
  obtain ⟨nb, nm, hG, hE, t, ht, eT⟩ := I.1
  have hs0 : 0 < 3 := by decide
  have hs1 : 1 < 3 := by decide
  have hB := hG.1
  have hb := hG.2.1
  have hM := hG.2.2.1
  have hn := hG.2.2.2.1
  have hK := hG.K
  have hC := hG.C
  have hG2 : pGd (M 22) nb nm := hG.cg hE
  by_cases hx1 : 1 ≤ n ∧ n ≤ 4
  · obtain ⟨k, hk, rfl⟩ := pUm (n := 4) (v := n) (by decide) ⟨Int32.le_trans (by decide) hx1.1, hx1.2⟩
    obtain ⟨L, hL, e4, e21, hby⟩ := I.2.2.1
    have hsum : nI L + nI k = nI (L + k) := nI_add L k
    by_cases hx2 : L + k ≤ 120
    · have hbt : ∀ i, i < k → ∃ x, x < 256 ∧ ((b >>> ((8 * nI (k - 1 - i)) &&& 31)) &&& 255) = nI x := fun i hi => (pFdN b (show k - 1 - i < 4 by omega)).2
      refine pOp.of (v := nI (L + k)) (P := fun M1 => pFr [4, 5] M M1 ∧ M1 4 0 = nI (L + k) ∧ (∀ i, i < L → M1 5 i = M 5 i) ∧ ∀ i, i < k → M1 5 (L + i) = ((b >>> ((8 * nI (k - 1 - i)) &&& 31)) &&& 255)) ?_ (fun M1 hM1 => ?_)
      · skip
        refine fv_P.of (ls := [some (.ref 0), some (.int b), some (.int (nI k)), none]) (by decide) (Nat.le_of_ble_eq_true rfl) rfl ?_
        refine x_iload_n (pc := 0) dX6_feed_0 rfl rfl ?_
        refine x_iconst (pc := 1) (v := 1) dX6_feed_1 rfl ?_
        refine x_icmp_lt (pc := 2) dX6_feed_2 (tgt := 10) rfl (fun h2 => ?_) (fun h2 => ?_)
        ·
          exact absurd hx1.1 (Int32.not_le.mpr h2)
        ·
          refine x_iload_n (pc := 5) dX6_feed_5 rfl rfl ?_
          refine x_iconst (pc := 6) (v := 4) dX6_feed_6 rfl ?_
          refine x_icmp_le (pc := 7) dX6_feed_7 (tgt := 17) rfl (fun h7 => ?_) (fun h7 => ?_)
          ·
            refine x_aload_n (pc := 17) dX6_feed_17 rfl rfl ?_
            refine x_geta (pc := 18) fl_X6_29 dX6_feed_18 (tb_fv) rfl ?_
            refine x_geti (pc := 21) fl_X6_231 dX6_feed_21 (tb_88) rfl (e4) ?_
            refine x_iload_n (pc := 24) dX6_feed_24 rfl rfl ?_
            refine x_iadd (pc := 25) dX6_feed_25 ?_
            rw [hsum]
            refine x_bipush (pc := 26) (v := 120) dX6_feed_26 rfl ?_
            refine x_icmp_le (pc := 28) dX6_feed_28 (tgt := 38) rfl (fun h28 => ?_) (fun h28 => ?_)
            ·
              refine x_iload_n (pc := 38) dX6_feed_38 rfl rfl ?_
              refine x_iconst (pc := 39) (v := 1) dX6_feed_39 rfl ?_
              refine x_isub (pc := 40) dX6_feed_40 ?_
              refine x_istore_n3 (pc := 41) dX6_feed_41 rfl ?_
              refine x_loopI (fun j => [some (.ref 0), some (.int b), some (.int (nI k)), some (.int (nI k - 1 - nI j))]) (fun j M1 => pFr [4, 5] M M1 ∧ M1 4 0 = nI (L + j) ∧ (∀ i, i < L → M1 5 i = M 5 i) ∧ ∀ i, i < j → M1 5 (L + i) = ((b >>> ((8 * nI (k - 1 - i)) &&& 31)) &&& 255)) k (by simp only [nI_0, Int32.sub_zero]) ⟨pFr.rfl', e4, fun _ _ => rfl, fun i hi => absurd hi (Nat.not_lt_zero i)⟩ ?_ ?_
              · rintro j M1 hj ⟨f0, f1, f2, f3⟩ hL2
                obtain ⟨-, -, -, k4, k5⟩ := pI_at (n := k) (j := j) (by omega) (by omega)
                replace k4 := k4 (by omega)
                have k5' := k5
                rw [k4] at k5'
                refine x_iload_n (pc := 42) dX6_feed_42 rfl rfl ?_
                refine x_if_lt (pc := 43) dX6_feed_43 (tgt := 69) rfl (fun h43 => ?_) (fun h43 => ?_)
                ·
                  exact absurd h43 (by rw [k4]; exact nI_pos (by omega))
                ·
                  refine x_aload_n (pc := 46) dX6_feed_46 rfl rfl ?_
                  refine x_geta (pc := 47) fl_X6_29 dX6_feed_47 (tb_fv) rfl ?_
                  refine x_iload_n (pc := 50) dX6_feed_50 rfl rfl ?_
                  refine x_bipush (pc := 51) (v := 8) dX6_feed_51 rfl ?_
                  rw [k4]
                  refine x_iload_n (pc := 53) dX6_feed_53 rfl rfl ?_
                  refine x_imul (pc := 54) dX6_feed_54 ?_
                  refine x_iushr (pc := 55) dX6_feed_55 ?_
                  refine x_sipush (pc := 56) (v := 255) dX6_feed_56 rfl ?_
                  refine x_iand (pc := 59) dX6_feed_59 ?_
                  rw [(pFdN b (show k - 1 - j < 4 by omega)).1]
                  refine x_Vv (pc := 60) ks_X6_234 dX6_feed_60 (tb_88) rfl rfl (hX5_add (L := L + j) f1 (by omega)) rfl rfl rfl (Nat.le_of_ble_eq_true rfl) ?_
                  refine x_iinc3 (pc := 63) dX6_feed_63 (k5') rfl ?_
                  refine x_goto (pc := 66) dX6_feed_66 (tgt := 42) rfl ?_
                  exact hL2 _ ⟨(f0.s (by decide)).s (by decide), by rw [fv_s_same, fv_u_same, nI_1]; rfl, fun i hi => by rw [fv_s_ne _ _ (by decide), fv_s_same, fv_u_ne _ _ (by omega)]; exact f2 i hi, fun i hi => by
                      rw [fv_s_ne _ _ (by decide), fv_s_same]
                      by_cases e : i = j
                      · subst e; rw [fv_u_same]
                      · rw [fv_u_ne _ _ (by omega)]; exact f3 i (by omega)⟩
              · rintro M1 ⟨f0, f1, f2, f3⟩
                have hneg : nI k - 1 - nI k < 0 := by rcases (show k = 0 ∨ k = 1 ∨ k = 2 ∨ k = 3 ∨ k = 4 by omega) with rfl | rfl | rfl | rfl | rfl <;> decide
                refine x_iload_n (pc := 42) dX6_feed_42 rfl rfl ?_
                refine x_if_lt (pc := 43) dX6_feed_43 (tgt := 69) rfl (fun h43 => ?_) (fun h43 => ?_)
                ·
                  refine x_aload_n (pc := 69) dX6_feed_69 rfl rfl ?_
                  refine x_geta (pc := 70) fl_X6_29 dX6_feed_70 (tb_fv) rfl ?_
                  refine x_geti (pc := 73) fl_X6_231 dX6_feed_73 (tb_88) rfl (f1) ?_
                  refine x_iret (pc := 76) dX6_feed_76 rfl (by first | rfl | exact fv_nz _) ?_
                  exact ⟨rfl, f0, f1, f2, f3⟩
                ·
                  exact absurd hneg h43
            ·
              exact absurd (nI_le (b := 120) hx2 (by omega)) h28
          ·
            exact absurd hx1.2 h7
      · obtain ⟨g0, g1, g2, g3⟩ := hM1
        have e21' : M1 21 12 = nI L := by rw [g0 21 (by decide)]; exact e21
        have hby' : ∀ i, i < L → M1 29 i = M1 5 i ∧ ∃ x, x < 256 ∧ M1 5 i = nI x := fun i hi => by rw [g2 i hi, g0 29 (by decide)]; exact hby i hi
        refine fv_P.of (ls := [some (.ref 106), some (.int b), some (.int (nI k)), none]) (by decide) (Nat.le_of_ble_eq_true rfl) rfl ?_
        refine x_iload_n (pc := 0) dX7_feed_0 rfl rfl ?_
        refine x_iconst (pc := 1) (v := 1) dX7_feed_1 rfl ?_
        refine x_iconst (pc := 2) (v := 4) dX7_feed_2 rfl ?_
        refine x_Si (pc := 3) ks_X7_60 dX7_feed_3 (hX7_in1) rfl rfl rfl (Nat.le_of_ble_eq_true rfl) ?_
        refine x_ifb_ne (pc := 6) dX7_feed_6 (tgt := 15) rfl (fun h6 => ?_) (fun h6 => ?_)
        ·
          refine x_aload_n (pc := 15) dX7_feed_15 rfl rfl ?_
          refine x_geti (pc := 16) fl_X7_209 dX7_feed_16 (tb_106) rfl (e21') ?_
          refine x_iload_n (pc := 19) dX7_feed_19 rfl rfl ?_
          refine x_iadd (pc := 20) dX7_feed_20 ?_
          rw [hsum]
          refine x_bipush (pc := 21) (v := 120) dX7_feed_21 rfl ?_
          refine x_icmp_le (pc := 23) dX7_feed_23 (tgt := 32) rfl (fun h23 => ?_) (fun h23 => ?_)
          ·
            refine x_iload_n (pc := 32) dX7_feed_32 rfl rfl ?_
            refine x_iconst (pc := 33) (v := 1) dX7_feed_33 rfl ?_
            refine x_isub (pc := 34) dX7_feed_34 ?_
            refine x_istore_n3 (pc := 35) dX7_feed_35 rfl ?_
            refine x_loopI (fun j => [some (.ref 106), some (.int b), some (.int (nI k)), some (.int (nI k - 1 - nI j))]) (fun j M2 => pFr [21, 29] M1 M2 ∧ M2 21 12 = nI (L + j) ∧ M2 21 3 = M1 21 3 ∧ (∀ i, i < L → M2 29 i = M1 29 i) ∧ ∀ i, i < j → M2 29 (L + i) = ((b >>> ((8 * nI (k - 1 - i)) &&& 31)) &&& 255)) k (by simp only [nI_0, Int32.sub_zero]) ⟨pFr.rfl', e21', rfl, fun _ _ => rfl, fun i hi => absurd hi (Nat.not_lt_zero i)⟩ ?_ ?_
            · rintro j M2 hj ⟨f0, f1, fz, f2, f3⟩ hL2
              obtain ⟨-, -, -, k4, k5⟩ := pI_at (n := k) (j := j) (by omega) (by omega)
              replace k4 := k4 (by omega)
              have k5' := k5
              rw [k4] at k5'
              refine x_iload_n (pc := 36) dX7_feed_36 rfl rfl ?_
              refine x_if_lt (pc := 37) dX7_feed_37 (tgt := 75) rfl (fun h37 => ?_) (fun h37 => ?_)
              ·
                exact absurd h37 (by rw [k4]; exact nI_pos (by omega))
              ·
                refine x_aload_n (pc := 40) dX7_feed_40 rfl rfl ?_
                refine x_geta (pc := 41) fl_X7_31 dX7_feed_41 (tb_106) rfl ?_
                refine x_aload_n (pc := 44) dX7_feed_44 rfl rfl ?_
                refine x_geti (pc := 45) fl_X7_209 dX7_feed_45 (tb_106) rfl (f1) ?_
                refine x_iload_n (pc := 48) dX7_feed_48 rfl rfl ?_
                refine x_bipush (pc := 49) (v := 8) dX7_feed_49 rfl ?_
                refine x_iload_n (pc := 51) dX7_feed_51 rfl rfl ?_
                rw [k4]
                refine x_imul (pc := 52) dX7_feed_52 ?_
                refine x_ishr (pc := 53) dX7_feed_53 ?_
                refine x_sipush (pc := 54) (v := 255) dX7_feed_54 rfl ?_
                refine x_iand (pc := 57) dX7_feed_57 ?_
                refine x_iast (pc := 58) dX7_feed_58 (tb_114) (rfl) (by omega) (by first | decide | assumption) ?_
                refine x_aload_n (pc := 59) dX7_feed_59 rfl rfl ?_
                first | refine x_dupa (pc := 60) dX7_feed_60 ?_ | refine x_dupi (pc := 60) dX7_feed_60 ?_
                refine x_geti (pc := 61) fl_X7_209 dX7_feed_61 (tb_106) rfl (show _ = nI (L + j) from by rw [fv_s_ne _ _ (by decide)]; exact f1) ?_
                refine x_iconst (pc := 64) (v := 1) dX7_feed_64 rfl ?_
                refine x_iadd (pc := 65) dX7_feed_65 ?_
                refine x_put (pc := 66) fl_X7_209 dX7_feed_66 (tb_106) rfl rfl rfl ?_
                refine x_iinc3 (pc := 69) dX7_feed_69 (k5') rfl ?_
                refine x_goto (pc := 72) dX7_feed_72 (tgt := 36) rfl ?_
                exact hL2 _ ⟨(f0.s (by decide)).s (by decide), by rw [fv_s_same, fv_u_same, nI_1]; rfl, by rw [fv_s_same, fv_u_ne _ _ (by decide), fv_s_ne _ _ (by decide)]; exact fz, fun i hi => by rw [fv_s_ne _ _ (by decide), fv_s_same, fv_u_ne _ _ (by omega)]; exact f2 i hi, fun i hi => by
                    rw [fv_s_ne _ _ (by decide), fv_s_same, Nat.zero_add]
                    by_cases e : i = j
                    · subst e; rw [fv_u_same]
                    · rw [fv_u_ne _ _ (by omega)]; exact f3 i (by omega)⟩
            · rintro M2 ⟨f0, f1, fz, f2, f3⟩
              have hneg : nI k - 1 - nI k < 0 := by rcases (show k = 0 ∨ k = 1 ∨ k = 2 ∨ k = 3 ∨ k = 4 by omega) with rfl | rfl | rfl | rfl | rfl <;> decide
              have hend : pInv M2 := I.tape ((g0.mono (by decide)).tr (f0.mono (by decide))) ⟨L + k, hx2, by rw [f0 4 (by decide)]; exact g1, f1, fun i hi => by
                rw [f0 5 (by decide)]
                by_cases h : i < L
                · rw [f2 i h]; exact hby' i h
                · obtain ⟨c, rfl⟩ : ∃ c, i = L + c := ⟨i - L, by omega⟩
                  rw [f3 c (by omega), g3 c (by omega)]
                  exact ⟨rfl, hbt c (by omega)⟩⟩ (by rw [fz, g0 21 (by decide)])
              refine x_iload_n (pc := 36) dX7_feed_36 rfl rfl ?_
              refine x_if_lt (pc := 37) dX7_feed_37 (tgt := 75) rfl (fun h37 => ?_) (fun h37 => ?_)
              ·
                refine x_aload_n (pc := 75) dX7_feed_75 rfl rfl ?_
                refine x_geti (pc := 76) fl_X7_209 dX7_feed_76 (tb_106) rfl (f1) ?_
                refine x_iret (pc := 79) dX7_feed_79 rfl (by first | rfl | exact fv_nz _) ?_
                exact ⟨rfl, hend⟩
              ·
                exact absurd hneg h37
          ·
            exact absurd (nI_le (b := 120) hx2 (by omega)) h23
        ·
          contradiction
    · skip
      refine pOp.bad (v := -1000002) 1 I ?_ (fun M1 hF => ?_)
      · skip
        refine fv_F.of (ls := [some (.ref 0), some (.int b), some (.int (nI k)), none]) (by decide) (Nat.le_of_ble_eq_true rfl) rfl ?_
        refine x_iload_n (pc := 0) dX6_feed_0 rfl rfl ?_
        refine x_iconst (pc := 1) (v := 1) dX6_feed_1 rfl ?_
        refine x_icmp_lt (pc := 2) dX6_feed_2 (tgt := 10) rfl (fun h2 => ?_) (fun h2 => ?_)
        ·
          exact absurd h2 (Int32.not_lt.mpr hx1.1)
        ·
          refine x_iload_n (pc := 5) dX6_feed_5 rfl rfl ?_
          refine x_iconst (pc := 6) (v := 4) dX6_feed_6 rfl ?_
          refine x_icmp_le (pc := 7) dX6_feed_7 (tgt := 17) rfl (fun h7 => ?_) (fun h7 => ?_)
          ·
            refine x_aload_n (pc := 17) dX6_feed_17 rfl rfl ?_
            refine x_geta (pc := 18) fl_X6_29 dX6_feed_18 (tb_fv) rfl ?_
            refine x_geti (pc := 21) fl_X6_231 dX6_feed_21 (tb_88) rfl (e4) ?_
            refine x_iload_n (pc := 24) dX6_feed_24 rfl rfl ?_
            refine x_iadd (pc := 25) dX6_feed_25 ?_
            rw [hsum]
            refine x_bipush (pc := 26) (v := 120) dX6_feed_26 rfl ?_
            refine x_icmp_le (pc := 28) dX6_feed_28 (tgt := 38) rfl (fun h28 => ?_) (fun h28 => ?_)
            ·
              exact absurd ((nI_leI (b := 120) (by omega) (by omega)).mp h28) hx2
            ·
              refine x_aload_n (pc := 31) dX6_feed_31 rfl rfl ?_
              refine x_ldc (pc := 32) kc_X6_64 dX6_feed_32 ?_
              refine x_Vi (pc := 34) ks_X6_56 dX6_feed_34 (tb_fv) rfl rfl (hX6_fin 1 (-1000002) (by decide +kernel) (by decide)) rfl rfl rfl (Nat.le_of_ble_eq_true rfl) ?_
              refine x_iret (pc := 37) dX6_feed_37 rfl (by first | rfl | exact fv_nz _) ?_
              exact ⟨rfl, rfl⟩
          ·
            exact absurd hx1.2 h7
      · skip
        have e22 : M1 22 = M 22 := hF 22 (by decide)
        have hG1 : pGd (M1 22) nb nm := by rw [e22]; exact hG2
        have hE1 : pEq nb nm (M1 22) (M 0) := by rw [e22]; exact hE
        have hB1 := hG1.1
        have hM1 := hG1.2.2.1
        refine fv_F.of (ls := [some (.ref 106), some (.int b), some (.int (nI k)), none]) (by decide) (Nat.le_of_ble_eq_true rfl) rfl ?_
        refine x_iload_n (pc := 0) dX7_feed_0 rfl rfl ?_
        refine x_iconst (pc := 1) (v := 1) dX7_feed_1 rfl ?_
        refine x_iconst (pc := 2) (v := 4) dX7_feed_2 rfl ?_
        refine x_Si (pc := 3) ks_X7_60 dX7_feed_3 (hX7_in1) rfl rfl rfl (Nat.le_of_ble_eq_true rfl) ?_
        refine x_ifb_ne (pc := 6) dX7_feed_6 (tgt := 15) rfl (fun h6 => ?_) (fun h6 => ?_)
        ·
          refine x_aload_n (pc := 15) dX7_feed_15 rfl rfl ?_
          refine x_geti (pc := 16) fl_X7_209 dX7_feed_16 (tb_106) rfl ((congrFun (hF 21 (by decide)) 12).trans e21) ?_
          refine x_iload_n (pc := 19) dX7_feed_19 rfl rfl ?_
          refine x_iadd (pc := 20) dX7_feed_20 ?_
          rw [hsum]
          refine x_bipush (pc := 21) (v := 120) dX7_feed_21 rfl ?_
          refine x_icmp_le (pc := 23) dX7_feed_23 (tgt := 32) rfl (fun h23 => ?_) (fun h23 => ?_)
          ·
            exact absurd ((nI_leI (b := 120) (by omega) (by omega)).mp h23) hx2
          ·
            refine x_aload_n (pc := 26) dX7_feed_26 rfl rfl ?_
            refine x_iconst (pc := 27) (v := 1) dX7_feed_27 rfl ?_
            refine x_Vi (pc := 28) ks_X7_114 dX7_feed_28 (tb_106) rfl rfl (hX7_noL 1 (-1000002) (by decide) (by decide +kernel)) rfl rfl rfl (Nat.le_of_ble_eq_true rfl) ?_
            refine x_iret (pc := 31) dX7_feed_31 rfl (by first | rfl | exact fv_nz _) ?_
            exact ⟨rfl, rfl⟩
        ·
          contradiction
  · skip
    refine pOp.bad (v := -1000001) 0 I ?_ (fun M1 hF => ?_)
    · skip
      refine fv_F.of (ls := [some (.ref 0), some (.int b), some (.int n), none]) (by decide) (Nat.le_of_ble_eq_true rfl) rfl ?_
      refine x_iload_n (pc := 0) dX6_feed_0 rfl rfl ?_
      refine x_iconst (pc := 1) (v := 1) dX6_feed_1 rfl ?_
      refine x_icmp_lt (pc := 2) dX6_feed_2 (tgt := 10) rfl (fun h2 => ?_) (fun h2 => ?_)
      ·
        refine x_aload_n (pc := 10) dX6_feed_10 rfl rfl ?_
        refine x_ldc (pc := 11) kc_X6_55 dX6_feed_11 ?_
        refine x_Vi (pc := 13) ks_X6_56 dX6_feed_13 (tb_fv) rfl rfl (hX6_fin 0 (-1000001) (by decide +kernel) (by decide)) rfl rfl rfl (Nat.le_of_ble_eq_true rfl) ?_
        refine x_iret (pc := 16) dX6_feed_16 rfl (by first | rfl | exact fv_nz _) ?_
        exact ⟨rfl, rfl⟩
      ·
        refine x_iload_n (pc := 5) dX6_feed_5 rfl rfl ?_
        refine x_iconst (pc := 6) (v := 4) dX6_feed_6 rfl ?_
        refine x_icmp_le (pc := 7) dX6_feed_7 (tgt := 17) rfl (fun h7 => ?_) (fun h7 => ?_)
        ·
          exact absurd ⟨Int32.not_lt.mp h2, h7⟩ hx1
        ·
          refine x_aload_n (pc := 10) dX6_feed_10 rfl rfl ?_
          refine x_ldc (pc := 11) kc_X6_55 dX6_feed_11 ?_
          refine x_Vi (pc := 13) ks_X6_56 dX6_feed_13 (tb_fv) rfl rfl (hX6_fin 0 (-1000001) (by decide +kernel) (by decide)) rfl rfl rfl (Nat.le_of_ble_eq_true rfl) ?_
          refine x_iret (pc := 16) dX6_feed_16 rfl (by first | rfl | exact fv_nz _) ?_
          exact ⟨rfl, rfl⟩
    · skip
      have e22 : M1 22 = M 22 := hF 22 (by decide)
      have hG1 : pGd (M1 22) nb nm := by rw [e22]; exact hG2
      have hE1 : pEq nb nm (M1 22) (M 0) := by rw [e22]; exact hE
      have hB1 := hG1.1
      have hM1 := hG1.2.2.1
      refine fv_F.of (ls := [some (.ref 106), some (.int b), some (.int n), none]) (by decide) (Nat.le_of_ble_eq_true rfl) rfl ?_
      refine x_iload_n (pc := 0) dX7_feed_0 rfl rfl ?_
      refine x_iconst (pc := 1) (v := 1) dX7_feed_1 rfl ?_
      refine x_iconst (pc := 2) (v := 4) dX7_feed_2 rfl ?_
      refine x_Si (pc := 3) ks_X7_60 dX7_feed_3 (hX7_in1) rfl rfl rfl (Nat.le_of_ble_eq_true rfl) ?_
      refine x_ifb_ne (pc := 6) dX7_feed_6 (tgt := 15) rfl (fun h6 => ?_) (fun h6 => ?_)
      ·
        contradiction
      ·
        refine x_aload_n (pc := 9) dX7_feed_9 rfl rfl ?_
        refine x_iconst (pc := 10) (v := 0) dX7_feed_10 rfl ?_
        refine x_Vi (pc := 11) ks_X7_114 dX7_feed_11 (tb_106) rfl rfl (hX7_noL 0 (-1000001) (by decide) (by decide +kernel)) rfl rfl rfl (Nat.le_of_ble_eq_true rfl) ?_
        refine x_iret (pc := 14) dX7_feed_14 rfl (by first | rfl | exact fv_nz _) ?_
        exact ⟨rfl, rfl⟩
