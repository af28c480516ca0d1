def pOi (o : List Nat) : Nat → List Nat
  | 0 => o
  | j + 1 => (pNx (pOi o j)).getD (pOi o j)
def pEnds : Nat → List Nat → Bool
  | 0, _ => false
  | f + 1, o => match pNx o with
    | none => true
    | some o' => pEnds f o'
def pJc : Nat → List Nat → Nat
  | 0, _ => 0
  | f + 1, o => match pNx o with
    | none => 0
    | some o' => pJc f o' + 1
theorem pOi_s (o : List Nat) : ∀ j, pOi ((pNx o).getD o) j = pOi o (j + 1) := by
  intro j
  induction j with
  | zero => rfl
  | succ j ih => show (pNx (pOi ((pNx o).getD o) j)).getD (pOi ((pNx o).getD o) j) = (pNx (pOi o (j + 1))).getD (pOi o (j + 1)); rw [ih]
theorem pEnds_J : ∀ f o, pEnds f o = true → pJc f o < f ∧ pNx (pOi o (pJc f o)) = none ∧ ∀ j, j < pJc f o → (pNx (pOi o j)).isSome = true := by
  intro f
  induction f with
  | zero => intro o h; cases h
  | succ f ih =>
    intro o h
    unfold pEnds at h
    unfold pJc
    cases e : pNx o with
    | none => exact ⟨Nat.succ_pos f, e, fun j hj => absurd hj (Nat.not_lt_zero j)⟩
    | some o' =>
      rw [e] at h
      obtain ⟨h1, h2, h3⟩ := ih o' h
      have es : ∀ j, pOi o' j = pOi o (j + 1) := fun j => by rw [← pOi_s, e]; rfl
      refine ⟨Nat.succ_lt_succ h1, ?_, fun j hj => ?_⟩
      · show pNx (pOi o (pJc f o' + 1)) = none
        rw [← es]; exact h2
      · cases j with
        | zero => show (pNx o).isSome = true; rw [e]; rfl
        | succ j => rw [← es]; exact h3 j (Nat.lt_of_succ_lt_succ hj)
theorem pEnds_all : ((List.range 256).all fun k => !(decide ((pMf k 8).length ≤ 5)) || pEnds 120 (pMf k 8)) = true := by decide +kernel
def pJ (k : Nat) : Nat := pJc 120 (pMf k 8)
def pO (k : Nat) : Nat → List Nat := pOi (pMf k 8)
theorem pJ_of {k : Nat} (hk : k < 256) (h5 : pBc k ≤ 5) : pJ k < 120 ∧ pNx (pO k (pJ k)) = none ∧ ∀ j, j < pJ k → (pNx (pO k j)).isSome = true := by
  have h := fv_all1 pEnds_all hk
  rw [Bool.or_eq_true] at h
  rcases h with h | h
  · rw [Bool.not_eq_true', decide_eq_false_iff_not] at h
    exact absurd h5 h
  · exact pEnds_J 120 _ h
theorem pMf_in (k : Nat) : ∀ m i, i < (pMf k m).length → (pMf k m).getD i 0 < m ∧ k.testBit ((pMf k m).getD i 0) = true := by
  intro m i hi
  rw [List.getD_eq_getElem?_getD, List.getElem?_eq_getElem hi]
  have h := List.getElem_mem hi
  show (pMf k m)[i] < m ∧ k.testBit (pMf k m)[i] = true
  unfold pMf at h ⊢
  rw [List.mem_filter, List.mem_range] at h
  exact h
theorem pMf_le_all : ((List.range 9).all fun nm => (List.range (2 ^ nm)).all fun k => decide (pMf k nm = pMf k 8)) = true := by decide +kernel
theorem pMf_le {nm k : Nat} (hn : nm ≤ 8) (hk : k < 2 ^ nm) : pMf k nm = pMf k 8 := of_decide_eq_true (fv_all1 (fv_all1 pMf_le_all (by omega)) hk)
theorem pO_ib {nm k : Nat} (hn : nm ≤ 8) (hk : k < 2 ^ nm) : ∀ j, pIb (pBc k) nm (pO k j) := by
  intro j
  induction j with
  | zero =>
    refine ⟨rfl, fun i hi => ?_⟩
    show (pMf k 8).getD i 0 < nm
    rw [← pMf_le hn hk]
    exact (pMf_in k nm i (by rw [pMf_le hn hk]; exact hi)).1
  | succ j ih => exact pNx_ib ih
def pMt (k : Nat) : Nat := wT (fun m => decide ((pMf k m).length < 5)) 8
theorem pMt_all : ((List.range 256).all fun k => !(decide ((pMf k 8).length ≤ 5)) || decide (pMf k (pMt k) = pMf k 8)) = true := by decide +kernel
theorem pMt_of {k : Nat} (hk : k < 256) (h5 : pBc k ≤ 5) : pMf k (pMt k) = pMf k 8 := by
  have h := fv_all1 pMt_all hk
  rw [Bool.or_eq_true] at h
  rcases h with h | h
  · rw [Bool.not_eq_true', decide_eq_false_iff_not] at h
    exact absurd h5 h
  · exact of_decide_eq_true h
theorem pMf_len (k : Nat) : ∀ m, (pMf k m).length ≤ m := fun m => by unfold pMf; exact Nat.le_trans (List.length_filter_le _ _) (by rw [List.length_range]; exact Nat.le_refl m)
theorem fv_s2 (M : fv_M) (a b : Nat → Int32) {p q : Nat} (h : p ≠ q) : ∀ c e, fv_s (fv_s (fv_s (fv_s M p a) q b) q c) p e = fv_s (fv_s M p e) q c := fun c e => by
  rw [fv_s_s, fv_s_comm _ c e (fun x => h x.symm), fv_s_s]
theorem hX2_listMembers {E : fv_E} {d k : Nat} {M : fv_M} (hk : k < 256) (h5 : pBc k ≤ 5) : fv_F E d mX2_listMembers [.ref 94, .int (nI k)] M none (fv_s (fv_s M 9 (fv_u (M 9) 5 (nI (pBc k)))) 11 (pLay (M 11) (pMf k 8))) := by
  have hT := wT_all (fun m => decide ((pMf k m).length < 5)) 8
  rw [show wT (fun m => decide ((pMf k m).length < 5)) 8 = pMt k from rfl] at hT
  obtain ⟨t1, t2, t3⟩ := hT
  have h9 : ∀ a b, (fv_s (fv_s M 9 a) 11 b) 9 = a := fun a b => by rw [fv_s_ne _ _ (by decide), fv_s_same]
  have hlen : ∀ m, (pMf k m).length < 2 ^ 30 ∨ 8 < m := fun m => by
    have := pMf_len k m
    omega
  refine fv_F.of (ls := [some (.ref 94), some (.int (nI k)), none]) (by decide) (Nat.le_of_ble_eq_true rfl) rfl ?_
  refine x_aload_n (pc := 0) dX2_listMembers_0 rfl rfl ?_
  refine x_iconst (pc := 1) (v := 0) dX2_listMembers_1 rfl ?_
  refine x_put (pc := 2) fl_X2_32 dX2_listMembers_2 (tb_94) rfl rfl rfl ?_
  refine x_iconst (pc := 5) (v := 0) dX2_listMembers_5 rfl ?_
  refine x_istore_n2 (pc := 6) dX2_listMembers_6 rfl ?_
  refine x_loop (fun m => [some (.ref 94), some (.int (nI k)), some (.int (nI m))]) (fun m => fv_s (fv_s M 9 (fv_u (M 9) 5 (nI (pMf k m).length))) 11 (pLay (M 11) (pMf k m))) (pMt k) rfl ?_ (fun m hm hL => ?_) ?_
  · show fv_s (fv_s M 9 (fv_u (M 9) 5 0)) 11 (M 11) = fv_s M 9 (fv_u (M 9) 5 0)
    rw [← fv_s_ne M (fv_u (M 9) 5 0) (show 11 ≠ 9 by decide), fv_s_id]
  · show fv_X E mX2_listMembers _ _ 7 [some (.ref 94), some (.int (nI k)), some (.int (nI m))] [] (fv_s (fv_s M 9 (fv_u (M 9) 5 (nI (pMf k m).length))) 11 (pLay (M 11) (pMf k m)))
    replace hL : fv_X E mX2_listMembers _ _ 7 [some (.ref 94), some (.int (nI k)), some (.int (nI (m + 1)))] [] (fv_s (fv_s M 9 (fv_u (M 9) 5 (nI (pMf k (m + 1)).length))) 11 (pLay (M 11) (pMf k (m + 1)))) := hL
    have hlt := of_decide_eq_true (t2 m hm)
    have htb := pIn_tb hk (show m < 8 by omega)
    refine x_iload_n (pc := 7) dX2_listMembers_7 rfl rfl ?_
    refine x_bipush (pc := 8) (v := 8) dX2_listMembers_8 rfl ?_
    refine x_icmp_ge (pc := 10) dX2_listMembers_10 (tgt := 55) rfl (fun h10 => ?_) (fun h10 => ?_)
    ·
      exact absurd h10 (nI_ge (b := 8) (by omega) (by omega))
    ·
      refine x_aload_n (pc := 13) dX2_listMembers_13 rfl rfl ?_
      refine x_geti (pc := 14) fl_X2_32 dX2_listMembers_14 (tb_94) rfl (show _ = nI (pMf k m).length from by rw [h9, fv_u_same]) ?_
      refine x_iconst (pc := 17) (v := 5) dX2_listMembers_17 rfl ?_
      refine x_icmp_ge (pc := 18) dX2_listMembers_18 (tgt := 55) rfl (fun h18 => ?_) (fun h18 => ?_)
      ·
        exact absurd h18 (nI_ge (b := 5) hlt (by omega))
      ·
        refine x_iload_n (pc := 21) dX2_listMembers_21 rfl rfl ?_
        refine x_iload_n (pc := 22) dX2_listMembers_22 rfl rfl ?_
        refine x_ishr (pc := 23) dX2_listMembers_23 ?_
        refine x_iconst (pc := 24) (v := 1) dX2_listMembers_24 rfl ?_
        refine x_iand (pc := 25) dX2_listMembers_25 ?_
        refine x_if_eq (pc := 26) dX2_listMembers_26 (tgt := 49) rfl (fun h26 => ?_) (fun h26 => ?_)
        ·
          rw [pMf_s k m, if_neg (fun q => htb.mpr q h26)] at hL
          first | rw [fv_s_same, Nat.zero_add, pLay_add, fv_s_ne _ _ (by decide : 9 ≠ 11), h9, fv_s2 _ _ _ (by decide), fv_u_u, nI_1] | skip
          refine x_iinc2 (pc := 49) dX2_listMembers_49 (by first | exact fv_inc _ | exact fv_dec _ | rfl) rfl ?_
          refine x_goto (pc := 52) dX2_listMembers_52 (tgt := 7) rfl ?_
          exact hL
        ·
          rw [pMf_s k m, if_pos (htb.mp h26), show (pMf k m ++ [m]).length = (pMf k m).length + 1 by simp] at hL
          refine x_aload_n (pc := 29) dX2_listMembers_29 rfl rfl ?_
          refine x_geta (pc := 30) fl_X2_15 dX2_listMembers_30 (tb_94) rfl ?_
          refine x_aload_n (pc := 33) dX2_listMembers_33 rfl rfl ?_
          refine x_geti (pc := 34) fl_X2_32 dX2_listMembers_34 (tb_94) rfl (show _ = nI (pMf k m).length from by rw [h9, fv_u_same]) ?_
          refine x_iload_n (pc := 37) dX2_listMembers_37 rfl rfl ?_
          refine x_iast (pc := 38) dX2_listMembers_38 (tb_96) (rfl) (by omega) (by first | decide | assumption) ?_
          refine x_aload_n (pc := 39) dX2_listMembers_39 rfl rfl ?_
          first | refine x_dupa (pc := 40) dX2_listMembers_40 ?_ | refine x_dupi (pc := 40) dX2_listMembers_40 ?_
          refine x_geti (pc := 41) fl_X2_32 dX2_listMembers_41 (tb_94) rfl (show _ = nI (pMf k m).length from by rw [fv_s_ne _ _ (by decide), h9, fv_u_same]) ?_
          refine x_iconst (pc := 44) (v := 1) dX2_listMembers_44 rfl ?_
          refine x_iadd (pc := 45) dX2_listMembers_45 ?_
          refine x_put (pc := 46) fl_X2_32 dX2_listMembers_46 (tb_94) rfl rfl rfl ?_
          first | rw [fv_s_same, Nat.zero_add, pLay_add, fv_s_ne _ _ (by decide : 9 ≠ 11), h9, fv_s2 _ _ _ (by decide), fv_u_u, nI_1] | skip
          refine x_iinc2 (pc := 49) dX2_listMembers_49 (by first | exact fv_inc _ | exact fv_dec _ | rfl) rfl ?_
          refine x_goto (pc := 52) dX2_listMembers_52 (tgt := 7) rfl ?_
          exact hL
  · show fv_X E mX2_listMembers _ _ 7 [some (.ref 94), some (.int (nI k)), some (.int (nI (pMt k)))] [] (fv_s (fv_s M 9 (fv_u (M 9) 5 (nI (pMf k (pMt k)).length))) 11 (pLay (M 11) (pMf k (pMt k))))
    have e := pMt_of hk h5
    rw [e]
    by_cases h8 : pMt k < 8
    · have hlt := of_decide_eq_false (t3 h8)
      rw [e] at hlt
      refine x_iload_n (pc := 7) dX2_listMembers_7 rfl rfl ?_
      refine x_bipush (pc := 8) (v := 8) dX2_listMembers_8 rfl ?_
      refine x_icmp_ge (pc := 10) dX2_listMembers_10 (tgt := 55) rfl (fun h10 => ?_) (fun h10 => ?_)
      ·
        exact absurd h10 (nI_ge (b := 8) (by omega) (by omega))
      ·
        refine x_aload_n (pc := 13) dX2_listMembers_13 rfl rfl ?_
        refine x_geti (pc := 14) fl_X2_32 dX2_listMembers_14 (tb_94) rfl (show _ = nI (pMf k 8).length from by rw [h9, fv_u_same]) ?_
        refine x_iconst (pc := 17) (v := 5) dX2_listMembers_17 rfl ?_
        refine x_icmp_ge (pc := 18) dX2_listMembers_18 (tgt := 55) rfl (fun h18 => ?_) (fun h18 => ?_)
        ·
          refine x_ret (pc := 55) dX2_listMembers_55 rfl ?_
          exact ⟨rfl, rfl⟩
        ·
          exact absurd (nI_le (a := 5) (by omega) (by have := pMf_len k 8; omega)) h18
    · have e8 : pMt k = 8 := by omega
      rw [e8]
      refine x_iload_n (pc := 7) dX2_listMembers_7 rfl rfl ?_
      refine x_bipush (pc := 8) (v := 8) dX2_listMembers_8 rfl ?_
      refine x_icmp_ge (pc := 10) dX2_listMembers_10 (tgt := 55) rfl (fun h10 => ?_) (fun h10 => ?_)
      ·
        refine x_ret (pc := 55) dX2_listMembers_55 rfl ?_
        exact ⟨rfl, rfl⟩
      ·
        exact absurd (Int32.le_refl _) h10
theorem hX2_weigh {E : fv_E} {d nb n : Nat} {p mo bc : Int32} {M : fv_M} (hB : M 1 1 = nI nb) (hb : nb ≤ 8) (h1 : M 9 1 = mo) (h2 : M 9 2 = bc) (hsz : M 9 5 = nI n) (hn : n ≤ 5) : fv_F E (d + 2) mX2_weigh [.ref 94, .int p, .ref (aSt 1)] M none (if mo < p then fv_s (fv_s M 9 (fv_u (fv_u (fv_u (M 9) 1 p) 2 1) 3 (pAf (M 1) nb))) 10 (fv_cp (M 10) (0 + 0) (M 11) (0 + 0) n) else if p = mo then fv_s M 9 (fv_u (M 9) 2 (bc + 1)) else M) := by
  have hs1 : 1 < 3 := by decide
  have n1 : ∀ f, (fv_s M 9 f) 1 = M 1 := fun f => fv_s_ne _ _ (by decide)
  have n10 : ∀ f, (fv_s M 9 f) 10 = M 10 := fun f => fv_s_ne _ _ (by decide)
  have n11 : ∀ f, (fv_s M 9 f) 11 = M 11 := fun f => fv_s_ne _ _ (by decide)
  refine fv_F.of (ls := [some (.ref 94), some (.int p), some (.ref (aSt 1))]) (by decide) (Nat.le_of_ble_eq_true rfl) rfl ?_
  refine x_iload_n (pc := 0) dX2_weigh_0 rfl rfl ?_
  refine x_aload_n (pc := 1) dX2_weigh_1 rfl rfl ?_
  refine x_geti (pc := 2) fl_X2_22 dX2_weigh_2 (tb_94) rfl (h1) ?_
  refine x_icmp_le (pc := 5) dX2_weigh_5 (tgt := 46) rfl (fun h5 => ?_) (fun h5 => ?_)
  ·
    refine x_iload_n (pc := 46) dX2_weigh_46 rfl rfl ?_
    refine x_aload_n (pc := 47) dX2_weigh_47 rfl rfl ?_
    refine x_geti (pc := 48) fl_X2_22 dX2_weigh_48 (tb_94) rfl (h1) ?_
    refine x_icmp_ne (pc := 51) dX2_weigh_51 (tgt := 64) rfl (fun h51 => ?_) (fun h51 => ?_)
    ·
      refine x_ret (pc := 64) dX2_weigh_64 rfl ?_
      refine ⟨rfl, ?_⟩
      try simp only [fv_s_same, fv_s_s, n10, n11]
      first | (rw [if_pos h5']; done) | (rw [if_neg (Int32.not_lt.mpr h5), if_pos h51]; done) | (rw [if_neg (Int32.not_lt.mpr h5), if_neg h51]; done)
    ·
      refine x_aload_n (pc := 54) dX2_weigh_54 rfl rfl ?_
      first | refine x_dupa (pc := 55) dX2_weigh_55 ?_ | refine x_dupi (pc := 55) dX2_weigh_55 ?_
      refine x_geti (pc := 56) fl_X2_47 dX2_weigh_56 (tb_94) rfl (h2) ?_
      refine x_iconst (pc := 59) (v := 1) dX2_weigh_59 rfl ?_
      refine x_iadd (pc := 60) dX2_weigh_60 ?_
      refine x_put (pc := 61) fl_X2_47 dX2_weigh_61 (tb_94) rfl rfl rfl ?_
      refine x_ret (pc := 64) dX2_weigh_64 rfl ?_
      refine ⟨rfl, ?_⟩
      try simp only [fv_s_same, fv_s_s, n10, n11]
      first | (rw [if_pos h5']; done) | (rw [if_neg (Int32.not_lt.mpr h5), if_pos h51]; done) | (rw [if_neg (Int32.not_lt.mpr h5), if_neg h51]; done)
  ·
    have h5' := Int32.not_le.mp h5
    refine x_aload_n (pc := 8) dX2_weigh_8 rfl rfl ?_
    refine x_iload_n (pc := 9) dX2_weigh_9 rfl rfl ?_
    refine x_put (pc := 10) fl_X2_22 dX2_weigh_10 (tb_94) rfl rfl rfl ?_
    refine x_aload_n (pc := 13) dX2_weigh_13 rfl rfl ?_
    refine x_iconst (pc := 14) (v := 1) dX2_weigh_14 rfl ?_
    refine x_put (pc := 15) fl_X2_47 dX2_weigh_15 (tb_94) rfl rfl rfl ?_
    simp only [fv_s_same, fv_s_s]
    refine x_aload_n (pc := 18) dX2_weigh_18 rfl rfl ?_
    refine x_aload_n (pc := 19) dX2_weigh_19 rfl rfl ?_
    refine x_Vi (pc := 20) ks_X2_50 dX2_weigh_20 (tb_st (by assumption)) rfl rfl ((hX4_allFeathers hs1 (by rw [n1]; exact hB) hb).v (by rw [n1])) rfl rfl rfl (Nat.le_of_ble_eq_true rfl) ?_
    refine x_put (pc := 23) fl_X2_54 dX2_weigh_23 (tb_94) rfl rfl rfl ?_
    refine x_aload_n (pc := 26) dX2_weigh_26 rfl rfl ?_
    refine x_geta (pc := 27) fl_X2_15 dX2_weigh_27 (tb_94) rfl ?_
    refine x_iconst (pc := 30) (v := 0) dX2_weigh_30 rfl ?_
    refine x_aload_n (pc := 31) dX2_weigh_31 rfl rfl ?_
    refine x_geta (pc := 32) fl_X2_9 dX2_weigh_32 (tb_94) rfl ?_
    refine x_iconst (pc := 35) (v := 0) dX2_weigh_35 rfl ?_
    refine x_aload_n (pc := 36) dX2_weigh_36 rfl rfl ?_
    refine x_geti (pc := 37) fl_X2_32 dX2_weigh_37 (tb_94) rfl (show _ = nI n from by simp only [fv_s_same, fv_s_s]; rw [fv_u_ne _ _ (by decide), fv_u_ne _ _ (by decide), fv_u_ne _ _ (by decide)]; exact hsz) ?_
    refine x_copy (pc := 40) ks_X2_57 dX2_weigh_40 (tb_96) (tb_95) ((rfl : (0 : Int32) = nI 0)) ((rfl : (0 : Int32) = nI 0)) (rfl) (by show 0 + n ≤ 5; omega) (by show 0 + n ≤ 5; omega) (by decide) (by decide) rfl (Nat.le_of_ble_eq_true rfl) ?_
    refine x_goto (pc := 43) dX2_weigh_43 (tgt := 64) rfl ?_
    refine x_ret (pc := 64) dX2_weigh_64 rfl ?_
    refine ⟨rfl, ?_⟩
    try simp only [fv_s_same, fv_s_s, n10, n11]
    first | (rw [if_pos h5']; done) | (rw [if_neg (Int32.not_lt.mpr h5), if_pos h51]; done) | (rw [if_neg (Int32.not_lt.mpr h5), if_neg h51]; done)
