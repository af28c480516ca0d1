theorem hX6_isUpTo {E : fv_E} {d : Nat} {v most : Int32} {M : fv_M} : fv_F E d mX6_isUpTo [.int v, .int most] M (some (.int (bI (0 ≤ v ∧ v ≤ most)))) M := by
  refine fv_F.of (ls := [some (.int v), some (.int most)]) (by decide) (Nat.le_of_ble_eq_true rfl) rfl ?_
  refine x_iload_n (pc := 0) dX6_isUpTo_0 rfl rfl ?_
  refine x_if_lt (pc := 1) dX6_isUpTo_1 (tgt := 13) rfl (fun h1 => ?_) (fun h1 => ?_)
  ·
    refine x_iconst (pc := 13) (v := 0) dX6_isUpTo_13 rfl ?_
    refine x_iret (pc := 14) dX6_isUpTo_14 rfl (by first | rfl | exact fv_nz _) ?_
    refine ⟨?_, rfl⟩
    first | rfl | (simp only [bI]; split <;> first | rfl | (exfalso; simp only [Int32.le_iff_toInt_le, Int32.lt_iff_toInt_lt, Int32.reduceToInt] at *; omega))
  ·
    refine x_iload_n (pc := 4) dX6_isUpTo_4 rfl rfl ?_
    refine x_iload_n (pc := 5) dX6_isUpTo_5 rfl rfl ?_
    refine x_icmp_gt (pc := 6) dX6_isUpTo_6 (tgt := 13) rfl (fun h6 => ?_) (fun h6 => ?_)
    ·
      refine x_iconst (pc := 13) (v := 0) dX6_isUpTo_13 rfl ?_
      refine x_iret (pc := 14) dX6_isUpTo_14 rfl (by first | rfl | exact fv_nz _) ?_
      refine ⟨?_, rfl⟩
      first | rfl | (simp only [bI]; split <;> first | rfl | (exfalso; simp only [Int32.le_iff_toInt_le, Int32.lt_iff_toInt_lt, Int32.reduceToInt] at *; omega))
    ·
      refine x_iconst (pc := 9) (v := 1) dX6_isUpTo_9 rfl ?_
      refine x_goto (pc := 10) dX6_isUpTo_10 (tgt := 14) rfl ?_
      refine x_iret (pc := 14) dX6_isUpTo_14 rfl (by first | rfl | exact fv_nz _) ?_
      refine ⟨?_, rfl⟩
      first | rfl | (simp only [bI]; split <;> first | rfl | (exfalso; simp only [Int32.le_iff_toInt_le, Int32.lt_iff_toInt_lt, Int32.reduceToInt] at *; omega))
theorem hX0_mostOf {E : fv_E} {d : Nat} {w : Int32} {M : fv_M} : fv_F E d mX0_mostOf [.int w] M (some (.int (if w = 0 then 6 else if w = 2 then 9 else 99))) M := by
  refine fv_F.of (ls := [some (.int w)]) (by decide) (Nat.le_of_ble_eq_true rfl) rfl ?_
  refine x_iload_n (pc := 0) dX0_mostOf_0 rfl rfl ?_
  refine x_swc (pc := 1) 0 dX0_mostOf_1 (by decide) (by decide) rfl (tgt := 28) rfl (fun h1_0 => ?_) (fun n1_0 => ?_)
  ·
    refine x_bipush (pc := 28) (v := 6) dX0_mostOf_28 rfl ?_
    refine x_iret (pc := 30) dX0_mostOf_30 rfl (by first | rfl | exact fv_nz _) ?_
    exact ⟨by simp_all, rfl⟩
  refine x_swc (pc := 1) 1 dX0_mostOf_1 (by decide) (by decide) rfl (tgt := 31) rfl (fun h1_1 => ?_) (fun n1_1 => ?_)
  ·
    refine x_bipush (pc := 31) (v := 99) dX0_mostOf_31 rfl ?_
    refine x_iret (pc := 33) dX0_mostOf_33 rfl (by first | rfl | exact fv_nz _) ?_
    exact ⟨by simp_all, rfl⟩
  refine x_swc (pc := 1) 2 dX0_mostOf_1 (by decide) (by decide) rfl (tgt := 34) rfl (fun h1_2 => ?_) (fun n1_2 => ?_)
  ·
    refine x_bipush (pc := 34) (v := 9) dX0_mostOf_34 rfl ?_
    refine x_iret (pc := 36) dX0_mostOf_36 rfl (by first | rfl | exact fv_nz _) ?_
    exact ⟨by simp_all, rfl⟩
  refine x_swd (pc := 1) dX0_mostOf_1 (fun c hl hh => by rcases (show c = 0 ∨ c = 1 ∨ c = 2 by omega) with rfl | rfl | rfl <;> assumption) (tgt := 37) rfl ?_
  refine x_bipush (pc := 37) (v := 99) dX0_mostOf_37 rfl ?_
  refine x_iret (pc := 39) dX0_mostOf_39 rfl (by first | rfl | exact fv_nz _) ?_
  exact ⟨by simp_all, rfl⟩
theorem hX4_hasBird {E : fv_E} {d s : Nat} {b : Int32} {M : fv_M} (hs : s < 3) : fv_F E (d + 1) mX4_hasBird [.ref (aSt s), .int b] M (some (.int (bI (0 ≤ b ∧ b ≤ M s 1 - 1)))) M := by
  refine fv_F.of (ls := [some (.ref (aSt s)), some (.int b)]) (by decide) (Nat.le_of_ble_eq_true rfl) rfl ?_
  refine x_iload_n (pc := 0) dX4_hasBird_0 rfl rfl ?_
  refine x_aload_n (pc := 1) dX4_hasBird_1 rfl rfl ?_
  refine x_geti (pc := 2) fl_X4_30 dX4_hasBird_2 (tb_st (by assumption)) rfl (rfl) ?_
  refine x_iconst (pc := 5) (v := 1) dX4_hasBird_5 rfl ?_
  refine x_isub (pc := 6) dX4_hasBird_6 ?_
  refine x_Ni (pc := 7) ks_X4_64 dX4_hasBird_7 (hX6_isUpTo) rfl rfl rfl (Nat.le_of_ble_eq_true rfl) ?_
  refine x_iret (pc := 10) dX4_hasBird_10 rfl (by first | rfl | exact fv_nz _) ?_
  exact ⟨rfl, rfl⟩
theorem hX4_hasMotion {E : fv_E} {d s : Nat} {b : Int32} {M : fv_M} (hs : s < 3) : fv_F E (d + 1) mX4_hasMotion [.ref (aSt s), .int b] M (some (.int (bI (0 ≤ b ∧ b ≤ M s 2 - 1)))) M := by
  refine fv_F.of (ls := [some (.ref (aSt s)), some (.int b)]) (by decide) (Nat.le_of_ble_eq_true rfl) rfl ?_
  refine x_iload_n (pc := 0) dX4_hasMotion_0 rfl rfl ?_
  refine x_aload_n (pc := 1) dX4_hasMotion_1 rfl rfl ?_
  refine x_geti (pc := 2) fl_X4_34 dX4_hasMotion_2 (tb_st (by assumption)) rfl (rfl) ?_
  refine x_iconst (pc := 5) (v := 1) dX4_hasMotion_5 rfl ?_
  refine x_isub (pc := 6) dX4_hasMotion_6 ?_
  refine x_Ni (pc := 7) ks_X4_64 dX4_hasMotion_7 (hX6_isUpTo) rfl rfl rfl (Nat.le_of_ble_eq_true rfl) ?_
  refine x_iret (pc := 10) dX4_hasMotion_10 rfl (by first | rfl | exact fv_nz _) ?_
  exact ⟨rfl, rfl⟩
theorem hX0_allFeathers {E : fv_E} {d s i : Nat} {M : fv_M} (hs : s < 3) (hi : i < 8) : fv_F E d mX0_allFeathers [.ref (aB s i)] M (some (.int (pFe (M s) i))) M := by
  refine fv_F.of (ls := [some (.ref (aB s i)), none, none]) (by decide) (Nat.le_of_ble_eq_true rfl) rfl ?_
  refine x_iconst (pc := 0) (v := 0) dX0_allFeathers_0 rfl ?_
  refine x_istore_n1 (pc := 1) dX0_allFeathers_1 rfl ?_
  refine x_iconst (pc := 2) (v := 0) dX0_allFeathers_2 rfl ?_
  refine x_istore_n2 (pc := 3) dX0_allFeathers_3 rfl ?_
  refine x_loop (fun j => [some (.ref (aB s i)), some (.int (sN (fun c => M s (fB i 3 + c)) j)), some (.int (nI j))]) (fun j => M) (4) (rfl) (rfl) (fun j hj hn4 => ?_) ?_
  ·
    replace hn4 : fv_X E mX0_allFeathers _ _ 4 ([some (.ref (aB s i)), some (.int (sN (fun c => M s (fB i 3 + c)) (j + 1))), some (.int (nI (j + 1)))]) ([]) (M) := hn4
    show fv_X E mX0_allFeathers _ _ 4 ([some (.ref (aB s i)), some (.int (sN (fun c => M s (fB i 3 + c)) j)), some (.int (nI j))]) ([]) (M)
    refine x_iload_n (pc := 4) dX0_allFeathers_4 rfl rfl ?_
    refine x_iconst (pc := 5) (v := 4) dX0_allFeathers_5 rfl ?_
    refine x_icmp_ge (pc := 6) dX0_allFeathers_6 (tgt := 24) rfl (fun h6 => ?_) (fun h6 => ?_)
    ·
      exact absurd h6 (nI_ge hj (by first | decide | omega))
    ·
      refine x_iload_n (pc := 9) dX0_allFeathers_9 rfl rfl ?_
      refine x_aload_n (pc := 10) dX0_allFeathers_10 rfl rfl ?_
      refine x_geta (pc := 11) fl_X0_9 dX0_allFeathers_11 (tb_b (by assumption) (by assumption)) rfl ?_
      refine x_iload_n (pc := 14) dX0_allFeathers_14 rfl rfl ?_
      refine x_iald (pc := 15) dX0_allFeathers_15 (tb_f (by assumption) (by assumption)) (rfl) (by first | assumption | decide | omega) (by decide) ?_
      refine x_iadd (pc := 16) dX0_allFeathers_16 ?_
      refine x_istore_n1 (pc := 17) dX0_allFeathers_17 rfl ?_
      refine x_iinc2 (pc := 18) dX0_allFeathers_18 (by first | exact fv_inc _ | exact fv_dec _ | rfl) rfl ?_
      refine x_goto (pc := 21) dX0_allFeathers_21 (tgt := 4) rfl ?_
      exact hn4
  ·
    show fv_X E mX0_allFeathers _ _ 4 ([some (.ref (aB s i)), some (.int (sN (fun c => M s (fB i 3 + c)) (4))), some (.int (nI (4)))]) ([]) (M)
    refine x_iload_n (pc := 4) dX0_allFeathers_4 rfl rfl ?_
    refine x_iconst (pc := 5) (v := 4) dX0_allFeathers_5 rfl ?_
    refine x_icmp_ge (pc := 6) dX0_allFeathers_6 (tgt := 24) rfl (fun h6 => ?_) (fun h6 => ?_)
    ·
      refine x_iload_n (pc := 24) dX0_allFeathers_24 rfl rfl ?_
      refine x_iret (pc := 25) dX0_allFeathers_25 rfl (by first | rfl | exact fv_nz _) ?_
      exact ⟨rfl, rfl⟩
    ·
      exact absurd (Int32.le_refl _) h6
theorem hX0_canFly {E : fv_E} {d s i : Nat} {M : fv_M} (hs : s < 3) (hi : i < 8) : fv_F E (d + 1) mX0_canFly [.ref (aB s i)] M (some (.int (bI (M s (fB i 1) ≤ pFe (M s) i)))) M := by
  refine fv_F.of (ls := [some (.ref (aB s i))]) (by decide) (Nat.le_of_ble_eq_true rfl) rfl ?_
  refine x_aload_n (pc := 0) dX0_canFly_0 rfl rfl ?_
  refine x_Vi (pc := 1) ks_X0_37 dX0_canFly_1 (tb_b (by assumption) (by assumption)) rfl rfl (hX0_allFeathers hs hi) rfl rfl rfl (Nat.le_of_ble_eq_true rfl) ?_
  refine x_aload_n (pc := 4) dX0_canFly_4 rfl rfl ?_
  refine x_geti (pc := 5) fl_X0_19 dX0_canFly_5 (tb_b (by assumption) (by assumption)) rfl (rfl) ?_
  refine x_icmp_lt (pc := 8) dX0_canFly_8 (tgt := 15) rfl (fun h8 => ?_) (fun h8 => ?_)
  ·
    refine x_iconst (pc := 15) (v := 0) dX0_canFly_15 rfl ?_
    refine x_iret (pc := 16) dX0_canFly_16 rfl (by first | rfl | exact fv_nz _) ?_
    refine ⟨?_, rfl⟩
    first | rw [bI_t (by first | assumption | exact Int32.not_lt.mp (by assumption))] | rw [bI_f (by first | assumption | exact Int32.not_le.mpr (by assumption))]
  ·
    refine x_iconst (pc := 11) (v := 1) dX0_canFly_11 rfl ?_
    refine x_goto (pc := 12) dX0_canFly_12 (tgt := 16) rfl ?_
    refine x_iret (pc := 16) dX0_canFly_16 rfl (by first | rfl | exact fv_nz _) ?_
    refine ⟨?_, rfl⟩
    first | rw [bI_t (by first | assumption | exact Int32.not_lt.mp (by assumption))] | rw [bI_f (by first | assumption | exact Int32.not_le.mpr (by assumption))]
theorem hX0_grow {E : fv_E} {d s i c : Nat} {M : fv_M} (hs : s < 3) (hi : i < 8) (hc : c < 4) : fv_F E (d + 1) mX0_grow [.ref (aB s i), .int (nI c)] M none (fv_s M s (fv_u (M s) (fB i 3 + c) (pMin 99 (M s (fB i 3 + c) + M s (fB i 2))))) := by
  refine fv_F.of (ls := [some (.ref (aB s i)), some (.int (nI c))]) (by decide) (Nat.le_of_ble_eq_true rfl) rfl ?_
  refine x_aload_n (pc := 0) dX0_grow_0 rfl rfl ?_
  refine x_geta (pc := 1) fl_X0_9 dX0_grow_1 (tb_b (by assumption) (by assumption)) rfl ?_
  refine x_iload_n (pc := 4) dX0_grow_4 rfl rfl ?_
  refine x_bipush (pc := 5) (v := 99) dX0_grow_5 rfl ?_
  refine x_aload_n (pc := 7) dX0_grow_7 rfl rfl ?_
  refine x_geta (pc := 8) fl_X0_9 dX0_grow_8 (tb_b (by assumption) (by assumption)) rfl ?_
  refine x_iload_n (pc := 11) dX0_grow_11 rfl rfl ?_
  refine x_iald (pc := 12) dX0_grow_12 (tb_f (by assumption) (by assumption)) (rfl) (by first | assumption | decide | omega) (by decide) ?_
  refine x_aload_n (pc := 13) dX0_grow_13 rfl rfl ?_
  refine x_geti (pc := 14) fl_X0_22 dX0_grow_14 (tb_b (by assumption) (by assumption)) rfl (rfl) ?_
  refine x_iadd (pc := 17) dX0_grow_17 ?_
  refine x_min (pc := 18) ks_X0_52 dX0_grow_18 rfl (Nat.le_of_ble_eq_true rfl) ?_
  refine x_iast (pc := 21) dX0_grow_21 (tb_f (by assumption) (by assumption)) (rfl) (by first | assumption | decide | omega) (by decide) ?_
  refine x_ret (pc := 22) dX0_grow_22 rfl ?_
  exact ⟨rfl, rfl⟩
/-- a row filled -/
def pFill (f : Nat → Int32) (a n : Nat) (v : Int32) : Nat → Int32 := fun j => if a ≤ j ∧ j < a + n then v else f j
theorem pFill_0 (f : Nat → Int32) (a : Nat) (v : Int32) : pFill f a 0 v = f := by funext j; unfold pFill; rw [if_neg (by omega)]
theorem pFill_s (f : Nat → Int32) (a n : Nat) (v : Int32) : fv_u (pFill f a n v) (a + n) v = pFill f a (n + 1) v := by
  funext j; unfold fv_u pFill
  by_cases h : j = a + n
  · rw [if_pos h, if_pos (by omega)]
  · rw [if_neg h]
    by_cases h2 : a ≤ j ∧ j < a + n
    · rw [if_pos h2, if_pos (by omega)]
    · rw [if_neg h2, if_neg (by omega)]
theorem hJ7_fill_53178 {E : fv_E} {d q n r i0 : Nat} {v : Int32} {M : fv_M} (htb : fv_tab[q]? = some (.inr (0, n, r, i0))) (hn : n ≤ 1000) : fv_F E d mJ7_fill_53178 [.ref q, .int v] M none (fv_s M r (pFill (M r) i0 n v)) := by
  refine fv_F.of (ls := [some (.ref q), some (.int v), none, none]) (by decide) (Nat.le_of_ble_eq_true rfl) rfl ?_
  refine x_iconst (pc := 0) (v := 0) dJ7_fill_53178_0 rfl ?_
  refine x_istore_n2 (pc := 1) dJ7_fill_53178_1 rfl ?_
  refine x_aload_n (pc := 2) dJ7_fill_53178_2 rfl rfl ?_
  refine x_alen (pc := 3) dJ7_fill_53178_3 (htb) (by decide) rfl ?_
  refine x_istore_n3 (pc := 4) dJ7_fill_53178_4 rfl ?_
  refine x_loop (fun j => [some (.ref q), some (.int v), some (.int (nI j)), some (.int (nI n))]) (fun j => fv_s M r (pFill (M r) i0 j v)) (n) (rfl) (by rw [pFill_0, fv_s_id]) (fun j hj hn5 => ?_) ?_
  ·
    replace hn5 : fv_X E mJ7_fill_53178 _ _ 5 ([some (.ref q), some (.int v), some (.int (nI (j + 1))), some (.int (nI n))]) ([]) (fv_s M r (pFill (M r) i0 (j + 1) v)) := hn5
    show fv_X E mJ7_fill_53178 _ _ 5 ([some (.ref q), some (.int v), some (.int (nI j)), some (.int (nI n))]) ([]) (fv_s M r (pFill (M r) i0 j v))
    refine x_iload_n (pc := 5) dJ7_fill_53178_5 rfl rfl ?_
    refine x_iload_n (pc := 6) dJ7_fill_53178_6 rfl rfl ?_
    refine x_icmp_ge (pc := 7) dJ7_fill_53178_7 (tgt := 20) rfl (fun h7 => ?_) (fun h7 => ?_)
    ·
      exact absurd h7 (nI_ge hj (by first | decide | omega))
    ·
      refine x_aload_n (pc := 10) dJ7_fill_53178_10 rfl rfl ?_
      refine x_iload_n (pc := 11) dJ7_fill_53178_11 rfl rfl ?_
      refine x_iload_n (pc := 12) dJ7_fill_53178_12 rfl rfl ?_
      refine x_iast dJ7_fill_53178_13 htb rfl hj hn ?_
      rw [fv_s_same, pFill_s, fv_s_s]
      refine x_iinc2 dJ7_fill_53178_14 (fv_inc _) rfl ?_
      refine x_goto dJ7_fill_53178_17 (tgt := 5) rfl ?_
      exact hn5
  ·
    show fv_X E mJ7_fill_53178 _ _ 5 ([some (.ref q), some (.int v), some (.int (nI (n))), some (.int (nI n))]) ([]) (fv_s M r (pFill (M r) i0 (n) v))
    refine x_iload_n (pc := 5) dJ7_fill_53178_5 rfl rfl ?_
    refine x_iload_n (pc := 6) dJ7_fill_53178_6 rfl rfl ?_
    refine x_icmp_ge (pc := 7) dJ7_fill_53178_7 (tgt := 20) rfl (fun h7 => ?_) (fun h7 => ?_)
    ·
      refine x_ret (pc := 20) dJ7_fill_53178_20 rfl ?_
      exact ⟨rfl, rfl⟩
    ·
      exact absurd (Int32.le_refl _) h7
