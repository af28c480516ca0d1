theorem pHat_ne {σ : Nat → Int32} {i j : Nat} {k : Int32} (h : j < fB i 0 ∨ fB i 7 ≤ j) : pHat σ i k j = σ j := by
  unfold pHat pFill fv_u
  unfold fB at *
  rw [if_neg (by omega), if_neg (by omega), if_neg (by omega), if_neg (by omega)]
def pAddB (σ : Nat → Int32) (n : Nat) (k : Int32) : Nat → Int32 := fv_u (pHat σ n k) 1 (nI n + 1)
theorem hX4_addBird {E : fv_E} {d s nb : Nat} {k : Int32} {M : fv_M} (hs : s < 3) (hB : M s 1 = nI nb) (hb : nb < 8) : fv_F E (d + 2) mX4_addBird [.ref (aSt s), .int k] M (some (.int (nI nb))) (fv_s M s (pAddB (M s) nb k)) := by
  have e1 : (fv_s M s (pHat (M s) nb k)) s 1 = nI nb := by rw [fv_s_same, pHat_ne (Or.inl (by unfold fB; omega))]; exact hB
  refine fv_F.of (ls := [some (.ref (aSt s)), some (.int k)]) (by decide) (Nat.le_of_ble_eq_true rfl) rfl ?_
  refine x_aload_n (pc := 0) dX4_addBird_0 rfl rfl ?_
  refine x_geti (pc := 1) fl_X4_30 dX4_addBird_1 (tb_st (by assumption)) rfl (hB) ?_
  refine x_bipush (pc := 4) (v := 8) dX4_addBird_4 rfl ?_
  refine x_icmp_lt (pc := 6) dX4_addBird_6 (tgt := 11) rfl (fun h6 => ?_) (fun h6 => ?_)
  ·
    refine x_aload_n (pc := 11) dX4_addBird_11 rfl rfl ?_
    refine x_geta (pc := 12) fl_X4_11 dX4_addBird_12 (tb_st (by assumption)) rfl ?_
    refine x_aload_n (pc := 15) dX4_addBird_15 rfl rfl ?_
    refine x_geti (pc := 16) fl_X4_30 dX4_addBird_16 (tb_st (by assumption)) rfl (hB) ?_
    refine x_bird (pc := 19) dX4_addBird_19 (by assumption) (rfl) (by first | assumption | decide | omega) ?_
    refine x_iload_n (pc := 20) dX4_addBird_20 rfl rfl ?_
    refine x_Vv (pc := 21) ks_X4_68 dX4_addBird_21 (tb_b hs hb) rfl rfl (hX0_hatch hs hb) rfl rfl rfl (Nat.le_of_ble_eq_true rfl) ?_
    refine x_aload_n (pc := 24) dX4_addBird_24 rfl rfl ?_
    first | refine x_dupa (pc := 25) dX4_addBird_25 ?_ | refine x_dupi (pc := 25) dX4_addBird_25 ?_
    refine x_geti (pc := 26) fl_X4_30 dX4_addBird_26 (tb_st (by assumption)) rfl (e1) ?_
    refine x_iconst (pc := 29) (v := 1) dX4_addBird_29 rfl ?_
    refine x_iadd (pc := 30) dX4_addBird_30 ?_
    refine x_put (pc := 31) fl_X4_30 dX4_addBird_31 (tb_st (by assumption)) rfl rfl rfl ?_
    refine x_aload_n (pc := 34) dX4_addBird_34 rfl rfl ?_
    refine x_geti (pc := 35) fl_X4_30 dX4_addBird_35 (tb_st (by assumption)) rfl (rfl) ?_
    refine x_iconst (pc := 38) (v := 1) dX4_addBird_38 rfl ?_
    refine x_isub (pc := 39) dX4_addBird_39 ?_
    refine x_iret (pc := 40) dX4_addBird_40 rfl (by first | rfl | exact fv_nz _) ?_
    exact ⟨by rw [fv_s_same, fv_u_same, nI_1, nI_pred], by simp only [fv_s_same, fv_s_s]; rfl⟩
  ·
    exact absurd (nI_lt hb (by decide)) h6
theorem hX4_addBirdF {E : fv_E} {d s : Nat} {k : Int32} {M : fv_M} (hs : s < 3) (hB : M s 1 = nI 8) : fv_F E (d + 2) mX4_addBird [.ref (aSt s), .int k] M (some (.int (-1))) M := by
  refine fv_F.of (ls := [some (.ref (aSt s)), some (.int k)]) (by decide) (Nat.le_of_ble_eq_true rfl) rfl ?_
  refine x_aload_n (pc := 0) dX4_addBird_0 rfl rfl ?_
  refine x_geti (pc := 1) fl_X4_30 dX4_addBird_1 (tb_st (by assumption)) rfl (hB) ?_
  refine x_bipush (pc := 4) (v := 8) dX4_addBird_4 rfl ?_
  refine x_icmp_lt (pc := 6) dX4_addBird_6 (tgt := 11) rfl (fun h6 => ?_) (fun h6 => ?_)
  ·
    exact absurd h6 (Int32.lt_irrefl)
  ·
    refine x_iconst (pc := 9) (v := (-1)) dX4_addBird_9 fv_m1 ?_
    refine x_iret (pc := 10) dX4_addBird_10 rfl (by first | rfl | exact fv_nz _) ?_
    exact ⟨rfl, rfl⟩
theorem pBeg_ne {σ : Nat → Int32} {m j : Nat} {c : Int32} (h : j < fM m 0 ∨ fM m 5 ≤ j) : pBeg σ m c j = σ j := by
  unfold pBeg fv_u
  unfold fM at *
  rw [if_neg (by omega), if_neg (by omega), if_neg (by omega), if_neg (by omega), if_neg (by omega)]
def pAddM (σ : Nat → Int32) (n : Nat) (c : Int32) : Nat → Int32 := fv_u (pBeg σ n c) 2 (nI n + 1)
theorem hX4_addMotion {E : fv_E} {d s nm : Nat} {c : Int32} {M : fv_M} (hs : s < 3) (hM : M s 2 = nI nm) (hn : nm < 8) : fv_F E (d + 1) mX4_addMotion [.ref (aSt s), .int c] M (some (.int (nI nm))) (fv_s M s (pAddM (M s) nm c)) := by
  have e1 : (fv_s M s (pBeg (M s) nm c)) s 2 = nI nm := by rw [fv_s_same, pBeg_ne (Or.inl (by unfold fM; omega))]; exact hM
  refine fv_F.of (ls := [some (.ref (aSt s)), some (.int c)]) (by decide) (Nat.le_of_ble_eq_true rfl) rfl ?_
  refine x_aload_n (pc := 0) dX4_addMotion_0 rfl rfl ?_
  refine x_geti (pc := 1) fl_X4_34 dX4_addMotion_1 (tb_st (by assumption)) rfl (hM) ?_
  refine x_bipush (pc := 4) (v := 8) dX4_addMotion_4 rfl ?_
  refine x_icmp_lt (pc := 6) dX4_addMotion_6 (tgt := 11) rfl (fun h6 => ?_) (fun h6 => ?_)
  ·
    refine x_aload_n (pc := 11) dX4_addMotion_11 rfl rfl ?_
    refine x_geta (pc := 12) fl_X4_19 dX4_addMotion_12 (tb_st (by assumption)) rfl ?_
    refine x_aload_n (pc := 15) dX4_addMotion_15 rfl rfl ?_
    refine x_geti (pc := 16) fl_X4_34 dX4_addMotion_16 (tb_st (by assumption)) rfl (hM) ?_
    refine x_motion (pc := 19) dX4_addMotion_19 (by assumption) (rfl) (by first | assumption | decide | omega) ?_
    refine x_iload_n (pc := 20) dX4_addMotion_20 rfl rfl ?_
    refine x_Vv (pc := 21) ks_X4_72 dX4_addMotion_21 (tb_m hs hn) rfl rfl (hX1_begin hs hn) rfl rfl rfl (Nat.le_of_ble_eq_true rfl) ?_
    refine x_aload_n (pc := 24) dX4_addMotion_24 rfl rfl ?_
    first | refine x_dupa (pc := 25) dX4_addMotion_25 ?_ | refine x_dupi (pc := 25) dX4_addMotion_25 ?_
    refine x_geti (pc := 26) fl_X4_34 dX4_addMotion_26 (tb_st (by assumption)) rfl (e1) ?_
    refine x_iconst (pc := 29) (v := 1) dX4_addMotion_29 rfl ?_
    refine x_iadd (pc := 30) dX4_addMotion_30 ?_
    refine x_put (pc := 31) fl_X4_34 dX4_addMotion_31 (tb_st (by assumption)) rfl rfl rfl ?_
    refine x_aload_n (pc := 34) dX4_addMotion_34 rfl rfl ?_
    refine x_geti (pc := 35) fl_X4_34 dX4_addMotion_35 (tb_st (by assumption)) rfl (rfl) ?_
    refine x_iconst (pc := 38) (v := 1) dX4_addMotion_38 rfl ?_
    refine x_isub (pc := 39) dX4_addMotion_39 ?_
    refine x_iret (pc := 40) dX4_addMotion_40 rfl (by first | rfl | exact fv_nz _) ?_
    exact ⟨by rw [fv_s_same, fv_u_same, nI_1, nI_pred], by simp only [fv_s_same, fv_s_s]; rfl⟩
  ·
    exact absurd (nI_lt hn (by decide)) h6
theorem hX4_addMotionF {E : fv_E} {d s : Nat} {c : Int32} {M : fv_M} (hs : s < 3) (hM : M s 2 = nI 8) : fv_F E (d + 1) mX4_addMotion [.ref (aSt s), .int c] M (some (.int (-1))) M := by
  refine fv_F.of (ls := [some (.ref (aSt s)), some (.int c)]) (by decide) (Nat.le_of_ble_eq_true rfl) rfl ?_
  refine x_aload_n (pc := 0) dX4_addMotion_0 rfl rfl ?_
  refine x_geti (pc := 1) fl_X4_34 dX4_addMotion_1 (tb_st (by assumption)) rfl (hM) ?_
  refine x_bipush (pc := 4) (v := 8) dX4_addMotion_4 rfl ?_
  refine x_icmp_lt (pc := 6) dX4_addMotion_6 (tgt := 11) rfl (fun h6 => ?_) (fun h6 => ?_)
  ·
    exact absurd h6 (Int32.lt_irrefl)
  ·
    refine x_iconst (pc := 9) (v := (-1)) dX4_addMotion_9 fv_m1 ?_
    refine x_iret (pc := 10) dX4_addMotion_10 rfl (by first | rfl | exact fv_nz _) ?_
    exact ⟨rfl, rfl⟩
def pGr (c b : Nat) (τ : Nat → Int32) : Nat → Int32 := fv_u τ (fB b 3 + c) (pMin 99 (τ (fB b 3 + c) + τ (fB b 2)))
theorem pGr_ne {c b j : Nat} {τ : Nat → Int32} (h : j ≠ fB b 3 + c) : pGr c b τ j = τ j := fv_u_ne _ _ h
def pSea (σ : Nat → Int32) (n t : Nat) : Nat → Int32 := fv_u (fN (pGr (t % 4)) σ n) 0 (nI t + 1)
theorem hX4_passSeason {E : fv_E} {d s nb t : Nat} {M : fv_M} (hs : s < 3) (hB : M s 1 = nI nb) (hb : nb ≤ 8) (hT : M s 0 = nI t) (ht : t < 2 ^ 31) : fv_F E (d + 2) mX4_passSeason [.ref (aSt s)] M none (fv_s M s (pSea (M s) nb t)) := by
  have e1 : ∀ j, (fv_s M s (fN (pGr (t % 4)) (M s) j)) s 1 = nI nb := fun j => by rw [fv_s_same, fN_keep (fun b τ _ => pGr_ne (by unfold fB; omega))]; exact hB
  have e0 : ∀ j, (fv_s M s (fN (pGr (t % 4)) (M s) j)) s 0 = nI t := fun j => by rw [fv_s_same, fN_keep (fun b τ _ => pGr_ne (by unfold fB; omega))]; exact hT
  have hc : t % 4 < 4 := Nat.mod_lt _ (by decide)
  refine fv_F.of (ls := [some (.ref (aSt s)), none, none]) (by decide) (Nat.le_of_ble_eq_true rfl) rfl ?_
  refine x_aload_n (pc := 0) dX4_passSeason_0 rfl rfl ?_
  refine x_geti (pc := 1) fl_X4_37 dX4_passSeason_1 (tb_st (by assumption)) rfl (hT) ?_
  refine x_iconst (pc := 4) (v := 4) dX4_passSeason_4 rfl ?_
  refine x_irem (pc := 5) dX4_passSeason_5 (by decide) ?_
  rw [show nI t - nI t / 4 * 4 = nI (t % 4) from nI_rem ht (by decide)]
  refine x_istore_n1 (pc := 6) dX4_passSeason_6 rfl ?_
  refine x_iconst (pc := 7) (v := 0) dX4_passSeason_7 rfl ?_
  refine x_istore_n2 (pc := 8) dX4_passSeason_8 rfl ?_
  refine x_loop (fun j => [some (.ref (aSt s)), some (.int (nI (t % 4))), some (.int (nI j))]) (fun j => fv_s M s (fN (pGr (t % 4)) (M s) j)) (nb) (rfl) (fv_s_id M s) (fun j hj hn9 => ?_) ?_
  ·
    replace hn9 : fv_X E mX4_passSeason _ _ 9 ([some (.ref (aSt s)), some (.int (nI (t % 4))), some (.int (nI (j + 1)))]) ([]) (fv_s M s (fN (pGr (t % 4)) (M s) (j + 1))) := hn9
    show fv_X E mX4_passSeason _ _ 9 ([some (.ref (aSt s)), some (.int (nI (t % 4))), some (.int (nI j))]) ([]) (fv_s M s (fN (pGr (t % 4)) (M s) j))
    refine x_iload_n (pc := 9) dX4_passSeason_9 rfl rfl ?_
    refine x_aload_n (pc := 10) dX4_passSeason_10 rfl rfl ?_
    refine x_geti (pc := 11) fl_X4_30 dX4_passSeason_11 (tb_st (by assumption)) rfl (e1 _) ?_
    refine x_icmp_ge (pc := 14) dX4_passSeason_14 (tgt := 33) rfl (fun h14 => ?_) (fun h14 => ?_)
    ·
      exact absurd h14 (nI_ge hj (by first | decide | omega))
    ·
      refine x_aload_n (pc := 17) dX4_passSeason_17 rfl rfl ?_
      refine x_geta (pc := 18) fl_X4_11 dX4_passSeason_18 (tb_st (by assumption)) rfl ?_
      refine x_iload_n (pc := 21) dX4_passSeason_21 rfl rfl ?_
      refine x_bird (pc := 22) dX4_passSeason_22 (by assumption) (rfl) (by first | assumption | decide | omega) ?_
      refine x_iload_n (pc := 23) dX4_passSeason_23 rfl rfl ?_
      refine x_Vv (pc := 24) ks_X4_86 dX4_passSeason_24 (tb_b hs (by omega)) rfl rfl (hX0_grow hs (by omega) hc) rfl rfl rfl (Nat.le_of_ble_eq_true rfl) ?_
      rw [fv_s_same, fv_s_s]
      refine x_iinc2 (pc := 27) dX4_passSeason_27 (by first | exact fv_inc _ | exact fv_dec _ | rfl) rfl ?_
      refine x_goto (pc := 30) dX4_passSeason_30 (tgt := 9) rfl ?_
      exact hn9
  ·
    show fv_X E mX4_passSeason _ _ 9 ([some (.ref (aSt s)), some (.int (nI (t % 4))), some (.int (nI (nb)))]) ([]) (fv_s M s (fN (pGr (t % 4)) (M s) (nb)))
    refine x_iload_n (pc := 9) dX4_passSeason_9 rfl rfl ?_
    refine x_aload_n (pc := 10) dX4_passSeason_10 rfl rfl ?_
    refine x_geti (pc := 11) fl_X4_30 dX4_passSeason_11 (tb_st (by assumption)) rfl (e1 _) ?_
    refine x_icmp_ge (pc := 14) dX4_passSeason_14 (tgt := 33) rfl (fun h14 => ?_) (fun h14 => ?_)
    ·
      refine x_aload_n (pc := 33) dX4_passSeason_33 rfl rfl ?_
      first | refine x_dupa (pc := 34) dX4_passSeason_34 ?_ | refine x_dupi (pc := 34) dX4_passSeason_34 ?_
      refine x_geti (pc := 35) fl_X4_37 dX4_passSeason_35 (tb_st (by assumption)) rfl (e0 _) ?_
      refine x_iconst (pc := 38) (v := 1) dX4_passSeason_38 rfl ?_
      refine x_iadd (pc := 39) dX4_passSeason_39 ?_
      refine x_put (pc := 40) fl_X4_37 dX4_passSeason_40 (tb_st (by assumption)) rfl rfl rfl ?_
      refine x_ret (pc := 43) dX4_passSeason_43 rfl ?_
      exact ⟨rfl, by simp only [fv_s_same, fv_s_s]; rfl⟩
    ·
      exact absurd (Int32.le_refl _) h14
/-- a side's feathers fall -/
def pFaB (m c : Nat) (w cr : Int32) (b : Nat) (τ : Nat → Int32) : Nat → Int32 := if pIn w b then fv_u τ (fB b 3 + c) (τ (fB b 3 + c) - pDr τ b m c cr) else τ
theorem pFaB_ne {m c b j : Nat} {w cr : Int32} {τ : Nat → Int32} (h : j ≠ fB b 3 + c) : pFaB m c w cr b τ j = τ j := by
  unfold pFaB; split
  · exact fv_u_ne _ _ h
  · rfl
def pFal (σ : Nat → Int32) (m c : Nat) (w cr : Int32) (n : Nat) : Nat → Int32 := fN (pFaB m c w cr) σ n
def pFaS (σ : Nat → Int32) (m c : Nat) (w cr : Int32) (n : Nat) : Int32 := sN (fun b => if pIn w b then pDr (pFal σ m c w cr b) b m c cr else 0) n
theorem pFal_ne {σ : Nat → Int32} {m c n j : Nat} {w cr : Int32} (h : ∀ b, b < n → j ≠ fB b 3 + c) : pFal σ m c w cr n j = σ j := fN_keep (fun b τ hb => pFaB_ne (h b hb))
theorem pFal_t {σ : Nat → Int32} {m c j : Nat} {w cr : Int32} (h : pIn w j) : fv_u (pFal σ m c w cr j) (fB j 3 + c) (pFal σ m c w cr j (fB j 3 + c) - pDr (pFal σ m c w cr j) j m c cr) = pFal σ m c w cr (j + 1) := by
  show _ = pFaB m c w cr j (pFal σ m c w cr j)
  unfold pFaB; rw [if_pos h]
theorem pFal_f {σ : Nat → Int32} {m c j : Nat} {w cr : Int32} (h : ¬ pIn w j) : pFal σ m c w cr j = pFal σ m c w cr (j + 1) := by
  show _ = pFaB m c w cr j (pFal σ m c w cr j)
  unfold pFaB; rw [if_neg h]
theorem pFaS_t {σ : Nat → Int32} {m c j : Nat} {w cr : Int32} (h : pIn w j) : pFaS σ m c w cr j + pDr (pFal σ m c w cr j) j m c cr = pFaS σ m c w cr (j + 1) := by
  show _ = pFaS σ m c w cr j + (if pIn w j then pDr (pFal σ m c w cr j) j m c cr else 0)
  rw [if_pos h]
theorem pFaS_f {σ : Nat → Int32} {m c j : Nat} {w cr : Int32} (h : ¬ pIn w j) : pFaS σ m c w cr j = pFaS σ m c w cr (j + 1) := by
  show _ = pFaS σ m c w cr j + (if pIn w j then pDr (pFal σ m c w cr j) j m c cr else 0)
  rw [if_neg h, Int32.add_zero]
theorem hX4_letFall {E : fv_E} {d s nb m c : Nat} {w : Int32} {M : fv_M} (hs : s < 3) (hB : M s 1 = nI nb) (hb : nb ≤ 8) (hK : pKd (M s) nb) (hm : m < 8) (hcol : M s (fM m 0) = nI c) (hc : c < 4) : fv_F E (d + 2) mX4_letFall [.ref (aSt s), .ref (aM s m), .int w] M (some (.int (pFaS (M s) m c w (pCr (M s) w nb) nb))) (fv_s M s (pFal (M s) m c w (pCr (M s) w nb) nb)) := by
  generalize hcr : pCr (M s) w nb = cr
  have e1 : ∀ j, j ≤ nb → (fv_s M s (pFal (M s) m c w cr j)) s 1 = nI nb := fun j hj => by rw [fv_s_same, pFal_ne (fun b _ => by unfold fB; omega)]; exact hB
  have e2 : ∀ j, j ≤ nb → (fv_s M s (pFal (M s) m c w cr j)) s (fM m 0) = nI c := fun j hj => by rw [fv_s_same, pFal_ne (fun b hb => by unfold fB fM; omega)]; exact hcol
  refine fv_F.of (ls := [some (.ref (aSt s)), some (.ref (aM s m)), some (.int w), none, none, none, none]) (by decide) (Nat.le_of_ble_eq_true rfl) rfl ?_
  refine x_aload_n (pc := 0) dX4_letFall_0 rfl rfl ?_
  refine x_iload_n (pc := 1) dX4_letFall_1 rfl rfl ?_
  refine x_Vi (pc := 2) ks_X4_107 dX4_letFall_2 (tb_st (by assumption)) rfl rfl (hX4_crowsAmong hs hB hb hK) rfl rfl rfl (Nat.le_of_ble_eq_true rfl) ?_
  rw [hcr]
  refine x_istore_n3 (pc := 5) dX4_letFall_5 rfl ?_
  refine x_iconst (pc := 6) (v := 0) dX4_letFall_6 rfl ?_
  refine x_istore4 (pc := 7) dX4_letFall_7 rfl ?_
  refine x_iconst (pc := 9) (v := 0) dX4_letFall_9 rfl ?_
  refine x_istore5 (pc := 10) dX4_letFall_10 rfl ?_
  refine x_loop (fun j => [some (.ref (aSt s)), some (.ref (aM s m)), some (.int w), some (.int cr), some (.int (pFaS (M s) m c w cr j)), some (.int (nI j)), none]) (fun j => fv_s M s (pFal (M s) m c w cr j)) (nb) (rfl) (fv_s_id M s) (fun j hj hn12 => ?_) ?_
  ·
    replace hn12 : fv_X E mX4_letFall _ _ 12 ([some (.ref (aSt s)), some (.ref (aM s m)), some (.int w), some (.int cr), some (.int (pFaS (M s) m c w cr (j + 1))), some (.int (nI (j + 1))), none]) ([]) (fv_s M s (pFal (M s) m c w cr (j + 1))) := hn12
    show fv_X E mX4_letFall _ _ 12 ([some (.ref (aSt s)), some (.ref (aM s m)), some (.int w), some (.int cr), some (.int (pFaS (M s) m c w cr j)), some (.int (nI j)), none]) ([]) (fv_s M s (pFal (M s) m c w cr j))
    refine x_iload (pc := 12) dX4_letFall_12 rfl ?_
    refine x_aload_n (pc := 14) dX4_letFall_14 rfl rfl ?_
    refine x_geti (pc := 15) fl_X4_30 dX4_letFall_15 (tb_st (by assumption)) rfl (e1 _ (by omega)) ?_
    refine x_icmp_ge (pc := 18) dX4_letFall_18 (tgt := 77) rfl (fun h18 => ?_) (fun h18 => ?_)
    ·
      exact absurd h18 (nI_ge hj (by first | decide | omega))
    ·
      refine x_iload_n (pc := 21) dX4_letFall_21 rfl rfl ?_
      refine x_iload (pc := 22) dX4_letFall_22 rfl ?_
      refine x_Si (pc := 24) ks_X4_90 dX4_letFall_24 (hX4_isIn) rfl rfl rfl (Nat.le_of_ble_eq_true rfl) ?_
      refine x_ifb_eq (pc := 27) dX4_letFall_27 (tgt := 71) rfl (fun h27 => ?_) (fun h27 => ?_)
      ·
        rw [pFaS_f h27, pFal_f h27]
        refine x_fg6 ?_
        refine x_iinc5 (pc := 71) dX4_letFall_71 (by first | exact fv_inc _ | exact fv_dec _ | rfl) rfl ?_
        refine x_goto (pc := 74) dX4_letFall_74 (tgt := 12) rfl ?_
        exact hn12
      ·
        refine x_aload_n (pc := 30) dX4_letFall_30 rfl rfl ?_
        refine x_geta (pc := 31) fl_X4_11 dX4_letFall_31 (tb_st (by assumption)) rfl ?_
        refine x_iload (pc := 34) dX4_letFall_34 rfl ?_
        refine x_bird (pc := 36) dX4_letFall_36 (by assumption) (rfl) (by first | assumption | decide | omega) ?_
        refine x_aload_n (pc := 37) dX4_letFall_37 rfl rfl ?_
        refine x_iload_n (pc := 38) dX4_letFall_38 rfl rfl ?_
        refine x_Vi (pc := 39) ks_X4_111 dX4_letFall_39 (tb_b hs (by omega)) rfl rfl (hX0_dropFor hs (by omega) hm (e2 j (by omega)) hc) rfl rfl rfl (Nat.le_of_ble_eq_true rfl) ?_
        refine x_istore6 (pc := 42) dX4_letFall_42 rfl ?_
        refine x_aload_n (pc := 44) dX4_letFall_44 rfl rfl ?_
        refine x_geta (pc := 45) fl_X4_11 dX4_letFall_45 (tb_st (by assumption)) rfl ?_
        refine x_iload (pc := 48) dX4_letFall_48 rfl ?_
        refine x_bird (pc := 50) dX4_letFall_50 (by assumption) (rfl) (by first | assumption | decide | omega) ?_
        refine x_geta (pc := 51) fl_X4_149 dX4_letFall_51 (tb_b hs (by omega)) rfl ?_
        refine x_aload_n (pc := 54) dX4_letFall_54 rfl rfl ?_
        refine x_geti (pc := 55) fl_X4_134 dX4_letFall_55 (tb_m (by assumption) (by assumption)) rfl (e2 j (by omega)) ?_
        refine x_dup2 (pc := 58) dX4_letFall_58 ?_
        refine x_iald (pc := 59) dX4_letFall_59 (tb_f hs (by omega)) (rfl) (by first | assumption | decide | omega) (by decide) ?_
        refine x_iload (pc := 60) dX4_letFall_60 rfl ?_
        refine x_isub (pc := 62) dX4_letFall_62 ?_
        refine x_iast (pc := 63) dX4_letFall_63 (tb_f hs (by omega)) (rfl) (by first | assumption | decide | omega) (by decide) ?_
        rw [fv_s_same, pFal_t h27, fv_s_s]
        refine x_iload (pc := 64) dX4_letFall_64 rfl ?_
        refine x_iload (pc := 66) dX4_letFall_66 rfl ?_
        refine x_iadd (pc := 68) dX4_letFall_68 ?_
        rw [pFaS_t h27]
        refine x_istore4 (pc := 69) dX4_letFall_69 rfl ?_
        refine x_fg6 ?_
        refine x_iinc5 (pc := 71) dX4_letFall_71 (by first | exact fv_inc _ | exact fv_dec _ | rfl) rfl ?_
        refine x_goto (pc := 74) dX4_letFall_74 (tgt := 12) rfl ?_
        exact hn12
  ·
    show fv_X E mX4_letFall _ _ 12 ([some (.ref (aSt s)), some (.ref (aM s m)), some (.int w), some (.int cr), some (.int (pFaS (M s) m c w cr (nb))), some (.int (nI (nb))), none]) ([]) (fv_s M s (pFal (M s) m c w cr (nb)))
    refine x_iload (pc := 12) dX4_letFall_12 rfl ?_
    refine x_aload_n (pc := 14) dX4_letFall_14 rfl rfl ?_
    refine x_geti (pc := 15) fl_X4_30 dX4_letFall_15 (tb_st (by assumption)) rfl (e1 _ (by omega)) ?_
    refine x_icmp_ge (pc := 18) dX4_letFall_18 (tgt := 77) rfl (fun h18 => ?_) (fun h18 => ?_)
    ·
      refine x_iload (pc := 77) dX4_letFall_77 rfl ?_
      refine x_iret (pc := 79) dX4_letFall_79 rfl (by first | rfl | exact fv_nz _) ?_
      exact ⟨rfl, rfl⟩
    ·
      exact absurd (Int32.le_refl _) h18
