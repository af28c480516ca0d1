theorem pVote_keep {σ : Nat → Int32} {m c n j : Nat} (h1 : ∀ b, b < n → j ≠ fB b 3 + c) (h2 : j ≠ 4 + c) (h3 : j ≠ fM m 4) (h4 : ∀ b, b < n → j ≠ fB b 1 ∧ j ≠ fB b 2) : pVote σ m c n j = σ j := by
  have h5 : pV3 σ m c n j = σ j := by unfold pV3; rw [fv_u_ne _ _ h2, pV2_ne h1]
  unfold pVote
  split
  · rw [pEn_ne h4, fv_u_ne _ _ h3, h5]
  · exact h5
theorem pHas {m n : Nat} (h : m < n) (hn : n ≤ 8) : 0 ≤ nI m ∧ nI m ≤ nI n - 1 := by
  obtain ⟨k, rfl⟩ : ∃ k, n = k + 1 := ⟨n - 1, by omega⟩
  rw [nI_pred]
  exact ⟨nI_pos' (by omega), nI_le (by omega) (by omega)⟩
def pVo (nb m : Nat) (τ : Nat → Int32) : Nat → Int32 := pVote τ m (pCo τ m) nb
def pVs (σ : Nat → Int32) (row : Nat → Nat) (nb k : Nat) : Nat → Int32 := fN (fun i τ => pVo nb (row i) τ) σ k
def pVc (σ : Nat → Int32) (row : Nat → Nat) (nb k : Nat) : Int32 := sN (fun i => bI (pVp (pVs σ row nb i) (row i) (pCo (pVs σ row nb i) (row i)) nb)) k
theorem pVc_t {σ : Nat → Int32} {row : Nat → Nat} {nb j : Nat} (h : pVp (pVs σ row nb j) (row j) (pCo (pVs σ row nb j) (row j)) nb) : pVc σ row nb j + Int32.ofInt 1 = pVc σ row nb (j + 1) := by
  show _ = pVc σ row nb j + bI (pVp (pVs σ row nb j) (row j) (pCo (pVs σ row nb j) (row j)) nb)
  rw [bI_t h]; rfl
theorem pVc_f {σ : Nat → Int32} {row : Nat → Nat} {nb j : Nat} (h : ¬ pVp (pVs σ row nb j) (row j) (pCo (pVs σ row nb j) (row j)) nb) : pVc σ row nb j = pVc σ row nb (j + 1) := by
  show _ = pVc σ row nb j + bI (pVp (pVs σ row nb j) (row j) (pCo (pVs σ row nb j) (row j)) nb)
  rw [bI_f h, Int32.add_zero]
/-- what a run of votes keeps: counts, kinds, colours -/
theorem pVo_keep {σ : Nat → Int32} {nb nm m : Nat} (hb : nb ≤ 8) (hC : pCl σ nm) (hm : m < nm) (hn : nm ≤ 8) : (pVo nb m σ 1 = σ 1 ∧ pVo nb m σ 2 = σ 2) ∧ (∀ b, pVo nb m σ (fB b 0) = σ (fB b 0) ∨ 8 ≤ b) ∧ ∀ k, k < 8 → pVo nb m σ (fM k 0) = σ (fM k 0) := by
  have hc := (pCo_of hC hm).2
  unfold pVo
  refine ⟨⟨pVote_keep (fun b h => by unfold fB; omega) (by omega) (by unfold fM; omega) (fun b h => by unfold fB; omega), pVote_keep (fun b h => by unfold fB; omega) (by omega) (by unfold fM; omega) (fun b h => by unfold fB; omega)⟩, fun b => ?_, fun k hk => pVote_keep (fun b h => by unfold fB fM; omega) (by unfold fM; omega) (by unfold fM; omega) (fun b h => by unfold fB fM; omega)⟩
  by_cases hb8 : b < 8
  · exact Or.inl (pVote_keep (fun b' h => by unfold fB; omega) (by unfold fB; omega) (by unfold fB fM; omega) (fun b' h => by unfold fB; omega))
  · exact Or.inr (by omega)
theorem pVs_keep {σ : Nat → Int32} {row : Nat → Nat} {nb nm : Nat} (hb : nb ≤ 8) (hn : nm ≤ 8) (hK : pKd σ nb) (hC : pCl σ nm) : ∀ k, (∀ i, i < k → row i < nm) → pVs σ row nb k 1 = σ 1 ∧ pVs σ row nb k 2 = σ 2 ∧ pKd (pVs σ row nb k) nb ∧ pCl (pVs σ row nb k) nm := by
  intro k
  induction k with
  | zero => intro _; exact ⟨rfl, rfl, hK, hC⟩
  | succ k ih =>
    intro hr
    obtain ⟨h1, h2, h3, h4⟩ := ih (fun i hi => hr i (by omega))
    obtain ⟨⟨k1, k2⟩, k3, k4⟩ := pVo_keep (σ := pVs σ row nb k) hb h4 (hr k (by omega)) hn
    refine ⟨k1.trans h1, k2.trans h2, fun b hbn => ?_, fun m hm => ?_⟩
    · obtain ⟨q, hq, e⟩ := h3 b hbn
      refine ⟨q, hq, ?_⟩
      rcases k3 b with h | h
      · exact h.trans e
      · omega
    · obtain ⟨q, hq, e⟩ := h4 m hm
      exact ⟨q, hq, (k4 m (by omega)).trans e⟩
theorem hX4_castVotes {E : fv_E} {d s nb nm q n r i0 k : Nat} {row : Nat → Nat} {M : fv_M} (hs : s < 3) (hB : M s 1 = nI nb) (hb : nb ≤ 8) (hK : pKd (M s) nb) (hM : M s 2 = nI nm) (hn : nm ≤ 8) (hC : pCl (M s) nm) (hq : fv_tab[q]? = some (.inr (0, n, r, i0))) (hrs : r ≠ s) (hn1 : n ≤ 1000) (hk : k ≤ n) (hrow : ∀ i, i < k → row i < nm ∧ M r (i0 + i) = nI (row i)) :
    fv_F E (d + 4) mX4_castVotes [.ref (aSt s), .ref q, .int (nI k)] M (some (.int (pVc (M s) row nb k))) (fv_s M s (pVs (M s) row nb k)) := by
  have hkeep := fun j (hj : j ≤ k) => pVs_keep (row := row) hb hn hK hC j (fun i hi => (hrow i (by omega)).1)
  have rd : ∀ j c, (fv_s M s (pVs (M s) row nb j)) r c = M r c := fun j c => by rw [fv_s_ne _ _ hrs]
  refine fv_F.of (ls := [some (.ref (aSt s)), some (.ref q), some (.int (nI k)), none, none]) (by decide) (Nat.le_of_ble_eq_true rfl) rfl ?_
  refine x_iconst (pc := 0) (v := 0) dX4_castVotes_0 rfl ?_
  refine x_istore_n3 (pc := 1) dX4_castVotes_1 rfl ?_
  refine x_iconst (pc := 2) (v := 0) dX4_castVotes_2 rfl ?_
  refine x_istore4 (pc := 3) dX4_castVotes_3 rfl ?_
  refine x_loop (fun j => [some (.ref (aSt s)), some (.ref q), some (.int (nI k)), some (.int (pVc (M s) row nb j)), some (.int (nI j))]) (fun j => fv_s M s (pVs (M s) row nb j)) (k) (rfl) (fv_s_id M s) (fun j hj hn5 => ?_) ?_
  ·
    replace hn5 : fv_X E mX4_castVotes _ _ 5 ([some (.ref (aSt s)), some (.ref q), some (.int (nI k)), some (.int (pVc (M s) row nb (j + 1))), some (.int (nI (j + 1)))]) ([]) (fv_s M s (pVs (M s) row nb (j + 1))) := hn5
    show fv_X E mX4_castVotes _ _ 5 ([some (.ref (aSt s)), some (.ref q), some (.int (nI k)), some (.int (pVc (M s) row nb j)), some (.int (nI j))]) ([]) (fv_s M s (pVs (M s) row nb j))
    obtain ⟨z1, z2, z3, z4⟩ := hkeep j (by omega)
    obtain ⟨r1, r2⟩ := hrow j hj
    obtain ⟨c1, c2⟩ := pCo_of z4 r1
    have hv := hX4_castVote (E := E) (d := d) (m := row j) (M := fv_s M s (pVs (M s) row nb j)) hs (by rw [fv_s_same, z1]; exact hB) hb (by rw [fv_s_same]; exact z3) (by omega) (by rw [fv_s_same]; exact c1) c2
    rw [fv_s_same, fv_s_s] at hv
    have hh := hX4_hasMotion (E := E) (d := d + 2) (b := nI (row j)) (M := fv_s M s (pVs (M s) row nb j)) hs
    rw [fv_s_same, z2, hM] at hh
    refine x_iload (pc := 5) dX4_castVotes_5 rfl ?_
    refine x_iload_n (pc := 7) dX4_castVotes_7 rfl rfl ?_
    refine x_icmp_ge (pc := 8) dX4_castVotes_8 (tgt := 54) rfl (fun h8 => ?_) (fun h8 => ?_)
    ·
      exact absurd h8 (nI_ge hj (by first | decide | omega))
    ·
      refine x_iload (pc := 11) dX4_castVotes_11 rfl ?_
      refine x_aload_n (pc := 13) dX4_castVotes_13 rfl rfl ?_
      refine x_alen (pc := 14) dX4_castVotes_14 (hq) (by decide) rfl ?_
      refine x_icmp_ge (pc := 15) dX4_castVotes_15 (tgt := 54) rfl (fun h15 => ?_) (fun h15 => ?_)
      ·
        exact absurd h15 (nI_ge (Nat.lt_of_lt_of_le hj hk) (by omega))
      ·
        refine x_aload_n (pc := 18) dX4_castVotes_18 rfl rfl ?_
        refine x_aload_n (pc := 19) dX4_castVotes_19 rfl rfl ?_
        refine x_iload (pc := 20) dX4_castVotes_20 rfl ?_
        refine x_iald (pc := 22) dX4_castVotes_22 (hq) (rfl) (by omega) (by first | decide | assumption) ?_
        rw [rd, r2]
        refine x_Vi (pc := 23) ks_X4_161 dX4_castVotes_23 (tb_st (by assumption)) rfl rfl (hh) rfl rfl rfl (Nat.le_of_ble_eq_true rfl) ?_
        refine x_ifb_eq (pc := 26) dX4_castVotes_26 (tgt := 48) rfl (fun h26 => ?_) (fun h26 => ?_)
        ·
          exact absurd (pHas r1 hn) h26
        ·
          refine x_aload_n (pc := 29) dX4_castVotes_29 rfl rfl ?_
          refine x_aload_n (pc := 30) dX4_castVotes_30 rfl rfl ?_
          refine x_geta (pc := 31) fl_X4_19 dX4_castVotes_31 (tb_st (by assumption)) rfl ?_
          refine x_aload_n (pc := 34) dX4_castVotes_34 rfl rfl ?_
          refine x_iload (pc := 35) dX4_castVotes_35 rfl ?_
          refine x_iald (pc := 37) dX4_castVotes_37 (hq) (rfl) (by omega) (by first | decide | assumption) ?_
          rw [rd, r2]
          refine x_motion (pc := 38) dX4_castVotes_38 (by assumption) (rfl) (by omega) ?_
          refine x_Vi (pc := 39) ks_X4_164 dX4_castVotes_39 (tb_st (by assumption)) rfl rfl (hv) rfl rfl rfl (Nat.le_of_ble_eq_true rfl) ?_
          refine x_ifb_eq (pc := 42) dX4_castVotes_42 (tgt := 48) rfl (fun h42 => ?_) (fun h42 => ?_)
          ·
            rw [pVc_f h42]
            refine x_iinc4 (pc := 48) dX4_castVotes_48 (by first | exact fv_inc _ | exact fv_dec _ | rfl) rfl ?_
            refine x_goto (pc := 51) dX4_castVotes_51 (tgt := 5) rfl ?_
            exact hn5
          ·
            refine x_iinc3 (pc := 45) dX4_castVotes_45 (pVc_t h42) rfl ?_
            refine x_iinc4 (pc := 48) dX4_castVotes_48 (by first | exact fv_inc _ | exact fv_dec _ | rfl) rfl ?_
            refine x_goto (pc := 51) dX4_castVotes_51 (tgt := 5) rfl ?_
            exact hn5
  ·
    show fv_X E mX4_castVotes _ _ 5 ([some (.ref (aSt s)), some (.ref q), some (.int (nI k)), some (.int (pVc (M s) row nb (k))), some (.int (nI (k)))]) ([]) (fv_s M s (pVs (M s) row nb (k)))
    refine x_iload (pc := 5) dX4_castVotes_5 rfl ?_
    refine x_iload_n (pc := 7) dX4_castVotes_7 rfl rfl ?_
    refine x_icmp_ge (pc := 8) dX4_castVotes_8 (tgt := 54) rfl (fun h8 => ?_) (fun h8 => ?_)
    ·
      refine x_iload_n (pc := 54) dX4_castVotes_54 rfl rfl ?_
      refine x_iret (pc := 55) dX4_castVotes_55 rfl (by first | rfl | exact fv_nz _) ?_
      exact ⟨rfl, rfl⟩
    ·
      exact absurd (Int32.le_refl _) h8
