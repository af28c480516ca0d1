theorem x_iale {E : fv_E} {y : fv_Y} {d pc : Nat} {Φ : Option Value → fv_M → Prop} {ls : List (Option Value)} {st : List Value} {M : fv_M} {a n r i0 c : Nat} {i v : Int32} (hdg : decode y.2.1 pc = .ok (.iaload, 1)) (htb : fv_tab[a]? = some (.inr (0, n, r, i0))) (hi : i = nI c) (hc : c < n) (hn : n ≤ 1000) (hv : M r (i0 + c) = v)
    (kk : fv_X E y d Φ (pc + 1) ls (.int v :: st) M) : fv_X E y d Φ pc ls (.int i :: .ref a :: st) M := x_iald hdg htb hi hc hn (by rw [hv]; exact kk)
theorem pUp {c n : Nat} (hc : c < 2 ^ 30) (hn : n < 2 ^ 30) : (0 ≤ nI c ∧ nI c ≤ nI n - 1) ↔ c < n := by
  cases n with
  | zero =>
    refine ⟨fun h => ?_, fun h => absurd h (Nat.not_lt_zero _)⟩
    exfalso
    have h2 := h.2
    rw [show nI 0 - 1 = (-1 : Int32) by decide +kernel, Int32.le_iff_toInt_le, nI_toInt (by omega)] at h2
    rw [show (-1 : Int32).toInt = -1 by decide +kernel] at h2
    omega
  | succ k =>
    rw [nI_pred, nI_leI (by omega) (by omega)]
    exact ⟨fun h => by omega, fun h => ⟨nI_pos' (by omega), by omega⟩⟩
theorem pUx {v : Int32} {n : Nat} (hn : n < 2 ^ 30) (h : 0 ≤ v ∧ v ≤ nI n - 1) : ∃ k, k < n ∧ v = nI k := by
  obtain ⟨j, hj, e⟩ := nI_of (x := v) (Int32.not_lt.mpr h.1)
  subst e
  have h2 := h.2
  cases n with
  | zero =>
    exfalso
    rw [show nI 0 - 1 = (-1 : Int32) by decide +kernel, Int32.le_iff_toInt_le, nI_toInt hj] at h2
    rw [show (-1 : Int32).toInt = -1 by decide +kernel] at h2
    omega
  | succ k =>
    rw [nI_pred, nI_leI hj (by omega)] at h2
    exact ⟨j, by omega, rfl⟩
theorem pUm {v : Int32} {n : Nat} (hn : n < 2 ^ 30) (h : 0 ≤ v ∧ v ≤ nI n) : ∃ k, k ≤ n ∧ v = nI k := by
  obtain ⟨j, hj, e⟩ := nI_of (x := v) (Int32.not_lt.mpr h.1)
  subst e
  have h2 := h.2
  rw [nI_leI hj (by omega)] at h2
  exact ⟨j, h2, rfl⟩
theorem hX3_hasBits {E : fv_E} {d : Nat} {b : Int32} {M : fv_M} : fv_F E d mX3_hasBits [.int b] M (some (.int (bI (b = 0 ∨ b = 8 ∨ b = 16 ∨ b = 32)))) M := by
  refine fv_F.of (ls := [some (.int b)]) (by decide) (Nat.le_of_ble_eq_true rfl) rfl ?_
  refine x_iload_n (pc := 0) dX3_hasBits_0 rfl rfl ?_
  refine x_if_eq (pc := 1) dX3_hasBits_1 (tgt := 22) rfl (fun h1 => ?_) (fun h1 => ?_)
  ·
    refine x_iconst (pc := 22) (v := 1) dX3_hasBits_22 rfl ?_
    refine x_goto (pc := 23) dX3_hasBits_23 (tgt := 27) rfl ?_
    refine x_iret (pc := 27) dX3_hasBits_27 rfl (by first | rfl | exact fv_nz _) ?_
    first | exact ⟨fv_rt (by simp_all), rfl⟩ | exact ⟨fv_rf (by simp_all), rfl⟩
  ·
    refine x_iload_n (pc := 4) dX3_hasBits_4 rfl rfl ?_
    refine x_bipush (pc := 5) (v := 8) dX3_hasBits_5 rfl ?_
    refine x_icmp_eq (pc := 7) dX3_hasBits_7 (tgt := 22) rfl (fun h7 => ?_) (fun h7 => ?_)
    ·
      refine x_iconst (pc := 22) (v := 1) dX3_hasBits_22 rfl ?_
      refine x_goto (pc := 23) dX3_hasBits_23 (tgt := 27) rfl ?_
      refine x_iret (pc := 27) dX3_hasBits_27 rfl (by first | rfl | exact fv_nz _) ?_
      first | exact ⟨fv_rt (by simp_all), rfl⟩ | exact ⟨fv_rf (by simp_all), rfl⟩
    ·
      refine x_iload_n (pc := 10) dX3_hasBits_10 rfl rfl ?_
      refine x_bipush (pc := 11) (v := 16) dX3_hasBits_11 rfl ?_
      refine x_icmp_eq (pc := 13) dX3_hasBits_13 (tgt := 22) rfl (fun h13 => ?_) (fun h13 => ?_)
      ·
        refine x_iconst (pc := 22) (v := 1) dX3_hasBits_22 rfl ?_
        refine x_goto (pc := 23) dX3_hasBits_23 (tgt := 27) rfl ?_
        refine x_iret (pc := 27) dX3_hasBits_27 rfl (by first | rfl | exact fv_nz _) ?_
        first | exact ⟨fv_rt (by simp_all), rfl⟩ | exact ⟨fv_rf (by simp_all), rfl⟩
      ·
        refine x_iload_n (pc := 16) dX3_hasBits_16 rfl rfl ?_
        refine x_bipush (pc := 17) (v := 32) dX3_hasBits_17 rfl ?_
        refine x_icmp_ne (pc := 19) dX3_hasBits_19 (tgt := 26) rfl (fun h19 => ?_) (fun h19 => ?_)
        ·
          refine x_iconst (pc := 26) (v := 0) dX3_hasBits_26 rfl ?_
          refine x_iret (pc := 27) dX3_hasBits_27 rfl (by first | rfl | exact fv_nz _) ?_
          first | exact ⟨fv_rt (by simp_all), rfl⟩ | exact ⟨fv_rf (by simp_all), rfl⟩
        ·
          refine x_iconst (pc := 22) (v := 1) dX3_hasBits_22 rfl ?_
          refine x_goto (pc := 23) dX3_hasBits_23 (tgt := 27) rfl ?_
          refine x_iret (pc := 27) dX3_hasBits_27 rfl (by first | rfl | exact fv_nz _) ?_
          first | exact ⟨fv_rt (by simp_all), rfl⟩ | exact ⟨fv_rf (by simp_all), rfl⟩
def pSh (M : fv_M) (t : Nat) (b n : Int32) : fv_M := fv_s (fv_s M (13 + 2 * t) (fv_u (fv_u (M (13 + 2 * t)) 0 b) 1 (if b = 0 then 0 else n))) (14 + 2 * t) (pFill (M (14 + 2 * t)) 0 40 0)
theorem hX3_begin {E : fv_E} {d t : Nat} {b n : Int32} {M : fv_M} (ht : t < 4) : fv_F E (d + 1) mX3_begin [.ref (aSh t), .int b, .int n] M none (pSh M t b n) := by
  have hne : 14 + 2 * t ≠ 13 + 2 * t := by omega
  refine fv_F.of (ls := [some (.ref (aSh t)), some (.int b), some (.int n)]) (by decide) (Nat.le_of_ble_eq_true rfl) rfl ?_
  refine x_aload_n (pc := 0) dX3_begin_0 rfl rfl ?_
  refine x_iload_n (pc := 1) dX3_begin_1 rfl rfl ?_
  refine x_put (pc := 2) fl_X3_9 dX3_begin_2 (tb_sh (by assumption)) rfl rfl rfl ?_
  refine x_aload_n (pc := 5) dX3_begin_5 rfl rfl ?_
  refine x_iload_n (pc := 6) dX3_begin_6 rfl rfl ?_
  refine x_if_ne (pc := 7) dX3_begin_7 (tgt := 14) rfl (fun h7 => ?_) (fun h7 => ?_)
  ·
    refine x_iload_n (pc := 14) dX3_begin_14 rfl rfl ?_
    refine x_put (pc := 15) fl_X3_15 dX3_begin_15 (tb_sh (by assumption)) rfl rfl rfl ?_
    refine x_aload_n (pc := 18) dX3_begin_18 rfl rfl ?_
    refine x_geta (pc := 19) fl_X3_18 dX3_begin_19 (tb_sh (by assumption)) rfl ?_
    refine x_iconst (pc := 22) (v := 0) dX3_begin_22 rfl ?_
    refine x_Sv (pc := 23) ks_X3_22 dX3_begin_23 (hJ7_fill_53178 (tb_nu ht) (by decide)) rfl rfl rfl (Nat.le_of_ble_eq_true rfl) ?_
    refine x_ret (pc := 26) dX3_begin_26 rfl ?_
    refine ⟨rfl, ?_⟩
    unfold pSh
    simp only [fv_s_same, fv_s_s, fv_s_ne _ _ hne]
    first | rw [if_pos h7] | rw [if_neg h7]
  ·
    refine x_iconst (pc := 10) (v := 0) dX3_begin_10 rfl ?_
    refine x_goto (pc := 11) dX3_begin_11 (tgt := 15) rfl ?_
    refine x_put (pc := 15) fl_X3_15 dX3_begin_15 (tb_sh (by assumption)) rfl rfl rfl ?_
    refine x_aload_n (pc := 18) dX3_begin_18 rfl rfl ?_
    refine x_geta (pc := 19) fl_X3_18 dX3_begin_19 (tb_sh (by assumption)) rfl ?_
    refine x_iconst (pc := 22) (v := 0) dX3_begin_22 rfl ?_
    refine x_Sv (pc := 23) ks_X3_22 dX3_begin_23 (hJ7_fill_53178 (tb_nu ht) (by decide)) rfl rfl rfl (Nat.le_of_ble_eq_true rfl) ?_
    refine x_ret (pc := 26) dX3_begin_26 rfl ?_
    refine ⟨rfl, ?_⟩
    unfold pSh
    simp only [fv_s_same, fv_s_s, fv_s_ne _ _ hne]
    first | rw [if_pos h7] | rw [if_neg h7]
theorem hX3_isMissing {E : fv_E} {d t : Nat} {M : fv_M} (ht : t < 4) : fv_F E d mX3_isMissing [.ref (aSh t)] M (some (.int (bI (M (13 + 2 * t) 0 = 0)))) M := by
  refine fv_F.of (ls := [some (.ref (aSh t))]) (by decide) (Nat.le_of_ble_eq_true rfl) rfl ?_
  refine x_aload_n (pc := 0) dX3_isMissing_0 rfl rfl ?_
  refine x_geti (pc := 1) fl_X3_9 dX3_isMissing_1 (tb_sh (by assumption)) rfl (rfl) ?_
  refine x_if_ne (pc := 4) dX3_isMissing_4 (tgt := 11) rfl (fun h4 => ?_) (fun h4 => ?_)
  ·
    refine x_iconst (pc := 11) (v := 0) dX3_isMissing_11 rfl ?_
    refine x_iret (pc := 12) dX3_isMissing_12 rfl (by first | rfl | exact fv_nz _) ?_
    first | exact ⟨by rw [bI_t (Decidable.not_not.mp h4)], rfl⟩ | exact ⟨by rw [bI_f h4], rfl⟩ | exact ⟨by rw [bI_t h4], rfl⟩
  ·
    refine x_iconst (pc := 7) (v := 1) dX3_isMissing_7 rfl ?_
    refine x_goto (pc := 8) dX3_isMissing_8 (tgt := 12) rfl ?_
    refine x_iret (pc := 12) dX3_isMissing_12 rfl (by first | rfl | exact fv_nz _) ?_
    first | exact ⟨by rw [bI_t (Decidable.not_not.mp h4)], rfl⟩ | exact ⟨by rw [bI_f h4], rfl⟩ | exact ⟨by rw [bI_t h4], rfl⟩
def pNw (b v : Int32) : Int32 := if b = 8 then v.toInt8.toInt32 else if b = 16 then v.toInt16.toInt32 else v
theorem hX3_put {E : fv_E} {d t k n : Nat} {v : Int32} {M : fv_M} (ht : t < 4) (hn : M (13 + 2 * t) 1 = nI n) (hn40 : n ≤ 40) (hk : k < n) : fv_F E (d + 1) mX3_put [.ref (aSh t), .int (nI k), .int v] M none (fv_s M (14 + 2 * t) (fv_u (M (14 + 2 * t)) k (pNw (M (13 + 2 * t) 0) v))) := by
  have hk40 : k < 40 := by omega
  refine fv_F.of (ls := [some (.ref (aSh t)), some (.int (nI k)), some (.int v)]) (by decide) (Nat.le_of_ble_eq_true rfl) rfl ?_
  refine x_iload_n (pc := 0) dX3_put_0 rfl rfl ?_
  refine x_aload_n (pc := 1) dX3_put_1 rfl rfl ?_
  refine x_geti (pc := 2) fl_X3_15 dX3_put_2 (tb_sh (by assumption)) rfl (hn) ?_
  refine x_iconst (pc := 5) (v := 1) dX3_put_5 rfl ?_
  refine x_isub (pc := 6) dX3_put_6 ?_
  refine x_Ni (pc := 7) ks_X3_28 dX3_put_7 (hX6_isUpTo) rfl rfl rfl (Nat.le_of_ble_eq_true rfl) ?_
  refine x_ifb_eq (pc := 10) dX3_put_10 (tgt := 48) rfl (fun h10 => ?_) (fun h10 => ?_)
  ·
    exact absurd ((pUp (by omega) (by omega)).mpr hk) h10
  ·
    refine x_aload_n (pc := 13) dX3_put_13 rfl rfl ?_
    refine x_geta (pc := 14) fl_X3_18 dX3_put_14 (tb_sh (by assumption)) rfl ?_
    refine x_iload_n (pc := 17) dX3_put_17 rfl rfl ?_
    refine x_aload_n (pc := 18) dX3_put_18 rfl rfl ?_
    refine x_geti (pc := 19) fl_X3_9 dX3_put_19 (tb_sh (by assumption)) rfl (rfl) ?_
    refine x_bipush (pc := 22) (v := 8) dX3_put_22 rfl ?_
    refine x_icmp_ne (pc := 24) dX3_put_24 (tgt := 32) rfl (fun h24 => ?_) (fun h24 => ?_)
    ·
      refine x_aload_n (pc := 32) dX3_put_32 rfl rfl ?_
      refine x_geti (pc := 33) fl_X3_9 dX3_put_33 (tb_sh (by assumption)) rfl (rfl) ?_
      refine x_bipush (pc := 36) (v := 16) dX3_put_36 rfl ?_
      refine x_icmp_ne (pc := 38) dX3_put_38 (tgt := 46) rfl (fun h38 => ?_) (fun h38 => ?_)
      ·
        refine x_iload_n (pc := 46) dX3_put_46 rfl rfl ?_
        refine x_iast (pc := 47) dX3_put_47 (tb_nu ht) (rfl) (by first | assumption | decide | omega) (by first | decide | assumption) ?_
        refine x_ret (pc := 48) dX3_put_48 rfl ?_
        refine ⟨rfl, ?_⟩
        unfold pNw
        simp only [Nat.zero_add]
        first | (simp only [if_pos h24]; done) | (simp only [if_neg h24, if_pos h38]; done) | (simp only [if_neg h24, if_neg h38]; done)
      ·
        refine x_iload_n (pc := 41) dX3_put_41 rfl rfl ?_
        refine x_i2s (pc := 42) dX3_put_42 ?_
        refine x_goto (pc := 43) dX3_put_43 (tgt := 47) rfl ?_
        refine x_iast (pc := 47) dX3_put_47 (tb_nu ht) (rfl) (by first | assumption | decide | omega) (by first | decide | assumption) ?_
        refine x_ret (pc := 48) dX3_put_48 rfl ?_
        refine ⟨rfl, ?_⟩
        unfold pNw
        simp only [Nat.zero_add]
        first | (simp only [if_pos h24]; done) | (simp only [if_neg h24, if_pos h38]; done) | (simp only [if_neg h24, if_neg h38]; done)
    ·
      refine x_iload_n (pc := 27) dX3_put_27 rfl rfl ?_
      refine x_i2b (pc := 28) dX3_put_28 ?_
      refine x_goto (pc := 29) dX3_put_29 (tgt := 47) rfl ?_
      refine x_iast (pc := 47) dX3_put_47 (tb_nu ht) (rfl) (by first | assumption | decide | omega) (by first | decide | assumption) ?_
      refine x_ret (pc := 48) dX3_put_48 rfl ?_
      refine ⟨rfl, ?_⟩
      unfold pNw
      simp only [Nat.zero_add]
      first | (simp only [if_pos h24]; done) | (simp only [if_neg h24, if_pos h38]; done) | (simp only [if_neg h24, if_neg h38]; done)
abbrev pAw (M : fv_M) (t n c : Nat) (v : Int32) : Prop := n ≤ c ∨ M (14 + 2 * t) c = v
theorem hX3_allows {E : fv_E} {d t c n : Nat} {v : Int32} {M : fv_M} (ht : t < 4) (hn : M (13 + 2 * t) 1 = nI n) (hn40 : n ≤ 40) (hc : c < 40) : fv_F E (d + 1) mX3_allows [.ref (aSh t), .int (nI c), .int v] M (some (.int (bI (pAw M t n c v)))) M := by
  refine fv_F.of (ls := [some (.ref (aSh t)), some (.int (nI c)), some (.int v)]) (by decide) (Nat.le_of_ble_eq_true rfl) rfl ?_
  refine x_iload_n (pc := 0) dX3_allows_0 rfl rfl ?_
  refine x_aload_n (pc := 1) dX3_allows_1 rfl rfl ?_
  refine x_geti (pc := 2) fl_X3_15 dX3_allows_2 (tb_sh (by assumption)) rfl (hn) ?_
  refine x_iconst (pc := 5) (v := 1) dX3_allows_5 rfl ?_
  refine x_isub (pc := 6) dX3_allows_6 ?_
  refine x_Ni (pc := 7) ks_X3_28 dX3_allows_7 (hX6_isUpTo) rfl rfl rfl (Nat.le_of_ble_eq_true rfl) ?_
  refine x_ifb_eq (pc := 10) dX3_allows_10 (tgt := 23) rfl (fun h10 => ?_) (fun h10 => ?_)
  ·
    have hq : n ≤ c := Nat.le_of_not_lt (fun q => h10 ((pUp (by omega) (by omega)).mpr q))
    refine x_iconst (pc := 23) (v := 1) dX3_allows_23 rfl ?_
    refine x_goto (pc := 24) dX3_allows_24 (tgt := 28) rfl ?_
    refine x_iret (pc := 28) dX3_allows_28 rfl (by first | rfl | exact fv_nz _) ?_
    refine ⟨?_, rfl⟩
    first | rw [bI_t (Or.inl hq)] | rw [bI_t (Or.inr (Decidable.not_not.mp h20))] | rw [bI_t (Or.inr h20)] | rw [bI_f (fun q => q.elim hq h20)]
  ·
    have hq : ¬ n ≤ c := Nat.not_le.mpr ((pUp (by omega) (by omega)).mp h10)
    refine x_aload_n (pc := 13) dX3_allows_13 rfl rfl ?_
    refine x_geta (pc := 14) fl_X3_18 dX3_allows_14 (tb_sh (by assumption)) rfl ?_
    refine x_iload_n (pc := 17) dX3_allows_17 rfl rfl ?_
    refine x_iald (pc := 18) dX3_allows_18 (tb_nu ht) (rfl) (by first | assumption | decide | omega) (by first | decide | assumption) ?_
    rw [Nat.zero_add]
    refine x_iload_n (pc := 19) dX3_allows_19 rfl rfl ?_
    refine x_icmp_ne (pc := 20) dX3_allows_20 (tgt := 27) rfl (fun h20 => ?_) (fun h20 => ?_)
    ·
      refine x_iconst (pc := 27) (v := 0) dX3_allows_27 rfl ?_
      refine x_iret (pc := 28) dX3_allows_28 rfl (by first | rfl | exact fv_nz _) ?_
      refine ⟨?_, rfl⟩
      first | rw [bI_t (Or.inl hq)] | rw [bI_t (Or.inr (Decidable.not_not.mp h20))] | rw [bI_t (Or.inr h20)] | rw [bI_f (fun q => q.elim hq h20)]
    ·
      refine x_iconst (pc := 23) (v := 1) dX3_allows_23 rfl ?_
      refine x_goto (pc := 24) dX3_allows_24 (tgt := 28) rfl ?_
      refine x_iret (pc := 28) dX3_allows_28 rfl (by first | rfl | exact fv_nz _) ?_
      refine ⟨?_, rfl⟩
      first | rw [bI_t (Or.inl hq)] | rw [bI_t (Or.inr (Decidable.not_not.mp h20))] | rw [bI_t (Or.inr h20)] | rw [bI_f (fun q => q.elim hq h20)]
theorem hX3_hasRange {E : fv_E} {d t : Nat} {a n : Int32} {M : fv_M} (ht : t < 4) : fv_F E d mX3_hasRange [.ref (aSh t), .int a, .int n] M (some (.int (bI (0 ≤ a ∧ 0 ≤ n ∧ a ≤ M (13 + 2 * t) 1 ∧ n ≤ M (13 + 2 * t) 1 - a)))) M := by
  refine fv_F.of (ls := [some (.ref (aSh t)), some (.int a), some (.int n)]) (by decide) (Nat.le_of_ble_eq_true rfl) rfl ?_
  refine x_iload_n (pc := 0) dX3_hasRange_0 rfl rfl ?_
  refine x_if_lt (pc := 1) dX3_hasRange_1 (tgt := 30) rfl (fun h1 => ?_) (fun h1 => ?_)
  ·
    refine x_iconst (pc := 30) (v := 0) dX3_hasRange_30 rfl ?_
    refine x_iret (pc := 31) dX3_hasRange_31 rfl (by first | rfl | exact fv_nz _) ?_
    refine ⟨?_, rfl⟩
    first | rw [bI_f (fun q => absurd h1 (Int32.not_lt.mpr q.1))] | rw [bI_f (fun q => absurd h5 (Int32.not_lt.mpr q.2.1))] | rw [bI_f (fun q => absurd h13 (Int32.not_lt.mpr q.2.2.1))] | rw [bI_f (fun q => absurd h23 (Int32.not_lt.mpr q.2.2.2))] | rw [bI_t ⟨Int32.not_lt.mp h1, Int32.not_lt.mp h5, Int32.not_lt.mp h13, Int32.not_lt.mp h23⟩]
  ·
    refine x_iload_n (pc := 4) dX3_hasRange_4 rfl rfl ?_
    refine x_if_lt (pc := 5) dX3_hasRange_5 (tgt := 30) rfl (fun h5 => ?_) (fun h5 => ?_)
    ·
      refine x_iconst (pc := 30) (v := 0) dX3_hasRange_30 rfl ?_
      refine x_iret (pc := 31) dX3_hasRange_31 rfl (by first | rfl | exact fv_nz _) ?_
      refine ⟨?_, rfl⟩
      first | rw [bI_f (fun q => absurd h1 (Int32.not_lt.mpr q.1))] | rw [bI_f (fun q => absurd h5 (Int32.not_lt.mpr q.2.1))] | rw [bI_f (fun q => absurd h13 (Int32.not_lt.mpr q.2.2.1))] | rw [bI_f (fun q => absurd h23 (Int32.not_lt.mpr q.2.2.2))] | rw [bI_t ⟨Int32.not_lt.mp h1, Int32.not_lt.mp h5, Int32.not_lt.mp h13, Int32.not_lt.mp h23⟩]
    ·
      refine x_iload_n (pc := 8) dX3_hasRange_8 rfl rfl ?_
      refine x_aload_n (pc := 9) dX3_hasRange_9 rfl rfl ?_
      refine x_geti (pc := 10) fl_X3_15 dX3_hasRange_10 (tb_sh (by assumption)) rfl (rfl) ?_
      refine x_icmp_gt (pc := 13) dX3_hasRange_13 (tgt := 30) rfl (fun h13 => ?_) (fun h13 => ?_)
      ·
        refine x_iconst (pc := 30) (v := 0) dX3_hasRange_30 rfl ?_
        refine x_iret (pc := 31) dX3_hasRange_31 rfl (by first | rfl | exact fv_nz _) ?_
        refine ⟨?_, rfl⟩
        first | rw [bI_f (fun q => absurd h1 (Int32.not_lt.mpr q.1))] | rw [bI_f (fun q => absurd h5 (Int32.not_lt.mpr q.2.1))] | rw [bI_f (fun q => absurd h13 (Int32.not_lt.mpr q.2.2.1))] | rw [bI_f (fun q => absurd h23 (Int32.not_lt.mpr q.2.2.2))] | rw [bI_t ⟨Int32.not_lt.mp h1, Int32.not_lt.mp h5, Int32.not_lt.mp h13, Int32.not_lt.mp h23⟩]
      ·
        refine x_iload_n (pc := 16) dX3_hasRange_16 rfl rfl ?_
        refine x_aload_n (pc := 17) dX3_hasRange_17 rfl rfl ?_
        refine x_geti (pc := 18) fl_X3_15 dX3_hasRange_18 (tb_sh (by assumption)) rfl (rfl) ?_
        refine x_iload_n (pc := 21) dX3_hasRange_21 rfl rfl ?_
        refine x_isub (pc := 22) dX3_hasRange_22 ?_
        refine x_icmp_gt (pc := 23) dX3_hasRange_23 (tgt := 30) rfl (fun h23 => ?_) (fun h23 => ?_)
        ·
          refine x_iconst (pc := 30) (v := 0) dX3_hasRange_30 rfl ?_
          refine x_iret (pc := 31) dX3_hasRange_31 rfl (by first | rfl | exact fv_nz _) ?_
          refine ⟨?_, rfl⟩
          first | rw [bI_f (fun q => absurd h1 (Int32.not_lt.mpr q.1))] | rw [bI_f (fun q => absurd h5 (Int32.not_lt.mpr q.2.1))] | rw [bI_f (fun q => absurd h13 (Int32.not_lt.mpr q.2.2.1))] | rw [bI_f (fun q => absurd h23 (Int32.not_lt.mpr q.2.2.2))] | rw [bI_t ⟨Int32.not_lt.mp h1, Int32.not_lt.mp h5, Int32.not_lt.mp h13, Int32.not_lt.mp h23⟩]
        ·
          refine x_iconst (pc := 26) (v := 1) dX3_hasRange_26 rfl ?_
          refine x_goto (pc := 27) dX3_hasRange_27 (tgt := 31) rfl ?_
          refine x_iret (pc := 31) dX3_hasRange_31 rfl (by first | rfl | exact fv_nz _) ?_
          refine ⟨?_, rfl⟩
          first | rw [bI_f (fun q => absurd h1 (Int32.not_lt.mpr q.1))] | rw [bI_f (fun q => absurd h5 (Int32.not_lt.mpr q.2.1))] | rw [bI_f (fun q => absurd h13 (Int32.not_lt.mpr q.2.2.1))] | rw [bI_f (fun q => absurd h23 (Int32.not_lt.mpr q.2.2.2))] | rw [bI_t ⟨Int32.not_lt.mp h1, Int32.not_lt.mp h5, Int32.not_lt.mp h13, Int32.not_lt.mp h23⟩]
theorem hX6_finding {E : fv_E} {d f : Nat} {v : Int32} {M : fv_M} (hf : -1000001 - v = nI f) (h7 : f < 7) : fv_F E (d + 1) mX6_finding [.ref 0, .int v] M (some (.int v)) (fv_s M 12 (fv_u (M 12) f (M 12 f + 1))) := by
  refine fv_F.of (ls := [some (.ref 0), some (.int v), none]) (by decide) (Nat.le_of_ble_eq_true rfl) rfl ?_
  refine x_ldc (pc := 0) kc_X6_55 dX6_finding_0 ?_
  refine x_iload_n (pc := 2) dX6_finding_2 rfl rfl ?_
  refine x_isub (pc := 3) dX6_finding_3 ?_
  rw [hf]
  refine x_istore_n2 (pc := 4) dX6_finding_4 rfl ?_
  refine x_iload_n (pc := 5) dX6_finding_5 rfl rfl ?_
  refine x_bipush (pc := 6) (v := 6) dX6_finding_6 rfl ?_
  refine x_Si (pc := 8) ks_X6_51 dX6_finding_8 (hX6_isUpTo) rfl rfl rfl (Nat.le_of_ble_eq_true rfl) ?_
  refine x_ifb_eq (pc := 11) dX6_finding_11 (tgt := 24) rfl (fun h11 => ?_) (fun h11 => ?_)
  ·
    exact absurd ⟨nI_pos' (by omega), nI_le (b := 6) (by omega) (by omega)⟩ h11
  ·
    refine x_aload_n (pc := 14) dX6_finding_14 rfl rfl ?_
    refine x_geta (pc := 15) fl_X6_46 dX6_finding_15 (tb_fv) rfl ?_
    refine x_iload_n (pc := 18) dX6_finding_18 rfl rfl ?_
    refine x_dup2 (pc := 19) dX6_finding_19 ?_
    refine x_iald (pc := 20) dX6_finding_20 (tb_97) (rfl) (by first | assumption | decide | omega) (by first | decide | assumption) ?_
    refine x_iconst (pc := 21) (v := 1) dX6_finding_21 rfl ?_
    refine x_iadd (pc := 22) dX6_finding_22 ?_
    refine x_iast (pc := 23) dX6_finding_23 (tb_97) (rfl) (by first | assumption | decide | omega) (by first | decide | assumption) ?_
    refine x_iload_n (pc := 24) dX6_finding_24 rfl rfl ?_
    refine x_iret (pc := 25) dX6_finding_25 rfl (by first | rfl | exact fv_nz _) ?_
    refine ⟨rfl, ?_⟩
    simp only [Nat.zero_add]
def pMf (k m : Nat) : List Nat := (List.range m).filter fun i => k.testBit i
theorem pMf_s (k m : Nat) : pMf k (m + 1) = if k.testBit m = true then pMf k m ++ [m] else pMf k m := by
  unfold pMf
  rw [List.range_succ, List.filter_append]
  by_cases h : k.testBit m = true
  · rw [if_pos h]; simp [h]
  · rw [if_neg h]; simp [h]
def pBc (k : Nat) : Nat := (pMf k 8).length
def pBx (x : Int32) : Int32 :=
  let a := x - ((x.toUInt32 >>> ((1 : Int32).toUInt32 &&& Int32.toUInt32 31)).toInt32 &&& 1431655765)
  let b := (a &&& 858993459) + ((a.toUInt32 >>> ((2 : Int32).toUInt32 &&& Int32.toUInt32 31)).toInt32 &&& 858993459)
  let c := (b + (b.toUInt32 >>> ((4 : Int32).toUInt32 &&& Int32.toUInt32 31)).toInt32) &&& 252645135
  let e := c + (c.toUInt32 >>> ((8 : Int32).toUInt32 &&& Int32.toUInt32 31)).toInt32
  (e + (e.toUInt32 >>> ((16 : Int32).toUInt32 &&& Int32.toUInt32 31)).toInt32) &&& 63
theorem pBx_all : ((List.range 256).all fun k => decide (pBx (nI k) = nI (pBc k))) = true := by decide +kernel
theorem hJ6_bitCount_0f7a4 {E : fv_E} {d k : Nat} {M : fv_M} (hk : k < 256) : fv_F E d mJ6_bitCount_0f7a4 [.int (nI k)] M (some (.int (nI (pBc k)))) M := by
  refine fv_F.of (ls := [some (.int (nI k))]) (by decide) (Nat.le_of_ble_eq_true rfl) rfl ?_
  refine x_iload_n (pc := 0) dJ6_bitCount_0f7a4_0 rfl rfl ?_
  refine x_iload_n (pc := 1) dJ6_bitCount_0f7a4_1 rfl rfl ?_
  refine x_iconst (pc := 2) (v := 1) dJ6_bitCount_0f7a4_2 rfl ?_
  refine x_iushr (pc := 3) dJ6_bitCount_0f7a4_3 ?_
  refine x_ldcw (pc := 4) kc_J6_265 dJ6_bitCount_0f7a4_4 ?_
  refine x_iand (pc := 7) dJ6_bitCount_0f7a4_7 ?_
  refine x_isub (pc := 8) dJ6_bitCount_0f7a4_8 ?_
  refine x_istore_n0 (pc := 9) dJ6_bitCount_0f7a4_9 ?_
  refine x_iload_n (pc := 10) dJ6_bitCount_0f7a4_10 rfl rfl ?_
  refine x_ldcw (pc := 11) kc_J6_266 dJ6_bitCount_0f7a4_11 ?_
  refine x_iand (pc := 14) dJ6_bitCount_0f7a4_14 ?_
  refine x_iload_n (pc := 15) dJ6_bitCount_0f7a4_15 rfl rfl ?_
  refine x_iconst (pc := 16) (v := 2) dJ6_bitCount_0f7a4_16 rfl ?_
  refine x_iushr (pc := 17) dJ6_bitCount_0f7a4_17 ?_
  refine x_ldcw (pc := 18) kc_J6_266 dJ6_bitCount_0f7a4_18 ?_
  refine x_iand (pc := 21) dJ6_bitCount_0f7a4_21 ?_
  refine x_iadd (pc := 22) dJ6_bitCount_0f7a4_22 ?_
  refine x_istore_n0 (pc := 23) dJ6_bitCount_0f7a4_23 ?_
  refine x_iload_n (pc := 24) dJ6_bitCount_0f7a4_24 rfl rfl ?_
  refine x_iload_n (pc := 25) dJ6_bitCount_0f7a4_25 rfl rfl ?_
  refine x_iconst (pc := 26) (v := 4) dJ6_bitCount_0f7a4_26 rfl ?_
  refine x_iushr (pc := 27) dJ6_bitCount_0f7a4_27 ?_
  refine x_iadd (pc := 28) dJ6_bitCount_0f7a4_28 ?_
  refine x_ldcw (pc := 29) kc_J6_267 dJ6_bitCount_0f7a4_29 ?_
  refine x_iand (pc := 32) dJ6_bitCount_0f7a4_32 ?_
  refine x_istore_n0 (pc := 33) dJ6_bitCount_0f7a4_33 ?_
  refine x_iload_n (pc := 34) dJ6_bitCount_0f7a4_34 rfl rfl ?_
  refine x_iload_n (pc := 35) dJ6_bitCount_0f7a4_35 rfl rfl ?_
  refine x_bipush (pc := 36) (v := 8) dJ6_bitCount_0f7a4_36 rfl ?_
  refine x_iushr (pc := 38) dJ6_bitCount_0f7a4_38 ?_
  refine x_iadd (pc := 39) dJ6_bitCount_0f7a4_39 ?_
  refine x_istore_n0 (pc := 40) dJ6_bitCount_0f7a4_40 ?_
  refine x_iload_n (pc := 41) dJ6_bitCount_0f7a4_41 rfl rfl ?_
  refine x_iload_n (pc := 42) dJ6_bitCount_0f7a4_42 rfl rfl ?_
  refine x_bipush (pc := 43) (v := 16) dJ6_bitCount_0f7a4_43 rfl ?_
  refine x_iushr (pc := 45) dJ6_bitCount_0f7a4_45 ?_
  refine x_iadd (pc := 46) dJ6_bitCount_0f7a4_46 ?_
  refine x_istore_n0 (pc := 47) dJ6_bitCount_0f7a4_47 ?_
  refine x_iload_n (pc := 48) dJ6_bitCount_0f7a4_48 rfl rfl ?_
  refine x_bipush (pc := 49) (v := 63) dJ6_bitCount_0f7a4_49 rfl ?_
  refine x_iand (pc := 51) dJ6_bitCount_0f7a4_51 ?_
  refine x_iret (pc := 52) dJ6_bitCount_0f7a4_52 rfl (by first | rfl | exact fv_nz _) ?_
  exact ⟨congrArg (fun z => some (Value.int z)) (of_decide_eq_true (fv_all1 pBx_all hk)), rfl⟩
theorem pAll_all : ((List.range 9).all fun n => decide (pAll n = nI (2 ^ n - 1) ∧ 2 ^ n ≤ 256 ∧ 0 < 2 ^ n)) = true := by decide +kernel
theorem pAll_of {n : Nat} (h : n ≤ 8) : pAll n = nI (2 ^ n - 1) ∧ 2 ^ n ≤ 256 ∧ 0 < 2 ^ n := of_decide_eq_true (fv_all1 pAll_all (by omega))
theorem pAllx {n : Nat} {v : Int32} (hn : n ≤ 8) (h : 0 ≤ v ∧ v ≤ pAll n) : ∃ k, k < 2 ^ n ∧ v = nI k := by
  obtain ⟨e, h1, h2⟩ := pAll_of hn
  rw [e] at h
  obtain ⟨k, hk, e2⟩ := pUm (by omega) h
  exact ⟨k, by omega, e2⟩
theorem hX6_isAgenda {E : fv_E} {d nm k : Nat} {M : fv_M} (hM : M 0 2 = nI nm) (hn : nm ≤ 8) (hk : k < 2 ^ nm) : fv_F E (d + 1) mX6_isAgenda [.ref 0, .int (nI k)] M (some (.int (bI (pBc k ≤ 5)))) M := by
  obtain ⟨a1, a2, a3⟩ := pAll_of hn
  have hs0 : 0 < 3 := by decide
  have h8 : pBc k ≤ 8 := by unfold pBc pMf; exact Nat.le_trans (List.length_filter_le _ _) (by rw [List.length_range]; exact Nat.le_refl 8)
  refine fv_F.of (ls := [some (.ref 0), some (.int (nI k))]) (by decide) (Nat.le_of_ble_eq_true rfl) rfl ?_
  refine x_iload_n (pc := 0) dX6_isAgenda_0 rfl rfl ?_
  refine x_aload_n (pc := 1) dX6_isAgenda_1 rfl rfl ?_
  refine x_geta (pc := 2) fl_X6_12 dX6_isAgenda_2 (tb_fv) rfl ?_
  refine x_Vi (pc := 5) ks_X6_286 dX6_isAgenda_5 (tb_st (by assumption)) rfl rfl (hX4_allMotions hs0 hM) rfl rfl rfl (Nat.le_of_ble_eq_true rfl) ?_
  refine x_Si (pc := 8) ks_X6_51 dX6_isAgenda_8 (hX6_isUpTo) rfl rfl rfl (Nat.le_of_ble_eq_true rfl) ?_
  refine x_ifb_eq (pc := 11) dX6_isAgenda_11 (tgt := 26) rfl (fun h11 => ?_) (fun h11 => ?_)
  ·
    exact absurd ⟨nI_pos' (by omega), by rw [a1]; exact nI_le (by omega) (by omega)⟩ h11
  ·
    refine x_iload_n (pc := 14) dX6_isAgenda_14 rfl rfl ?_
    refine x_Si (pc := 15) ks_X6_165 dX6_isAgenda_15 (hJ6_bitCount_0f7a4 (by omega)) rfl rfl rfl (Nat.le_of_ble_eq_true rfl) ?_
    refine x_iconst (pc := 18) (v := 5) dX6_isAgenda_18 rfl ?_
    refine x_icmp_gt (pc := 19) dX6_isAgenda_19 (tgt := 26) rfl (fun h19 => ?_) (fun h19 => ?_)
    ·
      refine x_iconst (pc := 26) (v := 0) dX6_isAgenda_26 rfl ?_
      refine x_iret (pc := 27) dX6_isAgenda_27 rfl (by first | rfl | exact fv_nz _) ?_
      first | exact ⟨by rw [bI_t (Nat.le_of_not_lt (fun q => h19 (nI_lt (a := 5) q (by omega))))], rfl⟩ | exact ⟨by rw [bI_f (fun q => absurd h19 (nI_nlt (b := pBc k) (a := 5) q (by omega)))], rfl⟩
    ·
      refine x_iconst (pc := 22) (v := 1) dX6_isAgenda_22 rfl ?_
      refine x_goto (pc := 23) dX6_isAgenda_23 (tgt := 27) rfl ?_
      refine x_iret (pc := 27) dX6_isAgenda_27 rfl (by first | rfl | exact fv_nz _) ?_
      first | exact ⟨by rw [bI_t (Nat.le_of_not_lt (fun q => h19 (nI_lt (a := 5) q (by omega))))], rfl⟩ | exact ⟨by rw [bI_f (fun q => absurd h19 (nI_nlt (b := pBc k) (a := 5) q (by omega)))], rfl⟩
theorem hX6_isAgendaF {E : fv_E} {d nm : Nat} {v : Int32} {M : fv_M} (hM : M 0 2 = nI nm) (hv : ¬ (0 ≤ v ∧ v ≤ pAll nm)) : fv_F E (d + 1) mX6_isAgenda [.ref 0, .int v] M (some (.int 0)) M := by
  have hs0 : 0 < 3 := by decide
  refine fv_F.of (ls := [some (.ref 0), some (.int v)]) (by decide) (Nat.le_of_ble_eq_true rfl) rfl ?_
  refine x_iload_n (pc := 0) dX6_isAgenda_0 rfl rfl ?_
  refine x_aload_n (pc := 1) dX6_isAgenda_1 rfl rfl ?_
  refine x_geta (pc := 2) fl_X6_12 dX6_isAgenda_2 (tb_fv) rfl ?_
  refine x_Vi (pc := 5) ks_X6_286 dX6_isAgenda_5 (tb_st (by assumption)) rfl rfl (hX4_allMotions hs0 hM) rfl rfl rfl (Nat.le_of_ble_eq_true rfl) ?_
  refine x_Si (pc := 8) ks_X6_51 dX6_isAgenda_8 (hX6_isUpTo) rfl rfl rfl (Nat.le_of_ble_eq_true rfl) ?_
  refine x_ifb_eq (pc := 11) dX6_isAgenda_11 (tgt := 26) rfl (fun h11 => ?_) (fun h11 => ?_)
  ·
    refine x_iconst (pc := 26) (v := 0) dX6_isAgenda_26 rfl ?_
    refine x_iret (pc := 27) dX6_isAgenda_27 rfl (by first | rfl | exact fv_nz _) ?_
    exact ⟨rfl, rfl⟩
  ·
    exact absurd h11 hv
theorem hX6_tryWants {E : fv_E} {d nb m c : Nat} {w : Int32} {M : fv_M} (hB : M 1 1 = nI nb) (hb : nb ≤ 8) (hK : pKd (M 1) nb) (hm : m < 8) (hcol : M 1 (fM m 0) = nI c) (hc : c < 4) : fv_F E (d + 5) mX6_tryWants [.ref 0, .int (nI m), .int w] M (some (.int (bI (pPs (fv_u (M 1) (fM m 2) w) nb m c)))) (fv_s M 1 (fv_u (M 1) (fM m 2) w)) := by
  have hs1 : 1 < 3 := by decide
  have hw := hX4_wouldPass (E := E) (d := d) (s := 1) (nb := nb) (m := m) (c := c) (M := fv_s M 1 (fv_u (M 1) (fM m 2) w)) hs1 (by rw [fv_s_same, fv_u_ne _ _ (by unfold fM; omega)]; exact hB) hb (fun b hb2 => by rw [fv_s_same, fv_u_ne _ _ (by unfold fB fM; omega)]; exact hK b hb2) hm (by rw [fv_s_same, fv_u_ne _ _ (by unfold fM; omega)]; exact hcol) hc
  rw [fv_s_same] at hw
  refine fv_F.of (ls := [some (.ref 0), some (.int (nI m)), some (.int w)]) (by decide) (Nat.le_of_ble_eq_true rfl) rfl ?_
  refine x_aload_n (pc := 0) dX6_tryWants_0 rfl rfl ?_
  refine x_geta (pc := 1) fl_X6_16 dX6_tryWants_1 (tb_fv) rfl ?_
  refine x_geta (pc := 4) fl_X6_97 dX6_tryWants_4 (tb_st (by assumption)) rfl ?_
  refine x_iload_n (pc := 7) dX6_tryWants_7 rfl rfl ?_
  refine x_motion (pc := 8) dX6_tryWants_8 (by assumption) (rfl) (by first | assumption | decide | omega) ?_
  refine x_iload_n (pc := 9) dX6_tryWants_9 rfl rfl ?_
  refine x_put (pc := 10) fl_X6_159 dX6_tryWants_10 (tb_m (by assumption) (by assumption)) rfl rfl rfl ?_
  refine x_aload_n (pc := 13) dX6_tryWants_13 rfl rfl ?_
  refine x_geta (pc := 14) fl_X6_16 dX6_tryWants_14 (tb_fv) rfl ?_
  refine x_aload_n (pc := 17) dX6_tryWants_17 rfl rfl ?_
  refine x_geta (pc := 18) fl_X6_16 dX6_tryWants_18 (tb_fv) rfl ?_
  refine x_geta (pc := 21) fl_X6_97 dX6_tryWants_21 (tb_st (by assumption)) rfl ?_
  refine x_iload_n (pc := 24) dX6_tryWants_24 rfl rfl ?_
  refine x_motion (pc := 25) dX6_tryWants_25 (by assumption) (rfl) (by first | assumption | decide | omega) ?_
  refine x_Vi (pc := 26) ks_X6_123 dX6_tryWants_26 (tb_st (by assumption)) rfl rfl (hw) rfl rfl rfl (Nat.le_of_ble_eq_true rfl) ?_
  refine x_iret (pc := 29) dX6_tryWants_29 rfl (by first | rfl | exact fv_nz _) ?_
  exact ⟨rfl, rfl⟩
abbrev pRb (M : fv_M) (t n b : Nat) (v : Int32) (c : Nat) : Bool := decide (pAw M t n c (pMax 0 (M 0 (fB b 3 + c) - v)))
theorem hX6_isRobbed {E : fv_E} {d t n b : Nat} {v : Int32} {M : fv_M} (ht : t < 4) (hb : b < 8) (hn : M (13 + 2 * t) 1 = nI n) (hn40 : n ≤ 40) : fv_F E (d + 2) mX6_isRobbed [.ref (aB 0 b), .int v, .ref (aSh t)] M (some (.int (bI (wT (pRb M t n b v) 4 = 4)))) M := by
  have hs0 : 0 < 3 := by decide
  obtain ⟨t1, t2, t3⟩ := wT_all (pRb M t n b v) 4
  generalize hT : wT (pRb M t n b v) 4 = T at *
  refine fv_F.of (ls := [some (.ref (aB 0 b)), some (.int v), some (.ref (aSh t)), none]) (by decide) (Nat.le_of_ble_eq_true rfl) rfl ?_
  refine x_iconst (pc := 0) (v := 0) dX6_isRobbed_0 rfl ?_
  refine x_istore_n3 (pc := 1) dX6_isRobbed_1 rfl ?_
  refine x_loop (fun j => [some (.ref (aB 0 b)), some (.int v), some (.ref (aSh t)), some (.int (nI j))]) (fun _ => M) T rfl rfl (fun j hj hL => ?_) ?_
  · show fv_X E mX6_isRobbed _ _ 2 [some (.ref (aB 0 b)), some (.int v), some (.ref (aSh t)), some (.int (nI j))] [] M
    replace hL : fv_X E mX6_isRobbed _ _ 2 [some (.ref (aB 0 b)), some (.int v), some (.ref (aSh t)), some (.int (nI (j + 1)))] [] M := hL
    have hp := of_decide_eq_true (t2 j hj)
    refine x_iload_n (pc := 2) dX6_isRobbed_2 rfl rfl ?_
    refine x_iconst (pc := 3) (v := 4) dX6_isRobbed_3 rfl ?_
    refine x_icmp_ge (pc := 4) dX6_isRobbed_4 (tgt := 35) rfl (fun h4 => ?_) (fun h4 => ?_)
    ·
      exact absurd h4 (nI_ge (b := 4) (by omega) (by omega))
    ·
      refine x_aload_n (pc := 7) dX6_isRobbed_7 rfl rfl ?_
      refine x_iload_n (pc := 8) dX6_isRobbed_8 rfl rfl ?_
      refine x_iconst (pc := 9) (v := 0) dX6_isRobbed_9 rfl ?_
      refine x_aload_n (pc := 10) dX6_isRobbed_10 rfl rfl ?_
      refine x_geta (pc := 11) fl_X6_276 dX6_isRobbed_11 (tb_b (by assumption) (by assumption)) rfl ?_
      refine x_iload_n (pc := 14) dX6_isRobbed_14 rfl rfl ?_
      refine x_iald (pc := 15) dX6_isRobbed_15 (tb_f hs0 hb) (rfl) (by omega) (by first | decide | assumption) ?_
      refine x_iload_n (pc := 16) dX6_isRobbed_16 rfl rfl ?_
      refine x_isub (pc := 17) dX6_isRobbed_17 ?_
      refine x_max (pc := 18) ks_X6_289 dX6_isRobbed_18 rfl (Nat.le_of_ble_eq_true rfl) ?_
      refine x_Vi (pc := 21) ks_X6_218 dX6_isRobbed_21 (tb_sh (by assumption)) rfl rfl (hX3_allows ht hn hn40 (by omega)) rfl rfl rfl (Nat.le_of_ble_eq_true rfl) ?_
      refine x_ifb_ne (pc := 24) dX6_isRobbed_24 (tgt := 29) rfl (fun h24 => ?_) (fun h24 => ?_)
      ·
        refine x_iinc3 (pc := 29) dX6_isRobbed_29 (by first | exact fv_inc _ | exact fv_dec _ | rfl) rfl ?_
        refine x_goto (pc := 32) dX6_isRobbed_32 (tgt := 2) rfl ?_
        exact hL
      ·
        exact absurd hp h24
  · show fv_X E mX6_isRobbed _ _ 2 [some (.ref (aB 0 b)), some (.int v), some (.ref (aSh t)), some (.int (nI T))] [] M
    by_cases hq : T < 4
    · have hp := of_decide_eq_false (t3 hq)
      refine x_iload_n (pc := 2) dX6_isRobbed_2 rfl rfl ?_
      refine x_iconst (pc := 3) (v := 4) dX6_isRobbed_3 rfl ?_
      refine x_icmp_ge (pc := 4) dX6_isRobbed_4 (tgt := 35) rfl (fun h4 => ?_) (fun h4 => ?_)
      ·
        exact absurd h4 (nI_ge (b := 4) (by omega) (by omega))
      ·
        refine x_aload_n (pc := 7) dX6_isRobbed_7 rfl rfl ?_
        refine x_iload_n (pc := 8) dX6_isRobbed_8 rfl rfl ?_
        refine x_iconst (pc := 9) (v := 0) dX6_isRobbed_9 rfl ?_
        refine x_aload_n (pc := 10) dX6_isRobbed_10 rfl rfl ?_
        refine x_geta (pc := 11) fl_X6_276 dX6_isRobbed_11 (tb_b (by assumption) (by assumption)) rfl ?_
        refine x_iload_n (pc := 14) dX6_isRobbed_14 rfl rfl ?_
        refine x_iald (pc := 15) dX6_isRobbed_15 (tb_f hs0 hb) (rfl) (by omega) (by first | decide | assumption) ?_
        refine x_iload_n (pc := 16) dX6_isRobbed_16 rfl rfl ?_
        refine x_isub (pc := 17) dX6_isRobbed_17 ?_
        refine x_max (pc := 18) ks_X6_289 dX6_isRobbed_18 rfl (Nat.le_of_ble_eq_true rfl) ?_
        refine x_Vi (pc := 21) ks_X6_218 dX6_isRobbed_21 (tb_sh (by assumption)) rfl rfl (hX3_allows ht hn hn40 (by omega)) rfl rfl rfl (Nat.le_of_ble_eq_true rfl) ?_
        refine x_ifb_ne (pc := 24) dX6_isRobbed_24 (tgt := 29) rfl (fun h24 => ?_) (fun h24 => ?_)
        ·
          exact absurd h24 hp
        ·
          refine x_iconst (pc := 27) (v := 0) dX6_isRobbed_27 rfl ?_
          refine x_iret (pc := 28) dX6_isRobbed_28 rfl (by first | rfl | exact fv_nz _) ?_
          exact ⟨by rw [bI_f (by omega)], rfl⟩
    · have e : T = 4 := by omega
      subst e
      refine x_iload_n (pc := 2) dX6_isRobbed_2 rfl rfl ?_
      refine x_iconst (pc := 3) (v := 4) dX6_isRobbed_3 rfl ?_
      refine x_icmp_ge (pc := 4) dX6_isRobbed_4 (tgt := 35) rfl (fun h4 => ?_) (fun h4 => ?_)
      ·
        refine x_iconst (pc := 35) (v := 1) dX6_isRobbed_35 rfl ?_
        refine x_iret (pc := 36) dX6_isRobbed_36 rfl (by first | rfl | exact fv_nz _) ?_
        exact ⟨by rw [bI_t rfl], rfl⟩
      ·
        exact absurd (Int32.le_refl _) h4
def pGt (w : Nat) : Nat := wT (fun j => !(decide (nI (10 - w) - nI (10 - w) / nI (10 - j) * nI (10 - j) = 0) && decide (nI 10 - nI 10 / nI (10 - j) * nI (10 - j) = 0))) 9
def pGc (w : Nat) : Nat := 10 - pGt w
theorem hX6_commonDivisor {E : fv_E} {d w : Nat} {M : fv_M} (hw : w ≤ 10) : fv_F E d mX6_commonDivisor [.int (nI (10 - w)), .int (nI 10)] M (some (.int (nI (pGc w)))) M := by
  obtain ⟨t1, t2, t3⟩ := wT_all (fun j => !(decide (nI (10 - w) - nI (10 - w) / nI (10 - j) * nI (10 - j) = 0) && decide (nI 10 - nI 10 / nI (10 - j) * nI (10 - j) = 0))) 9
  rw [show wT (fun j => !(decide (nI (10 - w) - nI (10 - w) / nI (10 - j) * nI (10 - j) = 0) && decide (nI 10 - nI 10 / nI (10 - j) * nI (10 - j) = 0))) 9 = pGt w from rfl] at *
  unfold pGc
  generalize hT : pGt w = T at *
  refine fv_F.of (ls := [some (.int (nI (10 - w))), some (.int (nI 10)), none]) (by decide) (Nat.le_of_ble_eq_true rfl) rfl ?_
  refine x_iload_n (pc := 0) dX6_commonDivisor_0 rfl rfl ?_
  refine x_istore_n2 (pc := 1) dX6_commonDivisor_1 rfl ?_
  refine x_loop (fun j => [some (.int (nI (10 - w))), some (.int (nI 10)), some (.int (nI (10 - j)))]) (fun _ => M) T rfl rfl (fun j hj hL => ?_) ?_
  · show fv_X E mX6_commonDivisor _ _ 2 [some (.int (nI (10 - w))), some (.int (nI 10)), some (.int (nI (10 - j)))] [] M
    replace hL : fv_X E mX6_commonDivisor _ _ 2 [some (.int (nI (10 - w))), some (.int (nI 10)), some (.int (nI (10 - (j + 1))))] [] M := hL
    have hp := t2 j hj
    have hne : ¬ nI (10 - j) = 0 := nI_ne0 (by omega) (by omega)
    have hdc : nI (10 - j) + Int32.ofInt (-1) = nI (10 - (j + 1)) := by rw [show 10 - j = 10 - (j + 1) + 1 by omega]; exact fv_dec _
    refine x_iload_n (pc := 2) dX6_commonDivisor_2 rfl rfl ?_
    refine x_iconst (pc := 3) (v := 1) dX6_commonDivisor_3 rfl ?_
    refine x_icmp_le (pc := 4) dX6_commonDivisor_4 (tgt := 27) rfl (fun h4 => ?_) (fun h4 => ?_)
    ·
      exact absurd h4 (nI_ge (a := 1) (by omega) (by omega))
    ·
      refine x_iload_n (pc := 7) dX6_commonDivisor_7 rfl rfl ?_
      refine x_iload_n (pc := 8) dX6_commonDivisor_8 rfl rfl ?_
      refine x_irem (pc := 9) dX6_commonDivisor_9 (hne) ?_
      refine x_if_ne (pc := 10) dX6_commonDivisor_10 (tgt := 21) rfl (fun h10 => ?_) (fun h10 => ?_)
      ·
        refine x_iinc2 (pc := 21) dX6_commonDivisor_21 (hdc) rfl ?_
        refine x_goto (pc := 24) dX6_commonDivisor_24 (tgt := 2) rfl ?_
        exact hL
      ·
        refine x_iload_n (pc := 13) dX6_commonDivisor_13 rfl rfl ?_
        refine x_iload_n (pc := 14) dX6_commonDivisor_14 rfl rfl ?_
        refine x_irem (pc := 15) dX6_commonDivisor_15 (hne) ?_
        refine x_if_ne (pc := 16) dX6_commonDivisor_16 (tgt := 21) rfl (fun h16 => ?_) (fun h16 => ?_)
        ·
          refine x_iinc2 (pc := 21) dX6_commonDivisor_21 (hdc) rfl ?_
          refine x_goto (pc := 24) dX6_commonDivisor_24 (tgt := 2) rfl ?_
          exact hL
        ·
          simp [h10, h16] at hp
  · show fv_X E mX6_commonDivisor _ _ 2 [some (.int (nI (10 - w))), some (.int (nI 10)), some (.int (nI (10 - T)))] [] M
    by_cases hq : T < 9
    · have hp := t3 hq
      have hne : ¬ nI (10 - T) = 0 := nI_ne0 (by omega) (by omega)
      refine x_iload_n (pc := 2) dX6_commonDivisor_2 rfl rfl ?_
      refine x_iconst (pc := 3) (v := 1) dX6_commonDivisor_3 rfl ?_
      refine x_icmp_le (pc := 4) dX6_commonDivisor_4 (tgt := 27) rfl (fun h4 => ?_) (fun h4 => ?_)
      ·
        exact absurd h4 (nI_ge (a := 1) (by omega) (by omega))
      ·
        refine x_iload_n (pc := 7) dX6_commonDivisor_7 rfl rfl ?_
        refine x_iload_n (pc := 8) dX6_commonDivisor_8 rfl rfl ?_
        refine x_irem (pc := 9) dX6_commonDivisor_9 (hne) ?_
        refine x_if_ne (pc := 10) dX6_commonDivisor_10 (tgt := 21) rfl (fun h10 => ?_) (fun h10 => ?_)
        ·
          simp [h10] at hp
        ·
          refine x_iload_n (pc := 13) dX6_commonDivisor_13 rfl rfl ?_
          refine x_iload_n (pc := 14) dX6_commonDivisor_14 rfl rfl ?_
          refine x_irem (pc := 15) dX6_commonDivisor_15 (hne) ?_
          refine x_if_ne (pc := 16) dX6_commonDivisor_16 (tgt := 21) rfl (fun h16 => ?_) (fun h16 => ?_)
          ·
            simp [h16] at hp
          ·
            refine x_iload_n (pc := 19) dX6_commonDivisor_19 rfl rfl ?_
            refine x_iret (pc := 20) dX6_commonDivisor_20 rfl (by first | rfl | exact fv_nz _) ?_
            exact ⟨rfl, rfl⟩
    · have e : T = 9 := by omega
      subst e
      refine x_iload_n (pc := 2) dX6_commonDivisor_2 rfl rfl ?_
      refine x_iconst (pc := 3) (v := 1) dX6_commonDivisor_3 rfl ?_
      refine x_icmp_le (pc := 4) dX6_commonDivisor_4 (tgt := 27) rfl (fun h4 => ?_) (fun h4 => ?_)
      ·
        refine x_iconst (pc := 27) (v := 1) dX6_commonDivisor_27 rfl ?_
        refine x_iret (pc := 28) dX6_commonDivisor_28 rfl (by first | rfl | exact fv_nz _) ?_
        exact ⟨rfl, rfl⟩
      ·
        exact absurd (by decide) h4
def pPw (b : Int64) : Nat → Int64
  | 0 => 1
  | n + 1 => pPw b n * b
theorem hX6_powerOf {E : fv_E} {d n : Nat} {b : Int32} {M : fv_M} (hn : n < 2 ^ 30) : fv_F E d mX6_powerOf [.int b, .int (nI n)] M (some (.long (pPw b.toInt64 n))) M := by
  refine fv_F.of (ls := [some (.int b), some (.int (nI n)), none, none, none]) (by decide) (Nat.le_of_ble_eq_true rfl) rfl ?_
  refine x_lconst (pc := 0) (v := 1) dX6_powerOf_0 rfl ?_
  refine x_lstore_n2 (pc := 1) dX6_powerOf_1 rfl ?_
  refine x_iconst (pc := 2) (v := 0) dX6_powerOf_2 rfl ?_
  refine x_istore4 (pc := 3) dX6_powerOf_3 rfl ?_
  refine x_loop (fun j => [some (.int b), some (.int (nI n)), some (.long (pPw b.toInt64 j)), none, some (.int (nI j))]) (fun j => M) (n) (rfl) (rfl) (fun j hj hn5 => ?_) ?_
  ·
    replace hn5 : fv_X E mX6_powerOf _ _ 5 ([some (.int b), some (.int (nI n)), some (.long (pPw b.toInt64 (j + 1))), none, some (.int (nI (j + 1)))]) ([]) (M) := hn5
    show fv_X E mX6_powerOf _ _ 5 ([some (.int b), some (.int (nI n)), some (.long (pPw b.toInt64 j)), none, some (.int (nI j))]) ([]) (M)
    refine x_iload (pc := 5) dX6_powerOf_5 rfl ?_
    refine x_iload_n (pc := 7) dX6_powerOf_7 rfl rfl ?_
    refine x_icmp_ge (pc := 8) dX6_powerOf_8 (tgt := 22) rfl (fun h8 => ?_) (fun h8 => ?_)
    ·
      exact absurd h8 (nI_ge hj (by first | decide | omega))
    ·
      refine x_lload_n (pc := 11) dX6_powerOf_11 rfl rfl ?_
      refine x_iload_n (pc := 12) dX6_powerOf_12 rfl rfl ?_
      refine x_i2l (pc := 13) dX6_powerOf_13 ?_
      refine x_lmul (pc := 14) dX6_powerOf_14 ?_
      refine x_lstore_n2 (pc := 15) dX6_powerOf_15 rfl ?_
      refine x_iinc4 (pc := 16) dX6_powerOf_16 (by first | exact fv_inc _ | exact fv_dec _ | rfl) rfl ?_
      refine x_goto (pc := 19) dX6_powerOf_19 (tgt := 5) rfl ?_
      exact hn5
  ·
    show fv_X E mX6_powerOf _ _ 5 ([some (.int b), some (.int (nI n)), some (.long (pPw b.toInt64 (n))), none, some (.int (nI (n)))]) ([]) (M)
    refine x_iload (pc := 5) dX6_powerOf_5 rfl ?_
    refine x_iload_n (pc := 7) dX6_powerOf_7 rfl rfl ?_
    refine x_icmp_ge (pc := 8) dX6_powerOf_8 (tgt := 22) rfl (fun h8 => ?_) (fun h8 => ?_)
    ·
      refine x_lload_n (pc := 22) dX6_powerOf_22 rfl rfl ?_
      refine x_lret (pc := 23) dX6_powerOf_23 rfl ?_
      exact ⟨rfl, rfl⟩
    ·
      exact absurd (Int32.le_refl _) h8
