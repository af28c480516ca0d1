theorem hX7_no {E : fv_E} {d f : Nat} {M : fv_M} (h7 : f < 7) : fv_F E d mX7_no [.ref 106, .int (nI f)] M (some (.int (-1000001 - nI f))) (fv_s M 25 (fv_u (M 25) f (M 25 f + 1))) := by
  refine fv_F.of (ls := [some (.ref 106), some (.int (nI f))]) (by decide) (Nat.le_of_ble_eq_true rfl) rfl ?_
  refine x_aload_n (pc := 0) dX7_no_0 rfl rfl ?_
  refine x_geta (pc := 1) fl_X7_19 dX7_no_1 (tb_106) rfl ?_
  refine x_iload_n (pc := 4) dX7_no_4 rfl rfl ?_
  refine x_dup2 (pc := 5) dX7_no_5 ?_
  refine x_iald (pc := 6) dX7_no_6 (tb_110) (rfl) (by first | assumption | decide | omega) (by first | decide | assumption) ?_
  refine x_iconst (pc := 7) (v := 1) dX7_no_7 rfl ?_
  refine x_iadd (pc := 8) dX7_no_8 ?_
  refine x_iast (pc := 9) dX7_no_9 (tb_110) (rfl) (by first | assumption | decide | omega) (by first | decide | assumption) ?_
  refine x_ldc (pc := 10) kc_X7_59 dX7_no_10 ?_
  refine x_iload_n (pc := 12) dX7_no_12 rfl rfl ?_
  refine x_isub (pc := 13) dX7_no_13 ?_
  refine x_iret (pc := 14) dX7_no_14 rfl (by first | rfl | exact fv_nz _) ?_
  refine ⟨rfl, ?_⟩
  simp only [Nat.zero_add]
theorem hX7_in1 {E : fv_E} {d : Nat} {v a b : Int32} {M : fv_M} : fv_F E d mX7_in1 [.int v, .int a, .int b] M (some (.int (bI (a ≤ v ∧ v ≤ b)))) M := by
  refine fv_F.of (ls := [some (.int v), some (.int a), some (.int b)]) (by decide) (Nat.le_of_ble_eq_true rfl) rfl ?_
  refine x_iload_n (pc := 0) dX7_in1_0 rfl rfl ?_
  refine x_iload_n (pc := 1) dX7_in1_1 rfl rfl ?_
  refine x_icmp_lt (pc := 2) dX7_in1_2 (tgt := 14) rfl (fun h2 => ?_) (fun h2 => ?_)
  ·
    refine x_iconst (pc := 14) (v := 0) dX7_in1_14 rfl ?_
    refine x_iret (pc := 15) dX7_in1_15 rfl (by first | rfl | exact fv_nz _) ?_
    refine ⟨?_, rfl⟩
    first | exact fv_rf (fun q => absurd h2 (Int32.not_lt.mpr q.1)) | exact fv_rf (fun q => absurd h7 (Int32.not_lt.mpr q.2)) | exact fv_rt ⟨Int32.not_lt.mp h2, Int32.not_lt.mp h7⟩
  ·
    refine x_iload_n (pc := 5) dX7_in1_5 rfl rfl ?_
    refine x_iload_n (pc := 6) dX7_in1_6 rfl rfl ?_
    refine x_icmp_gt (pc := 7) dX7_in1_7 (tgt := 14) rfl (fun h7 => ?_) (fun h7 => ?_)
    ·
      refine x_iconst (pc := 14) (v := 0) dX7_in1_14 rfl ?_
      refine x_iret (pc := 15) dX7_in1_15 rfl (by first | rfl | exact fv_nz _) ?_
      refine ⟨?_, rfl⟩
      first | exact fv_rf (fun q => absurd h2 (Int32.not_lt.mpr q.1)) | exact fv_rf (fun q => absurd h7 (Int32.not_lt.mpr q.2)) | exact fv_rt ⟨Int32.not_lt.mp h2, Int32.not_lt.mp h7⟩
    ·
      refine x_iconst (pc := 10) (v := 1) dX7_in1_10 rfl ?_
      refine x_goto (pc := 11) dX7_in1_11 (tgt := 15) rfl ?_
      refine x_iret (pc := 15) dX7_in1_15 rfl (by first | rfl | exact fv_nz _) ?_
      refine ⟨?_, rfl⟩
      first | exact fv_rf (fun q => absurd h2 (Int32.not_lt.mpr q.1)) | exact fv_rf (fun q => absurd h7 (Int32.not_lt.mpr q.2)) | exact fv_rt ⟨Int32.not_lt.mp h2, Int32.not_lt.mp h7⟩
theorem hX7_less {E : fv_E} {d : Nat} {a b : Int32} {M : fv_M} : fv_F E d mX7_less [.int a, .int b] M (some (.int (pMin b a))) M := by
  refine fv_F.of (ls := [some (.int a), some (.int b)]) (by decide) (Nat.le_of_ble_eq_true rfl) rfl ?_
  refine x_iload_n (pc := 0) dX7_less_0 rfl rfl ?_
  refine x_iload_n (pc := 1) dX7_less_1 rfl rfl ?_
  refine x_icmp_ge (pc := 2) dX7_less_2 (tgt := 9) rfl (fun h2 => ?_) (fun h2 => ?_)
  ·
    refine x_iload_n (pc := 9) dX7_less_9 rfl rfl ?_
    refine x_iret (pc := 10) dX7_less_10 rfl (by first | rfl | exact fv_nz _) ?_
    refine ⟨?_, rfl⟩
    unfold pMin
    first | rw [if_pos (Int32.not_le.mp h2)] | rw [if_neg (Int32.not_lt.mpr h2)] | rw [if_pos h2] | rw [if_neg h2]
  ·
    refine x_iload_n (pc := 5) dX7_less_5 rfl rfl ?_
    refine x_goto (pc := 6) dX7_less_6 (tgt := 10) rfl ?_
    refine x_iret (pc := 10) dX7_less_10 rfl (by first | rfl | exact fv_nz _) ?_
    refine ⟨?_, rfl⟩
    unfold pMin
    first | rw [if_pos (Int32.not_le.mp h2)] | rw [if_neg (Int32.not_lt.mpr h2)] | rw [if_pos h2] | rw [if_neg h2]
theorem pMin_comm (a b : Int32) : pMin a b = pMin b a := by
  unfold pMin
  by_cases h : b < a
  · rw [if_pos h, if_neg (fun q => absurd h (Int32.not_lt.mpr (Int32.le_of_lt q)))]
  · rw [if_neg h]
    by_cases h2 : a < b
    · rw [if_pos h2]
    · rw [if_neg h2]; exact Int32.le_antisymm (Int32.not_lt.mp h) (Int32.not_lt.mp h2)
def pKn (x : Int32) : Nat → Int32
  | 0 => x
  | n + 1 => pKn x n &&& (pKn x n - 1)
theorem pKn_all : ((List.range 256).all fun k => decide (pKn (nI k) (pBc k) = 0) && (List.range (pBc k)).all fun j => decide (¬ pKn (nI k) j = 0)) = true := by decide +kernel
theorem hX7_bits {E : fv_E} {d k : Nat} {M : fv_M} (hk : k < 256) : fv_F E d mX7_bits [.int (nI k)] M (some (.int (nI (pBc k)))) M := by
  have h := fv_all1 pKn_all hk
  rw [Bool.and_eq_true] at h
  have h1 := of_decide_eq_true h.1
  have h2 : ∀ j, j < pBc k → ¬ pKn (nI k) j = 0 := fun j hj => of_decide_eq_true (fv_all1 h.2 hj)
  refine fv_F.of (ls := [some (.int (nI k)), none, none]) (by decide) (Nat.le_of_ble_eq_true rfl) rfl ?_
  refine x_iconst (pc := 0) (v := 0) dX7_bits_0 rfl ?_
  refine x_istore_n1 (pc := 1) dX7_bits_1 rfl ?_
  refine x_iload_n (pc := 2) dX7_bits_2 rfl rfl ?_
  refine x_istore_n2 (pc := 3) dX7_bits_3 rfl ?_
  refine x_loop (fun j => [some (.int (nI k)), some (.int (nI j)), some (.int (pKn (nI k) j))]) (fun _ => M) (pBc k) rfl rfl (fun j hj hL => ?_) ?_
  · show fv_X E mX7_bits _ _ 4 [some (.int (nI k)), some (.int (nI j)), some (.int (pKn (nI k) j))] [] M
    replace hL : fv_X E mX7_bits _ _ 4 [some (.int (nI k)), some (.int (nI (j + 1))), some (.int (pKn (nI k) (j + 1)))] [] M := hL
    refine x_iload_n (pc := 4) dX7_bits_4 rfl rfl ?_
    refine x_if_eq (pc := 5) dX7_bits_5 (tgt := 20) rfl (fun h5 => ?_) (fun h5 => ?_)
    ·
      exact absurd (by first | exact Decidable.not_not.mp h5 | exact h5) (h2 j hj)
    ·
      refine x_iinc1 (pc := 8) dX7_bits_8 (by first | exact fv_inc _ | exact fv_dec _ | rfl) rfl ?_
      refine x_iload_n (pc := 11) dX7_bits_11 rfl rfl ?_
      refine x_iload_n (pc := 12) dX7_bits_12 rfl rfl ?_
      refine x_iconst (pc := 13) (v := 1) dX7_bits_13 rfl ?_
      refine x_isub (pc := 14) dX7_bits_14 ?_
      refine x_iand (pc := 15) dX7_bits_15 ?_
      refine x_istore_n2 (pc := 16) dX7_bits_16 rfl ?_
      refine x_goto (pc := 17) dX7_bits_17 (tgt := 4) rfl ?_
      exact hL
  · show fv_X E mX7_bits _ _ 4 [some (.int (nI k)), some (.int (nI (pBc k))), some (.int (pKn (nI k) (pBc k)))] [] M
    refine x_iload_n (pc := 4) dX7_bits_4 rfl rfl ?_
    refine x_if_eq (pc := 5) dX7_bits_5 (tgt := 20) rfl (fun h5 => ?_) (fun h5 => ?_)
    ·
      refine x_iload_n (pc := 20) dX7_bits_20 rfl rfl ?_
      refine x_iret (pc := 21) dX7_bits_21 rfl (by first | rfl | exact fv_nz _) ?_
      exact ⟨rfl, rfl⟩
    ·
      exact absurd h1 h5
theorem pOne (x : Int32) : x &&& 1 = 1 ↔ ¬ x &&& 1 = 0 := by
  have h := pk_and x (m := 1) 1 (by decide)
  rw [h]
  rcases Nat.mod_two_eq_zero_or_one x.toBitVec.toNat with e | e
  · rw [show (2 : Nat) ^ 1 = 2 from rfl, e]; decide
  · rw [show (2 : Nat) ^ 1 = 2 from rfl, e]; decide
theorem hX7_isIn {E : fv_E} {d k : Nat} {w : Int32} {M : fv_M} : fv_F E d mX7_isIn [.int w, .int (nI k)] M (some (.int (bI (pIn w k)))) M := by
  refine fv_F.of (ls := [some (.int w), some (.int (nI k))]) (by decide) (Nat.le_of_ble_eq_true rfl) rfl ?_
  refine x_iload_n (pc := 0) dX7_isIn_0 rfl rfl ?_
  refine x_iload_n (pc := 1) dX7_isIn_1 rfl rfl ?_
  refine x_ishr (pc := 2) dX7_isIn_2 ?_
  refine x_iconst (pc := 3) (v := 1) dX7_isIn_3 rfl ?_
  refine x_iand (pc := 4) dX7_isIn_4 ?_
  refine x_iconst (pc := 5) (v := 1) dX7_isIn_5 rfl ?_
  refine x_icmp_ne (pc := 6) dX7_isIn_6 (tgt := 13) rfl (fun h6 => ?_) (fun h6 => ?_)
  ·
    refine x_iconst (pc := 13) (v := 0) dX7_isIn_13 rfl ?_
    refine x_iret (pc := 14) dX7_isIn_14 rfl (by first | rfl | exact fv_nz _) ?_
    first | exact ⟨by rw [bI_t ((pOne _).mp (Decidable.not_not.mp h6))], rfl⟩ | exact ⟨by rw [bI_t ((pOne _).mp h6)], rfl⟩ | exact ⟨by rw [bI_f (fun q => h6 ((pOne _).mpr q))], rfl⟩
  ·
    refine x_iconst (pc := 9) (v := 1) dX7_isIn_9 rfl ?_
    refine x_goto (pc := 10) dX7_isIn_10 (tgt := 14) rfl ?_
    refine x_iret (pc := 14) dX7_isIn_14 rfl (by first | rfl | exact fv_nz _) ?_
    first | exact ⟨by rw [bI_t ((pOne _).mp (Decidable.not_not.mp h6))], rfl⟩ | exact ⟨by rw [bI_t ((pOne _).mp h6)], rfl⟩ | exact ⟨by rw [bI_f (fun q => h6 ((pOne _).mpr q))], rfl⟩
theorem hX7_isBird {E : fv_E} {d : Nat} {k x : Int32} {M : fv_M} (hB : M 22 1 = x) : fv_F E (d + 1) mX7_isBird [.ref 106, .int k] M (some (.int (bI (0 ≤ k ∧ k ≤ x - 1)))) M := by
  refine fv_F.of (ls := [some (.ref 106), some (.int k)]) (by decide) (Nat.le_of_ble_eq_true rfl) rfl ?_
  refine x_iload_n (pc := 0) dX7_isBird_0 rfl rfl ?_
  refine x_iconst (pc := 1) (v := 0) dX7_isBird_1 rfl ?_
  refine x_aload_n (pc := 2) dX7_isBird_2 rfl rfl ?_
  refine x_geta (pc := 3) fl_X7_9 dX7_isBird_3 (tb_106) rfl ?_
  refine x_iconst (pc := 6) (v := 1) dX7_isBird_6 rfl ?_
  refine x_iale (pc := 7) dX7_isBird_7 (tb_107) ((rfl : (1 : Int32) = nI 1)) (by decide) (by first | decide | assumption) (hB) ?_
  refine x_iconst (pc := 8) (v := 1) dX7_isBird_8 rfl ?_
  refine x_isub (pc := 9) dX7_isBird_9 ?_
  refine x_Si (pc := 10) ks_X7_60 dX7_isBird_10 (hX7_in1) rfl rfl rfl (Nat.le_of_ble_eq_true rfl) ?_
  refine x_iret (pc := 13) dX7_isBird_13 rfl (by first | rfl | exact fv_nz _) ?_
  exact ⟨rfl, rfl⟩
theorem hX7_isMotion {E : fv_E} {d : Nat} {k x : Int32} {M : fv_M} (hM : M 22 2 = x) : fv_F E (d + 1) mX7_isMotion [.ref 106, .int k] M (some (.int (bI (0 ≤ k ∧ k ≤ x - 1)))) M := by
  refine fv_F.of (ls := [some (.ref 106), some (.int k)]) (by decide) (Nat.le_of_ble_eq_true rfl) rfl ?_
  refine x_iload_n (pc := 0) dX7_isMotion_0 rfl rfl ?_
  refine x_iconst (pc := 1) (v := 0) dX7_isMotion_1 rfl ?_
  refine x_aload_n (pc := 2) dX7_isMotion_2 rfl rfl ?_
  refine x_geta (pc := 3) fl_X7_9 dX7_isMotion_3 (tb_106) rfl ?_
  refine x_iconst (pc := 6) (v := 2) dX7_isMotion_6 rfl ?_
  refine x_iale (pc := 7) dX7_isMotion_7 (tb_107) ((rfl : (2 : Int32) = nI 2)) (by decide) (by first | decide | assumption) (hM) ?_
  refine x_iconst (pc := 8) (v := 1) dX7_isMotion_8 rfl ?_
  refine x_isub (pc := 9) dX7_isMotion_9 ?_
  refine x_Si (pc := 10) ks_X7_60 dX7_isMotion_10 (hX7_in1) rfl rfl rfl (Nat.le_of_ble_eq_true rfl) ?_
  refine x_iret (pc := 13) dX7_isMotion_13 rfl (by first | rfl | exact fv_nz _) ?_
  exact ⟨rfl, rfl⟩
theorem fB_ix (k f : Nat) : 8 + 7 * nI k + nI f = nI (fB k f) := by
  show nI 8 + nI 7 * nI k + nI f = _
  rw [pk_mul, nI_add, nI_add]; rfl
theorem fM_ix (k f : Nat) : 64 + 5 * nI k + nI f = nI (fM k f) := by
  show nI 64 + nI 5 * nI k + nI f = _
  rw [pk_mul, nI_add, nI_add]; rfl
theorem hX7_get {E : fv_E} {d k f : Nat} {M : fv_M} (hk : k < 8) (hf : f < 7) : fv_F E d mX7_get [.ref 106, .int (nI k), .int (nI f)] M (some (.int (M 22 (fB k f)))) M := by
  refine fv_F.of (ls := [some (.ref 106), some (.int (nI k)), some (.int (nI f))]) (by decide) (Nat.le_of_ble_eq_true rfl) rfl ?_
  refine x_aload_n (pc := 0) dX7_get_0 rfl rfl ?_
  refine x_geta (pc := 1) fl_X7_9 dX7_get_1 (tb_106) rfl ?_
  refine x_bipush (pc := 4) (v := 8) dX7_get_4 rfl ?_
  refine x_bipush (pc := 6) (v := 7) dX7_get_6 rfl ?_
  refine x_iload_n (pc := 8) dX7_get_8 rfl rfl ?_
  refine x_imul (pc := 9) dX7_get_9 ?_
  refine x_iadd (pc := 10) dX7_get_10 ?_
  refine x_iload_n (pc := 11) dX7_get_11 rfl rfl ?_
  refine x_iadd (pc := 12) dX7_get_12 ?_
  refine x_iald (pc := 13) dX7_get_13 (tb_107) (fB_ix k f) (by unfold fB; omega) (by first | decide | assumption) ?_
  refine x_iret (pc := 14) dX7_get_14 rfl (by first | rfl | exact fv_nz _) ?_
  exact ⟨by rw [Nat.zero_add], rfl⟩
theorem hX7_puts {E : fv_E} {d k f : Nat} {v : Int32} {M : fv_M} (hk : k < 8) (hf : f < 7) : fv_F E d mX7_puts [.ref 106, .int (nI k), .int (nI f), .int v] M none (fv_s M 22 (fv_u (M 22) (fB k f) v)) := by
  refine fv_F.of (ls := [some (.ref 106), some (.int (nI k)), some (.int (nI f)), some (.int v)]) (by decide) (Nat.le_of_ble_eq_true rfl) rfl ?_
  refine x_aload_n (pc := 0) dX7_puts_0 rfl rfl ?_
  refine x_geta (pc := 1) fl_X7_9 dX7_puts_1 (tb_106) rfl ?_
  refine x_bipush (pc := 4) (v := 8) dX7_puts_4 rfl ?_
  refine x_bipush (pc := 6) (v := 7) dX7_puts_6 rfl ?_
  refine x_iload_n (pc := 8) dX7_puts_8 rfl rfl ?_
  refine x_imul (pc := 9) dX7_puts_9 ?_
  refine x_iadd (pc := 10) dX7_puts_10 ?_
  refine x_iload_n (pc := 11) dX7_puts_11 rfl rfl ?_
  refine x_iadd (pc := 12) dX7_puts_12 ?_
  refine x_iload_n (pc := 13) dX7_puts_13 rfl rfl ?_
  refine x_iast (pc := 14) dX7_puts_14 (tb_107) (fB_ix k f) (by unfold fB; omega) (by first | decide | assumption) ?_
  refine x_ret (pc := 15) dX7_puts_15 rfl ?_
  exact ⟨rfl, by rw [Nat.zero_add]⟩
theorem hX7_of1 {E : fv_E} {d k f : Nat} {M : fv_M} (hk : k < 8) (hf : f < 5) : fv_F E d mX7_of1 [.ref 106, .int (nI k), .int (nI f)] M (some (.int (M 22 (fM k f)))) M := by
  refine fv_F.of (ls := [some (.ref 106), some (.int (nI k)), some (.int (nI f))]) (by decide) (Nat.le_of_ble_eq_true rfl) rfl ?_
  refine x_aload_n (pc := 0) dX7_of1_0 rfl rfl ?_
  refine x_geta (pc := 1) fl_X7_9 dX7_of1_1 (tb_106) rfl ?_
  refine x_bipush (pc := 4) (v := 64) dX7_of1_4 rfl ?_
  refine x_iconst (pc := 6) (v := 5) dX7_of1_6 rfl ?_
  refine x_iload_n (pc := 7) dX7_of1_7 rfl rfl ?_
  refine x_imul (pc := 8) dX7_of1_8 ?_
  refine x_iadd (pc := 9) dX7_of1_9 ?_
  refine x_iload_n (pc := 10) dX7_of1_10 rfl rfl ?_
  refine x_iadd (pc := 11) dX7_of1_11 ?_
  refine x_iald (pc := 12) dX7_of1_12 (tb_107) (fM_ix k f) (by unfold fM; omega) (by first | decide | assumption) ?_
  refine x_iret (pc := 13) dX7_of1_13 rfl (by first | rfl | exact fv_nz _) ?_
  exact ⟨by rw [Nat.zero_add], rfl⟩
theorem hX7_puts1 {E : fv_E} {d k f : Nat} {v : Int32} {M : fv_M} (hk : k < 8) (hf : f < 5) : fv_F E d mX7_puts1 [.ref 106, .int (nI k), .int (nI f), .int v] M none (fv_s M 22 (fv_u (M 22) (fM k f) v)) := by
  refine fv_F.of (ls := [some (.ref 106), some (.int (nI k)), some (.int (nI f)), some (.int v)]) (by decide) (Nat.le_of_ble_eq_true rfl) rfl ?_
  refine x_aload_n (pc := 0) dX7_puts1_0 rfl rfl ?_
  refine x_geta (pc := 1) fl_X7_9 dX7_puts1_1 (tb_106) rfl ?_
  refine x_bipush (pc := 4) (v := 64) dX7_puts1_4 rfl ?_
  refine x_iconst (pc := 6) (v := 5) dX7_puts1_6 rfl ?_
  refine x_iload_n (pc := 7) dX7_puts1_7 rfl rfl ?_
  refine x_imul (pc := 8) dX7_puts1_8 ?_
  refine x_iadd (pc := 9) dX7_puts1_9 ?_
  refine x_iload_n (pc := 10) dX7_puts1_10 rfl rfl ?_
  refine x_iadd (pc := 11) dX7_puts1_11 ?_
  refine x_iload_n (pc := 12) dX7_puts1_12 rfl rfl ?_
  refine x_iast (pc := 13) dX7_puts1_13 (tb_107) (fM_ix k f) (by unfold fM; omega) (by first | decide | assumption) ?_
  refine x_ret (pc := 14) dX7_puts1_14 rfl ?_
  exact ⟨rfl, by rw [Nat.zero_add]⟩
theorem hX7_allBirds {E : fv_E} {d nb : Nat} {M : fv_M} (hB : M 22 1 = nI nb) : fv_F E d mX7_allBirds [.ref 106] M (some (.int (pAll nb))) M := by
  refine fv_F.of (ls := [some (.ref 106)]) (by decide) (Nat.le_of_ble_eq_true rfl) rfl ?_
  refine x_iconst (pc := 0) (v := 1) dX7_allBirds_0 rfl ?_
  refine x_aload_n (pc := 1) dX7_allBirds_1 rfl rfl ?_
  refine x_geta (pc := 2) fl_X7_9 dX7_allBirds_2 (tb_106) rfl ?_
  refine x_iconst (pc := 5) (v := 1) dX7_allBirds_5 rfl ?_
  refine x_iale (pc := 6) dX7_allBirds_6 (tb_107) ((rfl : (1 : Int32) = nI 1)) (by decide) (by first | decide | assumption) (hB) ?_
  refine x_ishl (pc := 7) dX7_allBirds_7 ?_
  refine x_iconst (pc := 8) (v := 1) dX7_allBirds_8 rfl ?_
  refine x_isub (pc := 9) dX7_allBirds_9 ?_
  refine x_iret (pc := 10) dX7_allBirds_10 rfl (by first | rfl | exact fv_nz _) ?_
  exact ⟨rfl, rfl⟩
def pCpy (g f : Nat → Int32) (n : Nat) : Nat → Int32 := fun i => if i < n then f i else g i
theorem pCpy_0 (g f : Nat → Int32) : pCpy g f 0 = g := by funext i; unfold pCpy; rw [if_neg (Nat.not_lt_zero i)]
theorem pCpy_s (g f : Nat → Int32) (n : Nat) : fv_u (pCpy g f n) n (f n) = pCpy g f (n + 1) := by
  funext i
  unfold fv_u pCpy
  by_cases h : i = n
  · rw [if_pos h, if_pos (by omega), h]
  · rw [if_neg h]
    by_cases h2 : i < n
    · rw [if_pos h2, if_pos (by omega)]
    · rw [if_neg h2, if_neg (by omega)]
theorem hX7_setsAside {E : fv_E} {d : Nat} {M : fv_M} : fv_F E d mX7_setsAside [.ref 106] M none (fv_s M 24 (pCpy (M 24) (M 22) 114)) := by
  refine fv_F.of (ls := [some (.ref 106), none]) (by decide) (Nat.le_of_ble_eq_true rfl) rfl ?_
  refine x_iconst (pc := 0) (v := 0) dX7_setsAside_0 rfl ?_
  refine x_istore_n1 (pc := 1) dX7_setsAside_1 rfl ?_
  refine x_loop (fun j => [some (.ref 106), some (.int (nI j))]) (fun j => fv_s M 24 (pCpy (M 24) (M 22) j)) (114) (rfl) (by rw [pCpy_0, fv_s_id]) (fun j hj hn2 => ?_) ?_
  ·
    replace hn2 : fv_X E mX7_setsAside _ _ 2 ([some (.ref 106), some (.int (nI (j + 1)))]) ([]) (fv_s M 24 (pCpy (M 24) (M 22) (j + 1))) := hn2
    show fv_X E mX7_setsAside _ _ 2 ([some (.ref 106), some (.int (nI j))]) ([]) (fv_s M 24 (pCpy (M 24) (M 22) j))
    refine x_iload_n (pc := 2) dX7_setsAside_2 rfl rfl ?_
    refine x_bipush (pc := 3) (v := 114) dX7_setsAside_3 rfl ?_
    refine x_icmp_ge (pc := 5) dX7_setsAside_5 (tgt := 26) rfl (fun h5 => ?_) (fun h5 => ?_)
    ·
      exact absurd h5 (nI_ge hj (by first | decide | omega))
    ·
      refine x_aload_n (pc := 8) dX7_setsAside_8 rfl rfl ?_
      refine x_geta (pc := 9) fl_X7_16 dX7_setsAside_9 (tb_106) rfl ?_
      refine x_iload_n (pc := 12) dX7_setsAside_12 rfl rfl ?_
      refine x_aload_n (pc := 13) dX7_setsAside_13 rfl rfl ?_
      refine x_geta (pc := 14) fl_X7_9 dX7_setsAside_14 (tb_106) rfl ?_
      refine x_iload_n (pc := 17) dX7_setsAside_17 rfl rfl ?_
      refine x_iald (pc := 18) dX7_setsAside_18 (tb_107) (rfl) (by first | assumption | decide | omega) (by first | decide | assumption) ?_
      refine x_iast (pc := 19) dX7_setsAside_19 (tb_109) (rfl) (by first | assumption | decide | omega) (by first | decide | assumption) ?_
      rw [fv_s_same, fv_s_s, fv_s_ne _ _ (by decide), Nat.zero_add, pCpy_s]
      refine x_iinc1 (pc := 20) dX7_setsAside_20 (by first | exact fv_inc _ | exact fv_dec _ | rfl) rfl ?_
      refine x_goto (pc := 23) dX7_setsAside_23 (tgt := 2) rfl ?_
      exact hn2
  ·
    show fv_X E mX7_setsAside _ _ 2 ([some (.ref 106), some (.int (nI (114)))]) ([]) (fv_s M 24 (pCpy (M 24) (M 22) (114)))
    refine x_iload_n (pc := 2) dX7_setsAside_2 rfl rfl ?_
    refine x_bipush (pc := 3) (v := 114) dX7_setsAside_3 rfl ?_
    refine x_icmp_ge (pc := 5) dX7_setsAside_5 (tgt := 26) rfl (fun h5 => ?_) (fun h5 => ?_)
    ·
      refine x_ret (pc := 26) dX7_setsAside_26 rfl ?_
      exact ⟨rfl, rfl⟩
    ·
      exact absurd (Int32.le_refl _) h5
theorem hX7_laysBack {E : fv_E} {d : Nat} {M : fv_M} : fv_F E d mX7_laysBack [.ref 106] M none (fv_s M 22 (pCpy (M 22) (M 24) 114)) := by
  refine fv_F.of (ls := [some (.ref 106), none]) (by decide) (Nat.le_of_ble_eq_true rfl) rfl ?_
  refine x_iconst (pc := 0) (v := 0) dX7_laysBack_0 rfl ?_
  refine x_istore_n1 (pc := 1) dX7_laysBack_1 rfl ?_
  refine x_loop (fun j => [some (.ref 106), some (.int (nI j))]) (fun j => fv_s M 22 (pCpy (M 22) (M 24) j)) (114) (rfl) (by rw [pCpy_0, fv_s_id]) (fun j hj hn2 => ?_) ?_
  ·
    replace hn2 : fv_X E mX7_laysBack _ _ 2 ([some (.ref 106), some (.int (nI (j + 1)))]) ([]) (fv_s M 22 (pCpy (M 22) (M 24) (j + 1))) := hn2
    show fv_X E mX7_laysBack _ _ 2 ([some (.ref 106), some (.int (nI j))]) ([]) (fv_s M 22 (pCpy (M 22) (M 24) j))
    refine x_iload_n (pc := 2) dX7_laysBack_2 rfl rfl ?_
    refine x_bipush (pc := 3) (v := 114) dX7_laysBack_3 rfl ?_
    refine x_icmp_ge (pc := 5) dX7_laysBack_5 (tgt := 26) rfl (fun h5 => ?_) (fun h5 => ?_)
    ·
      exact absurd h5 (nI_ge hj (by first | decide | omega))
    ·
      refine x_aload_n (pc := 8) dX7_laysBack_8 rfl rfl ?_
      refine x_geta (pc := 9) fl_X7_9 dX7_laysBack_9 (tb_106) rfl ?_
      refine x_iload_n (pc := 12) dX7_laysBack_12 rfl rfl ?_
      refine x_aload_n (pc := 13) dX7_laysBack_13 rfl rfl ?_
      refine x_geta (pc := 14) fl_X7_16 dX7_laysBack_14 (tb_106) rfl ?_
      refine x_iload_n (pc := 17) dX7_laysBack_17 rfl rfl ?_
      refine x_iald (pc := 18) dX7_laysBack_18 (tb_109) (rfl) (by first | assumption | decide | omega) (by first | decide | assumption) ?_
      refine x_iast (pc := 19) dX7_laysBack_19 (tb_107) (rfl) (by first | assumption | decide | omega) (by first | decide | assumption) ?_
      rw [fv_s_same, fv_s_s, fv_s_ne _ _ (by decide), Nat.zero_add, pCpy_s]
      refine x_iinc1 (pc := 20) dX7_laysBack_20 (by first | exact fv_inc _ | exact fv_dec _ | rfl) rfl ?_
      refine x_goto (pc := 23) dX7_laysBack_23 (tgt := 2) rfl ?_
      exact hn2
  ·
    show fv_X E mX7_laysBack _ _ 2 ([some (.ref 106), some (.int (nI (114)))]) ([]) (fv_s M 22 (pCpy (M 22) (M 24) (114)))
    refine x_iload_n (pc := 2) dX7_laysBack_2 rfl rfl ?_
    refine x_bipush (pc := 3) (v := 114) dX7_laysBack_3 rfl ?_
    refine x_icmp_ge (pc := 5) dX7_laysBack_5 (tgt := 26) rfl (fun h5 => ?_) (fun h5 => ?_)
    ·
      refine x_ret (pc := 26) dX7_laysBack_26 rfl ?_
      exact ⟨rfl, rfl⟩
    ·
      exact absurd (Int32.le_refl _) h5
theorem hX7_feathers {E : fv_E} {d k : Nat} {M : fv_M} (hk : k < 8) : fv_F E (d + 1) mX7_feathers [.ref 106, .int (nI k)] M (some (.int (pFe (M 22) k))) M := by
  refine fv_F.of (ls := [some (.ref 106), some (.int (nI k))]) (by decide) (Nat.le_of_ble_eq_true rfl) rfl ?_
  refine x_aload_n (pc := 0) dX7_feathers_0 rfl rfl ?_
  refine x_iload_n (pc := 1) dX7_feathers_1 rfl rfl ?_
  refine x_iconst (pc := 2) (v := 3) dX7_feathers_2 rfl ?_
  refine x_Vi (pc := 3) ks_X7_64 dX7_feathers_3 (tb_106) rfl rfl (hX7_get (f := 3) hk (by decide)) rfl rfl rfl (Nat.le_of_ble_eq_true rfl) ?_
  refine x_aload_n (pc := 6) dX7_feathers_6 rfl rfl ?_
  refine x_iload_n (pc := 7) dX7_feathers_7 rfl rfl ?_
  refine x_iconst (pc := 8) (v := 4) dX7_feathers_8 rfl ?_
  refine x_Vi (pc := 9) ks_X7_64 dX7_feathers_9 (tb_106) rfl rfl (hX7_get (f := 4) hk (by decide)) rfl rfl rfl (Nat.le_of_ble_eq_true rfl) ?_
  refine x_iadd (pc := 12) dX7_feathers_12 ?_
  refine x_aload_n (pc := 13) dX7_feathers_13 rfl rfl ?_
  refine x_iload_n (pc := 14) dX7_feathers_14 rfl rfl ?_
  refine x_iconst (pc := 15) (v := 5) dX7_feathers_15 rfl ?_
  refine x_Vi (pc := 16) ks_X7_64 dX7_feathers_16 (tb_106) rfl rfl (hX7_get (f := 5) hk (by decide)) rfl rfl rfl (Nat.le_of_ble_eq_true rfl) ?_
  refine x_iadd (pc := 19) dX7_feathers_19 ?_
  refine x_aload_n (pc := 20) dX7_feathers_20 rfl rfl ?_
  refine x_iload_n (pc := 21) dX7_feathers_21 rfl rfl ?_
  refine x_bipush (pc := 22) (v := 6) dX7_feathers_22 rfl ?_
  refine x_Vi (pc := 24) ks_X7_64 dX7_feathers_24 (tb_106) rfl rfl (hX7_get (f := 6) hk (by decide)) rfl rfl rfl (Nat.le_of_ble_eq_true rfl) ?_
  refine x_iadd (pc := 27) dX7_feathers_27 ?_
  refine x_iret (pc := 28) dX7_feathers_28 rfl (by first | rfl | exact fv_nz _) ?_
  refine ⟨?_, rfl⟩
  show _ = some (Value.int (0 + M 22 (fB k 3 + 0) + M 22 (fB k 3 + 1) + M 22 (fB k 3 + 2) + M 22 (fB k 3 + 3)))
  rw [Int32.zero_add]
  rfl
theorem hX7_allFeathers {E : fv_E} {d nb : Nat} {M : fv_M} (hB : M 22 1 = nI nb) (hb : nb ≤ 8) : fv_F E (d + 2) mX7_allFeathers [.ref 106] M (some (.int (pAf (M 22) nb))) M := by
  refine fv_F.of (ls := [some (.ref 106), none, none]) (by decide) (Nat.le_of_ble_eq_true rfl) rfl ?_
  refine x_iconst (pc := 0) (v := 0) dX7_allFeathers_0 rfl ?_
  refine x_istore_n1 (pc := 1) dX7_allFeathers_1 rfl ?_
  refine x_iconst (pc := 2) (v := 0) dX7_allFeathers_2 rfl ?_
  refine x_istore_n2 (pc := 3) dX7_allFeathers_3 rfl ?_
  refine x_loop (fun j => [some (.ref 106), some (.int (pAf (M 22) j)), some (.int (nI j))]) (fun j => M) (nb) (rfl) (rfl) (fun j hj hn4 => ?_) ?_
  ·
    replace hn4 : fv_X E mX7_allFeathers _ _ 4 ([some (.ref 106), some (.int (pAf (M 22) (j + 1))), some (.int (nI (j + 1)))]) ([]) (M) := hn4
    show fv_X E mX7_allFeathers _ _ 4 ([some (.ref 106), some (.int (pAf (M 22) j)), some (.int (nI j))]) ([]) (M)
    refine x_iload_n (pc := 4) dX7_allFeathers_4 rfl rfl ?_
    refine x_aload_n (pc := 5) dX7_allFeathers_5 rfl rfl ?_
    refine x_geta (pc := 6) fl_X7_9 dX7_allFeathers_6 (tb_106) rfl ?_
    refine x_iconst (pc := 9) (v := 1) dX7_allFeathers_9 rfl ?_
    refine x_iale (pc := 10) dX7_allFeathers_10 (tb_107) ((rfl : (1 : Int32) = nI 1)) (by decide) (by first | decide | assumption) (hB) ?_
    refine x_icmp_ge (pc := 11) dX7_allFeathers_11 (tgt := 28) rfl (fun h11 => ?_) (fun h11 => ?_)
    ·
      exact absurd h11 (nI_ge hj (by first | decide | omega))
    ·
      refine x_iload_n (pc := 14) dX7_allFeathers_14 rfl rfl ?_
      refine x_aload_n (pc := 15) dX7_allFeathers_15 rfl rfl ?_
      refine x_iload_n (pc := 16) dX7_allFeathers_16 rfl rfl ?_
      refine x_Vi (pc := 17) ks_X7_68 dX7_allFeathers_17 (tb_106) rfl rfl (hX7_feathers (by omega)) rfl rfl rfl (Nat.le_of_ble_eq_true rfl) ?_
      refine x_iadd (pc := 20) dX7_allFeathers_20 ?_
      refine x_istore_n1 (pc := 21) dX7_allFeathers_21 rfl ?_
      refine x_iinc2 (pc := 22) dX7_allFeathers_22 (by first | exact fv_inc _ | exact fv_dec _ | rfl) rfl ?_
      refine x_goto (pc := 25) dX7_allFeathers_25 (tgt := 4) rfl ?_
      exact hn4
  ·
    show fv_X E mX7_allFeathers _ _ 4 ([some (.ref 106), some (.int (pAf (M 22) (nb))), some (.int (nI (nb)))]) ([]) (M)
    refine x_iload_n (pc := 4) dX7_allFeathers_4 rfl rfl ?_
    refine x_aload_n (pc := 5) dX7_allFeathers_5 rfl rfl ?_
    refine x_geta (pc := 6) fl_X7_9 dX7_allFeathers_6 (tb_106) rfl ?_
    refine x_iconst (pc := 9) (v := 1) dX7_allFeathers_9 rfl ?_
    refine x_iale (pc := 10) dX7_allFeathers_10 (tb_107) ((rfl : (1 : Int32) = nI 1)) (by decide) (by first | decide | assumption) (hB) ?_
    refine x_icmp_ge (pc := 11) dX7_allFeathers_11 (tgt := 28) rfl (fun h11 => ?_) (fun h11 => ?_)
    ·
      refine x_iload_n (pc := 28) dX7_allFeathers_28 rfl rfl ?_
      refine x_iret (pc := 29) dX7_allFeathers_29 rfl (by first | rfl | exact fv_nz _) ?_
      exact ⟨rfl, rfl⟩
    ·
      exact absurd (Int32.le_refl _) h11
theorem hX7_doesFly {E : fv_E} {d k : Nat} {M : fv_M} (hk : k < 8) : fv_F E (d + 2) mX7_doesFly [.ref 106, .int (nI k)] M (some (.int (bI (M 22 (fB k 1) ≤ pFe (M 22) k)))) M := by
  refine fv_F.of (ls := [some (.ref 106), some (.int (nI k))]) (by decide) (Nat.le_of_ble_eq_true rfl) rfl ?_
  refine x_aload_n (pc := 0) dX7_doesFly_0 rfl rfl ?_
  refine x_iload_n (pc := 1) dX7_doesFly_1 rfl rfl ?_
  refine x_Vi (pc := 2) ks_X7_68 dX7_doesFly_2 (tb_106) rfl rfl (hX7_feathers hk) rfl rfl rfl (Nat.le_of_ble_eq_true rfl) ?_
  refine x_aload_n (pc := 5) dX7_doesFly_5 rfl rfl ?_
  refine x_iload_n (pc := 6) dX7_doesFly_6 rfl rfl ?_
  refine x_iconst (pc := 7) (v := 1) dX7_doesFly_7 rfl ?_
  refine x_Vi (pc := 8) ks_X7_64 dX7_doesFly_8 (tb_106) rfl rfl (hX7_get (f := 1) hk (by decide)) rfl rfl rfl (Nat.le_of_ble_eq_true rfl) ?_
  refine x_icmp_lt (pc := 11) dX7_doesFly_11 (tgt := 18) rfl (fun h11 => ?_) (fun h11 => ?_)
  ·
    refine x_iconst (pc := 18) (v := 0) dX7_doesFly_18 rfl ?_
    refine x_iret (pc := 19) dX7_doesFly_19 rfl (by first | rfl | exact fv_nz _) ?_
    refine ⟨?_, rfl⟩
    first | exact fv_rt (Int32.not_lt.mp h11) | exact fv_rf (fun q => absurd h11 (Int32.not_lt.mpr q))
  ·
    refine x_iconst (pc := 14) (v := 1) dX7_doesFly_14 rfl ?_
    refine x_goto (pc := 15) dX7_doesFly_15 (tgt := 19) rfl ?_
    refine x_iret (pc := 19) dX7_doesFly_19 rfl (by first | rfl | exact fv_nz _) ?_
    refine ⟨?_, rfl⟩
    first | exact fv_rt (Int32.not_lt.mp h11) | exact fv_rf (fun q => absurd h11 (Int32.not_lt.mpr q))
theorem hX7_flying {E : fv_E} {d nb : Nat} {M : fv_M} (hB : M 22 1 = nI nb) (hb : nb ≤ 8) : fv_F E (d + 3) mX7_flying [.ref 106] M (some (.int (pFy (M 22) nb))) M := by
  refine fv_F.of (ls := [some (.ref 106), none, none]) (by decide) (Nat.le_of_ble_eq_true rfl) rfl ?_
  refine x_iconst (pc := 0) (v := 0) dX7_flying_0 rfl ?_
  refine x_istore_n1 (pc := 1) dX7_flying_1 rfl ?_
  refine x_iconst (pc := 2) (v := 0) dX7_flying_2 rfl ?_
  refine x_istore_n2 (pc := 3) dX7_flying_3 rfl ?_
  refine x_loop (fun j => [some (.ref 106), some (.int (pFy (M 22) j)), some (.int (nI j))]) (fun j => M) (nb) (rfl) (rfl) (fun j hj hn4 => ?_) ?_
  ·
    replace hn4 : fv_X E mX7_flying _ _ 4 ([some (.ref 106), some (.int (pFy (M 22) (j + 1))), some (.int (nI (j + 1)))]) ([]) (M) := hn4
    show fv_X E mX7_flying _ _ 4 ([some (.ref 106), some (.int (pFy (M 22) j)), some (.int (nI j))]) ([]) (M)
    refine x_iload_n (pc := 4) dX7_flying_4 rfl rfl ?_
    refine x_aload_n (pc := 5) dX7_flying_5 rfl rfl ?_
    refine x_geta (pc := 6) fl_X7_9 dX7_flying_6 (tb_106) rfl ?_
    refine x_iconst (pc := 9) (v := 1) dX7_flying_9 rfl ?_
    refine x_iale (pc := 10) dX7_flying_10 (tb_107) ((rfl : (1 : Int32) = nI 1)) (by decide) (by first | decide | assumption) (hB) ?_
    refine x_icmp_ge (pc := 11) dX7_flying_11 (tgt := 38) rfl (fun h11 => ?_) (fun h11 => ?_)
    ·
      exact absurd h11 (nI_ge hj (by first | decide | omega))
    ·
      refine x_iload_n (pc := 14) dX7_flying_14 rfl rfl ?_
      refine x_aload_n (pc := 15) dX7_flying_15 rfl rfl ?_
      refine x_iload_n (pc := 16) dX7_flying_16 rfl rfl ?_
      refine x_Vi (pc := 17) ks_X7_72 dX7_flying_17 (tb_106) rfl rfl (hX7_doesFly (by omega)) rfl rfl rfl (Nat.le_of_ble_eq_true rfl) ?_
      refine x_ifb_eq (pc := 20) dX7_flying_20 (tgt := 29) rfl (fun h20 => ?_) (fun h20 => ?_)
      ·
        have e := pFy_f h20
        refine x_iconst (pc := 29) (v := 0) dX7_flying_29 rfl ?_
        refine x_ior (pc := 30) dX7_flying_30 ?_
        first | rw [Int32.or_zero, e] | rw [e]
        refine x_istore_n1 (pc := 31) dX7_flying_31 rfl ?_
        refine x_iinc2 (pc := 32) dX7_flying_32 (by first | exact fv_inc _ | exact fv_dec _ | rfl) rfl ?_
        refine x_goto (pc := 35) dX7_flying_35 (tgt := 4) rfl ?_
        exact hn4
      ·
        have e := pFy_t h20
        refine x_iconst (pc := 23) (v := 1) dX7_flying_23 rfl ?_
        refine x_iload_n (pc := 24) dX7_flying_24 rfl rfl ?_
        refine x_ishl (pc := 25) dX7_flying_25 ?_
        refine x_goto (pc := 26) dX7_flying_26 (tgt := 30) rfl ?_
        refine x_ior (pc := 30) dX7_flying_30 ?_
        first | rw [Int32.or_zero, e] | rw [e]
        refine x_istore_n1 (pc := 31) dX7_flying_31 rfl ?_
        refine x_iinc2 (pc := 32) dX7_flying_32 (by first | exact fv_inc _ | exact fv_dec _ | rfl) rfl ?_
        refine x_goto (pc := 35) dX7_flying_35 (tgt := 4) rfl ?_
        exact hn4
  ·
    show fv_X E mX7_flying _ _ 4 ([some (.ref 106), some (.int (pFy (M 22) (nb))), some (.int (nI (nb)))]) ([]) (M)
    refine x_iload_n (pc := 4) dX7_flying_4 rfl rfl ?_
    refine x_aload_n (pc := 5) dX7_flying_5 rfl rfl ?_
    refine x_geta (pc := 6) fl_X7_9 dX7_flying_6 (tb_106) rfl ?_
    refine x_iconst (pc := 9) (v := 1) dX7_flying_9 rfl ?_
    refine x_iale (pc := 10) dX7_flying_10 (tb_107) ((rfl : (1 : Int32) = nI 1)) (by decide) (by first | decide | assumption) (hB) ?_
    refine x_icmp_ge (pc := 11) dX7_flying_11 (tgt := 38) rfl (fun h11 => ?_) (fun h11 => ?_)
    ·
      refine x_iload_n (pc := 38) dX7_flying_38 rfl rfl ?_
      refine x_iret (pc := 39) dX7_flying_39 rfl (by first | rfl | exact fv_nz _) ?_
      exact ⟨rfl, rfl⟩
    ·
      exact absurd (Int32.le_refl _) h11
