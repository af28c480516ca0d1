/-! GOOD STATES -/
def pG1 (σ : Nat → Int32) (b : Nat) : Prop := (∃ k, k < 7 ∧ σ (fB b 0) = nI k) ∧ (∃ k, k < 100 ∧ σ (fB b 1) = nI k) ∧ (∃ k, k < 10 ∧ σ (fB b 2) = nI k) ∧ ∀ c, c < 4 → ∃ k, k < 100 ∧ σ (fB b 3 + c) = nI k
def pG2 (σ : Nat → Int32) (m : Nat) : Prop := (∃ k, k < 4 ∧ σ (fM m 0) = nI k) ∧ (∃ k, k < 100 ∧ σ (fM m 1) = nI k) ∧ (∃ k, k < 256 ∧ σ (fM m 2) = nI k) ∧ (∃ k, k < 5 ∧ σ (fM m 3) = nI k) ∧ (∃ k, k < 2 ∧ σ (fM m 4) = nI k)
theorem pG1_fe {σ : Nat → Int32} {b : Nat} (h : pG1 σ b) : ∃ x, x < 400 ∧ pFe σ b = nI x := by
  obtain ⟨-, -, -, hf⟩ := h
  obtain ⟨a0, h0, e0⟩ := hf 0 (by decide)
  obtain ⟨a1, h1, e1⟩ := hf 1 (by decide)
  obtain ⟨a2, h2, e2⟩ := hf 2 (by decide)
  obtain ⟨a3, h3, e3⟩ := hf 3 (by decide)
  refine ⟨a0 + a1 + a2 + a3, by omega, ?_⟩
  show 0 + σ (fB b 3 + 0) + σ (fB b 3 + 1) + σ (fB b 3 + 2) + σ (fB b 3 + 3) = _
  rw [Int32.zero_add, e0, e1, e2, e3, nI_add, nI_add, nI_add]
theorem pWr {x y : Nat} (hx : x < 1000) (hy : y < 1000) : (nI x - 1 < nI y) ↔ ¬ (nI y < nI x) := by
  cases x with
  | zero =>
    rw [nI_ltI (a := y) (b := 0) (by omega) (by omega)]
    refine ⟨fun _ => Nat.not_lt_zero _, fun _ => ?_⟩
    rw [show nI 0 - 1 = (-1 : Int32) by decide +kernel, Int32.lt_iff_toInt_lt, nI_toInt (by omega), show (-1 : Int32).toInt = -1 by decide +kernel]
    omega
  | succ k =>
    rw [nI_pred, nI_ltI (by omega) (by omega), nI_ltI (by omega) (by omega)]
    omega
theorem bI_iff {p q : Prop} [Decidable p] [Decidable q] : bI p = bI q ↔ (p ↔ q) := by
  unfold bI
  by_cases hp : p <;> by_cases hq : q <;> simp [hp, hq]
theorem pCrow_in {σ : Nat → Int32} {b : Nat} (h : ∃ k, k < 7 ∧ σ (fB b 0) = nI k) : (2 ≤ σ (fB b 0) ∧ σ (fB b 0) ≤ 4) ↔ pCrow σ b := by
  obtain ⟨k, hk, e⟩ := h
  unfold pCrow
  rw [e]
  match k, hk with
  | 0, _ => decide
  | 1, _ => decide
  | 2, _ => decide
  | 3, _ => decide
  | 4, _ => decide
  | 5, _ => decide
  | 6, _ => decide
  | n + 7, h => omega
def pCb (σ : Nat → Int32) (w : Int32) (k : Nat) (n : Nat) : Int32 := sN (fun i => bI (i ≠ k ∧ pCrow σ i ∧ (pIn w i ↔ pIn w k))) n
theorem pCb_t {σ : Nat → Int32} {w : Int32} {k j : Nat} (h : j ≠ k ∧ pCrow σ j ∧ (pIn w j ↔ pIn w k)) : pCb σ w k j + 1 = pCb σ w k (j + 1) := by
  show _ = pCb σ w k j + bI (j ≠ k ∧ pCrow σ j ∧ (pIn w j ↔ pIn w k))
  rw [bI_t h]
theorem pCb_f {σ : Nat → Int32} {w : Int32} {k j : Nat} (h : ¬ (j ≠ k ∧ pCrow σ j ∧ (pIn w j ↔ pIn w k))) : pCb σ w k j + 0 = pCb σ w k (j + 1) := by
  show _ = pCb σ w k j + bI (j ≠ k ∧ pCrow σ j ∧ (pIn w j ↔ pIn w k))
  rw [bI_f h]
theorem hX7_crowsBeside {E : fv_E} {d nb k : Nat} {w : Int32} {M : fv_M} (hB : M 22 1 = nI nb) (hb : nb ≤ 8) (hK : pKd (M 22) nb) (hk : k < nb) : fv_F E (d + 1) mX7_crowsBeside [.ref 106, .int (nI k), .int w] M (some (.int (pCb (M 22) w k nb))) M := by
  refine fv_F.of (ls := [some (.ref 106), some (.int (nI k)), some (.int w), none, none]) (by decide) (Nat.le_of_ble_eq_true rfl) rfl ?_
  refine x_iconst (pc := 0) (v := 0) dX7_crowsBeside_0 rfl ?_
  refine x_istore_n3 (pc := 1) dX7_crowsBeside_1 rfl ?_
  refine x_iconst (pc := 2) (v := 0) dX7_crowsBeside_2 rfl ?_
  refine x_istore4 (pc := 3) dX7_crowsBeside_3 rfl ?_
  refine x_loop (fun j => [some (.ref 106), some (.int (nI k)), some (.int w), some (.int (pCb (M 22) w k j)), some (.int (nI j))]) (fun j => M) (nb) (rfl) (rfl) (fun j hj hn5 => ?_) ?_
  ·
    replace hn5 : fv_X E mX7_crowsBeside _ _ 5 ([some (.ref 106), some (.int (nI k)), some (.int w), some (.int (pCb (M 22) w k (j + 1))), some (.int (nI (j + 1)))]) ([]) (M) := hn5
    show fv_X E mX7_crowsBeside _ _ 5 ([some (.ref 106), some (.int (nI k)), some (.int w), some (.int (pCb (M 22) w k j)), some (.int (nI j))]) ([]) (M)
    refine x_iload (pc := 5) dX7_crowsBeside_5 rfl ?_
    refine x_aload_n (pc := 7) dX7_crowsBeside_7 rfl rfl ?_
    refine x_geta (pc := 8) fl_X7_9 dX7_crowsBeside_8 (tb_106) rfl ?_
    refine x_iconst (pc := 11) (v := 1) dX7_crowsBeside_11 rfl ?_
    refine x_iale (pc := 12) dX7_crowsBeside_12 (tb_107) ((rfl : (1 : Int32) = nI 1)) (by decide) (by first | decide | assumption) (hB) ?_
    refine x_icmp_ge (pc := 13) dX7_crowsBeside_13 (tgt := 65) rfl (fun h13 => ?_) (fun h13 => ?_)
    ·
      exact absurd h13 (nI_ge hj (by first | decide | omega))
    ·
      refine x_iload_n (pc := 16) dX7_crowsBeside_16 rfl rfl ?_
      refine x_iload (pc := 17) dX7_crowsBeside_17 rfl ?_
      refine x_iload_n (pc := 19) dX7_crowsBeside_19 rfl rfl ?_
      refine x_icmp_eq (pc := 20) dX7_crowsBeside_20 (tgt := 56) rfl (fun h20 => ?_) (fun h20 => ?_)
      ·
        have e := pCb_f (σ := M 22) (w := w) (k := k) (j := j) (fun q => q.1 ((nI_eq (by omega) (by omega)).mp (by first | exact h20 | exact Decidable.not_not.mp h20)))
        refine x_iconst (pc := 56) (v := 0) dX7_crowsBeside_56 rfl ?_
        refine x_iadd (pc := 57) dX7_crowsBeside_57 ?_
        rw [e]
        refine x_istore_n3 (pc := 58) dX7_crowsBeside_58 rfl ?_
        refine x_iinc4 (pc := 59) dX7_crowsBeside_59 (by first | exact fv_inc _ | exact fv_dec _ | rfl) rfl ?_
        refine x_goto (pc := 62) dX7_crowsBeside_62 (tgt := 5) rfl ?_
        exact hn5
      ·
        refine x_aload_n (pc := 23) dX7_crowsBeside_23 rfl rfl ?_
        refine x_iload (pc := 24) dX7_crowsBeside_24 rfl ?_
        refine x_iconst (pc := 26) (v := 0) dX7_crowsBeside_26 rfl ?_
        refine x_Vi (pc := 27) ks_X7_64 dX7_crowsBeside_27 (tb_106) rfl rfl (hX7_get (f := 0) (by omega) (by decide)) rfl rfl rfl (Nat.le_of_ble_eq_true rfl) ?_
        refine x_iconst (pc := 30) (v := 2) dX7_crowsBeside_30 rfl ?_
        refine x_iconst (pc := 31) (v := 4) dX7_crowsBeside_31 rfl ?_
        refine x_Si (pc := 32) ks_X7_60 dX7_crowsBeside_32 (hX7_in1) rfl rfl rfl (Nat.le_of_ble_eq_true rfl) ?_
        refine x_ifb_eq (pc := 35) dX7_crowsBeside_35 (tgt := 56) rfl (fun h35 => ?_) (fun h35 => ?_)
        ·
          have e := pCb_f (σ := M 22) (w := w) (k := k) (j := j) (fun q => h35 ((pCrow_in (hK j hj)).mpr q.2.1))
          refine x_iconst (pc := 56) (v := 0) dX7_crowsBeside_56 rfl ?_
          refine x_iadd (pc := 57) dX7_crowsBeside_57 ?_
          rw [e]
          refine x_istore_n3 (pc := 58) dX7_crowsBeside_58 rfl ?_
          refine x_iinc4 (pc := 59) dX7_crowsBeside_59 (by first | exact fv_inc _ | exact fv_dec _ | rfl) rfl ?_
          refine x_goto (pc := 62) dX7_crowsBeside_62 (tgt := 5) rfl ?_
          exact hn5
        ·
          refine x_iload_n (pc := 38) dX7_crowsBeside_38 rfl rfl ?_
          refine x_iload (pc := 39) dX7_crowsBeside_39 rfl ?_
          refine x_Si (pc := 41) ks_X7_76 dX7_crowsBeside_41 (hX7_isIn) rfl rfl rfl (Nat.le_of_ble_eq_true rfl) ?_
          refine x_iload_n (pc := 44) dX7_crowsBeside_44 rfl rfl ?_
          refine x_iload_n (pc := 45) dX7_crowsBeside_45 rfl rfl ?_
          refine x_Si (pc := 46) ks_X7_76 dX7_crowsBeside_46 (hX7_isIn) rfl rfl rfl (Nat.le_of_ble_eq_true rfl) ?_
          refine x_icmp_ne (pc := 49) dX7_crowsBeside_49 (tgt := 56) rfl (fun h49 => ?_) (fun h49 => ?_)
          ·
            have e := pCb_f (σ := M 22) (w := w) (k := k) (j := j) (fun q => h49 (bI_iff.mpr q.2.2))
            refine x_iconst (pc := 56) (v := 0) dX7_crowsBeside_56 rfl ?_
            refine x_iadd (pc := 57) dX7_crowsBeside_57 ?_
            rw [e]
            refine x_istore_n3 (pc := 58) dX7_crowsBeside_58 rfl ?_
            refine x_iinc4 (pc := 59) dX7_crowsBeside_59 (by first | exact fv_inc _ | exact fv_dec _ | rfl) rfl ?_
            refine x_goto (pc := 62) dX7_crowsBeside_62 (tgt := 5) rfl ?_
            exact hn5
          ·
            have e := pCb_t (σ := M 22) (w := w) (k := k) (j := j) ⟨fun q => h20 ((nI_eq (by omega) (by omega)).mpr q), (pCrow_in (hK j hj)).mp h35, bI_iff.mp (by first | exact h49 | exact Decidable.not_not.mp h49)⟩
            refine x_iconst (pc := 52) (v := 1) dX7_crowsBeside_52 rfl ?_
            refine x_goto (pc := 53) dX7_crowsBeside_53 (tgt := 57) rfl ?_
            refine x_iadd (pc := 57) dX7_crowsBeside_57 ?_
            rw [e]
            refine x_istore_n3 (pc := 58) dX7_crowsBeside_58 rfl ?_
            refine x_iinc4 (pc := 59) dX7_crowsBeside_59 (by first | exact fv_inc _ | exact fv_dec _ | rfl) rfl ?_
            refine x_goto (pc := 62) dX7_crowsBeside_62 (tgt := 5) rfl ?_
            exact hn5
  ·
    show fv_X E mX7_crowsBeside _ _ 5 ([some (.ref 106), some (.int (nI k)), some (.int w), some (.int (pCb (M 22) w k (nb))), some (.int (nI (nb)))]) ([]) (M)
    refine x_iload (pc := 5) dX7_crowsBeside_5 rfl ?_
    refine x_aload_n (pc := 7) dX7_crowsBeside_7 rfl rfl ?_
    refine x_geta (pc := 8) fl_X7_9 dX7_crowsBeside_8 (tb_106) rfl ?_
    refine x_iconst (pc := 11) (v := 1) dX7_crowsBeside_11 rfl ?_
    refine x_iale (pc := 12) dX7_crowsBeside_12 (tb_107) ((rfl : (1 : Int32) = nI 1)) (by decide) (by first | decide | assumption) (hB) ?_
    refine x_icmp_ge (pc := 13) dX7_crowsBeside_13 (tgt := 65) rfl (fun h13 => ?_) (fun h13 => ?_)
    ·
      refine x_iload_n (pc := 65) dX7_crowsBeside_65 rfl rfl ?_
      refine x_iret (pc := 66) dX7_crowsBeside_66 rfl (by first | rfl | exact fv_nz _) ?_
      exact ⟨rfl, rfl⟩
    ·
      exact absurd (Int32.le_refl _) h13
def pWv (kd col keeps fe wants cr : Int32) : Int32 :=
  if kd = 1 then (if col = 0 then 1 else 0) else if kd = 2 then cr else if kd = 3 then 2 * cr else if kd = 4 then 2 * cr + 1
  else if kd = 5 then (if keeps < fe then 1 else 0) else if kd = 6 then (if keeps < fe then 1 else 0) + (if wants = 0 then 1 else 0) else 1
theorem pWish_v (σ : Nat → Int32) (i m : Nat) (cr : Int32) : pWish σ i m cr = pWv (σ (fB i 0)) (σ (fM m 0)) (σ (fB i 1)) (pFe σ i) (σ (fM m 2)) cr := rfl
def pDm (σ : Nat → Int32) (k c : Nat) (w : Int32) (nb : Nat) : Int32 := pMin (σ (fB k 3 + c)) (pWv (σ (fB k 0)) (nI c) (σ (fB k 1)) (pFe σ k) w (1 + pCb σ w k nb))
theorem hX7_dropsBy {E : fv_E} {d nb k m c : Nat} {w : Int32} {M : fv_M} (hB : M 22 1 = nI nb) (hb : nb ≤ 8) (hK : pKd (M 22) nb) (hG : pG1 (M 22) k) (hk : k < nb) (hm : m < 8) (hcol : M 22 (fM m 0) = nI c) (hc : c < 4) : fv_F E (d + 2) mX7_dropsBy [.ref 106, .int (nI k), .int (nI m), .int w] M (some (.int (pDm (M 22) k c w nb))) M := by
  have hk8 : k < 8 := by omega
  obtain ⟨x, hx, ex⟩ := pG1_fe hG
  obtain ⟨y, hy, ey⟩ := hG.2.1
  have e3 : (3 : Int32) + nI c = nI (3 + c) := nI_add 3 c
  have ef : fB k (3 + c) = fB k 3 + c := by unfold fB; omega
  unfold pDm
  generalize hcr : 1 + pCb (M 22) w k nb = cr
  have hend : fv_X E mX7_dropsBy (d + 2) (fun r' M' => r' = some (.int (pMin (M 22 (fB k 3 + c)) (pWv (M 22 (fB k 0)) (nI c) (M 22 (fB k 1)) (pFe (M 22) k) w cr))) ∧ M' = M) 154 [some (.ref 106), some (.int (nI k)), some (.int (nI m)), some (.int w), some (.int (nI c)), none, none, some (.int (pWv (M 22 (fB k 0)) (nI c) (M 22 (fB k 1)) (pFe (M 22) k) w cr))] [] M := by
    refine x_iload (pc := 154) dX7_dropsBy_154 rfl ?_
    refine x_aload_n (pc := 156) dX7_dropsBy_156 rfl rfl ?_
    refine x_iload_n (pc := 157) dX7_dropsBy_157 rfl rfl ?_
    refine x_iconst (pc := 158) (v := 3) dX7_dropsBy_158 rfl ?_
    refine x_iload (pc := 159) dX7_dropsBy_159 rfl ?_
    refine x_iadd (pc := 161) dX7_dropsBy_161 ?_
    rw [e3]
    refine x_Vi (pc := 162) ks_X7_64 dX7_dropsBy_162 (tb_106) rfl rfl (hX7_get (f := 3 + c) hk8 (by omega)) rfl rfl rfl (Nat.le_of_ble_eq_true rfl) ?_
    rw [ef]
    refine x_Si (pc := 165) ks_X7_86 dX7_dropsBy_165 (hX7_less) rfl rfl rfl (Nat.le_of_ble_eq_true rfl) ?_
    refine x_iret (pc := 168) dX7_dropsBy_168 rfl (by first | rfl | exact fv_nz _) ?_
    exact ⟨rfl, rfl⟩
  have key : ∀ v, v = pWv (M 22 (fB k 0)) (nI c) (M 22 (fB k 1)) (pFe (M 22) k) w cr → fv_X E mX7_dropsBy (d + 2) (fun r' M' => r' = some (.int (pMin (M 22 (fB k 3 + c)) (pWv (M 22 (fB k 0)) (nI c) (M 22 (fB k 1)) (pFe (M 22) k) w cr))) ∧ M' = M) 154 [some (.ref 106), some (.int (nI k)), some (.int (nI m)), some (.int w), some (.int (nI c)), none, none, some (.int v)] [] M := fun v e => by rw [e]; exact hend
  clear hend
  have hmid : fv_X E mX7_dropsBy (d + 2) (fun r' M' => r' = some (.int (pMin (M 22 (fB k 3 + c)) (pWv (M 22 (fB k 0)) (nI c) (M 22 (fB k 1)) (pFe (M 22) k) w cr))) ∧ M' = M) 39 [some (.ref 106), some (.int (nI k)), some (.int (nI m)), some (.int w), some (.int (nI c)), some (.int cr), none, none] [.int (if M 22 (fB k 1) < pFe (M 22) k then 1 else 0)] M := by
    refine x_istore6 (pc := 39) dX7_dropsBy_39 rfl ?_
    refine x_iconst (pc := 41) (v := 1) dX7_dropsBy_41 rfl ?_
    refine x_istore7 (pc := 42) dX7_dropsBy_42 rfl ?_
    refine x_aload_n (pc := 44) dX7_dropsBy_44 rfl rfl ?_
    refine x_iload_n (pc := 45) dX7_dropsBy_45 rfl rfl ?_
    refine x_iconst (pc := 46) (v := 0) dX7_dropsBy_46 rfl ?_
    refine x_Vi (pc := 47) ks_X7_64 dX7_dropsBy_47 (tb_106) rfl rfl (hX7_get (f := 0) hk8 (by decide)) rfl rfl rfl (Nat.le_of_ble_eq_true rfl) ?_
    refine x_swc (pc := 50) 1 dX7_dropsBy_50 (by decide) (by decide) rfl (tgt := 88) rfl (fun h50_1 => ?_) (fun n50_1 => ?_)
    ·
      refine x_iload (pc := 88) dX7_dropsBy_88 rfl ?_
      refine x_if_ne (pc := 90) dX7_dropsBy_90 (tgt := 97) rfl (fun h90 => ?_) (fun h90 => ?_)
      ·
        refine x_iconst (pc := 97) (v := 0) dX7_dropsBy_97 rfl ?_
        refine x_istore7 (pc := 98) dX7_dropsBy_98 rfl ?_
        refine x_goto (pc := 100) dX7_dropsBy_100 (tgt := 154) rfl ?_
        refine x_fg6 (x_fg5 (key _ ?_))
        simp [pWv, *]
      ·
        refine x_iconst (pc := 93) (v := 1) dX7_dropsBy_93 rfl ?_
        refine x_goto (pc := 94) dX7_dropsBy_94 (tgt := 98) rfl ?_
        refine x_istore7 (pc := 98) dX7_dropsBy_98 rfl ?_
        refine x_goto (pc := 100) dX7_dropsBy_100 (tgt := 154) rfl ?_
        refine x_fg6 (x_fg5 (key _ ?_))
        simp [pWv, *]
    refine x_swc (pc := 50) 2 dX7_dropsBy_50 (by decide) (by decide) rfl (tgt := 103) rfl (fun h50_2 => ?_) (fun n50_2 => ?_)
    ·
      refine x_iload (pc := 103) dX7_dropsBy_103 rfl ?_
      refine x_istore7 (pc := 105) dX7_dropsBy_105 rfl ?_
      refine x_goto (pc := 107) dX7_dropsBy_107 (tgt := 154) rfl ?_
      refine x_fg6 (x_fg5 (key _ ?_))
      simp [pWv, *]
    refine x_swc (pc := 50) 3 dX7_dropsBy_50 (by decide) (by decide) rfl (tgt := 110) rfl (fun h50_3 => ?_) (fun n50_3 => ?_)
    ·
      refine x_iconst (pc := 110) (v := 2) dX7_dropsBy_110 rfl ?_
      refine x_iload (pc := 111) dX7_dropsBy_111 rfl ?_
      refine x_imul (pc := 113) dX7_dropsBy_113 ?_
      refine x_istore7 (pc := 114) dX7_dropsBy_114 rfl ?_
      refine x_goto (pc := 116) dX7_dropsBy_116 (tgt := 154) rfl ?_
      refine x_fg6 (x_fg5 (key _ ?_))
      simp [pWv, *]
    refine x_swc (pc := 50) 4 dX7_dropsBy_50 (by decide) (by decide) rfl (tgt := 119) rfl (fun h50_4 => ?_) (fun n50_4 => ?_)
    ·
      refine x_iconst (pc := 119) (v := 2) dX7_dropsBy_119 rfl ?_
      refine x_iload (pc := 120) dX7_dropsBy_120 rfl ?_
      refine x_imul (pc := 122) dX7_dropsBy_122 ?_
      refine x_iconst (pc := 123) (v := 1) dX7_dropsBy_123 rfl ?_
      refine x_iadd (pc := 124) dX7_dropsBy_124 ?_
      refine x_istore7 (pc := 125) dX7_dropsBy_125 rfl ?_
      refine x_goto (pc := 127) dX7_dropsBy_127 (tgt := 154) rfl ?_
      refine x_fg6 (x_fg5 (key _ ?_))
      simp [pWv, *]
    refine x_swc (pc := 50) 5 dX7_dropsBy_50 (by decide) (by decide) rfl (tgt := 130) rfl (fun h50_5 => ?_) (fun n50_5 => ?_)
    ·
      refine x_iload (pc := 130) dX7_dropsBy_130 rfl ?_
      refine x_istore7 (pc := 132) dX7_dropsBy_132 rfl ?_
      refine x_goto (pc := 134) dX7_dropsBy_134 (tgt := 154) rfl ?_
      refine x_fg6 (x_fg5 (key _ ?_))
      simp [pWv, *]
    refine x_swc (pc := 50) 6 dX7_dropsBy_50 (by decide) (by decide) rfl (tgt := 137) rfl (fun h50_6 => ?_) (fun n50_6 => ?_)
    ·
      refine x_iload (pc := 137) dX7_dropsBy_137 rfl ?_
      refine x_iload_n (pc := 139) dX7_dropsBy_139 rfl rfl ?_
      refine x_if_ne (pc := 140) dX7_dropsBy_140 (tgt := 147) rfl (fun h140 => ?_) (fun h140 => ?_)
      ·
        refine x_iconst (pc := 147) (v := 0) dX7_dropsBy_147 rfl ?_
        refine x_iadd (pc := 148) dX7_dropsBy_148 ?_
        refine x_istore7 (pc := 149) dX7_dropsBy_149 rfl ?_
        refine x_goto (pc := 151) dX7_dropsBy_151 (tgt := 154) rfl ?_
        refine x_fg6 (x_fg5 (key _ ?_))
        simp [pWv, *]
      ·
        refine x_iconst (pc := 143) (v := 1) dX7_dropsBy_143 rfl ?_
        refine x_goto (pc := 144) dX7_dropsBy_144 (tgt := 148) rfl ?_
        refine x_iadd (pc := 148) dX7_dropsBy_148 ?_
        refine x_istore7 (pc := 149) dX7_dropsBy_149 rfl ?_
        refine x_goto (pc := 151) dX7_dropsBy_151 (tgt := 154) rfl ?_
        refine x_fg6 (x_fg5 (key _ ?_))
        simp [pWv, *]
    refine x_swd (pc := 50) dX7_dropsBy_50 (fun c hl hh => by rcases (show c = 1 ∨ c = 2 ∨ c = 3 ∨ c = 4 ∨ c = 5 ∨ c = 6 by omega) with rfl | rfl | rfl | rfl | rfl | rfl <;> assumption) (tgt := 154) rfl ?_
    refine x_fg6 (x_fg5 (key _ ?_))
    simp [pWv, *]
  refine fv_F.of (ls := [some (.ref 106), some (.int (nI k)), some (.int (nI m)), some (.int w), none, none, none, none]) (by decide) (Nat.le_of_ble_eq_true rfl) rfl ?_
  refine x_aload_n (pc := 0) dX7_dropsBy_0 rfl rfl ?_
  refine x_iload_n (pc := 1) dX7_dropsBy_1 rfl rfl ?_
  refine x_iconst (pc := 2) (v := 0) dX7_dropsBy_2 rfl ?_
  refine x_Vi (pc := 3) ks_X7_80 dX7_dropsBy_3 (tb_106) rfl rfl (hX7_of1 (f := 0) hm (by decide)) rfl rfl rfl (Nat.le_of_ble_eq_true rfl) ?_
  rw [hcol]
  refine x_istore4 (pc := 6) dX7_dropsBy_6 rfl ?_
  refine x_iconst (pc := 8) (v := 1) dX7_dropsBy_8 rfl ?_
  refine x_aload_n (pc := 9) dX7_dropsBy_9 rfl rfl ?_
  refine x_iload_n (pc := 10) dX7_dropsBy_10 rfl rfl ?_
  refine x_iload_n (pc := 11) dX7_dropsBy_11 rfl rfl ?_
  refine x_Vi (pc := 12) ks_X7_83 dX7_dropsBy_12 (tb_106) rfl rfl (hX7_crowsBeside hB hb hK hk) rfl rfl rfl (Nat.le_of_ble_eq_true rfl) ?_
  refine x_iadd (pc := 15) dX7_dropsBy_15 ?_
  rw [hcr]
  refine x_istore5 (pc := 16) dX7_dropsBy_16 rfl ?_
  refine x_aload_n (pc := 18) dX7_dropsBy_18 rfl rfl ?_
  refine x_iload_n (pc := 19) dX7_dropsBy_19 rfl rfl ?_
  refine x_Vi (pc := 20) ks_X7_68 dX7_dropsBy_20 (tb_106) rfl rfl (hX7_feathers hk8) rfl rfl rfl (Nat.le_of_ble_eq_true rfl) ?_
  refine x_iconst (pc := 23) (v := 1) dX7_dropsBy_23 rfl ?_
  refine x_isub (pc := 24) dX7_dropsBy_24 ?_
  refine x_aload_n (pc := 25) dX7_dropsBy_25 rfl rfl ?_
  refine x_iload_n (pc := 26) dX7_dropsBy_26 rfl rfl ?_
  refine x_iconst (pc := 27) (v := 1) dX7_dropsBy_27 rfl ?_
  refine x_Vi (pc := 28) ks_X7_64 dX7_dropsBy_28 (tb_106) rfl rfl (hX7_get (f := 1) hk8 (by decide)) rfl rfl rfl (Nat.le_of_ble_eq_true rfl) ?_
  refine x_icmp_lt (pc := 31) dX7_dropsBy_31 (tgt := 38) rfl (fun h31 => ?_) (fun h31 => ?_)
  ·
    rw [ex, ey] at h31
    have e : (if M 22 (fB k 1) < pFe (M 22) k then 1 else 0 : Int32) = 0 := if_neg (by rw [ex, ey]; exact (pWr (by omega) (by omega)).mp h31)
    refine x_iconst (pc := 38) (v := 0) dX7_dropsBy_38 rfl ?_
    rw [e] at hmid
    exact hmid
  ·
    rw [ex, ey] at h31
    have e : (if M 22 (fB k 1) < pFe (M 22) k then 1 else 0 : Int32) = 1 := if_pos (by rw [ex, ey]; exact Decidable.not_not.mp (fun q => h31 ((pWr (by omega) (by omega)).mpr q)))
    refine x_iconst (pc := 34) (v := 1) dX7_dropsBy_34 rfl ?_
    refine x_goto (pc := 35) dX7_dropsBy_35 (tgt := 39) rfl ?_
    rw [e] at hmid
    exact hmid
def pSm (σ : Nat → Int32) (c : Nat) (w : Int32) (nb : Nat) (fl : Prop) [Decidable fl] (n : Nat) : Int32 := sN (fun k => if (pIn w k ↔ fl) then pDm σ k c w nb else 0) n
theorem hX7_sideBy0 {E : fv_E} {d nb m c : Nat} {w : Int32} {fl : Prop} [Decidable fl] {M : fv_M} (hB : M 22 1 = nI nb) (hb : nb ≤ 8) (hK : pKd (M 22) nb) (hG : ∀ k, k < nb → pG1 (M 22) k) (hm : m < 8) (hcol : M 22 (fM m 0) = nI c) (hc : c < 4) : fv_F E (d + 3) mX7_sideBy [.ref 106, .int (nI m), .int w, .int (bI fl)] M (some (.int (pSm (M 22) c w nb fl nb))) M := by
  refine fv_F.of (ls := [some (.ref 106), some (.int (nI m)), some (.int w), some (.int (bI fl)), none, none]) (by decide) (Nat.le_of_ble_eq_true rfl) rfl ?_
  refine x_iconst (pc := 0) (v := 0) dX7_sideBy_0 rfl ?_
  refine x_istore4 (pc := 1) dX7_sideBy_1 rfl ?_
  refine x_iconst (pc := 3) (v := 0) dX7_sideBy_3 rfl ?_
  refine x_istore5 (pc := 4) dX7_sideBy_4 rfl ?_
  refine x_loop (fun j => [some (.ref 106), some (.int (nI m)), some (.int w), some (.int (bI fl)), some (.int (pSm (M 22) c w nb fl j)), some (.int (nI j))]) (fun j => M) (nb) (rfl) (rfl) (fun j hj hn6 => ?_) ?_
  ·
    replace hn6 : fv_X E mX7_sideBy _ _ 6 ([some (.ref 106), some (.int (nI m)), some (.int w), some (.int (bI fl)), some (.int (pSm (M 22) c w nb fl (j + 1))), some (.int (nI (j + 1)))]) ([]) (M) := hn6
    show fv_X E mX7_sideBy _ _ 6 ([some (.ref 106), some (.int (nI m)), some (.int w), some (.int (bI fl)), some (.int (pSm (M 22) c w nb fl j)), some (.int (nI j))]) ([]) (M)
    refine x_iload (pc := 6) dX7_sideBy_6 rfl ?_
    refine x_aload_n (pc := 8) dX7_sideBy_8 rfl rfl ?_
    refine x_geta (pc := 9) fl_X7_9 dX7_sideBy_9 (tb_106) rfl ?_
    refine x_iconst (pc := 12) (v := 1) dX7_sideBy_12 rfl ?_
    refine x_iale (pc := 13) dX7_sideBy_13 (tb_107) ((rfl : (1 : Int32) = nI 1)) (by decide) (by first | decide | assumption) (hB) ?_
    refine x_icmp_ge (pc := 14) dX7_sideBy_14 (tgt := 50) rfl (fun h14 => ?_) (fun h14 => ?_)
    ·
      exact absurd h14 (nI_ge hj (by first | decide | omega))
    ·
      refine x_iload (pc := 17) dX7_sideBy_17 rfl ?_
      refine x_iload_n (pc := 19) dX7_sideBy_19 rfl rfl ?_
      refine x_iload (pc := 20) dX7_sideBy_20 rfl ?_
      refine x_Si (pc := 22) ks_X7_76 dX7_sideBy_22 (hX7_isIn) rfl rfl rfl (Nat.le_of_ble_eq_true rfl) ?_
      refine x_iload_n (pc := 25) dX7_sideBy_25 rfl rfl ?_
      refine x_icmp_ne (pc := 26) dX7_sideBy_26 (tgt := 40) rfl (fun h26 => ?_) (fun h26 => ?_)
      ·
        have e : pSm (M 22) c w nb fl j + 0 = pSm (M 22) c w nb fl (j + 1) := by show _ = pSm (M 22) c w nb fl j + (if (pIn w j ↔ fl) then pDm (M 22) j c w nb else 0); rw [if_neg (fun q => h26 (bI_iff.mpr q))]
        refine x_iconst (pc := 40) (v := 0) dX7_sideBy_40 rfl ?_
        refine x_iadd (pc := 41) dX7_sideBy_41 ?_
        rw [e]
        refine x_istore4 (pc := 42) dX7_sideBy_42 rfl ?_
        refine x_iinc5 (pc := 44) dX7_sideBy_44 (by first | exact fv_inc _ | exact fv_dec _ | rfl) rfl ?_
        refine x_goto (pc := 47) dX7_sideBy_47 (tgt := 6) rfl ?_
        exact hn6
      ·
        have e : pSm (M 22) c w nb fl j + pDm (M 22) j c w nb = pSm (M 22) c w nb fl (j + 1) := by show _ = pSm (M 22) c w nb fl j + (if (pIn w j ↔ fl) then pDm (M 22) j c w nb else 0); rw [if_pos (bI_iff.mp (by first | exact h26 | exact Decidable.not_not.mp h26))]
        refine x_aload_n (pc := 29) dX7_sideBy_29 rfl rfl ?_
        refine x_iload (pc := 30) dX7_sideBy_30 rfl ?_
        refine x_iload_n (pc := 32) dX7_sideBy_32 rfl rfl ?_
        refine x_iload_n (pc := 33) dX7_sideBy_33 rfl rfl ?_
        refine x_Vi (pc := 34) ks_X7_89 dX7_sideBy_34 (tb_106) rfl rfl (hX7_dropsBy hB hb hK (hG j hj) hj hm hcol hc) rfl rfl rfl (Nat.le_of_ble_eq_true rfl) ?_
        refine x_goto (pc := 37) dX7_sideBy_37 (tgt := 41) rfl ?_
        refine x_iadd (pc := 41) dX7_sideBy_41 ?_
        rw [e]
        refine x_istore4 (pc := 42) dX7_sideBy_42 rfl ?_
        refine x_iinc5 (pc := 44) dX7_sideBy_44 (by first | exact fv_inc _ | exact fv_dec _ | rfl) rfl ?_
        refine x_goto (pc := 47) dX7_sideBy_47 (tgt := 6) rfl ?_
        exact hn6
  ·
    show fv_X E mX7_sideBy _ _ 6 ([some (.ref 106), some (.int (nI m)), some (.int w), some (.int (bI fl)), some (.int (pSm (M 22) c w nb fl (nb))), some (.int (nI (nb)))]) ([]) (M)
    refine x_iload (pc := 6) dX7_sideBy_6 rfl ?_
    refine x_aload_n (pc := 8) dX7_sideBy_8 rfl rfl ?_
    refine x_geta (pc := 9) fl_X7_9 dX7_sideBy_9 (tb_106) rfl ?_
    refine x_iconst (pc := 12) (v := 1) dX7_sideBy_12 rfl ?_
    refine x_iale (pc := 13) dX7_sideBy_13 (tb_107) ((rfl : (1 : Int32) = nI 1)) (by decide) (by first | decide | assumption) (hB) ?_
    refine x_icmp_ge (pc := 14) dX7_sideBy_14 (tgt := 50) rfl (fun h14 => ?_) (fun h14 => ?_)
    ·
      refine x_iload (pc := 50) dX7_sideBy_50 rfl ?_
      refine x_iret (pc := 52) dX7_sideBy_52 rfl (by first | rfl | exact fv_nz _) ?_
      exact ⟨rfl, rfl⟩
    ·
      exact absurd (Int32.le_refl _) h14
