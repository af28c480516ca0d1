/-! THE MODEL'S WORDS -/
/-- the value of word w of a table -/
def pWl (l : List Nat) (w : Nat) : Nat → Int64
  | 0 => 0
  | k + 1 => if l.getD (8 * w + k) 0 = 32 then pWl l w k else pWl l w k * 27 + (nI (l.getD (8 * w + k) 0)).toInt64 - 96
def pWrd (x : Int64) (l : List Nat) : Nat → Int32
  | 0 => -1
  | w + 1 => if pWl l w 8 = x then nI w else pWrd x l w
theorem hX7_wordOf {E : fv_E} {d q r n m : Nat} {l : List Nat} {t : Nat} {x : Int64} {M : fv_M} (htb : fv_tab[q]? = some (.inr (1, n, r, 0))) (hn : n = 8 * m) (hm : m ≤ 7) (hl : l.length = n) (hlb : ∀ i, i < n → l.getD i 0 < 256) (hM : pLs' l (M r)) (hdiv : nI n / 8 = nI m) (ht : M 21 13 = nI t) (ht5 : t ≤ 5) (hx : fv_comb (M 21 16) (M 21 (16 + 1)) = x) : fv_F E d mX7_wordOf [.ref 106, .ref q] M (some (.int (if t = 1 then pWrd x l m else -1))) M := by
  have q1 : nI t = 1 ↔ t = 1 := nI_eq (b := 1) (by omega) (by decide)
  refine fv_F.of (ls := [some (.ref 106), some (.ref q), none, none, none, none, none]) (by decide) (Nat.le_of_ble_eq_true rfl) rfl ?_
  refine x_iconst (pc := 0) (v := (-1)) dX7_wordOf_0 fv_m1 ?_
  refine x_istore_n2 (pc := 1) dX7_wordOf_1 rfl ?_
  refine x_iconst (pc := 2) (v := 0) dX7_wordOf_2 rfl ?_
  refine x_istore_n3 (pc := 3) dX7_wordOf_3 rfl ?_
  by_cases h1 : t = 1
  · rw [if_pos h1]
    have hx1 : M 21 13 = 1 := ht.trans (q1.mpr h1)
    refine x_loop (fun w => [some (.ref 106), some (.ref q), some (.int (pWrd x l w)), some (.int (nI w)), none, none, none]) (fun _ => M) m rfl rfl (fun w hw hL3 => ?_) ?_
    · show fv_X E mX7_wordOf _ _ 4 [some (.ref 106), some (.ref q), some (.int (pWrd x l w)), some (.int (nI w)), none, none, none] [] M
      replace hL3 : fv_X E mX7_wordOf _ _ 4 [some (.ref 106), some (.ref q), some (.int (if pWl l w 8 = x then nI w else pWrd x l w)), some (.int (nI (w + 1))), none, none, none] [] M := hL3
      refine x_iload_n (pc := 4) dX7_wordOf_4 rfl rfl ?_
      refine x_aload_n (pc := 5) dX7_wordOf_5 rfl rfl ?_
      refine x_alen (pc := 6) dX7_wordOf_6 (htb) (by decide) rfl ?_
      refine x_bipush (pc := 7) (v := 8) dX7_wordOf_7 rfl ?_
      refine x_idiv (pc := 9) dX7_wordOf_9 (by decide) ?_
      rw [hdiv]
      refine x_icmp_ge (pc := 10) dX7_wordOf_10 (tgt := 104) rfl (fun h10 => ?_) (fun h10 => ?_)
      ·
        exact absurd h10 (nI_ge hw (by omega))
      ·
        refine x_aload_n (pc := 13) dX7_wordOf_13 rfl rfl ?_
        refine x_geti (pc := 14) fl_X7_222 dX7_wordOf_14 (tb_106) rfl (hx1) ?_
        refine x_iconst (pc := 17) (v := 1) dX7_wordOf_17 rfl ?_
        refine x_icmp_ne (pc := 18) dX7_wordOf_18 (tgt := 104) rfl (fun h18 => ?_) (fun h18 => ?_)
        ·
          exact absurd rfl h18
        ·
          refine x_lconst (pc := 21) (v := 0) dX7_wordOf_21 rfl ?_
          refine x_lstore4 (pc := 22) dX7_wordOf_22 rfl ?_
          refine x_iconst (pc := 24) (v := 0) dX7_wordOf_24 rfl ?_
          refine x_istore6 (pc := 25) dX7_wordOf_25 rfl ?_
          refine x_loop (fun k => [some (.ref 106), some (.ref q), some (.int (pWrd x l w)), some (.int (nI w)), some (.long (pWl l w k)), none, some (.int (nI k))]) (fun _ => M) 8 rfl rfl (fun k hk hL4 => ?_) ?_
          · show fv_X E mX7_wordOf _ _ 27 [some (.ref 106), some (.ref q), some (.int (pWrd x l w)), some (.int (nI w)), some (.long (pWl l w k)), none, some (.int (nI k))] [] M
            replace hL4 : fv_X E mX7_wordOf _ _ 27 [some (.ref 106), some (.ref q), some (.int (pWrd x l w)), some (.int (nI w)), some (.long (if l.getD (8 * w + k) 0 = 32 then pWl l w k else pWl l w k * 27 + (nI (l.getD (8 * w + k) 0)).toInt64 - 96)), none, some (.int (nI (k + 1)))] [] M := hL4
            have hi : 8 * w + k < n := by omega
            have hb := hlb _ hi
            have hn1000 : n ≤ 1000 := by omega
            have hv : M r (0 + (8 * w + k)) = nI (l.getD (8 * w + k) 0) := by rw [Nat.zero_add]; exact hM _ (by omega)
            have hix : (8 : Int32) * nI w + nI k = nI (8 * w + k) := by
              show nI 8 * nI w + nI k = _
              rw [nI_mul' (by decide) (by omega) (by omega), nI_add]
            have q32 : nI (l.getD (8 * w + k) 0) = 32 ↔ l.getD (8 * w + k) 0 = 32 := nI_eq (b := 32) (by omega) (by decide)
            refine x_iload (pc := 27) dX7_wordOf_27 rfl ?_
            refine x_bipush (pc := 29) (v := 8) dX7_wordOf_29 rfl ?_
            refine x_icmp_ge (pc := 31) dX7_wordOf_31 (tgt := 82) rfl (fun h31 => ?_) (fun h31 => ?_)
            ·
              exact absurd h31 (nI_ge (b := 8) hk (by decide))
            ·
              refine x_aload_n (pc := 34) dX7_wordOf_34 rfl rfl ?_
              refine x_bipush (pc := 35) (v := 8) dX7_wordOf_35 rfl ?_
              refine x_iload_n (pc := 37) dX7_wordOf_37 rfl rfl ?_
              refine x_imul (pc := 38) dX7_wordOf_38 ?_
              refine x_iload (pc := 39) dX7_wordOf_39 rfl ?_
              refine x_iadd (pc := 41) dX7_wordOf_41 ?_
              refine x_cald (pc := 42) dX7_wordOf_42 (htb) (hix) (hi) (by first | decide | assumption) ?_
              rw [hv]
              refine x_bipush (pc := 43) (v := 32) dX7_wordOf_43 rfl ?_
              refine x_icmp_ne (pc := 45) dX7_wordOf_45 (tgt := 53) rfl (fun h45 => ?_) (fun h45 => ?_)
              ·
                rw [if_neg (fun z => h45 (q32.mpr z))] at hL4
                refine x_lload (pc := 53) dX7_wordOf_53 rfl ?_
                refine x_ldc2 (pc := 55) kc_X7_230 dX7_wordOf_55 ?_
                refine x_lmul (pc := 58) dX7_wordOf_58 ?_
                refine x_aload_n (pc := 59) dX7_wordOf_59 rfl rfl ?_
                refine x_bipush (pc := 60) (v := 8) dX7_wordOf_60 rfl ?_
                refine x_iload_n (pc := 62) dX7_wordOf_62 rfl rfl ?_
                refine x_imul (pc := 63) dX7_wordOf_63 ?_
                refine x_iload (pc := 64) dX7_wordOf_64 rfl ?_
                refine x_iadd (pc := 66) dX7_wordOf_66 ?_
                refine x_cald (pc := 67) dX7_wordOf_67 (htb) (hix) (hi) (by first | decide | assumption) ?_
                rw [hv]
                refine x_i2l (pc := 68) dX7_wordOf_68 ?_
                refine x_ladd (pc := 69) dX7_wordOf_69 ?_
                refine x_ldc2 (pc := 70) kc_X7_232 dX7_wordOf_70 ?_
                refine x_lsub (pc := 73) dX7_wordOf_73 ?_
                refine x_lstore4 (pc := 74) dX7_wordOf_74 rfl ?_
                refine x_iinc6 (pc := 76) dX7_wordOf_76 (by first | exact fv_inc _ | exact fv_dec _ | rfl) rfl ?_
                refine x_goto (pc := 79) dX7_wordOf_79 (tgt := 27) rfl ?_
                exact hL4
              ·
                rw [if_pos (q32.mp h45)] at hL4
                refine x_lload (pc := 48) dX7_wordOf_48 rfl ?_
                refine x_goto (pc := 50) dX7_wordOf_50 (tgt := 74) rfl ?_
                refine x_lstore4 (pc := 74) dX7_wordOf_74 rfl ?_
                refine x_iinc6 (pc := 76) dX7_wordOf_76 (by first | exact fv_inc _ | exact fv_dec _ | rfl) rfl ?_
                refine x_goto (pc := 79) dX7_wordOf_79 (tgt := 27) rfl ?_
                exact hL4
          · show fv_X E mX7_wordOf _ _ 27 [some (.ref 106), some (.ref q), some (.int (pWrd x l w)), some (.int (nI w)), some (.long (pWl l w 8)), none, some (.int (nI 8))] [] M
            refine x_iload (pc := 27) dX7_wordOf_27 rfl ?_
            refine x_bipush (pc := 29) (v := 8) dX7_wordOf_29 rfl ?_
            refine x_icmp_ge (pc := 31) dX7_wordOf_31 (tgt := 82) rfl (fun h31 => ?_) (fun h31 => ?_)
            ·
              refine x_lload (pc := 82) dX7_wordOf_82 rfl ?_
              refine x_aload_n (pc := 84) dX7_wordOf_84 rfl rfl ?_
              refine x_getl (pc := 85) fl_X7_218 dX7_wordOf_85 (tb_106) rfl ?_
              rw [hx]
              refine x_lcmp (pc := 88) dX7_wordOf_88 ?_
              refine x_if_ne (pc := 89) dX7_wordOf_89 (tgt := 96) rfl (fun h89 => ?_) (fun h89 => ?_)
              ·
                rw [if_neg (fun z => h89 ((lg_cmp_eq _ _).mpr z))] at hL3
                refine x_iload_n (pc := 96) dX7_wordOf_96 rfl rfl ?_
                refine x_istore_n2 (pc := 97) dX7_wordOf_97 rfl ?_
                refine x_iinc3 (pc := 98) dX7_wordOf_98 (by first | exact fv_inc _ | exact fv_dec _ | rfl) rfl ?_
                refine x_goto (pc := 101) dX7_wordOf_101 (tgt := 4) rfl ?_
                exact x_fg4 (x_fg6 hL3)
              ·
                rw [if_pos ((lg_cmp_eq _ _).mp h89)] at hL3
                refine x_iload_n (pc := 92) dX7_wordOf_92 rfl rfl ?_
                refine x_goto (pc := 93) dX7_wordOf_93 (tgt := 97) rfl ?_
                refine x_istore_n2 (pc := 97) dX7_wordOf_97 rfl ?_
                refine x_iinc3 (pc := 98) dX7_wordOf_98 (by first | exact fv_inc _ | exact fv_dec _ | rfl) rfl ?_
                refine x_goto (pc := 101) dX7_wordOf_101 (tgt := 4) rfl ?_
                exact x_fg4 (x_fg6 hL3)
            ·
              exact absurd (Int32.le_refl _) h31
    · show fv_X E mX7_wordOf _ _ 4 [some (.ref 106), some (.ref q), some (.int (pWrd x l m)), some (.int (nI m)), none, none, none] [] M
      refine x_iload_n (pc := 4) dX7_wordOf_4 rfl rfl ?_
      refine x_aload_n (pc := 5) dX7_wordOf_5 rfl rfl ?_
      refine x_alen (pc := 6) dX7_wordOf_6 (htb) (by decide) rfl ?_
      refine x_bipush (pc := 7) (v := 8) dX7_wordOf_7 rfl ?_
      refine x_idiv (pc := 9) dX7_wordOf_9 (by decide) ?_
      rw [hdiv]
      refine x_icmp_ge (pc := 10) dX7_wordOf_10 (tgt := 104) rfl (fun h10 => ?_) (fun h10 => ?_)
      ·
        refine x_iload_n (pc := 104) dX7_wordOf_104 rfl rfl ?_
        refine x_iret (pc := 105) dX7_wordOf_105 rfl (by first | rfl | exact fv_nz _) ?_
        exact ⟨rfl, rfl⟩
      ·
        exact absurd (Int32.le_refl _) h10
  · rw [if_neg h1]
    refine x_iload_n (pc := 4) dX7_wordOf_4 rfl rfl ?_
    refine x_aload_n (pc := 5) dX7_wordOf_5 rfl rfl ?_
    refine x_alen (pc := 6) dX7_wordOf_6 (htb) (by decide) rfl ?_
    refine x_bipush (pc := 7) (v := 8) dX7_wordOf_7 rfl ?_
    refine x_idiv (pc := 9) dX7_wordOf_9 (by decide) ?_
    refine x_icmp_ge (pc := 10) dX7_wordOf_10 (tgt := 104) rfl (fun h10 => ?_) (fun h10 => ?_)
    ·
      refine x_iload_n (pc := 104) dX7_wordOf_104 rfl rfl ?_
      refine x_iret (pc := 105) dX7_wordOf_105 rfl (by first | rfl | exact fv_nz _) ?_
      exact ⟨rfl, rfl⟩
    ·
      refine x_aload_n (pc := 13) dX7_wordOf_13 rfl rfl ?_
      refine x_geti (pc := 14) fl_X7_222 dX7_wordOf_14 (tb_106) rfl (ht) ?_
      refine x_iconst (pc := 17) (v := 1) dX7_wordOf_17 rfl ?_
      refine x_icmp_ne (pc := 18) dX7_wordOf_18 (tgt := 104) rfl (fun h18 => ?_) (fun h18 => ?_)
      ·
        refine x_iload_n (pc := 104) dX7_wordOf_104 rfl rfl ?_
        refine x_iret (pc := 105) dX7_wordOf_105 rfl (by first | rfl | exact fv_nz _) ?_
        exact ⟨rfl, rfl⟩
      ·
        exact absurd (q1.mp h18) h1
theorem pWl_all : ((((List.range 7).all fun w => decide (pWl pL0 w 8 = lN (pKv w))) && ((List.range 3).all fun w => decide (pWl pL1 w 8 = lN (pKv (7 + w))))) && (((List.range 2).all fun w => decide (pWl pL2 w 8 = lN (pKv (if w = 0 then 10 else 14)))) && ((List.range 3).all fun w => decide (pWl pL3 w 8 = lN (pKv (11 + w)))))) = true := by decide +kernel
theorem pWl_at : (∀ w, w < 7 → pWl pL0 w 8 = lN (pKv w)) ∧ (∀ w, w < 3 → pWl pL1 w 8 = lN (pKv (7 + w))) ∧ (∀ w, w < 2 → pWl pL2 w 8 = lN (pKv (if w = 0 then 10 else 14))) ∧ (∀ w, w < 3 → pWl pL3 w 8 = lN (pKv (11 + w))) := by
  have h := pWl_all
  rw [Bool.and_eq_true, Bool.and_eq_true, Bool.and_eq_true] at h
  obtain ⟨⟨h1, h2⟩, h3, h4⟩ := h
  exact ⟨fun w hw => of_decide_eq_true (fv_all1 h1 hw), fun w hw => of_decide_eq_true (fv_all1 h2 hw), fun w hw => of_decide_eq_true (fv_all1 h3 hw), fun w hw => of_decide_eq_true (fv_all1 h4 hw)⟩
theorem pL_len : pL0.length = 56 ∧ pL1.length = 24 ∧ pL2.length = 16 ∧ pL3.length = 24 ∧ (∀ i, i < 56 → pL0.getD i 0 < 256) ∧ (∀ i, i < 24 → pL1.getD i 0 < 256) ∧ (∀ i, i < 16 → pL2.getD i 0 < 256) ∧ (∀ i, i < 24 → pL3.getD i 0 < 256) := by
  refine ⟨rfl, rfl, rfl, rfl, fun i hi => ?_, fun i hi => ?_, fun i hi => ?_, fun i hi => ?_⟩
  · exact of_decide_eq_true (fv_all1 (p := fun i => decide (pL0.getD i 0 < 256)) (by decide +kernel) hi)
  · exact of_decide_eq_true (fv_all1 (p := fun i => decide (pL1.getD i 0 < 256)) (by decide +kernel) hi)
  · exact of_decide_eq_true (fv_all1 (p := fun i => decide (pL2.getD i 0 < 256)) (by decide +kernel) hi)
  · exact of_decide_eq_true (fv_all1 (p := fun i => decide (pL3.getD i 0 < 256)) (by decide +kernel) hi)
theorem pWrd_run {x : Int64} {l : List Nat} {κ p : Nat} : ∀ m, (∀ w, w < m → (pWl l w 8 = x ↔ p = κ + w)) → pWrd x l m = if κ ≤ p ∧ p < κ + m then nI (p - κ) else -1
  | 0, _ => by rw [if_neg (by omega)]; rfl
  | m + 1, h => by
    have ih := pWrd_run m (fun w hw => h w (by omega))
    have hm := h m (by omega)
    show (if pWl l m 8 = x then nI m else pWrd x l m) = _
    by_cases q : p = κ + m
    · rw [if_pos (hm.mpr q), if_pos (by omega), show p - κ = m by omega]
    · rw [if_neg (fun z => q (hm.mp z)), ih]
      by_cases q2 : κ ≤ p ∧ p < κ + m
      · rw [if_pos q2, if_pos (by omega)]
      · rw [if_neg q2, if_neg (by omega)]
theorem pYt_1 {b : Nat → Nat} {L s : Nat} : pYt b L s = 1 ↔ pTo b L s = 1 := by
  unfold pYt
  by_cases h : pTo b L s = 2
  · rw [if_pos h]
    by_cases h2 : 999 < pVm b L s
    · rw [if_pos h2]; omega
    · rw [if_neg h2]; omega
  · rw [if_neg h]; omega
theorem pYt_le {b : Nat → Nat} {L s : Nat} : pYt b L s ≤ 4 := by
  unfold pYt
  by_cases h : pTo b L s = 2
  · rw [if_pos h]
    by_cases h2 : 999 < pVm b L s
    · rw [if_pos h2]; omega
    · rw [if_neg h2]; omega
  · rw [if_neg h]; omega
theorem pJv_lt {b : Nat → Nat} {L s : Nat} (h : pTo b L s = 1) : pJv b L s ≤ 9999999999999 * 27 + 26 := pFs_le _ (fun i hi => by
  have := pSo_1.mp ((pTE_all (pTo_1 h).1 (.inl (pTo_1 h).2) hi).trans (pTo_1 h).2)
  show b (s + i) - 96 ≤ 26
  omega)
theorem pWd_iff {b : Nat → Nat} {L s k : Nat} (h : pTo b L s = 1) (hk : k < 15) : lN (pKv k) = lN (pYv b L s) ↔ pWi b L s = k := by
  have hv : pYv b L s = pJv b L s := if_pos h
  have h1 := pJv_lt h
  have h2 := (pKb_sp hk).1
  rw [hv, pk_lEQ (by omega) (by omega), pWi_iff hk]
  exact ⟨fun z => ⟨h, z.symm⟩, fun z => z.2.symm⟩
theorem pWi_15 {b : Nat → Nat} {L s : Nat} (h : ¬ pTo b L s = 1) : pWi b L s = 15 := if_neg h
/-- the model's reader stands at s, in state σ -/
def pN (b : Nat → Nat) (L : Nat) (M : fv_M) (σ : Nat → Int32) (s : Nat) : fv_M := pQ (fv_s M 22 σ) (nI (pYt b L s)) (nI s) (nI (pTE b L s)) (lN (pYv b L s))
def pHm (b : Nat → Nat) (L : Nat) (M : fv_M) : Prop := L ≤ 120 ∧ M 21 12 = nI L ∧ (∀ i, i < L → b i < 256 ∧ M 29 i = nI (b i)) ∧ pI6 (M 30) (M 31) (M 32) (M 33)
section PN
variable {E : fv_E} {d L s : Nat} {b : Nat → Nat} {M : fv_M} {σ τ : Nat → Int32}
theorem pN_22 : pN b L M σ s 22 = σ := rfl
theorem pN_13 : pN b L M σ s 21 13 = nI (pYt b L s) := rfl
theorem pN_15 : pN b L M σ s 21 15 = nI (pTE b L s) := rfl
theorem pN_w : fv_s (pN b L M σ s) 22 τ = pN b L M τ s := by
  unfold pN pQ
  rw [fv_s_comm _ _ _ (show (21 : Nat) ≠ 22 by decide), fv_s_s]
  rfl
theorem pN_q {s2 : Nat} : pQ (pN b L M σ s) (nI (pYt b L s2)) (nI s2) (nI (pTE b L s2)) (lN (pYv b L s2)) = pN b L M σ s2 := pQ_q
theorem hN_next (H : pHm b L M) (hs : s ≤ L) : fv_F E (d + 2) mX7_nextToken [.ref 106] (pN b L M σ s) none (pN b L M σ (pTsk b L (pTE b L s))) := by
  obtain ⟨h1, h2, h3, h4⟩ := H
  exact (hX7_nextToken (E := E) (d := d) (L := L) (e := pTE b L s) (b := b) (M := pN b L M σ s) h1 h2 h3 rfl (pTE_le hs).2.1).m pN_q
theorem hN_w0 (H : pHm b L M) : fv_F E d mX7_wordOf [.ref 106, .ref 115] (pN b L M σ s) (some (.int (if pWi b L s < 7 then nI (pWi b L s) else -1))) (pN b L M σ s) := by
  obtain ⟨h1, h2, h3, h4, h5, h6, h7⟩ := H
  refine (hX7_wordOf (E := E) (d := d) (n := 56) (m := 7) (l := pL0) (M := pN b L M σ s) tb_115 rfl (by decide) pL_len.1 pL_len.2.2.2.2.1 h4 (by decide) (pN_13 (b := b) (L := L) (s := s)) (by have := pYt_le (b := b) (L := L) (s := s); omega) (pQ_val (v := lN (pYv b L s)))).v ?_
  by_cases h : pTo b L s = 1
  · rw [if_pos (pYt_1.mpr h), pWrd_run (κ := 0) (p := pWi b L s) 7 (fun w hw => by rw [pWl_at.1 w hw, pWd_iff h (by omega), Nat.zero_add])]
    by_cases q : pWi b L s < 7
    · rw [if_pos q, if_pos (by omega)]; rfl
    · rw [if_neg q, if_neg (by omega)]
  · rw [if_neg (fun z => h (pYt_1.mp z)), pWi_15 h]; rfl
theorem hN_w1 (H : pHm b L M) : fv_F E d mX7_wordOf [.ref 106, .ref 116] (pN b L M σ s) (some (.int (if 7 ≤ pWi b L s ∧ pWi b L s < 10 then nI (pWi b L s - 7) else -1))) (pN b L M σ s) := by
  obtain ⟨h1, h2, h3, h4, h5, h6, h7⟩ := H
  refine (hX7_wordOf (E := E) (d := d) (n := 24) (m := 3) (l := pL1) (M := pN b L M σ s) tb_116 rfl (by decide) pL_len.2.1 pL_len.2.2.2.2.2.1 h5 (by decide) (pN_13 (b := b) (L := L) (s := s)) (by have := pYt_le (b := b) (L := L) (s := s); omega) (pQ_val (v := lN (pYv b L s)))).v ?_
  by_cases h : pTo b L s = 1
  · rw [if_pos (pYt_1.mpr h), pWrd_run (κ := 7) (p := pWi b L s) 3 (fun w hw => by rw [pWl_at.2.1 w hw, pWd_iff h (by omega)])]
  · rw [if_neg (fun z => h (pYt_1.mp z)), pWi_15 h]; rfl
theorem hN_w3 (H : pHm b L M) : fv_F E d mX7_wordOf [.ref 106, .ref 118] (pN b L M σ s) (some (.int (if 11 ≤ pWi b L s ∧ pWi b L s < 14 then nI (pWi b L s - 11) else -1))) (pN b L M σ s) := by
  obtain ⟨h1, h2, h3, h4, h5, h6, h7⟩ := H
  refine (hX7_wordOf (E := E) (d := d) (n := 24) (m := 3) (l := pL3) (M := pN b L M σ s) tb_118 rfl (by decide) pL_len.2.2.2.1 pL_len.2.2.2.2.2.2.2 h7 (by decide) (pN_13 (b := b) (L := L) (s := s)) (by have := pYt_le (b := b) (L := L) (s := s); omega) (pQ_val (v := lN (pYv b L s)))).v ?_
  by_cases h : pTo b L s = 1
  · rw [if_pos (pYt_1.mpr h), pWrd_run (κ := 11) (p := pWi b L s) 3 (fun w hw => by rw [pWl_at.2.2.2 w hw, pWd_iff h (by omega)])]
  · rw [if_neg (fun z => h (pYt_1.mp z)), pWi_15 h]; rfl
theorem hN_w2 (H : pHm b L M) : fv_F E d mX7_wordOf [.ref 106, .ref 117] (pN b L M σ s) (some (.int (if pWi b L s = 14 then 1 else if pWi b L s = 10 then 0 else -1))) (pN b L M σ s) := by
  obtain ⟨h1, h2, h3, h4, h5, h6, h7⟩ := H
  refine (hX7_wordOf (E := E) (d := d) (n := 16) (m := 2) (l := pL2) (M := pN b L M σ s) tb_117 rfl (by decide) pL_len.2.2.1 pL_len.2.2.2.2.2.2.1 h6 (by decide) (pN_13 (b := b) (L := L) (s := s)) (by have := pYt_le (b := b) (L := L) (s := s); omega) (pQ_val (v := lN (pYv b L s)))).v ?_
  by_cases h : pTo b L s = 1
  · rw [if_pos (pYt_1.mpr h)]
    have e0 : pWl pL2 0 8 = lN (pYv b L s) ↔ pWi b L s = 10 := by rw [pWl_at.2.2.1 0 (by decide)]; exact pWd_iff (k := 10) h (by decide)
    have e1 : pWl pL2 1 8 = lN (pYv b L s) ↔ pWi b L s = 14 := by rw [pWl_at.2.2.1 1 (by decide)]; exact pWd_iff (k := 14) h (by decide)
    show (if pWl pL2 1 8 = lN (pYv b L s) then nI 1 else if pWl pL2 0 8 = lN (pYv b L s) then nI 0 else -1) = _
    by_cases q1 : pWi b L s = 14
    · rw [if_pos (e1.mpr q1), if_pos q1]; rfl
    · rw [if_neg (fun z => q1 (e1.mp z)), if_neg q1]
      by_cases q0 : pWi b L s = 10
      · rw [if_pos (e0.mpr q0), if_pos q0]; rfl
      · rw [if_neg (fun z => q0 (e0.mp z)), if_neg q0]
  · rw [if_neg (fun z => h (pYt_1.mp z)), pWi_15 h]; rfl
end PN
