/-- the trial state and the place among the tokens, over a memory -/
def pMS (M : fv_M) (σ : Nat → Int32) (j : Nat) : fv_M := fv_s (fv_s M 1 σ) 4 (fv_u (M 4) 6 (nI j))
theorem pMS_1 {M : fv_M} {σ : Nat → Int32} {j : Nat} : pMS M σ j 1 = σ := rfl
theorem pMS_w {M : fv_M} {σ τ : Nat → Int32} {j : Nat} : fv_s (pMS M σ j) 1 τ = pMS M τ j := by
  unfold pMS
  rw [fv_s_comm _ _ _ (show (4 : Nat) ≠ 1 by decide), fv_s_s]
theorem pMS_j {M : fv_M} {σ : Nat → Int32} {j k : Nat} : pMj (pMS M σ j) k = pMS M σ k := by
  show fv_s (pMS M σ j) 4 (fv_u (fv_u (M 4) 6 (nI j)) 6 (nI k)) = _
  rw [fv_u_u]
  unfold pMS
  rw [fv_s_s]
def pTJ (b : Nat → Nat) (L : Nat) (M : fv_M) : Prop := pTk b L M ∧ L ≤ 120 ∧ ∀ i, i < L → b i < 256
theorem pTJ.at {b : Nat → Nat} {L j : Nat} {M : fv_M} {σ : Nat → Int32} (h : pTJ b L M) (hj : j ≤ pTn b L) : pTj b L j (pMS M σ j) := by
  obtain ⟨⟨i1, i2, i3, i4⟩, h4, h5⟩ := h
  exact ⟨⟨i1, i2, i3, i4⟩, rfl, hj, h4, h5⟩
def pWk (b : Nat → Nat) (L k j : Nat) : Nat := if pWi b L (pTS b L j) = k then pAd b L j else j
def pNj (b : Nat → Nat) (L most j : Nat) : Nat := if pNum b L j most then pAd b L j else j
def pNu (b : Nat → Nat) (L most j : Nat) : Int32 := if pNum b L j most then nI (pVn b L (pTS b L j)) else -1
theorem pWk_le {b : Nat → Nat} {L k j : Nat} (h : j ≤ pTn b L) : pWk b L k j ≤ pTn b L := by
  unfold pWk
  by_cases q : pWi b L (pTS b L j) = k
  · rw [if_pos q]; exact pAd_le h
  · rw [if_neg q]; exact h
theorem pNj_le {b : Nat → Nat} {L most j : Nat} (h : j ≤ pTn b L) : pNj b L most j ≤ pTn b L := by
  unfold pNj
  by_cases q : pNum b L j most
  · rw [if_pos q]; exact pAd_le h
  · rw [if_neg q]; exact h
section RD
variable {E : fv_E} {d L j k most : Nat} {b : Nat → Nat} {M : fv_M} {σ : Nat → Int32}
theorem hA_adv (hT : pTJ b L M) (hj : j ≤ pTn b L) : fv_F E d mX5_advance [.ref 88] (pMS M σ j) none (pMS M σ (pAd b L j)) := (hX5_adv (hT.at hj)).m pMS_j
theorem hA_tW (hT : pTJ b L M) (hj : j ≤ pTn b L) (hk : k < 15) : fv_F E (d + 5) mX5_takeWord [.ref 88, .ref (1000 + k)] (pMS M σ j) (some (.int (bI (pWi b L (pTS b L j) = k)))) (pMS M σ (pWk b L k j)) := by
  refine (hX5_takeWord (hT.at hj) hk).m ?_
  unfold pWk
  by_cases q : pWi b L (pTS b L j) = k
  · rw [if_pos q, if_pos q, pMS_j]
  · rw [if_neg q, if_neg q]
theorem hA_tN (hT : pTJ b L M) (hj : j ≤ pTn b L) (hm : most ≤ 999) : fv_F E (d + 1) mX5_takeNumber [.ref 88, .int (nI most)] (pMS M σ j) (some (.int (pNu b L most j))) (pMS M σ (pNj b L most j)) := by
  unfold pNu
  refine (hX5_takeNumber (hT.at hj) hm).m ?_
  unfold pNj
  by_cases q : pNum b L j most
  · rw [if_pos q, if_pos q, pMS_j]
  · rw [if_neg q, if_neg q]
end RD
theorem pNu_n {b : Nat → Nat} {L most j : Nat} (h : pNum b L j most) : pNu b L most j = nI (pVn b L (pTS b L j)) := if_pos h
theorem pNu_f {b : Nat → Nat} {L most j : Nat} (h : ¬ pNum b L j most) : pNu b L most j = -1 := if_neg h
theorem pVn_le {b : Nat → Nat} {L s : Nat} : pVn b L s ≤ 1000 := pNv_le _
/-- feathers behind "has": places, state, how many, whether in order -/
def pAi (b : Nat → Nat) (L j : Nat) : Nat → Nat
  | 0 => j
  | c + 1 => pAd b L (pAi b L j c)
def pGs (b : Nat → Nat) (L i j : Nat) (σ : Nat → Int32) : Nat → Nat → Int32
  | 0 => σ
  | c + 1 => fv_u (pGs b L i j σ c) (fB i (3 + c)) (nI (pVn b L (pTS b L (pAi b L j c))))
def pGn (b : Nat → Nat) (L j : Nat) : Nat := wT (fun c => decide (pNum b L (pAi b L j c) 99)) 4
abbrev pGo (b : Nat → Nat) (L j : Nat) : Prop := pGn b L j = 4 ∨ (pGn b L j ≠ 0 ∧ pTo b L (pTS b L (pAi b L j (pGn b L j))) ≠ 2)
theorem pAi_le {b : Nat → Nat} {L j : Nat} (h : j ≤ pTn b L) : ∀ c, pAi b L j c ≤ pTn b L
  | 0 => h
  | c + 1 => pAd_le (pAi_le h c)
theorem hX5_readFeathers {E : fv_E} {d L j i : Nat} {b : Nat → Nat} {M : fv_M} {σ : Nat → Int32} (hT : pTJ b L M) (hj : j ≤ pTn b L) (hi : i < 8) : fv_F E (d + 6) mX5_readFeathers [.ref 88, .ref (aB 1 i)] (pMS M σ j) (some (.int (bI (¬ pWi b L (pTS b L j) = 7 ∨ pGo b L (pAd b L j))))) (if pWi b L (pTS b L j) = 7 then pMS M (pGs b L i (pAd b L j) σ (pGn b L (pAd b L j))) (pAi b L (pAd b L j) (pGn b L (pAd b L j))) else pMS M σ j) := by
  have h13 : (1 : Nat) < 3 := by decide
  have hW := hA_tW (E := E) (d := d) (k := 7) (σ := σ) hT hj (by decide)
  by_cases hw : pWi b L (pTS b L j) = 7
  · rw [if_pos hw]
    rw [show pWk b L 7 j = pAd b L j from if_pos hw] at hW
    have hj1 := pAd_le hj
    generalize pAd b L j = J at *
    obtain ⟨w1, w2, w3⟩ := wT_all (fun c => decide (pNum b L (pAi b L J c) 99)) 4
    have w2' : ∀ c, c < pGn b L J → pNum b L (pAi b L J c) 99 := fun c hc => of_decide_eq_true (w2 c hc)
    have w3' : pGn b L J < 4 → ¬ pNum b L (pAi b L J (pGn b L J)) 99 := fun hc => of_decide_eq_false (w3 hc)
    have w1' : pGn b L J ≤ 4 := w1
    clear w1 w2 w3
    have hat : ∀ c τ, pTj b L (pAi b L J c) (pMS M τ (pAi b L J c)) := fun c τ => hT.at (pAi_le hj1 c)
    have hn := (pTn_sp b L).1
    have hL := hT.2.1
    unfold pGo
    generalize pGn b L J = n at *
    refine fv_F.of (ls := [some (.ref 88), some (.ref (aB 1 i)), none, none]) (by decide) (Nat.le_of_ble_eq_true rfl) rfl ?_
    refine x_aload_n (pc := 0) dX5_readFeathers_0 rfl rfl ?_
    refine x_ldcs (pc := 1) (k := 7) dX5_readFeathers_1 (by decide) rfl rfl ?_
    refine x_Vi (pc := 3) ks_X5_89 dX5_readFeathers_3 (tb_88) rfl rfl (hW) rfl rfl rfl (Nat.le_of_ble_eq_true rfl) ?_
    refine x_ifb_ne (pc := 6) dX5_readFeathers_6 (tgt := 11) rfl (fun h6 => ?_) (fun h6 => ?_)
    ·
      refine x_iconst (pc := 11) (v := 0) dX5_readFeathers_11 rfl ?_
      refine x_istore_n2 (pc := 12) dX5_readFeathers_12 rfl ?_
      refine x_loop (fun c => [some (.ref 88), some (.ref (aB 1 i)), some (.int (nI c)), none]) (fun c => pMS M (pGs b L i J σ c) (pAi b L J c)) n rfl rfl (fun c hc hL3 => ?_) ?_
      · show fv_X E mX5_readFeathers _ _ 13 [some (.ref 88), some (.ref (aB 1 i)), some (.int (nI c)), none] [] (pMS M (pGs b L i J σ c) (pAi b L J c))
        replace hL3 : fv_X E mX5_readFeathers _ _ 13 [some (.ref 88), some (.ref (aB 1 i)), some (.int (nI (c + 1))), none] [] (pMS M (fv_u (pGs b L i J σ c) (fB i (3 + c)) (nI (pVn b L (pTS b L (pAi b L J c))))) (pAd b L (pAi b L J c))) := hL3
        have hp := w2' c hc
        obtain ⟨⟨i1, i2, i3, i4⟩, qj, -⟩ := hat c (pGs b L i J σ c)
        have v6 := (i4 _ (pAi_le hj1 c)).1
        have hle := pAi_le hj1 c
        have hNN := hA_tN (E := E) (d := d + 4) (most := 99) (σ := pGs b L i J σ c) hT hle (by decide)
        rw [pNu_n hp, show pNj b L 99 (pAi b L J c) = pAd b L (pAi b L J c) from if_pos hp] at hNN
        have hto := pTo_le (b := b) (L := L) (s := pTS b L (pAi b L J c))
        refine x_iload_n (pc := 13) dX5_readFeathers_13 rfl rfl ?_
        refine x_iconst (pc := 14) (v := 4) dX5_readFeathers_14 rfl ?_
        refine x_icmp_ge (pc := 15) dX5_readFeathers_15 (tgt := 61) rfl (fun h15 => ?_) (fun h15 => ?_)
        ·
          exact absurd h15 (nI_ge (b := 4) (by omega) (by decide))
        ·
          refine x_iload_n (pc := 18) dX5_readFeathers_18 rfl rfl ?_
          refine x_if_eq (pc := 19) dX5_readFeathers_19 (tgt := 35) rfl (fun h19 => ?_) (fun h19 => ?_)
          ·
            refine x_aload_n (pc := 35) dX5_readFeathers_35 rfl rfl ?_
            refine x_bipush (pc := 36) (v := 99) dX5_readFeathers_36 rfl ?_
            refine x_Vi (pc := 38) ks_X5_136 dX5_readFeathers_38 (tb_88) rfl rfl (hNN) rfl rfl rfl (Nat.le_of_ble_eq_true rfl) ?_
            refine x_istore_n3 (pc := 41) dX5_readFeathers_41 rfl ?_
            refine x_iload_n (pc := 42) dX5_readFeathers_42 rfl rfl ?_
            refine x_if_ge (pc := 43) dX5_readFeathers_43 (tgt := 48) rfl (fun h43 => ?_) (fun h43 => ?_)
            ·
              refine x_aload_n (pc := 48) dX5_readFeathers_48 rfl rfl ?_
              refine x_geta (pc := 49) fl_X5_139 dX5_readFeathers_49 (tb_b (by assumption) (by assumption)) rfl ?_
              refine x_iload_n (pc := 52) dX5_readFeathers_52 rfl rfl ?_
              refine x_iload_n (pc := 53) dX5_readFeathers_53 rfl rfl ?_
              refine x_iast (pc := 54) dX5_readFeathers_54 (tb_f (by assumption) (by assumption)) (rfl) (by omega) (by first | decide | assumption) ?_
              rw [pMS_1, pMS_w, show fB i 3 + c = fB i (3 + c) from Nat.add_assoc _ _ _]
              refine x_iinc2 (pc := 55) dX5_readFeathers_55 (by first | exact fv_inc _ | exact fv_dec _ | rfl) rfl ?_
              refine x_goto (pc := 58) dX5_readFeathers_58 (tgt := 13) rfl ?_
              exact x_fg3 hL3
            ·
              exact absurd (nI_pos' (by have := hp.2; omega)) h43
          ·
            refine x_aload_n (pc := 22) dX5_readFeathers_22 rfl rfl ?_
            refine x_geta (pc := 23) fl_X5_19 dX5_readFeathers_23 (tb_88) rfl ?_
            refine x_aload_n (pc := 26) dX5_readFeathers_26 rfl rfl ?_
            refine x_geti (pc := 27) fl_X5_31 dX5_readFeathers_27 (tb_88) rfl (qj) ?_
            refine x_iale (pc := 30) dX5_readFeathers_30 (tb_90) (rfl) (by omega) (by first | decide | assumption) (show _ = nI (pTo b L (pTS b L (pAi b L J c))) from by rw [Nat.zero_add]; exact v6) ?_
            refine x_iconst (pc := 31) (v := 2) dX5_readFeathers_31 rfl ?_
            refine x_icmp_ne (pc := 32) dX5_readFeathers_32 (tgt := 61) rfl (fun h32 => ?_) (fun h32 => ?_)
            ·
              exact absurd (congrArg nI hp.1) h32
            ·
              refine x_aload_n (pc := 35) dX5_readFeathers_35 rfl rfl ?_
              refine x_bipush (pc := 36) (v := 99) dX5_readFeathers_36 rfl ?_
              refine x_Vi (pc := 38) ks_X5_136 dX5_readFeathers_38 (tb_88) rfl rfl (hNN) rfl rfl rfl (Nat.le_of_ble_eq_true rfl) ?_
              refine x_istore_n3 (pc := 41) dX5_readFeathers_41 rfl ?_
              refine x_iload_n (pc := 42) dX5_readFeathers_42 rfl rfl ?_
              refine x_if_ge (pc := 43) dX5_readFeathers_43 (tgt := 48) rfl (fun h43 => ?_) (fun h43 => ?_)
              ·
                refine x_aload_n (pc := 48) dX5_readFeathers_48 rfl rfl ?_
                refine x_geta (pc := 49) fl_X5_139 dX5_readFeathers_49 (tb_b (by assumption) (by assumption)) rfl ?_
                refine x_iload_n (pc := 52) dX5_readFeathers_52 rfl rfl ?_
                refine x_iload_n (pc := 53) dX5_readFeathers_53 rfl rfl ?_
                refine x_iast (pc := 54) dX5_readFeathers_54 (tb_f (by assumption) (by assumption)) (rfl) (by omega) (by first | decide | assumption) ?_
                rw [pMS_1, pMS_w, show fB i 3 + c = fB i (3 + c) from Nat.add_assoc _ _ _]
                refine x_iinc2 (pc := 55) dX5_readFeathers_55 (by first | exact fv_inc _ | exact fv_dec _ | rfl) rfl ?_
                refine x_goto (pc := 58) dX5_readFeathers_58 (tgt := 13) rfl ?_
                exact x_fg3 hL3
              ·
                exact absurd (nI_pos' (by have := hp.2; omega)) h43
      · show fv_X E mX5_readFeathers _ _ 13 [some (.ref 88), some (.ref (aB 1 i)), some (.int (nI n)), none] [] (pMS M (pGs b L i J σ n) (pAi b L J n))
        obtain ⟨⟨i1, i2, i3, i4⟩, qj, -⟩ := hat n (pGs b L i J σ n)
        have v6 := (i4 _ (pAi_le hj1 n)).1
        have hle := pAi_le hj1 n
        have hNN := hA_tN (E := E) (d := d + 4) (most := 99) (σ := pGs b L i J σ n) hT hle (by decide)
        have hto := pTo_le (b := b) (L := L) (s := pTS b L (pAi b L J n))
        have q0 : nI n = 0 ↔ n = 0 := nI_eq (b := 0) (by omega) (by decide)
        have q2 : nI (pTo b L (pTS b L (pAi b L J n))) = 2 ↔ pTo b L (pTS b L (pAi b L J n)) = 2 := nI_eq (b := 2) (by omega) (by decide)
        by_cases h4 : n = 4
        · have eq := bI_t (p := ¬ pWi b L (pTS b L j) = 7 ∨ (n = 4 ∨ (n ≠ 0 ∧ pTo b L (pTS b L (pAi b L J n)) ≠ 2))) (.inr (.inl h4))
          have hx15 : (4 : Int32) ≤ nI n := by rw [h4]; exact Int32.le_refl _
          refine x_iload_n (pc := 13) dX5_readFeathers_13 rfl rfl ?_
          refine x_iconst (pc := 14) (v := 4) dX5_readFeathers_14 rfl ?_
          refine x_icmp_ge (pc := 15) dX5_readFeathers_15 (tgt := 61) rfl (fun h15 => ?_) (fun h15 => ?_)
          ·
            refine x_iconst (pc := 61) (v := 1) dX5_readFeathers_61 rfl ?_
            refine x_iret (pc := 62) dX5_readFeathers_62 rfl (by first | rfl | exact fv_nz _) ?_
            exact ⟨congrArg (fun z => some (Value.int z)) eq.symm, rfl⟩
          ·
            exact absurd hx15 h15
        · have hnp := w3' (by omega)
          rw [pNu_f hnp, show pNj b L 99 (pAi b L J n) = pAi b L J n from if_neg hnp] at hNN
          refine x_iload_n (pc := 13) dX5_readFeathers_13 rfl rfl ?_
          refine x_iconst (pc := 14) (v := 4) dX5_readFeathers_14 rfl ?_
          refine x_icmp_ge (pc := 15) dX5_readFeathers_15 (tgt := 61) rfl (fun h15 => ?_) (fun h15 => ?_)
          ·
            exact absurd h15 (nI_ge (b := 4) (by omega) (by decide))
          ·
            refine x_iload_n (pc := 18) dX5_readFeathers_18 rfl rfl ?_
            refine x_if_eq (pc := 19) dX5_readFeathers_19 (tgt := 35) rfl (fun h19 => ?_) (fun h19 => ?_)
            ·
              have eq := bI_f (p := ¬ pWi b L (pTS b L j) = 7 ∨ (n = 4 ∨ (n ≠ 0 ∧ pTo b L (pTS b L (pAi b L J n)) ≠ 2))) (fun z => z.elim (fun z => z hw) (fun z => z.elim h4 (fun z => z.1 (q0.mp h19))))
              refine x_aload_n (pc := 35) dX5_readFeathers_35 rfl rfl ?_
              refine x_bipush (pc := 36) (v := 99) dX5_readFeathers_36 rfl ?_
              refine x_Vi (pc := 38) ks_X5_136 dX5_readFeathers_38 (tb_88) rfl rfl (hNN) rfl rfl rfl (Nat.le_of_ble_eq_true rfl) ?_
              refine x_istore_n3 (pc := 41) dX5_readFeathers_41 rfl ?_
              refine x_iload_n (pc := 42) dX5_readFeathers_42 rfl rfl ?_
              refine x_if_ge (pc := 43) dX5_readFeathers_43 (tgt := 48) rfl (fun h43 => ?_) (fun h43 => ?_)
              ·
                exact absurd h43 (by decide)
              ·
                refine x_iconst (pc := 46) (v := 0) dX5_readFeathers_46 rfl ?_
                refine x_iret (pc := 47) dX5_readFeathers_47 rfl (by first | rfl | exact fv_nz _) ?_
                exact ⟨congrArg (fun z => some (Value.int z)) eq.symm, rfl⟩
            ·
              refine x_aload_n (pc := 22) dX5_readFeathers_22 rfl rfl ?_
              refine x_geta (pc := 23) fl_X5_19 dX5_readFeathers_23 (tb_88) rfl ?_
              refine x_aload_n (pc := 26) dX5_readFeathers_26 rfl rfl ?_
              refine x_geti (pc := 27) fl_X5_31 dX5_readFeathers_27 (tb_88) rfl (qj) ?_
              refine x_iale (pc := 30) dX5_readFeathers_30 (tb_90) (rfl) (by omega) (by first | decide | assumption) (show _ = nI (pTo b L (pTS b L (pAi b L J n))) from by rw [Nat.zero_add]; exact v6) ?_
              refine x_iconst (pc := 31) (v := 2) dX5_readFeathers_31 rfl ?_
              refine x_icmp_ne (pc := 32) dX5_readFeathers_32 (tgt := 61) rfl (fun h32 => ?_) (fun h32 => ?_)
              ·
                have eq := bI_t (p := ¬ pWi b L (pTS b L j) = 7 ∨ (n = 4 ∨ (n ≠ 0 ∧ pTo b L (pTS b L (pAi b L J n)) ≠ 2))) (.inr ((.inr ⟨fun z => h19 (q0.mpr z), fun z => h32 (q2.mpr z)⟩)))
                refine x_iconst (pc := 61) (v := 1) dX5_readFeathers_61 rfl ?_
                refine x_iret (pc := 62) dX5_readFeathers_62 rfl (by first | rfl | exact fv_nz _) ?_
                exact ⟨congrArg (fun z => some (Value.int z)) eq.symm, rfl⟩
              ·
                have eq := bI_f (p := ¬ pWi b L (pTS b L j) = 7 ∨ (n = 4 ∨ (n ≠ 0 ∧ pTo b L (pTS b L (pAi b L J n)) ≠ 2))) (fun z => z.elim (fun z => z hw) (fun z => z.elim h4 (fun z => z.2 (q2.mp h32))))
                refine x_aload_n (pc := 35) dX5_readFeathers_35 rfl rfl ?_
                refine x_bipush (pc := 36) (v := 99) dX5_readFeathers_36 rfl ?_
                refine x_Vi (pc := 38) ks_X5_136 dX5_readFeathers_38 (tb_88) rfl rfl (hNN) rfl rfl rfl (Nat.le_of_ble_eq_true rfl) ?_
                refine x_istore_n3 (pc := 41) dX5_readFeathers_41 rfl ?_
                refine x_iload_n (pc := 42) dX5_readFeathers_42 rfl rfl ?_
                refine x_if_ge (pc := 43) dX5_readFeathers_43 (tgt := 48) rfl (fun h43 => ?_) (fun h43 => ?_)
                ·
                  exact absurd h43 (by decide)
                ·
                  refine x_iconst (pc := 46) (v := 0) dX5_readFeathers_46 rfl ?_
                  refine x_iret (pc := 47) dX5_readFeathers_47 rfl (by first | rfl | exact fv_nz _) ?_
                  exact ⟨congrArg (fun z => some (Value.int z)) eq.symm, rfl⟩
    ·
      exact absurd hw h6
  · rw [if_neg hw, bI_t (.inl hw)]
    rw [show pWk b L 7 j = j from if_neg hw] at hW
    refine fv_F.of (ls := [some (.ref 88), some (.ref (aB 1 i)), none, none]) (by decide) (Nat.le_of_ble_eq_true rfl) rfl ?_
    refine x_aload_n (pc := 0) dX5_readFeathers_0 rfl rfl ?_
    refine x_ldcs (pc := 1) (k := 7) dX5_readFeathers_1 (by decide) rfl rfl ?_
    refine x_Vi (pc := 3) ks_X5_89 dX5_readFeathers_3 (tb_88) rfl rfl (hW) rfl rfl rfl (Nat.le_of_ble_eq_true rfl) ?_
    refine x_ifb_ne (pc := 6) dX5_readFeathers_6 (tgt := 11) rfl (fun h6 => ?_) (fun h6 => ?_)
    ·
      exact absurd h6 hw
    ·
      refine x_iconst (pc := 9) (v := 1) dX5_readFeathers_9 rfl ?_
      refine x_iret (pc := 10) dX5_readFeathers_10 rfl (by first | rfl | exact fv_nz _) ?_
      exact ⟨rfl, rfl⟩
