section WND
variable {E : fv_E} {y : fv_Y} {d pc : Nat} {Φ : Option Value → fv_M → Prop} {st : List Value} {M : fv_M}
theorem x_lstore13 {v0 v1 v2 v3 v4 v5 v6 v7 v8 v9 v10 v11 v12 v13 z : Option Value} {t : List (Option Value)} {x : Int64} (hdg : decode y.2.1 pc = .ok (.lstore 13, 2)) (hc : fv_c1 v12 = true) (k : fv_X E y d Φ (pc + 2) (v0 :: v1 :: v2 :: v3 :: v4 :: v5 :: v6 :: v7 :: v8 :: v9 :: v10 :: v11 :: v12 :: some (.long x) :: none :: t) (st) M) : fv_X E y d Φ (pc) (v0 :: v1 :: v2 :: v3 :: v4 :: v5 :: v6 :: v7 :: v8 :: v9 :: v10 :: v11 :: v12 :: v13 :: z :: t) (.long x :: st) M := xg_lstore (i := 13) hdg (by simp only [List.length_cons]; omega) (fun o _ h => by cases h; exact hc) k
theorem x_fg13 {v0 v1 v2 v3 v4 v5 v6 v7 v8 v9 v10 v11 v12 v13 : Option Value} {t : List (Option Value)} (k : fv_X E y d Φ pc (v0 :: v1 :: v2 :: v3 :: v4 :: v5 :: v6 :: v7 :: v8 :: v9 :: v10 :: v11 :: v12 :: none :: t) st M) : fv_X E y d Φ pc (v0 :: v1 :: v2 :: v3 :: v4 :: v5 :: v6 :: v7 :: v8 :: v9 :: v10 :: v11 :: v12 :: v13 :: t) st M := by
  refine x_fg (by simp only [List.length_cons]) (fun i v hv => ?_) k
  match i with
  | 0 => exact hv
  | 1 => exact hv
  | 2 => exact hv
  | 3 => exact hv
  | 4 => exact hv
  | 5 => exact hv
  | 6 => exact hv
  | 7 => exact hv
  | 8 => exact hv
  | 9 => exact hv
  | 10 => exact hv
  | 11 => exact hv
  | 12 => exact hv
  | 13 => cases hv
  | i + 14 => exact hv
end WND
def pOpL (E : fv_E) (y y' : fv_Y) (args : List Value) (M : fv_M) : Prop := fv_C E 13 y (.ref 0 :: args) M (fun r M1 => ∃ v, r = some (.long v) ∧ fv_C E 13 y' (.ref 106 :: args) M1 (fun r2 M2 => r2 = some (.long v) ∧ pInv M2))
theorem pOpL.bad {E : fv_E} {y y' : fv_Y} {args : List Value} {M : fv_M} {v : Int64} (f : Nat) (I : pInv M) (h1 : fv_F E 13 y (.ref 0 :: args) M (some (.long v)) (pFd M f)) (h2 : ∀ M1, pFr [12] M M1 → fv_F E 13 y' (.ref 106 :: args) M1 (some (.long v)) (pNd M1 f)) : pOpL E y y' args M :=
  fv_C.mono h1 (fun r M1 ⟨e1, e2⟩ => ⟨v, e1, fv_C.mono (h2 M1 (by rw [e2]; exact pFr.rfl'.s (by decide))) (fun r2 M2 ⟨q1, q2⟩ => ⟨q1, by
    subst e2
    subst q2
    exact pInv.fd I pFr.rfl' pFr.rfl' (fun nb nm _ => by rw [pFd_ne _ _ (by decide)]; exact pEq.rfl')⟩)⟩)
theorem pOpL.qry {E : fv_E} {y y' : fv_Y} {args : List Value} {M : fv_M} {v : Int64} (I : pInv M) (h1 : fv_F E 13 y (.ref 0 :: args) M (some (.long v)) M) (h2 : fv_F E 13 y' (.ref 106 :: args) M (some (.long v)) M) : pOpL E y y' args M :=
  fv_C.mono h1 (fun r M1 ⟨e1, e2⟩ => ⟨v, e1, by subst e2; exact fv_C.mono h2 (fun r2 M2 ⟨q1, q2⟩ => ⟨q1, by rw [q2]; exact I⟩)⟩)
theorem hX7_power1 {E : fv_E} {d n : Nat} {b : Int64} {M : fv_M} (hn : n < 2 ^ 30) : fv_F E d mX7_power1 [.long b, .int (nI n)] M (some (.long (pPw b n))) M := by
  refine fv_F.of (ls := [some (.long b), none, some (.int (nI n)), none, none, none]) (by decide) (Nat.le_of_ble_eq_true rfl) rfl ?_
  refine x_lconst (pc := 0) (v := 1) dX7_power1_0 rfl ?_
  refine x_lstore_n3 (pc := 1) dX7_power1_1 rfl ?_
  refine x_iconst (pc := 2) (v := 0) dX7_power1_2 rfl ?_
  refine x_istore5 (pc := 3) dX7_power1_3 rfl ?_
  refine x_loop (fun j => [some (.long b), none, some (.int (nI n)), some (.long (pPw b j)), none, some (.int (nI j))]) (fun j => M) (n) (rfl) (rfl) (fun j hj hn5 => ?_) ?_
  ·
    replace hn5 : fv_X E mX7_power1 _ _ 5 ([some (.long b), none, some (.int (nI n)), some (.long (pPw b (j + 1))), none, some (.int (nI (j + 1)))]) ([]) (M) := hn5
    show fv_X E mX7_power1 _ _ 5 ([some (.long b), none, some (.int (nI n)), some (.long (pPw b j)), none, some (.int (nI j))]) ([]) (M)
    refine x_iload (pc := 5) dX7_power1_5 rfl ?_
    refine x_iload_n (pc := 7) dX7_power1_7 rfl rfl ?_
    refine x_icmp_ge (pc := 8) dX7_power1_8 (tgt := 21) rfl (fun h8 => ?_) (fun h8 => ?_)
    ·
      exact absurd h8 (nI_ge hj (by first | decide | omega))
    ·
      refine x_lload_n (pc := 11) dX7_power1_11 rfl rfl ?_
      refine x_lload_n (pc := 12) dX7_power1_12 rfl rfl ?_
      refine x_lmul (pc := 13) dX7_power1_13 ?_
      refine x_lstore_n3 (pc := 14) dX7_power1_14 rfl ?_
      refine x_iinc5 (pc := 15) dX7_power1_15 (by first | exact fv_inc _ | exact fv_dec _ | rfl) rfl ?_
      refine x_goto (pc := 18) dX7_power1_18 (tgt := 5) rfl ?_
      exact hn5
  ·
    show fv_X E mX7_power1 _ _ 5 ([some (.long b), none, some (.int (nI n)), some (.long (pPw b (n))), none, some (.int (nI (n)))]) ([]) (M)
    refine x_iload (pc := 5) dX7_power1_5 rfl ?_
    refine x_iload_n (pc := 7) dX7_power1_7 rfl rfl ?_
    refine x_icmp_ge (pc := 8) dX7_power1_8 (tgt := 21) rfl (fun h8 => ?_) (fun h8 => ?_)
    ·
      refine x_lload_n (pc := 21) dX7_power1_21 rfl rfl ?_
      refine x_lret (pc := 22) dX7_power1_22 rfl ?_
      exact ⟨rfl, rfl⟩
    ·
      exact absurd (Int32.le_refl _) h8
abbrev pEs (p : Int64 × Int64) : Int64 × Int64 := (p.2, p.1 - p.1 / p.2 * p.2)
def pEi (p : Int64 × Int64) : Nat → Int64 × Int64
  | 0 => p
  | j + 1 => pEs (pEi p j)
theorem pEi_s (p : Int64 × Int64) : ∀ j, pEi (pEs p) j = pEi p (j + 1) := by
  intro j
  induction j with
  | zero => rfl
  | succ j ih => show pEs (pEi (pEs p) j) = pEs (pEi p (j + 1)); rw [ih]
def pEf : Nat → Int64 × Int64 → Nat × Int64
  | 0, p => (0, p.1)
  | f + 1, p => if p.2 = 0 then (0, p.1) else ((pEf f (pEs p)).1 + 1, (pEf f (pEs p)).2)
theorem pEf_of : ∀ f p, (pEf f p).1 < f → (pEi p (pEf f p).1).2 = 0 ∧ (pEi p (pEf f p).1).1 = (pEf f p).2 ∧ ∀ j, j < (pEf f p).1 → ¬ (pEi p j).2 = 0 := by
  intro f
  induction f with
  | zero => intro p h; exact absurd h (Nat.not_lt_zero _)
  | succ f ih =>
    intro p h
    by_cases h0 : p.2 = 0
    · have e : pEf (f + 1) p = (0, p.1) := by rw [pEf, if_pos h0]
      rw [e]
      exact ⟨h0, rfl, fun j hj => absurd hj (Nat.not_lt_zero j)⟩
    · have e : pEf (f + 1) p = ((pEf f (pEs p)).1 + 1, (pEf f (pEs p)).2) := by rw [pEf, if_neg h0]
      rw [e] at h ⊢
      obtain ⟨h1, h2, h3⟩ := ih (pEs p) (Nat.lt_of_succ_lt_succ h)
      refine ⟨by rw [← pEi_s]; exact h1, by rw [← pEi_s]; exact h2, fun j hj => ?_⟩
      cases j with
      | zero => exact h0
      | succ j => rw [← pEi_s]; exact h3 j (Nat.lt_of_succ_lt_succ hj)
abbrev pWnP (w n : Nat) : Int64 × Int64 := (pPw (10 - (nI w).toInt64) n, pPw 10 n)
theorem pWn_all : ((List.range 11).all fun w => (List.range 16).all fun n => decide ((pEf 100 (pWnP w n)).1 < 100 ∧ ¬ (pEf 100 (pWnP w n)).2 = 0 ∧ pPw (10 - (nI w).toInt64) n / (pEf 100 (pWnP w n)).2 = pPw (nI (10 - w) / nI (pGc w)).toInt64 n ∧ pPw 10 n / (pEf 100 (pWnP w n)).2 = pPw (nI 10 / nI (pGc w)).toInt64 n ∧ ¬ nI (pGc w) = 0)) = true := by decide +kernel
theorem pWn_at {w n : Nat} (hw : w < 11) (hn : n < 16) : (pEf 100 (pWnP w n)).1 < 100 ∧ ¬ (pEf 100 (pWnP w n)).2 = 0 ∧ pPw (10 - (nI w).toInt64) n / (pEf 100 (pWnP w n)).2 = pPw (nI (10 - w) / nI (pGc w)).toInt64 n ∧ pPw 10 n / (pEf 100 (pWnP w n)).2 = pPw (nI 10 / nI (pGc w)).toInt64 n ∧ ¬ nI (pGc w) = 0 := of_decide_eq_true (fv_all1 (fv_all1 pWn_all hw) hn)
theorem pDa_n {σ : Nat → Int32} {nb nm k : Nat} (hG : pGd σ nb nm) (hk : k < nm) : ∃ s, s ≤ 800 ∧ pSd σ nb k (pCo σ k) (σ (fM k 2)) + pSd σ nb k (pCo σ k) (pWa σ nb k) = nI s := by
  obtain ⟨h8, hcol, hc, u, hu, eu⟩ := pG2.at hG hk
  obtain ⟨s, hs, e1, -⟩ := pFt_n (f := 0) (a := 0) (D := pDn σ k (pCo σ k) nb) (by decide) nI_0.symm nb (fun b hb => by obtain ⟨x, y, h1, h2, _, h3⟩ := pDm_n (w := σ (fM k 2)) hG.2.1 (hG.2.2.2.2.1 b hb) hc; exact ⟨y, by omega, h3⟩)
  refine ⟨s, by have := hG.2.1; omega, ?_⟩
  rw [← pVf_eq hG.2.1 hc, ← pVa_eq hG.2.1 hc hu eu, pV_sum hG.2.1 hc hcol hu eu, e1]
theorem pLc (b : Int64) : (lg_cmp b 0 = 0) ↔ b = 0 := by
  unfold lg_cmp
  constructor
  · intro h
    split at h
    · exact absurd h (by decide)
    · split at h
      · assumption
      · exact absurd h (by decide)
  · intro h
    subst h
    decide
theorem op_wind {E : fv_E} {m q v : Int32} {M : fv_M} (I : pInv M) : pOpL E mX6_wind mX7_wind [.int m, .int q, .int v] M := by
  obtain ⟨nb, nm, hG, hE, t, ht, eT⟩ := I.1
  have hs0 : 0 < 3 := by decide
  have hs1 : 1 < 3 := by decide
  have hB := hG.1
  have hb := hG.2.1
  have hM := hG.2.2.1
  have hn := hG.2.2.2.1
  have hK := hG.K
  have hC := hG.C
  have hG2 : pGd (M 22) nb nm := hG.cg hE
  by_cases hm : 0 ≤ m ∧ m ≤ nI nm - 1
  · by_cases hw : 0 ≤ q ∧ q ≤ 10
    · by_cases hv : 0 ≤ v ∧ v ≤ 1
      · obtain ⟨k, hk, rfl⟩ := pUx (by omega) hm
        obtain ⟨w, hw10, rfl⟩ := pUm (n := 10) (by decide) hw
        obtain ⟨z, hz, rfl⟩ := pUm (n := 1) (by decide) hv
        have hc := pCo_of hC hk
        have hk8 : k < 8 := by omega
        obtain ⟨x, hx, ex⟩ := pDa_n hG hk
        by_cases hx15 : x ≤ 15
        · obtain ⟨w1, w2, w3, w4, w5⟩ := pWn_at (show w < 11 by omega) (show x < 16 by omega)
          obtain ⟨u1, u2, u3⟩ := pEf_of 100 (pWnP w x) w1
          have e10 : (10 : Int32) - nI w = nI (10 - w) := by rw [show (10 : Int32) = nI 10 from rfl, pk_sub hw10]
          have hlc : ∀ b : Int64, (lg_cmp b 0 = 0) ↔ b = 0 := fun b => pLc b
          generalize hT : (pEf 100 (pWnP w x)).1 = T at *
          generalize hA : (pEf 100 (pWnP w x)).2 = A at *
          rcases (show z = 0 ∨ z = 1 by omega) with rfl | rfl
          · refine pOpL.qry (v := pPw (nI (10 - w) / nI (pGc w)).toInt64 x) I ?_ ?_
            · skip
              refine fv_F.of (ls := [some (.ref 0), some (.int (nI k)), some (.int (nI w)), some (.int (nI 0)), none, none, none]) (by decide) (Nat.le_of_ble_eq_true rfl) rfl ?_
              refine x_aload_n (pc := 0) dX6_wind_0 rfl rfl ?_
              refine x_geta (pc := 1) fl_X6_12 dX6_wind_1 (tb_fv) rfl ?_
              refine x_iload_n (pc := 4) dX6_wind_4 rfl rfl ?_
              refine x_Vi (pc := 5) ks_X6_94 dX6_wind_5 (tb_st (by assumption)) rfl rfl (hHm hM) rfl rfl rfl (Nat.le_of_ble_eq_true rfl) ?_
              refine x_ifb_eq (pc := 8) dX6_wind_8 (tgt := 28) rfl (fun h8 => ?_) (fun h8 => ?_)
              ·
                exact absurd hm h8
              ·
                refine x_iload_n (pc := 11) dX6_wind_11 rfl rfl ?_
                refine x_bipush (pc := 12) (v := 10) dX6_wind_12 rfl ?_
                refine x_Si (pc := 14) ks_X6_51 dX6_wind_14 (hX6_isUpTo) rfl rfl rfl (Nat.le_of_ble_eq_true rfl) ?_
                refine x_ifb_eq (pc := 17) dX6_wind_17 (tgt := 28) rfl (fun h17 => ?_) (fun h17 => ?_)
                ·
                  exact absurd hw h17
                ·
                  refine x_iload_n (pc := 20) dX6_wind_20 rfl rfl ?_
                  refine x_iconst (pc := 21) (v := 1) dX6_wind_21 rfl ?_
                  refine x_Si (pc := 22) ks_X6_51 dX6_wind_22 (hX6_isUpTo) rfl rfl rfl (Nat.le_of_ble_eq_true rfl) ?_
                  refine x_ifb_ne (pc := 25) dX6_wind_25 (tgt := 36) rfl (fun h25 => ?_) (fun h25 => ?_)
                  ·
                    refine x_aload_n (pc := 36) dX6_wind_36 rfl rfl ?_
                    refine x_geta (pc := 37) fl_X6_12 dX6_wind_37 (tb_fv) rfl ?_
                    refine x_aload_n (pc := 40) dX6_wind_40 rfl rfl ?_
                    refine x_geta (pc := 41) fl_X6_12 dX6_wind_41 (tb_fv) rfl ?_
                    refine x_geta (pc := 44) fl_X6_97 dX6_wind_44 (tb_st (by assumption)) rfl ?_
                    refine x_iload_n (pc := 47) dX6_wind_47 rfl rfl ?_
                    refine x_motion (pc := 48) dX6_wind_48 (by assumption) (rfl) (hk8) ?_
                    refine x_Vi (pc := 49) ks_X6_173 dX6_wind_49 (tb_st (by assumption)) rfl rfl ((hX4_droppedInAll hs0 hB hb hK hk8 hc.1 hc.2).v ex) rfl rfl rfl (Nat.le_of_ble_eq_true rfl) ?_
                    refine x_istore4 (pc := 52) dX6_wind_52 rfl ?_
                    refine x_iload (pc := 54) dX6_wind_54 rfl ?_
                    refine x_bipush (pc := 56) (v := 15) dX6_wind_56 rfl ?_
                    refine x_icmp_le (pc := 58) dX6_wind_58 (tgt := 69) rfl (fun h58 => ?_) (fun h58 => ?_)
                    ·
                      refine x_bipush (pc := 69) (v := 10) dX6_wind_69 rfl ?_
                      refine x_iload_n (pc := 71) dX6_wind_71 rfl rfl ?_
                      refine x_isub (pc := 72) dX6_wind_72 ?_
                      rw [e10]
                      refine x_bipush (pc := 73) (v := 10) dX6_wind_73 rfl ?_
                      refine x_Si (pc := 75) ks_X6_207 dX6_wind_75 (hX6_commonDivisor hw10) rfl rfl rfl (Nat.le_of_ble_eq_true rfl) ?_
                      refine x_istore5 (pc := 78) dX6_wind_78 rfl ?_
                      refine x_iload_n (pc := 80) dX6_wind_80 rfl rfl ?_
                      refine x_if_ne (pc := 81) dX6_wind_81 (tgt := 91) rfl (fun h81 => ?_) (fun h81 => ?_)
                      ·
                        exact absurd rfl h81
                      ·
                        refine x_bipush (pc := 84) (v := 10) dX6_wind_84 rfl ?_
                        refine x_iload_n (pc := 86) dX6_wind_86 rfl rfl ?_
                        refine x_isub (pc := 87) dX6_wind_87 ?_
                        try rw [e10]
                        refine x_goto (pc := 88) dX6_wind_88 (tgt := 93) rfl ?_
                        refine x_istore6 (pc := 93) dX6_wind_93 rfl ?_
                        refine x_iload (pc := 95) dX6_wind_95 rfl ?_
                        refine x_iload (pc := 97) dX6_wind_97 rfl ?_
                        refine x_idiv (pc := 99) dX6_wind_99 (w5) ?_
                        refine x_iload (pc := 100) dX6_wind_100 rfl ?_
                        refine x_Sl (pc := 102) ks_X6_210 dX6_wind_102 (hX6_powerOf (by omega)) rfl rfl rfl (Nat.le_of_ble_eq_true rfl) ?_
                        refine x_lret (pc := 105) dX6_wind_105 rfl ?_
                        exact ⟨rfl, rfl⟩
                    ·
                      exact absurd (nI_le (b := 15) hx15 (by omega)) h58
                  ·
                    exact absurd hv h25
            · have e22 : M 22 = M 22 := rfl
              have hM1 := hG2.2.2.1
              refine fv_F.of (ls := [some (.ref 106), some (.int (nI k)), some (.int (nI w)), some (.int (nI 0)), none, none, none, none, none, none, none, none, none, none, none]) (by decide) (Nat.le_of_ble_eq_true rfl) rfl ?_
              refine x_aload_n (pc := 0) dX7_wind_0 rfl rfl ?_
              refine x_iload_n (pc := 1) dX7_wind_1 rfl rfl ?_
              refine x_Vi (pc := 2) ks_X7_126 dX7_wind_2 (tb_106) rfl rfl (hX7_isMotion (x := nI nm) hM1) rfl rfl rfl (Nat.le_of_ble_eq_true rfl) ?_
              refine x_ifb_eq (pc := 5) dX7_wind_5 (tgt := 27) rfl (fun h5 => ?_) (fun h5 => ?_)
              ·
                exact absurd hm h5
              ·
                refine x_iload_n (pc := 8) dX7_wind_8 rfl rfl ?_
                refine x_iconst (pc := 9) (v := 0) dX7_wind_9 rfl ?_
                refine x_bipush (pc := 10) (v := 10) dX7_wind_10 rfl ?_
                refine x_Si (pc := 12) ks_X7_60 dX7_wind_12 (hX7_in1) rfl rfl rfl (Nat.le_of_ble_eq_true rfl) ?_
                refine x_ifb_eq (pc := 15) dX7_wind_15 (tgt := 27) rfl (fun h15 => ?_) (fun h15 => ?_)
                ·
                  exact absurd hw h15
                ·
                  refine x_iload_n (pc := 18) dX7_wind_18 rfl rfl ?_
                  refine x_iconst (pc := 19) (v := 0) dX7_wind_19 rfl ?_
                  refine x_iconst (pc := 20) (v := 1) dX7_wind_20 rfl ?_
                  refine x_Si (pc := 21) ks_X7_60 dX7_wind_21 (hX7_in1) rfl rfl rfl (Nat.le_of_ble_eq_true rfl) ?_
                  refine x_ifb_ne (pc := 24) dX7_wind_24 (tgt := 34) rfl (fun h24 => ?_) (fun h24 => ?_)
                  ·
                    refine x_aload_n (pc := 34) dX7_wind_34 rfl rfl ?_
                    refine x_iload_n (pc := 35) dX7_wind_35 rfl rfl ?_
                    refine x_Vi (pc := 36) ks_X7_161 dX7_wind_36 (tb_106) rfl rfl (((hX7_droppedAll hG2.gb hk8 ((hE.m hk (by decide)).trans hc.1) hc.2 (pG2.at hG2 hk).2.2.2).v (dA_eq hE hk hc.2)).v ex) rfl rfl rfl (Nat.le_of_ble_eq_true rfl) ?_
                    refine x_istore4 (pc := 39) dX7_wind_39 rfl ?_
                    refine x_iload (pc := 41) dX7_wind_41 rfl ?_
                    refine x_bipush (pc := 43) (v := 15) dX7_wind_43 rfl ?_
                    refine x_icmp_le (pc := 45) dX7_wind_45 (tgt := 56) rfl (fun h45 => ?_) (fun h45 => ?_)
                    ·
                      refine x_ldc2 (pc := 56) kc_X7_190 dX7_wind_56 ?_
                      refine x_iload_n (pc := 59) dX7_wind_59 rfl rfl ?_
                      refine x_i2l (pc := 60) dX7_wind_60 ?_
                      refine x_lsub (pc := 61) dX7_wind_61 ?_
                      refine x_iload (pc := 62) dX7_wind_62 rfl ?_
                      refine x_Sl (pc := 64) ks_X7_192 dX7_wind_64 (hX7_power1 (by omega)) rfl rfl rfl (Nat.le_of_ble_eq_true rfl) ?_
                      refine x_lstore5 (pc := 67) dX7_wind_67 rfl ?_
                      refine x_ldc2 (pc := 69) kc_X7_190 dX7_wind_69 ?_
                      refine x_iload (pc := 72) dX7_wind_72 rfl ?_
                      refine x_Sl (pc := 74) ks_X7_192 dX7_wind_74 (hX7_power1 (by omega)) rfl rfl rfl (Nat.le_of_ble_eq_true rfl) ?_
                      refine x_lstore7 (pc := 77) dX7_wind_77 rfl ?_
                      refine x_lload (pc := 79) dX7_wind_79 rfl ?_
                      refine x_lstore9 (pc := 81) dX7_wind_81 rfl ?_
                      refine x_lload (pc := 83) dX7_wind_83 rfl ?_
                      refine x_lstore11 (pc := 85) dX7_wind_85 rfl ?_
                      refine x_loop (fun j => [some (.ref 106), some (.int (nI k)), some (.int (nI w)), some (.int (nI 0)), some (.int (nI x)), some (.long (pPw (10 - (nI w).toInt64) x)), none, some (.long (pPw 10 x)), none, some (.long (pEi (pWnP w x) j).1), none, some (.long (pEi (pWnP w x) j).2), none, none, none]) (fun _ => M) T rfl rfl (fun j hj hL => ?_) ?_
                      · show fv_X E mX7_wind _ _ 87 [some (.ref 106), some (.int (nI k)), some (.int (nI w)), some (.int (nI 0)), some (.int (nI x)), some (.long (pPw (10 - (nI w).toInt64) x)), none, some (.long (pPw 10 x)), none, some (.long (pEi (pWnP w x) j).1), none, some (.long (pEi (pWnP w x) j).2), none, none, none] [] M
                        replace hL : fv_X E mX7_wind _ _ 87 [some (.ref 106), some (.int (nI k)), some (.int (nI w)), some (.int (nI 0)), some (.int (nI x)), some (.long (pPw (10 - (nI w).toInt64) x)), none, some (.long (pPw 10 x)), none, some (.long (pEi (pWnP w x) j).2), none, some (.long ((pEi (pWnP w x) j).1 - (pEi (pWnP w x) j).1 / (pEi (pWnP w x) j).2 * (pEi (pWnP w x) j).2)), none, none, none] [] M := hL
                        refine x_lload (pc := 87) dX7_wind_87 rfl ?_
                        refine x_lconst (pc := 89) (v := 0) dX7_wind_89 rfl ?_
                        refine x_lcmp (pc := 90) dX7_wind_90 ?_
                        refine x_if_eq (pc := 91) dX7_wind_91 (tgt := 112) rfl (fun h91 => ?_) (fun h91 => ?_)
                        ·
                          exact absurd ((hlc _).mp h91) (u3 j hj)
                        ·
                          refine x_lload (pc := 94) dX7_wind_94 rfl ?_
                          refine x_lload (pc := 96) dX7_wind_96 rfl ?_
                          refine x_lrem (pc := 98) dX7_wind_98 (u3 j hj) ?_
                          refine x_lstore13 (pc := 99) dX7_wind_99 rfl ?_
                          refine x_lload (pc := 101) dX7_wind_101 rfl ?_
                          refine x_lstore9 (pc := 103) dX7_wind_103 rfl ?_
                          refine x_lload (pc := 105) dX7_wind_105 rfl ?_
                          refine x_lstore11 (pc := 107) dX7_wind_107 rfl ?_
                          refine x_fg13 ?_
                          refine x_goto (pc := 109) dX7_wind_109 (tgt := 87) rfl ?_
                          exact hL
                      · show fv_X E mX7_wind _ _ 87 [some (.ref 106), some (.int (nI k)), some (.int (nI w)), some (.int (nI 0)), some (.int (nI x)), some (.long (pPw (10 - (nI w).toInt64) x)), none, some (.long (pPw 10 x)), none, some (.long (pEi (pWnP w x) T).1), none, some (.long (pEi (pWnP w x) T).2), none, none, none] [] M
                        rw [u1, u2]
                        refine x_lload (pc := 87) dX7_wind_87 rfl ?_
                        refine x_lconst (pc := 89) (v := 0) dX7_wind_89 rfl ?_
                        refine x_lcmp (pc := 90) dX7_wind_90 ?_
                        refine x_if_eq (pc := 91) dX7_wind_91 (tgt := 112) rfl (fun h91 => ?_) (fun h91 => ?_)
                        ·
                          refine x_iload_n (pc := 112) dX7_wind_112 rfl rfl ?_
                          refine x_if_ne (pc := 113) dX7_wind_113 (tgt := 124) rfl (fun h113 => ?_) (fun h113 => ?_)
                          ·
                            exact absurd rfl h113
                          ·
                            refine x_lload (pc := 116) dX7_wind_116 rfl ?_
                            refine x_lload (pc := 118) dX7_wind_118 rfl ?_
                            refine x_ldiv (pc := 120) dX7_wind_120 (w2) ?_
                            refine x_goto (pc := 121) dX7_wind_121 (tgt := 129) rfl ?_
                            refine x_lret (pc := 129) dX7_wind_129 rfl ?_
                            exact ⟨by rw [w3], rfl⟩
                        ·
                          exact absurd ((hlc _).mpr rfl) h91
                    ·
                      exact absurd (nI_le (b := 15) hx15 (by omega)) h45
                  ·
                    exact absurd hv h24
          · refine pOpL.qry (v := pPw (nI 10 / nI (pGc w)).toInt64 x) I ?_ ?_
            · skip
              refine fv_F.of (ls := [some (.ref 0), some (.int (nI k)), some (.int (nI w)), some (.int (nI 1)), none, none, none]) (by decide) (Nat.le_of_ble_eq_true rfl) rfl ?_
              refine x_aload_n (pc := 0) dX6_wind_0 rfl rfl ?_
              refine x_geta (pc := 1) fl_X6_12 dX6_wind_1 (tb_fv) rfl ?_
              refine x_iload_n (pc := 4) dX6_wind_4 rfl rfl ?_
              refine x_Vi (pc := 5) ks_X6_94 dX6_wind_5 (tb_st (by assumption)) rfl rfl (hHm hM) rfl rfl rfl (Nat.le_of_ble_eq_true rfl) ?_
              refine x_ifb_eq (pc := 8) dX6_wind_8 (tgt := 28) rfl (fun h8 => ?_) (fun h8 => ?_)
              ·
                exact absurd hm h8
              ·
                refine x_iload_n (pc := 11) dX6_wind_11 rfl rfl ?_
                refine x_bipush (pc := 12) (v := 10) dX6_wind_12 rfl ?_
                refine x_Si (pc := 14) ks_X6_51 dX6_wind_14 (hX6_isUpTo) rfl rfl rfl (Nat.le_of_ble_eq_true rfl) ?_
                refine x_ifb_eq (pc := 17) dX6_wind_17 (tgt := 28) rfl (fun h17 => ?_) (fun h17 => ?_)
                ·
                  exact absurd hw h17
                ·
                  refine x_iload_n (pc := 20) dX6_wind_20 rfl rfl ?_
                  refine x_iconst (pc := 21) (v := 1) dX6_wind_21 rfl ?_
                  refine x_Si (pc := 22) ks_X6_51 dX6_wind_22 (hX6_isUpTo) rfl rfl rfl (Nat.le_of_ble_eq_true rfl) ?_
                  refine x_ifb_ne (pc := 25) dX6_wind_25 (tgt := 36) rfl (fun h25 => ?_) (fun h25 => ?_)
                  ·
                    refine x_aload_n (pc := 36) dX6_wind_36 rfl rfl ?_
                    refine x_geta (pc := 37) fl_X6_12 dX6_wind_37 (tb_fv) rfl ?_
                    refine x_aload_n (pc := 40) dX6_wind_40 rfl rfl ?_
                    refine x_geta (pc := 41) fl_X6_12 dX6_wind_41 (tb_fv) rfl ?_
                    refine x_geta (pc := 44) fl_X6_97 dX6_wind_44 (tb_st (by assumption)) rfl ?_
                    refine x_iload_n (pc := 47) dX6_wind_47 rfl rfl ?_
                    refine x_motion (pc := 48) dX6_wind_48 (by assumption) (rfl) (hk8) ?_
                    refine x_Vi (pc := 49) ks_X6_173 dX6_wind_49 (tb_st (by assumption)) rfl rfl ((hX4_droppedInAll hs0 hB hb hK hk8 hc.1 hc.2).v ex) rfl rfl rfl (Nat.le_of_ble_eq_true rfl) ?_
                    refine x_istore4 (pc := 52) dX6_wind_52 rfl ?_
                    refine x_iload (pc := 54) dX6_wind_54 rfl ?_
                    refine x_bipush (pc := 56) (v := 15) dX6_wind_56 rfl ?_
                    refine x_icmp_le (pc := 58) dX6_wind_58 (tgt := 69) rfl (fun h58 => ?_) (fun h58 => ?_)
                    ·
                      refine x_bipush (pc := 69) (v := 10) dX6_wind_69 rfl ?_
                      refine x_iload_n (pc := 71) dX6_wind_71 rfl rfl ?_
                      refine x_isub (pc := 72) dX6_wind_72 ?_
                      rw [e10]
                      refine x_bipush (pc := 73) (v := 10) dX6_wind_73 rfl ?_
                      refine x_Si (pc := 75) ks_X6_207 dX6_wind_75 (hX6_commonDivisor hw10) rfl rfl rfl (Nat.le_of_ble_eq_true rfl) ?_
                      refine x_istore5 (pc := 78) dX6_wind_78 rfl ?_
                      refine x_iload_n (pc := 80) dX6_wind_80 rfl rfl ?_
                      refine x_if_ne (pc := 81) dX6_wind_81 (tgt := 91) rfl (fun h81 => ?_) (fun h81 => ?_)
                      ·
                        refine x_bipush (pc := 91) (v := 10) dX6_wind_91 rfl ?_
                        refine x_istore6 (pc := 93) dX6_wind_93 rfl ?_
                        refine x_iload (pc := 95) dX6_wind_95 rfl ?_
                        refine x_iload (pc := 97) dX6_wind_97 rfl ?_
                        refine x_idiv (pc := 99) dX6_wind_99 (w5) ?_
                        refine x_iload (pc := 100) dX6_wind_100 rfl ?_
                        refine x_Sl (pc := 102) ks_X6_210 dX6_wind_102 (hX6_powerOf (by omega)) rfl rfl rfl (Nat.le_of_ble_eq_true rfl) ?_
                        refine x_lret (pc := 105) dX6_wind_105 rfl ?_
                        exact ⟨rfl, rfl⟩
                      ·
                        exact absurd h81 (by decide)
                    ·
                      exact absurd (nI_le (b := 15) hx15 (by omega)) h58
                  ·
                    exact absurd hv h25
            · have e22 : M 22 = M 22 := rfl
              have hM1 := hG2.2.2.1
              refine fv_F.of (ls := [some (.ref 106), some (.int (nI k)), some (.int (nI w)), some (.int (nI 1)), none, none, none, none, none, none, none, none, none, none, none]) (by decide) (Nat.le_of_ble_eq_true rfl) rfl ?_
              refine x_aload_n (pc := 0) dX7_wind_0 rfl rfl ?_
              refine x_iload_n (pc := 1) dX7_wind_1 rfl rfl ?_
              refine x_Vi (pc := 2) ks_X7_126 dX7_wind_2 (tb_106) rfl rfl (hX7_isMotion (x := nI nm) hM1) rfl rfl rfl (Nat.le_of_ble_eq_true rfl) ?_
              refine x_ifb_eq (pc := 5) dX7_wind_5 (tgt := 27) rfl (fun h5 => ?_) (fun h5 => ?_)
              ·
                exact absurd hm h5
              ·
                refine x_iload_n (pc := 8) dX7_wind_8 rfl rfl ?_
                refine x_iconst (pc := 9) (v := 0) dX7_wind_9 rfl ?_
                refine x_bipush (pc := 10) (v := 10) dX7_wind_10 rfl ?_
                refine x_Si (pc := 12) ks_X7_60 dX7_wind_12 (hX7_in1) rfl rfl rfl (Nat.le_of_ble_eq_true rfl) ?_
                refine x_ifb_eq (pc := 15) dX7_wind_15 (tgt := 27) rfl (fun h15 => ?_) (fun h15 => ?_)
                ·
                  exact absurd hw h15
                ·
                  refine x_iload_n (pc := 18) dX7_wind_18 rfl rfl ?_
                  refine x_iconst (pc := 19) (v := 0) dX7_wind_19 rfl ?_
                  refine x_iconst (pc := 20) (v := 1) dX7_wind_20 rfl ?_
                  refine x_Si (pc := 21) ks_X7_60 dX7_wind_21 (hX7_in1) rfl rfl rfl (Nat.le_of_ble_eq_true rfl) ?_
                  refine x_ifb_ne (pc := 24) dX7_wind_24 (tgt := 34) rfl (fun h24 => ?_) (fun h24 => ?_)
                  ·
                    refine x_aload_n (pc := 34) dX7_wind_34 rfl rfl ?_
                    refine x_iload_n (pc := 35) dX7_wind_35 rfl rfl ?_
                    refine x_Vi (pc := 36) ks_X7_161 dX7_wind_36 (tb_106) rfl rfl (((hX7_droppedAll hG2.gb hk8 ((hE.m hk (by decide)).trans hc.1) hc.2 (pG2.at hG2 hk).2.2.2).v (dA_eq hE hk hc.2)).v ex) rfl rfl rfl (Nat.le_of_ble_eq_true rfl) ?_
                    refine x_istore4 (pc := 39) dX7_wind_39 rfl ?_
                    refine x_iload (pc := 41) dX7_wind_41 rfl ?_
                    refine x_bipush (pc := 43) (v := 15) dX7_wind_43 rfl ?_
                    refine x_icmp_le (pc := 45) dX7_wind_45 (tgt := 56) rfl (fun h45 => ?_) (fun h45 => ?_)
                    ·
                      refine x_ldc2 (pc := 56) kc_X7_190 dX7_wind_56 ?_
                      refine x_iload_n (pc := 59) dX7_wind_59 rfl rfl ?_
                      refine x_i2l (pc := 60) dX7_wind_60 ?_
                      refine x_lsub (pc := 61) dX7_wind_61 ?_
                      refine x_iload (pc := 62) dX7_wind_62 rfl ?_
                      refine x_Sl (pc := 64) ks_X7_192 dX7_wind_64 (hX7_power1 (by omega)) rfl rfl rfl (Nat.le_of_ble_eq_true rfl) ?_
                      refine x_lstore5 (pc := 67) dX7_wind_67 rfl ?_
                      refine x_ldc2 (pc := 69) kc_X7_190 dX7_wind_69 ?_
                      refine x_iload (pc := 72) dX7_wind_72 rfl ?_
                      refine x_Sl (pc := 74) ks_X7_192 dX7_wind_74 (hX7_power1 (by omega)) rfl rfl rfl (Nat.le_of_ble_eq_true rfl) ?_
                      refine x_lstore7 (pc := 77) dX7_wind_77 rfl ?_
                      refine x_lload (pc := 79) dX7_wind_79 rfl ?_
                      refine x_lstore9 (pc := 81) dX7_wind_81 rfl ?_
                      refine x_lload (pc := 83) dX7_wind_83 rfl ?_
                      refine x_lstore11 (pc := 85) dX7_wind_85 rfl ?_
                      refine x_loop (fun j => [some (.ref 106), some (.int (nI k)), some (.int (nI w)), some (.int (nI 1)), some (.int (nI x)), some (.long (pPw (10 - (nI w).toInt64) x)), none, some (.long (pPw 10 x)), none, some (.long (pEi (pWnP w x) j).1), none, some (.long (pEi (pWnP w x) j).2), none, none, none]) (fun _ => M) T rfl rfl (fun j hj hL => ?_) ?_
                      · show fv_X E mX7_wind _ _ 87 [some (.ref 106), some (.int (nI k)), some (.int (nI w)), some (.int (nI 1)), some (.int (nI x)), some (.long (pPw (10 - (nI w).toInt64) x)), none, some (.long (pPw 10 x)), none, some (.long (pEi (pWnP w x) j).1), none, some (.long (pEi (pWnP w x) j).2), none, none, none] [] M
                        replace hL : fv_X E mX7_wind _ _ 87 [some (.ref 106), some (.int (nI k)), some (.int (nI w)), some (.int (nI 1)), some (.int (nI x)), some (.long (pPw (10 - (nI w).toInt64) x)), none, some (.long (pPw 10 x)), none, some (.long (pEi (pWnP w x) j).2), none, some (.long ((pEi (pWnP w x) j).1 - (pEi (pWnP w x) j).1 / (pEi (pWnP w x) j).2 * (pEi (pWnP w x) j).2)), none, none, none] [] M := hL
                        refine x_lload (pc := 87) dX7_wind_87 rfl ?_
                        refine x_lconst (pc := 89) (v := 0) dX7_wind_89 rfl ?_
                        refine x_lcmp (pc := 90) dX7_wind_90 ?_
                        refine x_if_eq (pc := 91) dX7_wind_91 (tgt := 112) rfl (fun h91 => ?_) (fun h91 => ?_)
                        ·
                          exact absurd ((hlc _).mp h91) (u3 j hj)
                        ·
                          refine x_lload (pc := 94) dX7_wind_94 rfl ?_
                          refine x_lload (pc := 96) dX7_wind_96 rfl ?_
                          refine x_lrem (pc := 98) dX7_wind_98 (u3 j hj) ?_
                          refine x_lstore13 (pc := 99) dX7_wind_99 rfl ?_
                          refine x_lload (pc := 101) dX7_wind_101 rfl ?_
                          refine x_lstore9 (pc := 103) dX7_wind_103 rfl ?_
                          refine x_lload (pc := 105) dX7_wind_105 rfl ?_
                          refine x_lstore11 (pc := 107) dX7_wind_107 rfl ?_
                          refine x_fg13 ?_
                          refine x_goto (pc := 109) dX7_wind_109 (tgt := 87) rfl ?_
                          exact hL
                      · show fv_X E mX7_wind _ _ 87 [some (.ref 106), some (.int (nI k)), some (.int (nI w)), some (.int (nI 1)), some (.int (nI x)), some (.long (pPw (10 - (nI w).toInt64) x)), none, some (.long (pPw 10 x)), none, some (.long (pEi (pWnP w x) T).1), none, some (.long (pEi (pWnP w x) T).2), none, none, none] [] M
                        rw [u1, u2]
                        refine x_lload (pc := 87) dX7_wind_87 rfl ?_
                        refine x_lconst (pc := 89) (v := 0) dX7_wind_89 rfl ?_
                        refine x_lcmp (pc := 90) dX7_wind_90 ?_
                        refine x_if_eq (pc := 91) dX7_wind_91 (tgt := 112) rfl (fun h91 => ?_) (fun h91 => ?_)
                        ·
                          refine x_iload_n (pc := 112) dX7_wind_112 rfl rfl ?_
                          refine x_if_ne (pc := 113) dX7_wind_113 (tgt := 124) rfl (fun h113 => ?_) (fun h113 => ?_)
                          ·
                            refine x_lload (pc := 124) dX7_wind_124 rfl ?_
                            refine x_lload (pc := 126) dX7_wind_126 rfl ?_
                            refine x_ldiv (pc := 128) dX7_wind_128 (w2) ?_
                            refine x_lret (pc := 129) dX7_wind_129 rfl ?_
                            exact ⟨by rw [w4], rfl⟩
                          ·
                            exact absurd h113 (by decide)
                        ·
                          exact absurd ((hlc _).mpr rfl) h91
                    ·
                      exact absurd (nI_le (b := 15) hx15 (by omega)) h45
                  ·
                    exact absurd hv h24
        · skip
          refine pOpL.bad (v := (-1000007 : Int32).toInt64) 6 I ?_ (fun M1 hF => ?_)
          · skip
            refine fv_F.of (ls := [some (.ref 0), some (.int (nI k)), some (.int (nI w)), some (.int (nI z)), none, none, none]) (by decide) (Nat.le_of_ble_eq_true rfl) rfl ?_
            refine x_aload_n (pc := 0) dX6_wind_0 rfl rfl ?_
            refine x_geta (pc := 1) fl_X6_12 dX6_wind_1 (tb_fv) rfl ?_
            refine x_iload_n (pc := 4) dX6_wind_4 rfl rfl ?_
            refine x_Vi (pc := 5) ks_X6_94 dX6_wind_5 (tb_st (by assumption)) rfl rfl (hHm hM) rfl rfl rfl (Nat.le_of_ble_eq_true rfl) ?_
            refine x_ifb_eq (pc := 8) dX6_wind_8 (tgt := 28) rfl (fun h8 => ?_) (fun h8 => ?_)
            ·
              exact absurd hm h8
            ·
              refine x_iload_n (pc := 11) dX6_wind_11 rfl rfl ?_
              refine x_bipush (pc := 12) (v := 10) dX6_wind_12 rfl ?_
              refine x_Si (pc := 14) ks_X6_51 dX6_wind_14 (hX6_isUpTo) rfl rfl rfl (Nat.le_of_ble_eq_true rfl) ?_
              refine x_ifb_eq (pc := 17) dX6_wind_17 (tgt := 28) rfl (fun h17 => ?_) (fun h17 => ?_)
              ·
                exact absurd hw h17
              ·
                refine x_iload_n (pc := 20) dX6_wind_20 rfl rfl ?_
                refine x_iconst (pc := 21) (v := 1) dX6_wind_21 rfl ?_
                refine x_Si (pc := 22) ks_X6_51 dX6_wind_22 (hX6_isUpTo) rfl rfl rfl (Nat.le_of_ble_eq_true rfl) ?_
                refine x_ifb_ne (pc := 25) dX6_wind_25 (tgt := 36) rfl (fun h25 => ?_) (fun h25 => ?_)
                ·
                  refine x_aload_n (pc := 36) dX6_wind_36 rfl rfl ?_
                  refine x_geta (pc := 37) fl_X6_12 dX6_wind_37 (tb_fv) rfl ?_
                  refine x_aload_n (pc := 40) dX6_wind_40 rfl rfl ?_
                  refine x_geta (pc := 41) fl_X6_12 dX6_wind_41 (tb_fv) rfl ?_
                  refine x_geta (pc := 44) fl_X6_97 dX6_wind_44 (tb_st (by assumption)) rfl ?_
                  refine x_iload_n (pc := 47) dX6_wind_47 rfl rfl ?_
                  refine x_motion (pc := 48) dX6_wind_48 (by assumption) (rfl) (hk8) ?_
                  refine x_Vi (pc := 49) ks_X6_173 dX6_wind_49 (tb_st (by assumption)) rfl rfl ((hX4_droppedInAll hs0 hB hb hK hk8 hc.1 hc.2).v ex) rfl rfl rfl (Nat.le_of_ble_eq_true rfl) ?_
                  refine x_istore4 (pc := 52) dX6_wind_52 rfl ?_
                  refine x_iload (pc := 54) dX6_wind_54 rfl ?_
                  refine x_bipush (pc := 56) (v := 15) dX6_wind_56 rfl ?_
                  refine x_icmp_le (pc := 58) dX6_wind_58 (tgt := 69) rfl (fun h58 => ?_) (fun h58 => ?_)
                  ·
                    exact absurd ((nI_leI (b := 15) (by omega) (by omega)).mp h58) hx15
                  ·
                    refine x_aload_n (pc := 61) dX6_wind_61 rfl rfl ?_
                    refine x_ldc (pc := 62) kc_X6_206 dX6_wind_62 ?_
                    refine x_Vi (pc := 64) ks_X6_56 dX6_wind_64 (tb_fv) rfl rfl (hX6_fin 6 (-1000007) (by decide +kernel) (by decide)) rfl rfl rfl (Nat.le_of_ble_eq_true rfl) ?_
                    refine x_i2l (pc := 67) dX6_wind_67 ?_
                    refine x_lret (pc := 68) dX6_wind_68 rfl ?_
                    exact ⟨rfl, rfl⟩
                ·
                  exact absurd hv h25
          · skip
            have e22 : M1 22 = M 22 := hF 22 (by decide)
            have hG1 : pGd (M1 22) nb nm := by rw [e22]; exact hG2
            have hE1 : pEq nb nm (M1 22) (M 0) := by rw [e22]; exact hE
            have hB1 := hG1.1
            have hM1 := hG1.2.2.1
            refine fv_F.of (ls := [some (.ref 106), some (.int (nI k)), some (.int (nI w)), some (.int (nI z)), none, none, none, none, none, none, none, none, none, none, none]) (by decide) (Nat.le_of_ble_eq_true rfl) rfl ?_
            refine x_aload_n (pc := 0) dX7_wind_0 rfl rfl ?_
            refine x_iload_n (pc := 1) dX7_wind_1 rfl rfl ?_
            refine x_Vi (pc := 2) ks_X7_126 dX7_wind_2 (tb_106) rfl rfl (hX7_isMotion (x := nI nm) hM1) rfl rfl rfl (Nat.le_of_ble_eq_true rfl) ?_
            refine x_ifb_eq (pc := 5) dX7_wind_5 (tgt := 27) rfl (fun h5 => ?_) (fun h5 => ?_)
            ·
              exact absurd hm h5
            ·
              refine x_iload_n (pc := 8) dX7_wind_8 rfl rfl ?_
              refine x_iconst (pc := 9) (v := 0) dX7_wind_9 rfl ?_
              refine x_bipush (pc := 10) (v := 10) dX7_wind_10 rfl ?_
              refine x_Si (pc := 12) ks_X7_60 dX7_wind_12 (hX7_in1) rfl rfl rfl (Nat.le_of_ble_eq_true rfl) ?_
              refine x_ifb_eq (pc := 15) dX7_wind_15 (tgt := 27) rfl (fun h15 => ?_) (fun h15 => ?_)
              ·
                exact absurd hw h15
              ·
                refine x_iload_n (pc := 18) dX7_wind_18 rfl rfl ?_
                refine x_iconst (pc := 19) (v := 0) dX7_wind_19 rfl ?_
                refine x_iconst (pc := 20) (v := 1) dX7_wind_20 rfl ?_
                refine x_Si (pc := 21) ks_X7_60 dX7_wind_21 (hX7_in1) rfl rfl rfl (Nat.le_of_ble_eq_true rfl) ?_
                refine x_ifb_ne (pc := 24) dX7_wind_24 (tgt := 34) rfl (fun h24 => ?_) (fun h24 => ?_)
                ·
                  refine x_aload_n (pc := 34) dX7_wind_34 rfl rfl ?_
                  refine x_iload_n (pc := 35) dX7_wind_35 rfl rfl ?_
                  refine x_Vi (pc := 36) ks_X7_161 dX7_wind_36 (tb_106) rfl rfl (((hX7_droppedAll hG1.gb hk8 ((hE1.m hk (by decide)).trans hc.1) hc.2 (pG2.at hG1 hk).2.2.2).v (dA_eq hE1 hk hc.2)).v ex) rfl rfl rfl (Nat.le_of_ble_eq_true rfl) ?_
                  refine x_istore4 (pc := 39) dX7_wind_39 rfl ?_
                  refine x_iload (pc := 41) dX7_wind_41 rfl ?_
                  refine x_bipush (pc := 43) (v := 15) dX7_wind_43 rfl ?_
                  refine x_icmp_le (pc := 45) dX7_wind_45 (tgt := 56) rfl (fun h45 => ?_) (fun h45 => ?_)
                  ·
                    exact absurd ((nI_leI (b := 15) (by omega) (by omega)).mp h45) hx15
                  ·
                    refine x_aload_n (pc := 48) dX7_wind_48 rfl rfl ?_
                    refine x_bipush (pc := 49) (v := 6) dX7_wind_49 rfl ?_
                    refine x_Vi (pc := 51) ks_X7_114 dX7_wind_51 (tb_106) rfl rfl (hX7_noL 6 (-1000007) (by decide) (by decide +kernel)) rfl rfl rfl (Nat.le_of_ble_eq_true rfl) ?_
                    refine x_i2l (pc := 54) dX7_wind_54 ?_
                    refine x_lret (pc := 55) dX7_wind_55 rfl ?_
                    exact ⟨rfl, rfl⟩
                ·
                  exact absurd hv h24
      · skip
        refine pOpL.bad (v := (-1000001 : Int32).toInt64) 0 I ?_ (fun M1 hF => ?_)
        · skip
          refine fv_F.of (ls := [some (.ref 0), some (.int m), some (.int q), some (.int v), none, none, none]) (by decide) (Nat.le_of_ble_eq_true rfl) rfl ?_
          refine x_aload_n (pc := 0) dX6_wind_0 rfl rfl ?_
          refine x_geta (pc := 1) fl_X6_12 dX6_wind_1 (tb_fv) rfl ?_
          refine x_iload_n (pc := 4) dX6_wind_4 rfl rfl ?_
          refine x_Vi (pc := 5) ks_X6_94 dX6_wind_5 (tb_st (by assumption)) rfl rfl (hHm hM) rfl rfl rfl (Nat.le_of_ble_eq_true rfl) ?_
          refine x_ifb_eq (pc := 8) dX6_wind_8 (tgt := 28) rfl (fun h8 => ?_) (fun h8 => ?_)
          ·
            contradiction
          ·
            refine x_iload_n (pc := 11) dX6_wind_11 rfl rfl ?_
            refine x_bipush (pc := 12) (v := 10) dX6_wind_12 rfl ?_
            refine x_Si (pc := 14) ks_X6_51 dX6_wind_14 (hX6_isUpTo) rfl rfl rfl (Nat.le_of_ble_eq_true rfl) ?_
            refine x_ifb_eq (pc := 17) dX6_wind_17 (tgt := 28) rfl (fun h17 => ?_) (fun h17 => ?_)
            ·
              contradiction
            ·
              refine x_iload_n (pc := 20) dX6_wind_20 rfl rfl ?_
              refine x_iconst (pc := 21) (v := 1) dX6_wind_21 rfl ?_
              refine x_Si (pc := 22) ks_X6_51 dX6_wind_22 (hX6_isUpTo) rfl rfl rfl (Nat.le_of_ble_eq_true rfl) ?_
              refine x_ifb_ne (pc := 25) dX6_wind_25 (tgt := 36) rfl (fun h25 => ?_) (fun h25 => ?_)
              ·
                contradiction
              ·
                refine x_aload_n (pc := 28) dX6_wind_28 rfl rfl ?_
                refine x_ldc (pc := 29) kc_X6_55 dX6_wind_29 ?_
                refine x_Vi (pc := 31) ks_X6_56 dX6_wind_31 (tb_fv) rfl rfl (hX6_fin 0 (-1000001) (by decide +kernel) (by decide)) rfl rfl rfl (Nat.le_of_ble_eq_true rfl) ?_
                refine x_i2l (pc := 34) dX6_wind_34 ?_
                refine x_lret (pc := 35) dX6_wind_35 rfl ?_
                exact ⟨rfl, rfl⟩
        · skip
          have e22 : M1 22 = M 22 := hF 22 (by decide)
          have hG1 : pGd (M1 22) nb nm := by rw [e22]; exact hG2
          have hE1 : pEq nb nm (M1 22) (M 0) := by rw [e22]; exact hE
          have hB1 := hG1.1
          have hM1 := hG1.2.2.1
          refine fv_F.of (ls := [some (.ref 106), some (.int m), some (.int q), some (.int v), none, none, none, none, none, none, none, none, none, none, none]) (by decide) (Nat.le_of_ble_eq_true rfl) rfl ?_
          refine x_aload_n (pc := 0) dX7_wind_0 rfl rfl ?_
          refine x_iload_n (pc := 1) dX7_wind_1 rfl rfl ?_
          refine x_Vi (pc := 2) ks_X7_126 dX7_wind_2 (tb_106) rfl rfl (hX7_isMotion (x := nI nm) hM1) rfl rfl rfl (Nat.le_of_ble_eq_true rfl) ?_
          refine x_ifb_eq (pc := 5) dX7_wind_5 (tgt := 27) rfl (fun h5 => ?_) (fun h5 => ?_)
          ·
            contradiction
          ·
            refine x_iload_n (pc := 8) dX7_wind_8 rfl rfl ?_
            refine x_iconst (pc := 9) (v := 0) dX7_wind_9 rfl ?_
            refine x_bipush (pc := 10) (v := 10) dX7_wind_10 rfl ?_
            refine x_Si (pc := 12) ks_X7_60 dX7_wind_12 (hX7_in1) rfl rfl rfl (Nat.le_of_ble_eq_true rfl) ?_
            refine x_ifb_eq (pc := 15) dX7_wind_15 (tgt := 27) rfl (fun h15 => ?_) (fun h15 => ?_)
            ·
              contradiction
            ·
              refine x_iload_n (pc := 18) dX7_wind_18 rfl rfl ?_
              refine x_iconst (pc := 19) (v := 0) dX7_wind_19 rfl ?_
              refine x_iconst (pc := 20) (v := 1) dX7_wind_20 rfl ?_
              refine x_Si (pc := 21) ks_X7_60 dX7_wind_21 (hX7_in1) rfl rfl rfl (Nat.le_of_ble_eq_true rfl) ?_
              refine x_ifb_ne (pc := 24) dX7_wind_24 (tgt := 34) rfl (fun h24 => ?_) (fun h24 => ?_)
              ·
                contradiction
              ·
                refine x_aload_n (pc := 27) dX7_wind_27 rfl rfl ?_
                refine x_iconst (pc := 28) (v := 0) dX7_wind_28 rfl ?_
                refine x_Vi (pc := 29) ks_X7_114 dX7_wind_29 (tb_106) rfl rfl (hX7_noL 0 (-1000001) (by decide) (by decide +kernel)) rfl rfl rfl (Nat.le_of_ble_eq_true rfl) ?_
                refine x_i2l (pc := 32) dX7_wind_32 ?_
                refine x_lret (pc := 33) dX7_wind_33 rfl ?_
                exact ⟨rfl, rfl⟩
    · skip
      refine pOpL.bad (v := (-1000001 : Int32).toInt64) 0 I ?_ (fun M1 hF => ?_)
      · skip
        refine fv_F.of (ls := [some (.ref 0), some (.int m), some (.int q), some (.int v), none, none, none]) (by decide) (Nat.le_of_ble_eq_true rfl) rfl ?_
        refine x_aload_n (pc := 0) dX6_wind_0 rfl rfl ?_
        refine x_geta (pc := 1) fl_X6_12 dX6_wind_1 (tb_fv) rfl ?_
        refine x_iload_n (pc := 4) dX6_wind_4 rfl rfl ?_
        refine x_Vi (pc := 5) ks_X6_94 dX6_wind_5 (tb_st (by assumption)) rfl rfl (hHm hM) rfl rfl rfl (Nat.le_of_ble_eq_true rfl) ?_
        refine x_ifb_eq (pc := 8) dX6_wind_8 (tgt := 28) rfl (fun h8 => ?_) (fun h8 => ?_)
        ·
          contradiction
        ·
          refine x_iload_n (pc := 11) dX6_wind_11 rfl rfl ?_
          refine x_bipush (pc := 12) (v := 10) dX6_wind_12 rfl ?_
          refine x_Si (pc := 14) ks_X6_51 dX6_wind_14 (hX6_isUpTo) rfl rfl rfl (Nat.le_of_ble_eq_true rfl) ?_
          refine x_ifb_eq (pc := 17) dX6_wind_17 (tgt := 28) rfl (fun h17 => ?_) (fun h17 => ?_)
          ·
            refine x_aload_n (pc := 28) dX6_wind_28 rfl rfl ?_
            refine x_ldc (pc := 29) kc_X6_55 dX6_wind_29 ?_
            refine x_Vi (pc := 31) ks_X6_56 dX6_wind_31 (tb_fv) rfl rfl (hX6_fin 0 (-1000001) (by decide +kernel) (by decide)) rfl rfl rfl (Nat.le_of_ble_eq_true rfl) ?_
            refine x_i2l (pc := 34) dX6_wind_34 ?_
            refine x_lret (pc := 35) dX6_wind_35 rfl ?_
            exact ⟨rfl, rfl⟩
          ·
            contradiction
      · skip
        have e22 : M1 22 = M 22 := hF 22 (by decide)
        have hG1 : pGd (M1 22) nb nm := by rw [e22]; exact hG2
        have hE1 : pEq nb nm (M1 22) (M 0) := by rw [e22]; exact hE
        have hB1 := hG1.1
        have hM1 := hG1.2.2.1
        refine fv_F.of (ls := [some (.ref 106), some (.int m), some (.int q), some (.int v), none, none, none, none, none, none, none, none, none, none, none]) (by decide) (Nat.le_of_ble_eq_true rfl) rfl ?_
        refine x_aload_n (pc := 0) dX7_wind_0 rfl rfl ?_
        refine x_iload_n (pc := 1) dX7_wind_1 rfl rfl ?_
        refine x_Vi (pc := 2) ks_X7_126 dX7_wind_2 (tb_106) rfl rfl (hX7_isMotion (x := nI nm) hM1) rfl rfl rfl (Nat.le_of_ble_eq_true rfl) ?_
        refine x_ifb_eq (pc := 5) dX7_wind_5 (tgt := 27) rfl (fun h5 => ?_) (fun h5 => ?_)
        ·
          contradiction
        ·
          refine x_iload_n (pc := 8) dX7_wind_8 rfl rfl ?_
          refine x_iconst (pc := 9) (v := 0) dX7_wind_9 rfl ?_
          refine x_bipush (pc := 10) (v := 10) dX7_wind_10 rfl ?_
          refine x_Si (pc := 12) ks_X7_60 dX7_wind_12 (hX7_in1) rfl rfl rfl (Nat.le_of_ble_eq_true rfl) ?_
          refine x_ifb_eq (pc := 15) dX7_wind_15 (tgt := 27) rfl (fun h15 => ?_) (fun h15 => ?_)
          ·
            refine x_aload_n (pc := 27) dX7_wind_27 rfl rfl ?_
            refine x_iconst (pc := 28) (v := 0) dX7_wind_28 rfl ?_
            refine x_Vi (pc := 29) ks_X7_114 dX7_wind_29 (tb_106) rfl rfl (hX7_noL 0 (-1000001) (by decide) (by decide +kernel)) rfl rfl rfl (Nat.le_of_ble_eq_true rfl) ?_
            refine x_i2l (pc := 32) dX7_wind_32 ?_
            refine x_lret (pc := 33) dX7_wind_33 rfl ?_
            exact ⟨rfl, rfl⟩
          ·
            contradiction
  · skip
    refine pOpL.bad (v := (-1000001 : Int32).toInt64) 0 I ?_ (fun M1 hF => ?_)
    · skip
      refine fv_F.of (ls := [some (.ref 0), some (.int m), some (.int q), some (.int v), none, none, none]) (by decide) (Nat.le_of_ble_eq_true rfl) rfl ?_
      refine x_aload_n (pc := 0) dX6_wind_0 rfl rfl ?_
      refine x_geta (pc := 1) fl_X6_12 dX6_wind_1 (tb_fv) rfl ?_
      refine x_iload_n (pc := 4) dX6_wind_4 rfl rfl ?_
      refine x_Vi (pc := 5) ks_X6_94 dX6_wind_5 (tb_st (by assumption)) rfl rfl (hHm hM) rfl rfl rfl (Nat.le_of_ble_eq_true rfl) ?_
      refine x_ifb_eq (pc := 8) dX6_wind_8 (tgt := 28) rfl (fun h8 => ?_) (fun h8 => ?_)
      ·
        refine x_aload_n (pc := 28) dX6_wind_28 rfl rfl ?_
        refine x_ldc (pc := 29) kc_X6_55 dX6_wind_29 ?_
        refine x_Vi (pc := 31) ks_X6_56 dX6_wind_31 (tb_fv) rfl rfl (hX6_fin 0 (-1000001) (by decide +kernel) (by decide)) rfl rfl rfl (Nat.le_of_ble_eq_true rfl) ?_
        refine x_i2l (pc := 34) dX6_wind_34 ?_
        refine x_lret (pc := 35) dX6_wind_35 rfl ?_
        exact ⟨rfl, rfl⟩
      ·
        contradiction
    · skip
      have e22 : M1 22 = M 22 := hF 22 (by decide)
      have hG1 : pGd (M1 22) nb nm := by rw [e22]; exact hG2
      have hE1 : pEq nb nm (M1 22) (M 0) := by rw [e22]; exact hE
      have hB1 := hG1.1
      have hM1 := hG1.2.2.1
      refine fv_F.of (ls := [some (.ref 106), some (.int m), some (.int q), some (.int v), none, none, none, none, none, none, none, none, none, none, none]) (by decide) (Nat.le_of_ble_eq_true rfl) rfl ?_
      refine x_aload_n (pc := 0) dX7_wind_0 rfl rfl ?_
      refine x_iload_n (pc := 1) dX7_wind_1 rfl rfl ?_
      refine x_Vi (pc := 2) ks_X7_126 dX7_wind_2 (tb_106) rfl rfl (hX7_isMotion (x := nI nm) hM1) rfl rfl rfl (Nat.le_of_ble_eq_true rfl) ?_
      refine x_ifb_eq (pc := 5) dX7_wind_5 (tgt := 27) rfl (fun h5 => ?_) (fun h5 => ?_)
      ·
        refine x_aload_n (pc := 27) dX7_wind_27 rfl rfl ?_
        refine x_iconst (pc := 28) (v := 0) dX7_wind_28 rfl ?_
        refine x_Vi (pc := 29) ks_X7_114 dX7_wind_29 (tb_106) rfl rfl (hX7_noL 0 (-1000001) (by decide) (by decide +kernel)) rfl rfl rfl (Nat.le_of_ble_eq_true rfl) ?_
        refine x_i2l (pc := 32) dX7_wind_32 ?_
        refine x_lret (pc := 33) dX7_wind_33 rfl ?_
        exact ⟨rfl, rfl⟩
      ·
        contradiction
