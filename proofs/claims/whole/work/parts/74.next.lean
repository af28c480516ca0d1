/-! THE MODEL'S TOKENS -/
theorem pL6_le {a b : Nat} (ha : a < 2 ^ 63) (hb : b < 2 ^ 63) : lg_cmp (lN a) (lN b) ≤ 0 ↔ a ≤ b := (lg_cmp_le _ _).trans (pk_lLE ha hb)
theorem pL6_step {v m x c : Nat} (hx : c ≤ x) : lN v * lN m + lN x - lN c = lN (v * m + (x - c)) := by
  rw [lN_mul, lN_add, lN_sub (by omega), Nat.add_sub_assoc hx]
def pQ (M : fv_M) (t s e : Int32) (v : Int64) : fv_M := fv_s M 21 (fun i => if i = 13 then t else if i = 14 then s else if i = 15 then e else if i = 16 then fv_hi v else if i = 17 then fv_lo v else M 21 i)
section PQ
variable {M : fv_M} {t s e : Int32} {v : Int64}
theorem pQ_t {x : Int32} : fv_s (pQ M t s e v) 21 (fv_u (pQ M t s e v 21) 13 x) = pQ M x s e v := by
  unfold pQ
  rw [fv_s_same, fv_s_s]
  refine congrArg (fv_s M 21) (funext fun i => ?_)
  unfold fv_u
  rcases (show i = 13 ∨ i = 14 ∨ i = 15 ∨ i = 16 ∨ i = 17 ∨ (i ≠ 13 ∧ i ≠ 14 ∧ i ≠ 15 ∧ i ≠ 16 ∧ i ≠ 17) by omega) with rfl | rfl | rfl | rfl | rfl | ⟨g1, g2, g3, g4, g5⟩ <;> first | rfl | simp [g1, g2, g3, g4, g5]
theorem pQ_e {x : Int32} : fv_s (pQ M t s e v) 21 (fv_u (pQ M t s e v 21) 15 x) = pQ M t s x v := by
  unfold pQ
  rw [fv_s_same, fv_s_s]
  refine congrArg (fv_s M 21) (funext fun i => ?_)
  unfold fv_u
  rcases (show i = 13 ∨ i = 14 ∨ i = 15 ∨ i = 16 ∨ i = 17 ∨ (i ≠ 13 ∧ i ≠ 14 ∧ i ≠ 15 ∧ i ≠ 16 ∧ i ≠ 17) by omega) with rfl | rfl | rfl | rfl | rfl | ⟨g1, g2, g3, g4, g5⟩ <;> first | rfl | simp [g1, g2, g3, g4, g5]
theorem pQ_v {x : Int64} : fv_s (pQ M t s e v) 21 (fv_u (fv_u (pQ M t s e v 21) 16 (fv_hi x)) (16 + 1) (fv_lo x)) = pQ M t s e x := by
  unfold pQ
  rw [fv_s_same, fv_s_s]
  refine congrArg (fv_s M 21) (funext fun i => ?_)
  unfold fv_u
  rcases (show i = 13 ∨ i = 14 ∨ i = 15 ∨ i = 16 ∨ i = 17 ∨ (i ≠ 13 ∧ i ≠ 14 ∧ i ≠ 15 ∧ i ≠ 16 ∧ i ≠ 17) by omega) with rfl | rfl | rfl | rfl | rfl | ⟨g1, g2, g3, g4, g5⟩ <;> first | rfl | simp [g1, g2, g3, g4, g5]
theorem pQ_q {t' s' e' : Int32} {v' : Int64} : pQ (pQ M t s e v) t' s' e' v' = pQ M t' s' e' v' := by
  unfold pQ
  rw [fv_s_same, fv_s_s]
  refine congrArg (fv_s M 21) (funext fun i => ?_)
  rcases (show i = 13 ∨ i = 14 ∨ i = 15 ∨ i = 16 ∨ i = 17 ∨ (i ≠ 13 ∧ i ≠ 14 ∧ i ≠ 15 ∧ i ≠ 16 ∧ i ≠ 17) by omega) with rfl | rfl | rfl | rfl | rfl | ⟨g1, g2, g3, g4, g5⟩ <;> first | rfl | simp [g1, g2, g3, g4, g5]
theorem pQ_0 {x : Int32} : fv_s (fv_s (fv_s M 21 (fv_u (M 21) 14 x)) 21 (fv_u ((fv_s M 21 (fv_u (M 21) 14 x)) 21) 15 x)) 21 (fv_u (fv_u ((fv_s (fv_s M 21 (fv_u (M 21) 14 x)) 21 (fv_u ((fv_s M 21 (fv_u (M 21) 14 x)) 21) 15 x)) 21) 16 (fv_hi v)) (16 + 1) (fv_lo v)) = pQ M (M 21 13) x x v := by
  unfold pQ
  rw [fv_s_same, fv_s_same, fv_s_s, fv_s_s]
  refine congrArg (fv_s M 21) (funext fun i => ?_)
  unfold fv_u
  rcases (show i = 13 ∨ i = 14 ∨ i = 15 ∨ i = 16 ∨ i = 17 ∨ (i ≠ 13 ∧ i ≠ 14 ∧ i ≠ 15 ∧ i ≠ 16 ∧ i ≠ 17) by omega) with rfl | rfl | rfl | rfl | rfl | ⟨g1, g2, g3, g4, g5⟩ <;> first | rfl | simp [g1, g2, g3, g4, g5]
theorem pQ_val : fv_comb (pQ M t s e v 21 16) (pQ M t s e v 21 (16 + 1)) = v := fv_comb_eq v
end PQ
theorem pQb {M : fv_M} {p v : Int32} : fv_s (fv_s M 21 (fv_u (M 21) 14 p)) 21 (fv_u ((fv_s M 21 (fv_u (M 21) 14 p)) 21) 14 v) = fv_s M 21 (fv_u (M 21) 14 v) := by rw [fv_s_same, fv_s_s, fv_u_u]
theorem pSo_4 {v : Nat} : pSo v = 4 ↔ v = 32 := by
  unfold pSo
  (repeat' split) <;> omega
theorem pSo_3 {v : Nat} : pSo v = 3 ↔ v = 59 := by
  unfold pSo
  (repeat' split) <;> omega
theorem pI97 {v : Nat} (h : v < 256) : (97 ≤ nI v ∧ nI v ≤ 122) ↔ pSo v = 1 := by
  have q := pSo_i h
  rw [pSo_1, ← Int32.not_lt, ← Int32.not_lt, q.1, q.2.1]
  omega
theorem pI48 {v : Nat} (h : v < 256) : (48 ≤ nI v ∧ nI v ≤ 57) ↔ pSo v = 2 := by
  have q := pSo_i h
  rw [pSo_2, ← Int32.not_lt, ← Int32.not_lt, q.2.2.1, q.2.2.2.1]
  omega
theorem hX7_isLetter {E : fv_E} {d v : Nat} {M : fv_M} (h : v < 256) : fv_F E (d + 1) mX7_isLetter [.int (nI v)] M (some (.int (bI (pSo v = 1)))) M := by
  have q := (hX7_in1 (E := E) (d := d) (v := nI v) (a := 97) (b := 122) (M := M)).v (bI_congr (pI97 h))
  refine fv_F.of (ls := [some (.int (nI v))]) (by decide) (Nat.le_of_ble_eq_true rfl) rfl ?_
  refine x_iload_n (pc := 0) dX7_isLetter_0 rfl rfl ?_
  refine x_bipush (pc := 1) (v := 97) dX7_isLetter_1 rfl ?_
  refine x_bipush (pc := 3) (v := 122) dX7_isLetter_3 rfl ?_
  refine x_Si (pc := 5) ks_X7_60 dX7_isLetter_5 (q) rfl rfl rfl (Nat.le_of_ble_eq_true rfl) ?_
  refine x_iret (pc := 8) dX7_isLetter_8 rfl (by first | rfl | exact fv_nz _) ?_
  exact ⟨rfl, rfl⟩
theorem hX7_isDigit {E : fv_E} {d v : Nat} {M : fv_M} (h : v < 256) : fv_F E (d + 1) mX7_isDigit [.int (nI v)] M (some (.int (bI (pSo v = 2)))) M := by
  have q := (hX7_in1 (E := E) (d := d) (v := nI v) (a := 48) (b := 57) (M := M)).v (bI_congr (pI48 h))
  refine fv_F.of (ls := [some (.int (nI v))]) (by decide) (Nat.le_of_ble_eq_true rfl) rfl ?_
  refine x_iload_n (pc := 0) dX7_isDigit_0 rfl rfl ?_
  refine x_bipush (pc := 1) (v := 48) dX7_isDigit_1 rfl ?_
  refine x_bipush (pc := 3) (v := 57) dX7_isDigit_3 rfl ?_
  refine x_Si (pc := 5) ks_X7_60 dX7_isDigit_5 (q) rfl rfl rfl (Nat.le_of_ble_eq_true rfl) ?_
  refine x_iret (pc := 8) dX7_isDigit_8 rfl (by first | rfl | exact fv_nz _) ?_
  exact ⟨rfl, rfl⟩
/-- the model's token: its sort, its value -/
def pYt (b : Nat → Nat) (L s : Nat) : Nat := if pTo b L s = 2 then (if 999 < pVm b L s then 4 else 2) else min (pTo b L s) 4
def pYv (b : Nat → Nat) (L s : Nat) : Nat := if pTo b L s = 1 then pJv b L s else if pTo b L s = 2 then pVm b L s else 0
theorem pFs_le {a : Nat → Nat} : ∀ n, (∀ i, i < n → a i ≤ 26) → pFs a n ≤ 9999999999999 * 27 + 26
  | 0, _ => by show 0 ≤ _; omega
  | n + 1, h => by
    have ih := pFs_le n (fun i hi => h i (by omega))
    have := h n (by omega)
    show (if 9999999999999 < pFs a n then pFs a n else pFs a n * 27 + a n) ≤ _
    by_cases q : 9999999999999 < pFs a n
    · rw [if_pos q]; exact ih
    · rw [if_neg q]; omega
theorem pNm_le {b : Nat → Nat} {s : Nat} : ∀ n, (∀ i, i < n → b (s + i) ≤ 57) → pNm b s n ≤ 9999
  | 0, _ => by show 0 ≤ _; omega
  | n + 1, h => by
    have ih := pNm_le n (fun i hi => h i (by omega))
    have := h n (by omega)
    show (if 999 < pNm b s n then pNm b s n else pNm b s n * 10 + (b (s + n) - 48)) ≤ _
    by_cases q : 999 < pNm b s n
    · rw [if_pos q]; exact ih
    · rw [if_neg q]; omega
theorem hX7_nextToken {E : fv_E} {d L e : Nat} {b : Nat → Nat} {M : fv_M} (hL : L ≤ 120) (h12 : M 21 12 = nI L) (hb : ∀ i, i < L → b i < 256 ∧ M 29 i = nI (b i)) (he : M 21 15 = nI e) (hle : e ≤ L) : fv_F E (d + 2) mX7_nextToken [.ref 106] M none (pQ M (nI (pYt b L (pTsk b L e))) (nI (pTsk b L e)) (nI (pTE b L (pTsk b L e))) (lN (pYv b L (pTsk b L e)))) := by
  obtain ⟨s1, s2, s3, s4⟩ : e ≤ pTsk b L e ∧ pTsk b L e ≤ L ∧ (∀ q, e ≤ q → q < pTsk b L e → pSo (b q) = 4) ∧ (pTsk b L e < L → ¬ pSo (b (pTsk b L e)) = 4) := by
    obtain ⟨a1, a2, a3, a4⟩ := pRun_sp (f := fun q => decide (pSo (b q) = 4)) hle
    exact ⟨a1, a2, fun q h1 h2 => of_decide_eq_true (a3 q h1 h2), fun h => of_decide_eq_false (a4 h)⟩
  generalize pTsk b L e = s at *
  have hE := pTE_le (b := b) s2
  refine fv_F.of (ls := [some (.ref 106)]) (by decide) (Nat.le_of_ble_eq_true rfl) rfl ?_
  refine x_aload_n (pc := 0) dX7_nextToken_0 rfl rfl ?_
  refine x_aload_n (pc := 1) dX7_nextToken_1 rfl rfl ?_
  refine x_geti (pc := 2) fl_X7_212 dX7_nextToken_2 (tb_106) rfl (he) ?_
  refine x_put (pc := 5) fl_X7_215 dX7_nextToken_5 (tb_106) rfl rfl rfl ?_
  refine x_loop (fun _ => [some (.ref 106)]) (fun i => fv_s M 21 (fv_u (M 21) 14 (nI (e + i)))) (s - e) rfl rfl (fun i hi hL3 => ?_) ?_
  · show fv_X E mX7_nextToken _ _ 8 [some (.ref 106)] [] (fv_s M 21 (fv_u (M 21) 14 (nI (e + i))))
    replace hL3 : fv_X E mX7_nextToken _ _ 8 [some (.ref 106)] [] (fv_s M 21 (fv_u (M 21) 14 (nI (e + i + 1)))) := hL3
    have hbl := pSo_4.mp (s3 (e + i) (by omega) (by omega))
    refine x_aload_n (pc := 8) dX7_nextToken_8 rfl rfl ?_
    refine x_geti (pc := 9) fl_X7_215 dX7_nextToken_9 (tb_106) rfl (show _ = nI (e + i) from rfl) ?_
    refine x_aload_n (pc := 12) dX7_nextToken_12 rfl rfl ?_
    refine x_geti (pc := 13) fl_X7_209 dX7_nextToken_13 (tb_106) rfl (show _ = nI L from h12) ?_
    refine x_icmp_ge (pc := 16) dX7_nextToken_16 (tgt := 46) rfl (fun h16 => ?_) (fun h16 => ?_)
    ·
      exact absurd h16 (nI_ge (by omega) (by omega))
    ·
      refine x_aload_n (pc := 19) dX7_nextToken_19 rfl rfl ?_
      refine x_geta (pc := 20) fl_X7_31 dX7_nextToken_20 (tb_106) rfl ?_
      refine x_aload_n (pc := 23) dX7_nextToken_23 rfl rfl ?_
      refine x_geti (pc := 24) fl_X7_215 dX7_nextToken_24 (tb_106) rfl (show _ = nI (e + i) from rfl) ?_
      refine x_iale (pc := 27) dX7_nextToken_27 (tb_114) (rfl) (by omega) (by first | decide | assumption) (show _ = nI (b (e + i)) from by rw [Nat.zero_add]; exact (hb _ (by omega)).2) ?_
      refine x_bipush (pc := 28) (v := 32) dX7_nextToken_28 rfl ?_
      refine x_icmp_ne (pc := 30) dX7_nextToken_30 (tgt := 46) rfl (fun h30 => ?_) (fun h30 => ?_)
      ·
        exact absurd (congrArg nI hbl) h30
      ·
        refine x_aload_n (pc := 33) dX7_nextToken_33 rfl rfl ?_
        first | refine x_dupa (pc := 34) dX7_nextToken_34 ?_ | refine x_dupi (pc := 34) dX7_nextToken_34 ?_
        refine x_geti (pc := 35) fl_X7_215 dX7_nextToken_35 (tb_106) rfl (show _ = nI (e + i) from rfl) ?_
        refine x_iconst (pc := 38) (v := 1) dX7_nextToken_38 rfl ?_
        refine x_iadd (pc := 39) dX7_nextToken_39 ?_
        refine x_put (pc := 40) fl_X7_215 dX7_nextToken_40 (tb_106) rfl rfl rfl ?_
        rw [pQb, nI_1]
        refine x_goto (pc := 43) dX7_nextToken_43 (tgt := 8) rfl ?_
        exact hL3
  · show fv_X E mX7_nextToken _ _ 8 [some (.ref 106)] [] (fv_s M 21 (fv_u (M 21) 14 (nI (e + (s - e)))))
    rw [show e + (s - e) = s by omega]
    have H46 : fv_X E mX7_nextToken (d + 2) (fun r' M' => r' = none ∧ M' = pQ M (nI (pYt b L s)) (nI s) (nI (pTE b L s)) (lN (pYv b L s))) 46 [some (.ref 106)] [] (fv_s M 21 (fv_u (M 21) 14 (nI s))) := by
      have t0 : s = L → pYt b L s = 0 ∧ pTE b L s = s ∧ pYv b L s = 0 := fun h => by
        unfold pYt pYv pTE pTo
        rw [if_neg (show ¬ s < L by omega), if_neg (show ¬ s < L by omega)]
        exact ⟨rfl, h.symm, rfl⟩
      have tl : s < L → pTo b L s = pSo (b s) := fun h => by unfold pTo; rw [if_pos h]
      refine x_aload_n (pc := 46) dX7_nextToken_46 rfl rfl ?_
      refine x_aload_n (pc := 47) dX7_nextToken_47 rfl rfl ?_
      refine x_geti (pc := 48) fl_X7_215 dX7_nextToken_48 (tb_106) rfl (show _ = nI s from rfl) ?_
      refine x_put (pc := 51) fl_X7_212 dX7_nextToken_51 (tb_106) rfl rfl rfl ?_
      refine x_aload_n (pc := 54) dX7_nextToken_54 rfl rfl ?_
      refine x_lconst (pc := 55) (v := 0) dX7_nextToken_55 rfl ?_
      refine x_putl (pc := 56) fl_X7_218 dX7_nextToken_56 (tb_106) rfl ?_
      rw [pQ_0]
      refine x_aload_n (pc := 59) dX7_nextToken_59 rfl rfl ?_
      refine x_geti (pc := 60) fl_X7_215 dX7_nextToken_60 (tb_106) rfl (show _ = nI s from rfl) ?_
      refine x_aload_n (pc := 63) dX7_nextToken_63 rfl rfl ?_
      refine x_geti (pc := 64) fl_X7_209 dX7_nextToken_64 (tb_106) rfl (show _ = nI L from h12) ?_
      refine x_icmp_ne (pc := 67) dX7_nextToken_67 (tgt := 78) rfl (fun h67 => ?_) (fun h67 => ?_)
      ·
        have hlt : s < L := by
          rcases Nat.lt_or_ge s L with z | z
          · exact z
          · exact absurd (congrArg nI (show s = L by omega)) h67
        have hbs := hb s hlt
        have hto := tl hlt
        have hgt := hE.2.2 hlt
        refine x_aload_n (pc := 78) dX7_nextToken_78 rfl rfl ?_
        refine x_geta (pc := 79) fl_X7_31 dX7_nextToken_79 (tb_106) rfl ?_
        refine x_aload_n (pc := 82) dX7_nextToken_82 rfl rfl ?_
        refine x_geti (pc := 83) fl_X7_215 dX7_nextToken_83 (tb_106) rfl (show _ = nI s from rfl) ?_
        refine x_iale (pc := 86) dX7_nextToken_86 (tb_114) (rfl) (by omega) (by first | decide | assumption) (show _ = nI (b s) from by rw [Nat.zero_add]; exact hbs.2) ?_
        refine x_Si (pc := 87) ks_X7_225 dX7_nextToken_87 (hX7_isLetter hbs.1) rfl rfl rfl (Nat.le_of_ble_eq_true rfl) ?_
        refine x_ifb_eq (pc := 90) dX7_nextToken_90 (tgt := 182) rfl (fun h90 => ?_) (fun h90 => ?_)
        ·
          refine x_aload_n (pc := 182) dX7_nextToken_182 rfl rfl ?_
          refine x_geta (pc := 183) fl_X7_31 dX7_nextToken_183 (tb_106) rfl ?_
          refine x_aload_n (pc := 186) dX7_nextToken_186 rfl rfl ?_
          refine x_geti (pc := 187) fl_X7_215 dX7_nextToken_187 (tb_106) rfl (show _ = nI s from rfl) ?_
          refine x_iale (pc := 190) dX7_nextToken_190 (tb_114) (rfl) (by omega) (by first | decide | assumption) (show _ = nI (b s) from by rw [Nat.zero_add]; exact hbs.2) ?_
          refine x_Si (pc := 191) ks_X7_234 dX7_nextToken_191 (hX7_isDigit hbs.1) rfl rfl rfl (Nat.le_of_ble_eq_true rfl) ?_
          refine x_ifb_eq (pc := 194) dX7_nextToken_194 (tgt := 304) rfl (fun h194 => ?_) (fun h194 => ?_)
          ·
            have hne : ¬ (pSo (b s) = 1 ∨ pSo (b s) = 2) := fun z => z.elim h90 h194
            have hso := pSo_le (b s)
            have v1 : pYt b L s = min (pSo (b s)) 4 ∧ pYv b L s = 0 := by unfold pYt pYv; rw [hto, if_neg h194, if_neg h90, if_neg h194]; exact ⟨rfl, rfl⟩
            have hE1 := pTE_one hlt hne
            have hs4 := s4 hlt
            have h59 := (pSo_i hbs.1).2.2.2.2.1
            rw [v1.1, v1.2, hE1]
            refine x_aload_n (pc := 304) dX7_nextToken_304 rfl rfl ?_
            refine x_aload_n (pc := 305) dX7_nextToken_305 rfl rfl ?_
            refine x_geta (pc := 306) fl_X7_31 dX7_nextToken_306 (tb_106) rfl ?_
            refine x_aload_n (pc := 309) dX7_nextToken_309 rfl rfl ?_
            refine x_geti (pc := 310) fl_X7_215 dX7_nextToken_310 (tb_106) rfl (show _ = nI s from rfl) ?_
            refine x_iale (pc := 313) dX7_nextToken_313 (tb_114) (rfl) (by omega) (by first | decide | assumption) (show _ = nI (b s) from by rw [Nat.zero_add]; exact hbs.2) ?_
            refine x_bipush (pc := 314) (v := 59) dX7_nextToken_314 rfl ?_
            refine x_icmp_ne (pc := 316) dX7_nextToken_316 (tgt := 323) rfl (fun h316 => ?_) (fun h316 => ?_)
            ·
              rw [show min (pSo (b s)) 4 = 4 from by have : ¬ pSo (b s) = 3 := fun z => h316 (h59.mpr (pSo_3.mp z)); omega]
              refine x_iconst (pc := 323) (v := 4) dX7_nextToken_323 rfl ?_
              refine x_put (pc := 324) fl_X7_222 dX7_nextToken_324 (tb_106) rfl rfl rfl ?_
              rw [pQ_t]
              refine x_aload_n (pc := 327) dX7_nextToken_327 rfl rfl ?_
              first | refine x_dupa (pc := 328) dX7_nextToken_328 ?_ | refine x_dupi (pc := 328) dX7_nextToken_328 ?_
              refine x_geti (pc := 329) fl_X7_212 dX7_nextToken_329 (tb_106) rfl (show _ = nI s from rfl) ?_
              refine x_iconst (pc := 332) (v := 1) dX7_nextToken_332 rfl ?_
              refine x_iadd (pc := 333) dX7_nextToken_333 ?_
              refine x_put (pc := 334) fl_X7_212 dX7_nextToken_334 (tb_106) rfl rfl rfl ?_
              try rw [pQ_e, nI_1]
              refine x_ret (pc := 337) dX7_nextToken_337 rfl ?_
              exact ⟨rfl, rfl⟩
            ·
              rw [show min (pSo (b s)) 4 = 3 from by rw [pSo_3.mpr (h59.mp h316)]; rfl]
              refine x_iconst (pc := 319) (v := 3) dX7_nextToken_319 rfl ?_
              refine x_goto (pc := 320) dX7_nextToken_320 (tgt := 324) rfl ?_
              refine x_put (pc := 324) fl_X7_222 dX7_nextToken_324 (tb_106) rfl rfl rfl ?_
              rw [pQ_t]
              refine x_aload_n (pc := 327) dX7_nextToken_327 rfl rfl ?_
              first | refine x_dupa (pc := 328) dX7_nextToken_328 ?_ | refine x_dupi (pc := 328) dX7_nextToken_328 ?_
              refine x_geti (pc := 329) fl_X7_212 dX7_nextToken_329 (tb_106) rfl (show _ = nI s from rfl) ?_
              refine x_iconst (pc := 332) (v := 1) dX7_nextToken_332 rfl ?_
              refine x_iadd (pc := 333) dX7_nextToken_333 ?_
              refine x_put (pc := 334) fl_X7_212 dX7_nextToken_334 (tb_106) rfl rfl rfl ?_
              try rw [pQ_e, nI_1]
              refine x_ret (pc := 337) dX7_nextToken_337 rfl ?_
              exact ⟨rfl, rfl⟩
          ·
            have v1 : pYt b L s = (if 999 < pVm b L s then 4 else 2) ∧ pYv b L s = pVm b L s := by unfold pYt pYv; rw [hto, h194]; exact ⟨rfl, rfl⟩
            have hal : ∀ i, i < pTE b L s - s → pSo (b (s + i)) = 2 := fun i hi => (pTE_all hlt (.inr h194) hi).trans h194
            have hbd : ∀ n, n ≤ pTE b L s - s → pNm b s n ≤ 9999 := fun n hn => pNm_le n (fun i hi => by have := pSo_2.mp (hal i (by omega)); omega)
            have hjv : pVm b L s = pNm b s (pTE b L s - s) := rfl
            have hend : pTE b L s < L → ¬ pSo (b (pTE b L s)) = 2 := fun h => by
              have z := (pRun_sp (f := fun q => decide (pSo (b q) = pSo (b s))) s2).2.2.2
              rw [← pTE_run hlt (.inr h194)] at z
              have := of_decide_eq_false (z h)
              rw [h194] at this
              exact this
            rw [v1.1, v1.2, hjv]
            generalize pTE b L s = E1 at *
            generalize hT0 : M 21 13 = T0
            refine x_loop (fun _ => [some (.ref 106)]) (fun i => pQ M T0 (nI s) (nI (s + i)) (lN (pNm b s i))) (E1 - s) rfl rfl (fun i hi hL3 => ?_) ?_
            · show fv_X E mX7_nextToken _ _ 197 [some (.ref 106)] [] (pQ M T0 (nI s) (nI (s + i)) (lN (pNm b s i)))
              replace hL3 : fv_X E mX7_nextToken _ _ 197 [some (.ref 106)] [] (pQ M T0 (nI s) (nI (s + i + 1)) (lN (if 999 < pNm b s i then pNm b s i else pNm b s i * 10 + (b (s + i) - 48)))) := hL3
              have hv := hbd i (by omega)
              have hbi := hb (s + i) (by omega)
              have hli := hal i hi
              have hl2 := pSo_2.mp hli
              generalize pNm b s i = V at *
              have hcmp : lg_cmp (lN V) 999 ≤ 0 ↔ V ≤ 999 := pL6_le (b := 999) (by omega) (by decide)
              have hst : lN V * 10 + lN (b (s + i)) - 48 = lN (V * 10 + (b (s + i) - 48)) := pL6_step (m := 10) (c := 48) (by omega)
              refine x_aload_n (pc := 197) dX7_nextToken_197 rfl rfl ?_
              refine x_geti (pc := 198) fl_X7_212 dX7_nextToken_198 (tb_106) rfl (show _ = nI (s + i) from rfl) ?_
              refine x_aload_n (pc := 201) dX7_nextToken_201 rfl rfl ?_
              refine x_geti (pc := 202) fl_X7_209 dX7_nextToken_202 (tb_106) rfl (show _ = nI L from h12) ?_
              refine x_icmp_ge (pc := 205) dX7_nextToken_205 (tgt := 281) rfl (fun h205 => ?_) (fun h205 => ?_)
              ·
                exact absurd h205 (nI_ge (by omega) (by omega))
              ·
                refine x_aload_n (pc := 208) dX7_nextToken_208 rfl rfl ?_
                refine x_geta (pc := 209) fl_X7_31 dX7_nextToken_209 (tb_106) rfl ?_
                refine x_aload_n (pc := 212) dX7_nextToken_212 rfl rfl ?_
                refine x_geti (pc := 213) fl_X7_212 dX7_nextToken_213 (tb_106) rfl (show _ = nI (s + i) from rfl) ?_
                refine x_iale (pc := 216) dX7_nextToken_216 (tb_114) (rfl) (by omega) (by first | decide | assumption) (show _ = nI (b (s + i)) from by rw [Nat.zero_add]; exact hbi.2) ?_
                refine x_Si (pc := 217) ks_X7_234 dX7_nextToken_217 (hX7_isDigit hbi.1) rfl rfl rfl (Nat.le_of_ble_eq_true rfl) ?_
                refine x_ifb_eq (pc := 220) dX7_nextToken_220 (tgt := 281) rfl (fun h220 => ?_) (fun h220 => ?_)
                ·
                  exact absurd hli h220
                ·
                  refine x_aload_n (pc := 223) dX7_nextToken_223 rfl rfl ?_
                  refine x_aload_n (pc := 224) dX7_nextToken_224 rfl rfl ?_
                  refine x_getl (pc := 225) fl_X7_218 dX7_nextToken_225 (tb_106) rfl ?_
                  rw [pQ_val]
                  refine x_ldc2 (pc := 228) kc_X7_237 dX7_nextToken_228 ?_
                  refine x_lcmp (pc := 231) dX7_nextToken_231 ?_
                  refine x_if_le (pc := 232) dX7_nextToken_232 (tgt := 242) rfl (fun h232 => ?_) (fun h232 => ?_)
                  ·
                    rw [if_neg (show ¬ 999 < V from Nat.not_lt.mpr (hcmp.mp h232))] at hL3
                    refine x_aload_n (pc := 242) dX7_nextToken_242 rfl rfl ?_
                    refine x_getl (pc := 243) fl_X7_218 dX7_nextToken_243 (tb_106) rfl ?_
                    rw [pQ_val]
                    refine x_ldc2 (pc := 246) kc_X7_190 dX7_nextToken_246 ?_
                    refine x_lmul (pc := 249) dX7_nextToken_249 ?_
                    refine x_aload_n (pc := 250) dX7_nextToken_250 rfl rfl ?_
                    refine x_geta (pc := 251) fl_X7_31 dX7_nextToken_251 (tb_106) rfl ?_
                    refine x_aload_n (pc := 254) dX7_nextToken_254 rfl rfl ?_
                    refine x_geti (pc := 255) fl_X7_212 dX7_nextToken_255 (tb_106) rfl (show _ = nI (s + i) from rfl) ?_
                    refine x_iale (pc := 258) dX7_nextToken_258 (tb_114) (rfl) (by omega) (by first | decide | assumption) (show _ = nI (b (s + i)) from by rw [Nat.zero_add]; exact hbi.2) ?_
                    refine x_i2l (pc := 259) dX7_nextToken_259 ?_
                    rw [nI_l (show b (s + i) < 2 ^ 31 by omega)]
                    refine x_ladd (pc := 260) dX7_nextToken_260 ?_
                    refine x_ldc2 (pc := 261) kc_X7_239 dX7_nextToken_261 ?_
                    refine x_lsub (pc := 264) dX7_nextToken_264 ?_
                    try rw [hst]
                    refine x_putl (pc := 265) fl_X7_218 dX7_nextToken_265 (tb_106) rfl ?_
                    rw [pQ_v]
                    refine x_aload_n (pc := 268) dX7_nextToken_268 rfl rfl ?_
                    first | refine x_dupa (pc := 269) dX7_nextToken_269 ?_ | refine x_dupi (pc := 269) dX7_nextToken_269 ?_
                    refine x_geti (pc := 270) fl_X7_212 dX7_nextToken_270 (tb_106) rfl (show _ = nI (s + i) from rfl) ?_
                    refine x_iconst (pc := 273) (v := 1) dX7_nextToken_273 rfl ?_
                    refine x_iadd (pc := 274) dX7_nextToken_274 ?_
                    refine x_put (pc := 275) fl_X7_212 dX7_nextToken_275 (tb_106) rfl rfl rfl ?_
                    rw [pQ_e, nI_1]
                    refine x_goto (pc := 278) dX7_nextToken_278 (tgt := 197) rfl ?_
                    exact hL3
                  ·
                    rw [if_pos (show 999 < V from Nat.lt_of_not_le (fun z => h232 (hcmp.mpr z)))] at hL3
                    refine x_aload_n (pc := 235) dX7_nextToken_235 rfl rfl ?_
                    refine x_getl (pc := 236) fl_X7_218 dX7_nextToken_236 (tb_106) rfl ?_
                    rw [pQ_val]
                    refine x_goto (pc := 239) dX7_nextToken_239 (tgt := 265) rfl ?_
                    try rw [hst]
                    refine x_putl (pc := 265) fl_X7_218 dX7_nextToken_265 (tb_106) rfl ?_
                    rw [pQ_v]
                    refine x_aload_n (pc := 268) dX7_nextToken_268 rfl rfl ?_
                    first | refine x_dupa (pc := 269) dX7_nextToken_269 ?_ | refine x_dupi (pc := 269) dX7_nextToken_269 ?_
                    refine x_geti (pc := 270) fl_X7_212 dX7_nextToken_270 (tb_106) rfl (show _ = nI (s + i) from rfl) ?_
                    refine x_iconst (pc := 273) (v := 1) dX7_nextToken_273 rfl ?_
                    refine x_iadd (pc := 274) dX7_nextToken_274 ?_
                    refine x_put (pc := 275) fl_X7_212 dX7_nextToken_275 (tb_106) rfl rfl rfl ?_
                    rw [pQ_e, nI_1]
                    refine x_goto (pc := 278) dX7_nextToken_278 (tgt := 197) rfl ?_
                    exact hL3
            · show fv_X E mX7_nextToken _ _ 197 [some (.ref 106)] [] (pQ M T0 (nI s) (nI (s + (E1 - s))) (lN (pNm b s (E1 - s))))
              rw [show s + (E1 - s) = E1 by omega]
              have hv := hbd (E1 - s) (Nat.le_refl _)
              generalize pNm b s (E1 - s) = V at *
              have hcmp : lg_cmp (lN V) 999 ≤ 0 ↔ V ≤ 999 := pL6_le (b := 999) (by omega) (by decide)
              refine x_aload_n (pc := 197) dX7_nextToken_197 rfl rfl ?_
              refine x_geti (pc := 198) fl_X7_212 dX7_nextToken_198 (tb_106) rfl (show _ = nI E1 from rfl) ?_
              refine x_aload_n (pc := 201) dX7_nextToken_201 rfl rfl ?_
              refine x_geti (pc := 202) fl_X7_209 dX7_nextToken_202 (tb_106) rfl (show _ = nI L from h12) ?_
              refine x_icmp_ge (pc := 205) dX7_nextToken_205 (tgt := 281) rfl (fun h205 => ?_) (fun h205 => ?_)
              ·
                refine x_aload_n (pc := 281) dX7_nextToken_281 rfl rfl ?_
                refine x_aload_n (pc := 282) dX7_nextToken_282 rfl rfl ?_
                refine x_getl (pc := 283) fl_X7_218 dX7_nextToken_283 (tb_106) rfl ?_
                rw [pQ_val]
                refine x_ldc2 (pc := 286) kc_X7_237 dX7_nextToken_286 ?_
                refine x_lcmp (pc := 289) dX7_nextToken_289 ?_
                refine x_if_le (pc := 290) dX7_nextToken_290 (tgt := 297) rfl (fun h290 => ?_) (fun h290 => ?_)
                ·
                  rw [if_neg (show ¬ 999 < V from Nat.not_lt.mpr (hcmp.mp h290))]
                  refine x_iconst (pc := 297) (v := 2) dX7_nextToken_297 rfl ?_
                  refine x_put (pc := 298) fl_X7_222 dX7_nextToken_298 (tb_106) rfl rfl rfl ?_
                  rw [pQ_t]
                  refine x_goto (pc := 301) dX7_nextToken_301 (tgt := 337) rfl ?_
                  refine x_ret (pc := 337) dX7_nextToken_337 rfl ?_
                  exact ⟨rfl, rfl⟩
                ·
                  rw [if_pos (show 999 < V from Nat.lt_of_not_le (fun z => h290 (hcmp.mpr z)))]
                  refine x_iconst (pc := 293) (v := 4) dX7_nextToken_293 rfl ?_
                  refine x_goto (pc := 294) dX7_nextToken_294 (tgt := 298) rfl ?_
                  refine x_put (pc := 298) fl_X7_222 dX7_nextToken_298 (tb_106) rfl rfl rfl ?_
                  rw [pQ_t]
                  refine x_goto (pc := 301) dX7_nextToken_301 (tgt := 337) rfl ?_
                  refine x_ret (pc := 337) dX7_nextToken_337 rfl ?_
                  exact ⟨rfl, rfl⟩
              ·
                have hlE : E1 < L := Nat.lt_of_not_le (fun z => h205 (nI_le z (by omega)))
                refine x_aload_n (pc := 208) dX7_nextToken_208 rfl rfl ?_
                refine x_geta (pc := 209) fl_X7_31 dX7_nextToken_209 (tb_106) rfl ?_
                refine x_aload_n (pc := 212) dX7_nextToken_212 rfl rfl ?_
                refine x_geti (pc := 213) fl_X7_212 dX7_nextToken_213 (tb_106) rfl (show _ = nI E1 from rfl) ?_
                refine x_iale (pc := 216) dX7_nextToken_216 (tb_114) (rfl) (by omega) (by first | decide | assumption) (show _ = nI (b E1) from by rw [Nat.zero_add]; exact (hb _ hlE).2) ?_
                refine x_Si (pc := 217) ks_X7_234 dX7_nextToken_217 (hX7_isDigit (hb _ hlE).1) rfl rfl rfl (Nat.le_of_ble_eq_true rfl) ?_
                refine x_ifb_eq (pc := 220) dX7_nextToken_220 (tgt := 281) rfl (fun h220 => ?_) (fun h220 => ?_)
                ·
                  refine x_aload_n (pc := 281) dX7_nextToken_281 rfl rfl ?_
                  refine x_aload_n (pc := 282) dX7_nextToken_282 rfl rfl ?_
                  refine x_getl (pc := 283) fl_X7_218 dX7_nextToken_283 (tb_106) rfl ?_
                  rw [pQ_val]
                  refine x_ldc2 (pc := 286) kc_X7_237 dX7_nextToken_286 ?_
                  refine x_lcmp (pc := 289) dX7_nextToken_289 ?_
                  refine x_if_le (pc := 290) dX7_nextToken_290 (tgt := 297) rfl (fun h290 => ?_) (fun h290 => ?_)
                  ·
                    rw [if_neg (show ¬ 999 < V from Nat.not_lt.mpr (hcmp.mp h290))]
                    refine x_iconst (pc := 297) (v := 2) dX7_nextToken_297 rfl ?_
                    refine x_put (pc := 298) fl_X7_222 dX7_nextToken_298 (tb_106) rfl rfl rfl ?_
                    rw [pQ_t]
                    refine x_goto (pc := 301) dX7_nextToken_301 (tgt := 337) rfl ?_
                    refine x_ret (pc := 337) dX7_nextToken_337 rfl ?_
                    exact ⟨rfl, rfl⟩
                  ·
                    rw [if_pos (show 999 < V from Nat.lt_of_not_le (fun z => h290 (hcmp.mpr z)))]
                    refine x_iconst (pc := 293) (v := 4) dX7_nextToken_293 rfl ?_
                    refine x_goto (pc := 294) dX7_nextToken_294 (tgt := 298) rfl ?_
                    refine x_put (pc := 298) fl_X7_222 dX7_nextToken_298 (tb_106) rfl rfl rfl ?_
                    rw [pQ_t]
                    refine x_goto (pc := 301) dX7_nextToken_301 (tgt := 337) rfl ?_
                    refine x_ret (pc := 337) dX7_nextToken_337 rfl ?_
                    exact ⟨rfl, rfl⟩
                ·
                  exact absurd h220 (hend hlE)
        ·
          have v1 : pYt b L s = 1 ∧ pYv b L s = pJv b L s := by unfold pYt pYv; rw [hto, h90]; exact ⟨rfl, rfl⟩
          have hal : ∀ i, i < pTE b L s - s → pSo (b (s + i)) = 1 := fun i hi => (pTE_all hlt (.inl h90) hi).trans h90
          have hbd : ∀ n, n ≤ pTE b L s - s → pFs (fun q => b (s + q) - 96) n ≤ 9999999999999 * 27 + 26 := fun n hn => pFs_le n (fun i hi => by have := pSo_1.mp (hal i (by omega)); show b (s + i) - 96 ≤ 26; omega)
          have hjv : pJv b L s = pFs (fun q => b (s + q) - 96) (pTE b L s - s) := rfl
          have hend : pTE b L s < L → ¬ pSo (b (pTE b L s)) = 1 := fun h => by
            have z := (pRun_sp (f := fun q => decide (pSo (b q) = pSo (b s))) s2).2.2.2
            rw [← pTE_run hlt (.inl h90)] at z
            have := of_decide_eq_false (z h)
            rw [h90] at this
            exact this
          rw [v1.1, v1.2, hjv]
          generalize pTE b L s = E1 at *
          refine x_aload_n (pc := 93) dX7_nextToken_93 rfl rfl ?_
          refine x_iconst (pc := 94) (v := 1) dX7_nextToken_94 rfl ?_
          refine x_put (pc := 95) fl_X7_222 dX7_nextToken_95 (tb_106) rfl rfl rfl ?_
          rw [pQ_t]
          refine x_loop (fun _ => [some (.ref 106)]) (fun i => pQ M 1 (nI s) (nI (s + i)) (lN (pFs (fun q => b (s + q) - 96) i))) (E1 - s) rfl rfl (fun i hi hL3 => ?_) ?_
          · show fv_X E mX7_nextToken _ _ 98 [some (.ref 106)] [] (pQ M 1 (nI s) (nI (s + i)) (lN (pFs (fun q => b (s + q) - 96) i)))
            replace hL3 : fv_X E mX7_nextToken _ _ 98 [some (.ref 106)] [] (pQ M 1 (nI s) (nI (s + i + 1)) (lN (if 9999999999999 < pFs (fun q => b (s + q) - 96) i then pFs (fun q => b (s + q) - 96) i else pFs (fun q => b (s + q) - 96) i * 27 + (b (s + i) - 96)))) := hL3
            have hv := hbd i (by omega)
            have hbi := hb (s + i) (by omega)
            have hli := hal i hi
            have hl2 := pSo_1.mp hli
            generalize pFs (fun q => b (s + q) - 96) i = V at *
            have hcmp : lg_cmp (lN V) 9999999999999 ≤ 0 ↔ V ≤ 9999999999999 := pL6_le (b := 9999999999999) (by omega) (by decide)
            have hst : lN V * 27 + lN (b (s + i)) - 96 = lN (V * 27 + (b (s + i) - 96)) := pL6_step (m := 27) (c := 96) (by omega)
            refine x_aload_n (pc := 98) dX7_nextToken_98 rfl rfl ?_
            refine x_geti (pc := 99) fl_X7_212 dX7_nextToken_99 (tb_106) rfl (show _ = nI (s + i) from rfl) ?_
            refine x_aload_n (pc := 102) dX7_nextToken_102 rfl rfl ?_
            refine x_geti (pc := 103) fl_X7_209 dX7_nextToken_103 (tb_106) rfl (show _ = nI L from h12) ?_
            refine x_icmp_ge (pc := 106) dX7_nextToken_106 (tgt := 337) rfl (fun h106 => ?_) (fun h106 => ?_)
            ·
              exact absurd h106 (nI_ge (by omega) (by omega))
            ·
              refine x_aload_n (pc := 109) dX7_nextToken_109 rfl rfl ?_
              refine x_geta (pc := 110) fl_X7_31 dX7_nextToken_110 (tb_106) rfl ?_
              refine x_aload_n (pc := 113) dX7_nextToken_113 rfl rfl ?_
              refine x_geti (pc := 114) fl_X7_212 dX7_nextToken_114 (tb_106) rfl (show _ = nI (s + i) from rfl) ?_
              refine x_iale (pc := 117) dX7_nextToken_117 (tb_114) (rfl) (by omega) (by first | decide | assumption) (show _ = nI (b (s + i)) from by rw [Nat.zero_add]; exact hbi.2) ?_
              refine x_Si (pc := 118) ks_X7_225 dX7_nextToken_118 (hX7_isLetter hbi.1) rfl rfl rfl (Nat.le_of_ble_eq_true rfl) ?_
              refine x_ifb_eq (pc := 121) dX7_nextToken_121 (tgt := 337) rfl (fun h121 => ?_) (fun h121 => ?_)
              ·
                exact absurd hli h121
              ·
                refine x_aload_n (pc := 124) dX7_nextToken_124 rfl rfl ?_
                refine x_aload_n (pc := 125) dX7_nextToken_125 rfl rfl ?_
                refine x_getl (pc := 126) fl_X7_218 dX7_nextToken_126 (tb_106) rfl ?_
                rw [pQ_val]
                refine x_ldc2 (pc := 129) kc_X7_228 dX7_nextToken_129 ?_
                refine x_lcmp (pc := 132) dX7_nextToken_132 ?_
                refine x_if_le (pc := 133) dX7_nextToken_133 (tgt := 143) rfl (fun h133 => ?_) (fun h133 => ?_)
                ·
                  rw [if_neg (show ¬ 9999999999999 < V from Nat.not_lt.mpr (hcmp.mp h133))] at hL3
                  refine x_aload_n (pc := 143) dX7_nextToken_143 rfl rfl ?_
                  refine x_getl (pc := 144) fl_X7_218 dX7_nextToken_144 (tb_106) rfl ?_
                  rw [pQ_val]
                  refine x_ldc2 (pc := 147) kc_X7_230 dX7_nextToken_147 ?_
                  refine x_lmul (pc := 150) dX7_nextToken_150 ?_
                  refine x_aload_n (pc := 151) dX7_nextToken_151 rfl rfl ?_
                  refine x_geta (pc := 152) fl_X7_31 dX7_nextToken_152 (tb_106) rfl ?_
                  refine x_aload_n (pc := 155) dX7_nextToken_155 rfl rfl ?_
                  refine x_geti (pc := 156) fl_X7_212 dX7_nextToken_156 (tb_106) rfl (show _ = nI (s + i) from rfl) ?_
                  refine x_iale (pc := 159) dX7_nextToken_159 (tb_114) (rfl) (by omega) (by first | decide | assumption) (show _ = nI (b (s + i)) from by rw [Nat.zero_add]; exact hbi.2) ?_
                  refine x_i2l (pc := 160) dX7_nextToken_160 ?_
                  rw [nI_l (show b (s + i) < 2 ^ 31 by omega)]
                  refine x_ladd (pc := 161) dX7_nextToken_161 ?_
                  refine x_ldc2 (pc := 162) kc_X7_232 dX7_nextToken_162 ?_
                  refine x_lsub (pc := 165) dX7_nextToken_165 ?_
                  try rw [hst]
                  refine x_putl (pc := 166) fl_X7_218 dX7_nextToken_166 (tb_106) rfl ?_
                  rw [pQ_v]
                  refine x_aload_n (pc := 169) dX7_nextToken_169 rfl rfl ?_
                  first | refine x_dupa (pc := 170) dX7_nextToken_170 ?_ | refine x_dupi (pc := 170) dX7_nextToken_170 ?_
                  refine x_geti (pc := 171) fl_X7_212 dX7_nextToken_171 (tb_106) rfl (show _ = nI (s + i) from rfl) ?_
                  refine x_iconst (pc := 174) (v := 1) dX7_nextToken_174 rfl ?_
                  refine x_iadd (pc := 175) dX7_nextToken_175 ?_
                  refine x_put (pc := 176) fl_X7_212 dX7_nextToken_176 (tb_106) rfl rfl rfl ?_
                  rw [pQ_e, nI_1]
                  refine x_goto (pc := 179) dX7_nextToken_179 (tgt := 98) rfl ?_
                  exact hL3
                ·
                  rw [if_pos (show 9999999999999 < V from Nat.lt_of_not_le (fun z => h133 (hcmp.mpr z)))] at hL3
                  refine x_aload_n (pc := 136) dX7_nextToken_136 rfl rfl ?_
                  refine x_getl (pc := 137) fl_X7_218 dX7_nextToken_137 (tb_106) rfl ?_
                  rw [pQ_val]
                  refine x_goto (pc := 140) dX7_nextToken_140 (tgt := 166) rfl ?_
                  try rw [hst]
                  refine x_putl (pc := 166) fl_X7_218 dX7_nextToken_166 (tb_106) rfl ?_
                  rw [pQ_v]
                  refine x_aload_n (pc := 169) dX7_nextToken_169 rfl rfl ?_
                  first | refine x_dupa (pc := 170) dX7_nextToken_170 ?_ | refine x_dupi (pc := 170) dX7_nextToken_170 ?_
                  refine x_geti (pc := 171) fl_X7_212 dX7_nextToken_171 (tb_106) rfl (show _ = nI (s + i) from rfl) ?_
                  refine x_iconst (pc := 174) (v := 1) dX7_nextToken_174 rfl ?_
                  refine x_iadd (pc := 175) dX7_nextToken_175 ?_
                  refine x_put (pc := 176) fl_X7_212 dX7_nextToken_176 (tb_106) rfl rfl rfl ?_
                  rw [pQ_e, nI_1]
                  refine x_goto (pc := 179) dX7_nextToken_179 (tgt := 98) rfl ?_
                  exact hL3
          · show fv_X E mX7_nextToken _ _ 98 [some (.ref 106)] [] (pQ M 1 (nI s) (nI (s + (E1 - s))) (lN (pFs (fun q => b (s + q) - 96) (E1 - s))))
            rw [show s + (E1 - s) = E1 by omega]
            refine x_aload_n (pc := 98) dX7_nextToken_98 rfl rfl ?_
            refine x_geti (pc := 99) fl_X7_212 dX7_nextToken_99 (tb_106) rfl (show _ = nI E1 from rfl) ?_
            refine x_aload_n (pc := 102) dX7_nextToken_102 rfl rfl ?_
            refine x_geti (pc := 103) fl_X7_209 dX7_nextToken_103 (tb_106) rfl (show _ = nI L from h12) ?_
            refine x_icmp_ge (pc := 106) dX7_nextToken_106 (tgt := 337) rfl (fun h106 => ?_) (fun h106 => ?_)
            ·
              refine x_ret (pc := 337) dX7_nextToken_337 rfl ?_
              exact ⟨rfl, rfl⟩
            ·
              have hlE : E1 < L := Nat.lt_of_not_le (fun z => h106 (nI_le z (by omega)))
              refine x_aload_n (pc := 109) dX7_nextToken_109 rfl rfl ?_
              refine x_geta (pc := 110) fl_X7_31 dX7_nextToken_110 (tb_106) rfl ?_
              refine x_aload_n (pc := 113) dX7_nextToken_113 rfl rfl ?_
              refine x_geti (pc := 114) fl_X7_212 dX7_nextToken_114 (tb_106) rfl (show _ = nI E1 from rfl) ?_
              refine x_iale (pc := 117) dX7_nextToken_117 (tb_114) (rfl) (by omega) (by first | decide | assumption) (show _ = nI (b E1) from by rw [Nat.zero_add]; exact (hb _ hlE).2) ?_
              refine x_Si (pc := 118) ks_X7_225 dX7_nextToken_118 (hX7_isLetter (hb _ hlE).1) rfl rfl rfl (Nat.le_of_ble_eq_true rfl) ?_
              refine x_ifb_eq (pc := 121) dX7_nextToken_121 (tgt := 337) rfl (fun h121 => ?_) (fun h121 => ?_)
              ·
                refine x_ret (pc := 337) dX7_nextToken_337 rfl ?_
                exact ⟨rfl, rfl⟩
              ·
                exact absurd h121 (hend hlE)
      ·
        obtain ⟨z1, z2, z3⟩ := t0 ((nI_eq (by omega) (by omega)).mp h67); rw [z1, z2, z3]
        refine x_aload_n (pc := 70) dX7_nextToken_70 rfl rfl ?_
        refine x_iconst (pc := 71) (v := 0) dX7_nextToken_71 rfl ?_
        refine x_put (pc := 72) fl_X7_222 dX7_nextToken_72 (tb_106) rfl rfl rfl ?_
        rw [pQ_t]
        refine x_goto (pc := 75) dX7_nextToken_75 (tgt := 337) rfl ?_
        try rw [pQ_e, nI_1]
        refine x_ret (pc := 337) dX7_nextToken_337 rfl ?_
        exact ⟨rfl, rfl⟩
    refine x_aload_n (pc := 8) dX7_nextToken_8 rfl rfl ?_
    refine x_geti (pc := 9) fl_X7_215 dX7_nextToken_9 (tb_106) rfl (show _ = nI s from rfl) ?_
    refine x_aload_n (pc := 12) dX7_nextToken_12 rfl rfl ?_
    refine x_geti (pc := 13) fl_X7_209 dX7_nextToken_13 (tb_106) rfl (show _ = nI L from h12) ?_
    refine x_icmp_ge (pc := 16) dX7_nextToken_16 (tgt := 46) rfl (fun h16 => ?_) (fun h16 => ?_)
    ·
      exact H46
    ·
      have hlt : s < L := Nat.lt_of_not_le (fun z => h16 (nI_le z (by omega)))
      refine x_aload_n (pc := 19) dX7_nextToken_19 rfl rfl ?_
      refine x_geta (pc := 20) fl_X7_31 dX7_nextToken_20 (tb_106) rfl ?_
      refine x_aload_n (pc := 23) dX7_nextToken_23 rfl rfl ?_
      refine x_geti (pc := 24) fl_X7_215 dX7_nextToken_24 (tb_106) rfl (show _ = nI s from rfl) ?_
      refine x_iale (pc := 27) dX7_nextToken_27 (tb_114) (rfl) (by omega) (by first | decide | assumption) (show _ = nI (b s) from by rw [Nat.zero_add]; exact (hb _ hlt).2) ?_
      refine x_bipush (pc := 28) (v := 32) dX7_nextToken_28 rfl ?_
      refine x_icmp_ne (pc := 30) dX7_nextToken_30 (tgt := 46) rfl (fun h30 => ?_) (fun h30 => ?_)
      ·
        exact H46
      ·
        exact absurd (pSo_4.mpr ((pSo_i (hb _ hlt).1).2.2.2.2.2.mp h30)) (s4 hlt)
