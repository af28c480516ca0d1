/-- how long a test holds from 0 on, at most m times -/
def wT (p : Nat → Bool) : Nat → Nat
  | 0 => 0
  | m + 1 => bif (wT p m == m && p m) then m + 1 else wT p m
theorem wT_all (p : Nat → Bool) (m : Nat) : wT p m ≤ m ∧ (∀ j, j < wT p m → p j = true) ∧ (wT p m < m → p (wT p m) = false) := by
  induction m with
  | zero => exact ⟨Nat.le_refl _, fun j h => absurd h (Nat.not_lt_zero _), fun h => absurd h (Nat.lt_irrefl _)⟩
  | succ m ih =>
    obtain ⟨h1, h2, h3⟩ := ih
    have e : wT p (m + 1) = bif (wT p m == m && p m) then m + 1 else wT p m := rfl
    rw [e]
    by_cases h : wT p m = m ∧ p m = true
    · have hb : (wT p m == m && p m) = true := by rw [Bool.and_eq_true, beq_iff_eq]; exact h
      rw [hb]
      refine ⟨Nat.le_refl _, fun j hj => ?_, fun q => absurd q (Nat.lt_irrefl _)⟩
      rcases Nat.lt_or_ge j m with q | q
      · exact h2 j (by omega)
      · have e2 : j = m := by have : j < m + 1 := hj; omega
        rw [e2]; exact h.2
    · have hb : (wT p m == m && p m) = false := by
        rw [← Bool.not_eq_true, Bool.and_eq_true, beq_iff_eq]; exact h
      rw [hb]
      refine ⟨Nat.le_succ_of_le h1, h2, fun q => ?_⟩
      show p (wT p m) = false
      rcases Nat.lt_or_ge (wT p m) m with r | r
      · exact h3 r
      · have e2 : wT p m = m := by omega
        rw [e2]
        exact Bool.eq_false_iff.mpr (fun hp => h ⟨e2, hp⟩)
/-! ROWS OF MOTIONS -/
def pLay (f : Nat → Int32) (o : List Nat) : Nat → Int32 := fun i => if i < o.length then nI (o.getD i 0) else f i
theorem pLay_at {f : Nat → Int32} {o : List Nat} {i : Nat} (h : i < o.length) : pLay f o i = nI (o.getD i 0) := if_pos h
theorem pD_set {o : List Nat} {a i v : Nat} : (o.set a v).getD i 0 = if a = i ∧ a < o.length then v else o.getD i 0 := by
  rw [List.getD_eq_getElem?_getD, List.getElem?_set, List.getD_eq_getElem?_getD]
  by_cases h : a = i
  · subst h
    by_cases h2 : a < o.length
    · simp [h2]
    · simp [h2]
  · simp [h]
theorem pLay_set {f : Nat → Int32} {o : List Nat} {i v : Nat} (h : i < o.length) : fv_u (pLay f o) i (nI v) = pLay f (o.set i v) := by
  funext j
  unfold fv_u pLay
  rw [List.length_set, pD_set]
  by_cases hj : j = i
  · subst hj
    rw [if_pos rfl, if_pos h, if_pos ⟨rfl, h⟩]
  · have h3 : ¬ (i = j ∧ i < o.length) := fun q => hj q.1.symm
    rw [if_neg hj, if_neg h3]
theorem pLay_add {f : Nat → Int32} {o : List Nat} {v : Nat} : fv_u (pLay f o) o.length (nI v) = pLay f (o ++ [v]) := by
  funext j
  unfold fv_u pLay
  rw [List.length_append, List.getD_eq_getElem?_getD, List.getD_eq_getElem?_getD]
  by_cases hj : j = o.length
  · subst hj
    rw [if_pos rfl, if_pos (by simp)]
    simp
  · rw [if_neg hj]
    by_cases h2 : j < o.length
    · rw [if_pos h2, if_pos (by simp; omega), List.getElem?_append_left h2]
    · rw [if_neg h2, if_neg (by simp; omega)]
def pIb (n b : Nat) (o : List Nat) : Prop := o.length = n ∧ ∀ i, i < n → o.getD i 0 < b
def pSw (o : List Nat) (a b : Nat) : List Nat := (o.set a (o.getD b 0)).set b (o.getD a 0)
theorem pSw_len (o : List Nat) (a b : Nat) : (pSw o a b).length = o.length := by unfold pSw; rw [List.length_set, List.length_set]
theorem pSw_ib {n z a b : Nat} {o : List Nat} (h : pIb n z o) (ha : a < n) (hb : b < n) : pIb n z (pSw o a b) := by
  refine ⟨(pSw_len o a b).trans h.1, fun i hi => ?_⟩
  unfold pSw
  rw [pD_set]
  split
  · exact h.2 a ha
  · rw [pD_set]
    split
    · exact h.2 b hb
    · exact h.2 i hi
def pDe (o : List Nat) : Nat := wT (fun j => decide (o.getD (o.length - 1 - j) 0 < o.getD (o.length - 2 - j) 0)) (o.length - 1)
def pTu (o : List Nat) (i : Nat) : Nat := wT (fun j => decide (o.getD (o.length - 1 - j) 0 < o.getD i 0)) (o.length - 1 - i)
def pRv (o : List Nat) (i n : Nat) : Nat → List Nat
  | 0 => o
  | q + 1 => pSw (pRv o i n q) (i + 1 + q) (n - 1 - q)
def pNx (o : List Nat) : Option (List Nat) :=
  if pDe o + 1 < o.length then some (pRv (pSw o (o.length - 2 - pDe o) (o.length - 1 - pTu o (o.length - 2 - pDe o))) (o.length - 2 - pDe o) o.length ((pDe o + 1) / 2)) else none
theorem pRv_ib {n z i : Nat} {o : List Nat} (h : pIb n z o) : ∀ q, i + 1 + q ≤ n → pIb n z (pRv o i n q) := by
  intro q
  induction q with
  | zero => intro _; exact h
  | succ q ih => intro hq; exact pSw_ib (ih (by omega)) (by omega) (by omega)
theorem pNx_ib {n z : Nat} {o : List Nat} (h : pIb n z o) : pIb n z ((pNx o).getD o) := by
  unfold pNx
  obtain ⟨e, h2⟩ := h
  subst e
  split
  · next hd =>
    refine pRv_ib (pSw_ib ⟨rfl, h2⟩ (by omega) (by omega)) _ ?_
    omega
  · exact ⟨rfl, h2⟩
theorem pI_all : ((List.range 6).all fun n => (List.range 6).all fun j => decide ((j + 2 ≤ n → (nI n - 2 - nI j = nI (n - 2 - j) ∧ nI n - 2 - nI j + 1 = nI (n - 1 - j) ∧ ¬ nI n - 2 - nI j < 0 ∧ 0 ≤ nI n - 2 - nI j)) ∧ nI n - 2 - nI j + Int32.ofInt (-1) = nI n - 2 - nI (j + 1) ∧ (n = j + 1 ∨ (n = 0 ∧ j = 0) → nI n - 2 - nI j < 0 ∧ ¬ 0 ≤ nI n - 2 - nI j) ∧ (j + 1 ≤ n → nI n - 1 - nI j = nI (n - 1 - j)) ∧ nI n - 1 - nI j + Int32.ofInt (-1) = nI n - 1 - nI (j + 1))) = true := by decide +kernel
theorem pI_at {n j : Nat} (hn : n < 6) (hj : j < 6) : (j + 2 ≤ n → (nI n - 2 - nI j = nI (n - 2 - j) ∧ nI n - 2 - nI j + 1 = nI (n - 1 - j) ∧ ¬ nI n - 2 - nI j < 0 ∧ 0 ≤ nI n - 2 - nI j)) ∧ nI n - 2 - nI j + Int32.ofInt (-1) = nI n - 2 - nI (j + 1) ∧ (n = j + 1 ∨ (n = 0 ∧ j = 0) → nI n - 2 - nI j < 0 ∧ ¬ 0 ≤ nI n - 2 - nI j) ∧ (j + 1 ≤ n → nI n - 1 - nI j = nI (n - 1 - j)) ∧ nI n - 1 - nI j + Int32.ofInt (-1) = nI n - 1 - nI (j + 1) :=
  of_decide_eq_true (fv_all1 (fv_all1 pI_all hn) hj)
theorem hX2_swap {E : fv_E} {d a b n : Nat} {o : List Nat} {f : Nat → Int32} {M : fv_M} (ho : o.length = n) (hn : n ≤ 5) (ha : a < n) (hb : b < n) : fv_F E d mX2_swap [.ref 94, .int (nI a), .int (nI b)] (fv_s M 11 (pLay f o)) none (fv_s M 11 (pLay f (pSw o a b))) := by
  have ha5 : a < 5 := by omega
  have hb5 : b < 5 := by omega
  refine fv_F.of (ls := [some (.ref 94), some (.int (nI a)), some (.int (nI b)), none]) (by decide) (Nat.le_of_ble_eq_true rfl) rfl ?_
  refine x_aload_n (pc := 0) dX2_swap_0 rfl rfl ?_
  refine x_geta (pc := 1) fl_X2_15 dX2_swap_1 (tb_94) rfl ?_
  refine x_iload_n (pc := 4) dX2_swap_4 rfl rfl ?_
  refine x_iald (pc := 5) dX2_swap_5 (tb_96) (rfl) (by first | assumption | decide | omega) (by first | decide | assumption) ?_
  rw [fv_s_same, Nat.zero_add, pLay_at (by omega)]
  refine x_istore_n3 (pc := 6) dX2_swap_6 rfl ?_
  refine x_aload_n (pc := 7) dX2_swap_7 rfl rfl ?_
  refine x_geta (pc := 8) fl_X2_15 dX2_swap_8 (tb_94) rfl ?_
  refine x_iload_n (pc := 11) dX2_swap_11 rfl rfl ?_
  refine x_aload_n (pc := 12) dX2_swap_12 rfl rfl ?_
  refine x_geta (pc := 13) fl_X2_15 dX2_swap_13 (tb_94) rfl ?_
  refine x_iload_n (pc := 16) dX2_swap_16 rfl rfl ?_
  refine x_iald (pc := 17) dX2_swap_17 (tb_96) (rfl) (by first | assumption | decide | omega) (by first | decide | assumption) ?_
  rw [fv_s_same, Nat.zero_add, pLay_at (by omega)]
  refine x_iast (pc := 18) dX2_swap_18 (tb_96) (rfl) (by first | assumption | decide | omega) (by first | decide | assumption) ?_
  rw [fv_s_same, fv_s_s, Nat.zero_add, pLay_set (by omega)]
  refine x_aload_n (pc := 19) dX2_swap_19 rfl rfl ?_
  refine x_geta (pc := 20) fl_X2_15 dX2_swap_20 (tb_94) rfl ?_
  refine x_iload_n (pc := 23) dX2_swap_23 rfl rfl ?_
  refine x_iload_n (pc := 24) dX2_swap_24 rfl rfl ?_
  refine x_iast (pc := 25) dX2_swap_25 (tb_96) (rfl) (by first | assumption | decide | omega) (by first | decide | assumption) ?_
  refine x_ret (pc := 26) dX2_swap_26 rfl ?_
  refine ⟨rfl, ?_⟩
  rw [fv_s_same, fv_s_s, Nat.zero_add, pLay_set (by rw [List.length_set]; omega)]
  rfl
theorem hX2_stepOrder {E : fv_E} {d n : Nat} {o : List Nat} {f : Nat → Int32} {M : fv_M} (ho : pIb n 8 o) (hn : n ≤ 5) (hsz : M 9 5 = nI n) : fv_F E (d + 1) mX2_stepOrder [.ref 94] (fv_s M 11 (pLay f o)) (some (.int (bI ((pNx o).isSome = true)))) (fv_s M 11 (pLay f ((pNx o).getD o))) := by
  obtain ⟨hl, hv⟩ := ho
  have hT := wT_all (fun j => decide (o.getD (o.length - 1 - j) 0 < o.getD (o.length - 2 - j) 0)) (o.length - 1)
  rw [show wT (fun j => decide (o.getD (o.length - 1 - j) 0 < o.getD (o.length - 2 - j) 0)) (o.length - 1) = pDe o from rfl, hl] at hT
  obtain ⟨t1, t2, t3⟩ := hT
  refine fv_F.of (ls := [some (.ref 94), none, none, none, none]) (by decide) (Nat.le_of_ble_eq_true rfl) rfl ?_
  refine x_aload_n (pc := 0) dX2_stepOrder_0 rfl rfl ?_
  refine x_geti (pc := 1) fl_X2_32 dX2_stepOrder_1 (tb_94) rfl ((congrFun (fv_s_ne M (pLay f _) (by decide)) 5).trans hsz) ?_
  refine x_iconst (pc := 4) (v := 2) dX2_stepOrder_4 rfl ?_
  refine x_isub (pc := 5) dX2_stepOrder_5 ?_
  refine x_istore_n1 (pc := 6) dX2_stepOrder_6 rfl ?_
  refine x_loop (fun j => [some (.ref 94), some (.int (nI n - 2 - nI j)), none, none, none]) (fun _ => fv_s M 11 (pLay f o)) (pDe o) (by simp only [nI_0, Int32.sub_zero]) rfl (fun j hj hL => ?_) ?_
  · show fv_X E mX2_stepOrder _ _ 7 [some (.ref 94), some (.int (nI n - 2 - nI j)), none, none, none] [] (fv_s M 11 (pLay f o))
    replace hL : fv_X E mX2_stepOrder _ _ 7 [some (.ref 94), some (.int (nI n - 2 - nI (j + 1))), none, none, none] [] (fv_s M 11 (pLay f o)) := hL
    obtain ⟨f1, f2, -, -, -⟩ := pI_at (n := n) (j := j) (by omega) (by omega)
    obtain ⟨g1, g2, g3, g4⟩ := f1 (by omega)
    have ht := of_decide_eq_true (t2 j hj)
    have v1 := hv (n - 1 - j) (by omega)
    have v2 := hv (n - 2 - j) (by omega)
    refine x_iload_n (pc := 7) dX2_stepOrder_7 rfl rfl ?_
    refine x_if_lt (pc := 8) dX2_stepOrder_8 (tgt := 34) rfl (fun h8 => ?_) (fun h8 => ?_)
    ·
      exact absurd h8 g3
    ·
      refine x_aload_n (pc := 11) dX2_stepOrder_11 rfl rfl ?_
      refine x_geta (pc := 12) fl_X2_15 dX2_stepOrder_12 (tb_94) rfl ?_
      refine x_iload_n (pc := 15) dX2_stepOrder_15 rfl rfl ?_
      refine x_iald (pc := 16) dX2_stepOrder_16 (tb_96) (g1) (by omega) (by first | decide | assumption) ?_
      refine x_aload_n (pc := 17) dX2_stepOrder_17 rfl rfl ?_
      refine x_geta (pc := 18) fl_X2_15 dX2_stepOrder_18 (tb_94) rfl ?_
      refine x_iload_n (pc := 21) dX2_stepOrder_21 rfl rfl ?_
      refine x_iconst (pc := 22) (v := 1) dX2_stepOrder_22 rfl ?_
      refine x_iadd (pc := 23) dX2_stepOrder_23 ?_
      refine x_iald (pc := 24) dX2_stepOrder_24 (tb_96) (g2) (by omega) (by first | decide | assumption) ?_
      rw [fv_s_same, Nat.zero_add, Nat.zero_add, pLay_at (by omega), pLay_at (by omega)]
      refine x_icmp_le (pc := 25) dX2_stepOrder_25 (tgt := 34) rfl (fun h25 => ?_) (fun h25 => ?_)
      ·
        exact absurd h25 (nI_ge ht (by omega))
      ·
        refine x_iinc1 (pc := 28) dX2_stepOrder_28 (f2) rfl ?_
        refine x_goto (pc := 31) dX2_stepOrder_31 (tgt := 7) rfl ?_
        exact hL
  · show fv_X E mX2_stepOrder _ _ 7 [some (.ref 94), some (.int (nI n - 2 - nI (pDe o))), none, none, none] [] (fv_s M 11 (pLay f o))
    by_cases hd : pDe o + 1 < n
    · obtain ⟨f1, -, -, f4, -⟩ := pI_at (n := n) (j := pDe o) (by omega) (by omega)
      obtain ⟨g1, g2, g3, g4⟩ := f1 (by omega)
      have ht := of_decide_eq_false (t3 (by omega))
      have v1 := hv (n - 1 - pDe o) (by omega)
      have v2 := hv (n - 2 - pDe o) (by omega)
      have hT := wT_all (fun j => decide (o.getD (o.length - 1 - j) 0 < o.getD (n - 2 - pDe o) 0)) (o.length - 1 - (n - 2 - pDe o))
      rw [show wT (fun j => decide (o.getD (o.length - 1 - j) 0 < o.getD (n - 2 - pDe o) 0)) (o.length - 1 - (n - 2 - pDe o)) = pTu o (n - 2 - pDe o) from rfl, hl] at hT
      obtain ⟨u1, u2, u3⟩ := hT
      refine x_iload_n (pc := 7) dX2_stepOrder_7 rfl rfl ?_
      refine x_if_lt (pc := 8) dX2_stepOrder_8 (tgt := 34) rfl (fun h8 => ?_) (fun h8 => ?_)
      ·
        exact absurd h8 g3
      ·
        refine x_aload_n (pc := 11) dX2_stepOrder_11 rfl rfl ?_
        refine x_geta (pc := 12) fl_X2_15 dX2_stepOrder_12 (tb_94) rfl ?_
        refine x_iload_n (pc := 15) dX2_stepOrder_15 rfl rfl ?_
        refine x_iald (pc := 16) dX2_stepOrder_16 (tb_96) (g1) (by omega) (by first | decide | assumption) ?_
        refine x_aload_n (pc := 17) dX2_stepOrder_17 rfl rfl ?_
        refine x_geta (pc := 18) fl_X2_15 dX2_stepOrder_18 (tb_94) rfl ?_
        refine x_iload_n (pc := 21) dX2_stepOrder_21 rfl rfl ?_
        refine x_iconst (pc := 22) (v := 1) dX2_stepOrder_22 rfl ?_
        refine x_iadd (pc := 23) dX2_stepOrder_23 ?_
        refine x_iald (pc := 24) dX2_stepOrder_24 (tb_96) (g2) (by omega) (by first | decide | assumption) ?_
        rw [fv_s_same, Nat.zero_add, Nat.zero_add, pLay_at (by omega), pLay_at (by omega)]
        refine x_icmp_le (pc := 25) dX2_stepOrder_25 (tgt := 34) rfl (fun h25 => ?_) (fun h25 => ?_)
        ·
          refine x_iload_n (pc := 34) dX2_stepOrder_34 rfl rfl ?_
          refine x_if_ge (pc := 35) dX2_stepOrder_35 (tgt := 40) rfl (fun h35 => ?_) (fun h35 => ?_)
          ·
            refine x_aload_n (pc := 40) dX2_stepOrder_40 rfl rfl ?_
            refine x_geti (pc := 41) fl_X2_32 dX2_stepOrder_41 (tb_94) rfl ((congrFun (fv_s_ne M (pLay f _) (by decide)) 5).trans hsz) ?_
            refine x_iconst (pc := 44) (v := 1) dX2_stepOrder_44 rfl ?_
            refine x_isub (pc := 45) dX2_stepOrder_45 ?_
            refine x_istore_n2 (pc := 46) dX2_stepOrder_46 rfl ?_
            rw [g1]
            refine x_loop (fun j => [some (.ref 94), some (.int (nI (n - 2 - pDe o))), some (.int (nI n - 1 - nI j)), none, none]) (fun _ => fv_s M 11 (pLay f o)) (pTu o (n - 2 - pDe o)) (by simp only [nI_0, Int32.sub_zero]) rfl (fun j hj hL => ?_) ?_
            · show fv_X E mX2_stepOrder _ _ 47 [some (.ref 94), some (.int (nI (n - 2 - pDe o))), some (.int (nI n - 1 - nI j)), none, none] [] (fv_s M 11 (pLay f o))
              replace hL : fv_X E mX2_stepOrder _ _ 47 [some (.ref 94), some (.int (nI (n - 2 - pDe o))), some (.int (nI n - 1 - nI (j + 1))), none, none] [] (fv_s M 11 (pLay f o)) := hL
              obtain ⟨-, -, -, k2, k3⟩ := pI_at (n := n) (j := j) (by omega) (by omega)
              replace k2 := k2 (by omega)
              have hu := of_decide_eq_true (u2 j hj)
              refine x_iload_n (pc := 47) dX2_stepOrder_47 rfl rfl ?_
              refine x_iload_n (pc := 48) dX2_stepOrder_48 rfl rfl ?_
              refine x_icmp_le (pc := 49) dX2_stepOrder_49 (tgt := 73) rfl (fun h49 => ?_) (fun h49 => ?_)
              ·
                exact absurd h49 (by rw [k2]; exact nI_ge (by omega) (by omega))
              ·
                refine x_aload_n (pc := 52) dX2_stepOrder_52 rfl rfl ?_
                refine x_geta (pc := 53) fl_X2_15 dX2_stepOrder_53 (tb_94) rfl ?_
                refine x_iload_n (pc := 56) dX2_stepOrder_56 rfl rfl ?_
                refine x_iald (pc := 57) dX2_stepOrder_57 (tb_96) (k2) (by omega) (by first | decide | assumption) ?_
                refine x_aload_n (pc := 58) dX2_stepOrder_58 rfl rfl ?_
                refine x_geta (pc := 59) fl_X2_15 dX2_stepOrder_59 (tb_94) rfl ?_
                refine x_iload_n (pc := 62) dX2_stepOrder_62 rfl rfl ?_
                refine x_iald (pc := 63) dX2_stepOrder_63 (tb_96) (rfl) (by omega) (by first | decide | assumption) ?_
                rw [fv_s_same, Nat.zero_add, Nat.zero_add, pLay_at (by omega), pLay_at (by omega)]
                refine x_icmp_ge (pc := 64) dX2_stepOrder_64 (tgt := 73) rfl (fun h64 => ?_) (fun h64 => ?_)
                ·
                  exact absurd h64 (nI_ge hu (by omega))
                ·
                  refine x_iinc2 (pc := 67) dX2_stepOrder_67 (k3) rfl ?_
                  refine x_goto (pc := 70) dX2_stepOrder_70 (tgt := 47) rfl ?_
                  exact hL
            · show fv_X E mX2_stepOrder _ _ 47 [some (.ref 94), some (.int (nI (n - 2 - pDe o))), some (.int (nI n - 1 - nI (pTu o (n - 2 - pDe o)))), none, none] [] (fv_s M 11 (pLay f o))
              obtain ⟨-, -, -, k2, k3⟩ := pI_at (n := n) (j := pTu o (n - 2 - pDe o)) (by omega) (by omega)
              replace k2 := k2 (by omega)
              have hib : pIb n 8 (pSw o (n - 2 - pDe o) (n - 1 - pTu o (n - 2 - pDe o))) := pSw_ib ⟨hl, hv⟩ (by omega) (by omega)
              have hcs := hX2_swap (E := E) (d := d) (M := M) (f := f) hl hn (a := n - 2 - pDe o) (b := n - 1 - pTu o (n - 2 - pDe o)) (by omega) (by omega)
              rw [k2]
              have hgo : fv_X E mX2_stepOrder (d + 1) (fun r' M' => r' = some (.int (bI ((pNx o).isSome = true))) ∧ M' = fv_s M 11 (pLay f ((pNx o).getD o))) 73 [some (.ref 94), some (.int (nI (n - 2 - pDe o))), some (.int (nI (n - 1 - pTu o (n - 2 - pDe o)))), none, none] [] (fv_s M 11 (pLay f o)) := by
                refine x_aload_n (pc := 73) dX2_stepOrder_73 rfl rfl ?_
                refine x_iload_n (pc := 74) dX2_stepOrder_74 rfl rfl ?_
                refine x_iload_n (pc := 75) dX2_stepOrder_75 rfl rfl ?_
                refine x_Vv (pc := 76) ks_X2_63 dX2_stepOrder_76 (tb_94) rfl rfl (hcs) rfl rfl rfl (Nat.le_of_ble_eq_true rfl) ?_
                refine x_iload_n (pc := 79) dX2_stepOrder_79 rfl rfl ?_
                refine x_iconst (pc := 80) (v := 1) dX2_stepOrder_80 rfl ?_
                refine x_iadd (pc := 81) dX2_stepOrder_81 ?_
                refine x_istore_n3 (pc := 82) dX2_stepOrder_82 rfl ?_
                refine x_aload_n (pc := 83) dX2_stepOrder_83 rfl rfl ?_
                refine x_geti (pc := 84) fl_X2_32 dX2_stepOrder_84 (tb_94) rfl ((congrFun (fv_s_ne M (pLay f _) (by decide)) 5).trans hsz) ?_
                refine x_iconst (pc := 87) (v := 1) dX2_stepOrder_87 rfl ?_
                refine x_isub (pc := 88) dX2_stepOrder_88 ?_
                refine x_istore4 (pc := 89) dX2_stepOrder_89 rfl ?_
                refine x_loop (fun j => [some (.ref 94), some (.int (nI (n - 2 - pDe o))), some (.int (nI (n - 1 - pTu o (n - 2 - pDe o)))), some (.int (nI (n - 2 - pDe o + 1 + j))), some (.int (nI n - 1 - nI j))]) (fun j => fv_s M 11 (pLay f (pRv (pSw o (n - 2 - pDe o) (n - 1 - pTu o (n - 2 - pDe o))) (n - 2 - pDe o) n (j)))) ((pDe o + 1) / 2) (by simp only [nI_0, Int32.sub_zero, Nat.add_zero, ← nI_1]) rfl (fun j hj hL => ?_) ?_
                · show fv_X E mX2_stepOrder _ _ 91 [some (.ref 94), some (.int (nI (n - 2 - pDe o))), some (.int (nI (n - 1 - pTu o (n - 2 - pDe o)))), some (.int (nI (n - 2 - pDe o + 1 + j))), some (.int (nI n - 1 - nI j))] [] (fv_s M 11 (pLay f (pRv (pSw o (n - 2 - pDe o) (n - 1 - pTu o (n - 2 - pDe o))) (n - 2 - pDe o) n (j))))
                  replace hL : fv_X E mX2_stepOrder _ _ 91 [some (.ref 94), some (.int (nI (n - 2 - pDe o))), some (.int (nI (n - 1 - pTu o (n - 2 - pDe o)))), some (.int (nI (n - 2 - pDe o + 1 + (j + 1)))), some (.int (nI n - 1 - nI (j + 1)))] [] (fv_s M 11 (pLay f (pRv (pSw o (n - 2 - pDe o) (n - 1 - pTu o (n - 2 - pDe o))) (n - 2 - pDe o) n (j + 1)))) := hL
                  obtain ⟨-, -, -, k4, k5⟩ := pI_at (n := n) (j := j) (by omega) (by omega)
                  replace k4 := k4 (by omega)
                  have hcs2 := hX2_swap (E := E) (d := d) (M := M) (f := f) (pRv_ib (i := n - 2 - pDe o) hib j (by omega)).1 hn (a := n - 2 - pDe o + 1 + j) (b := n - 1 - j) (by omega) (by omega)
                  rw [k4]
                  refine x_iload_n (pc := 91) dX2_stepOrder_91 rfl rfl ?_
                  refine x_iload (pc := 92) dX2_stepOrder_92 rfl ?_
                  refine x_icmp_ge (pc := 94) dX2_stepOrder_94 (tgt := 113) rfl (fun h94 => ?_) (fun h94 => ?_)
                  ·
                    exact absurd h94 (nI_ge (by omega) (by omega))
                  ·
                    refine x_aload_n (pc := 97) dX2_stepOrder_97 rfl rfl ?_
                    refine x_iload_n (pc := 98) dX2_stepOrder_98 rfl rfl ?_
                    refine x_iload (pc := 99) dX2_stepOrder_99 rfl ?_
                    refine x_Vv (pc := 101) ks_X2_63 dX2_stepOrder_101 (tb_94) rfl rfl (hcs2) rfl rfl rfl (Nat.le_of_ble_eq_true rfl) ?_
                    refine x_iinc3 (pc := 104) dX2_stepOrder_104 (fv_inc _) rfl ?_
                    rw [← k4]
                    refine x_iinc4 (pc := 107) dX2_stepOrder_107 (k5) rfl ?_
                    refine x_goto (pc := 110) dX2_stepOrder_110 (tgt := 91) rfl ?_
                    exact hL
                · show fv_X E mX2_stepOrder _ _ 91 [some (.ref 94), some (.int (nI (n - 2 - pDe o))), some (.int (nI (n - 1 - pTu o (n - 2 - pDe o)))), some (.int (nI (n - 2 - pDe o + 1 + (pDe o + 1) / 2))), some (.int (nI n - 1 - nI ((pDe o + 1) / 2)))] [] (fv_s M 11 (pLay f (pRv (pSw o (n - 2 - pDe o) (n - 1 - pTu o (n - 2 - pDe o))) (n - 2 - pDe o) n ((pDe o + 1) / 2))))
                  obtain ⟨-, -, -, k4, k5⟩ := pI_at (n := n) (j := (pDe o + 1) / 2) (by omega) (by omega)
                  replace k4 := k4 (by omega)
                  rw [k4]
                  refine x_iload_n (pc := 91) dX2_stepOrder_91 rfl rfl ?_
                  refine x_iload (pc := 92) dX2_stepOrder_92 rfl ?_
                  refine x_icmp_ge (pc := 94) dX2_stepOrder_94 (tgt := 113) rfl (fun h94 => ?_) (fun h94 => ?_)
                  ·
                    refine x_iconst (pc := 113) (v := 1) dX2_stepOrder_113 rfl ?_
                    refine x_iret (pc := 114) dX2_stepOrder_114 rfl (by first | rfl | exact fv_nz _) ?_
                    have e : pNx o = some (pRv (pSw o (n - 2 - pDe o) (n - 1 - pTu o (n - 2 - pDe o))) (n - 2 - pDe o) n ((pDe o + 1) / 2)) := by unfold pNx; rw [hl, if_pos hd]
                    rw [e]
                    exact ⟨rfl, rfl⟩
                  ·
                    exact absurd (nI_le (by omega) (by omega)) h94
              by_cases hq : pTu o (n - 2 - pDe o) < n - 1 - (n - 2 - pDe o)
              · have hu := of_decide_eq_false (u3 hq)
                have v3 := hv (n - 1 - pTu o (n - 2 - pDe o)) (by omega)
                refine x_iload_n (pc := 47) dX2_stepOrder_47 rfl rfl ?_
                refine x_iload_n (pc := 48) dX2_stepOrder_48 rfl rfl ?_
                refine x_icmp_le (pc := 49) dX2_stepOrder_49 (tgt := 73) rfl (fun h49 => ?_) (fun h49 => ?_)
                ·
                  exact absurd h49 (nI_ge (by omega) (by omega))
                ·
                  refine x_aload_n (pc := 52) dX2_stepOrder_52 rfl rfl ?_
                  refine x_geta (pc := 53) fl_X2_15 dX2_stepOrder_53 (tb_94) rfl ?_
                  refine x_iload_n (pc := 56) dX2_stepOrder_56 rfl rfl ?_
                  refine x_iald (pc := 57) dX2_stepOrder_57 (tb_96) (rfl) (by omega) (by first | decide | assumption) ?_
                  refine x_aload_n (pc := 58) dX2_stepOrder_58 rfl rfl ?_
                  refine x_geta (pc := 59) fl_X2_15 dX2_stepOrder_59 (tb_94) rfl ?_
                  refine x_iload_n (pc := 62) dX2_stepOrder_62 rfl rfl ?_
                  refine x_iald (pc := 63) dX2_stepOrder_63 (tb_96) (rfl) (by omega) (by first | decide | assumption) ?_
                  rw [fv_s_same, Nat.zero_add, Nat.zero_add, pLay_at (by omega), pLay_at (by omega)]
                  refine x_icmp_ge (pc := 64) dX2_stepOrder_64 (tgt := 73) rfl (fun h64 => ?_) (fun h64 => ?_)
                  ·
                    exact hgo
                  ·
                    exact absurd (nI_le (Nat.le_of_not_lt hu) (by omega)) h64
              · have e3 : n - 1 - pTu o (n - 2 - pDe o) = n - 2 - pDe o := by omega
                refine x_iload_n (pc := 47) dX2_stepOrder_47 rfl rfl ?_
                refine x_iload_n (pc := 48) dX2_stepOrder_48 rfl rfl ?_
                refine x_icmp_le (pc := 49) dX2_stepOrder_49 (tgt := 73) rfl (fun h49 => ?_) (fun h49 => ?_)
                ·
                  exact hgo
                ·
                  exact absurd (nI_le (by omega) (by omega)) h49
          ·
            exact absurd g4 h35
        ·
          exact absurd (Nat.le_of_not_lt ht) (fun q => h25 (nI_le q (by omega)))
    · obtain ⟨-, -, f3, -, -⟩ := pI_at (n := n) (j := pDe o) (by omega) (by omega)
      obtain ⟨g1, g2⟩ := f3 (by omega)
      refine x_iload_n (pc := 7) dX2_stepOrder_7 rfl rfl ?_
      refine x_if_lt (pc := 8) dX2_stepOrder_8 (tgt := 34) rfl (fun h8 => ?_) (fun h8 => ?_)
      ·
        refine x_iload_n (pc := 34) dX2_stepOrder_34 rfl rfl ?_
        refine x_if_ge (pc := 35) dX2_stepOrder_35 (tgt := 40) rfl (fun h35 => ?_) (fun h35 => ?_)
        ·
          exact absurd h35 g2
        ·
          refine x_iconst (pc := 38) (v := 0) dX2_stepOrder_38 rfl ?_
          refine x_iret (pc := 39) dX2_stepOrder_39 rfl (by first | rfl | exact fv_nz _) ?_
          have e : pNx o = none := by unfold pNx; rw [hl, if_neg hd]
          rw [e]
          exact ⟨rfl, rfl⟩
      ·
        exact absurd g1 h8
theorem hX7_swaps {E : fv_E} {d a b n : Nat} {o : List Nat} {f : Nat → Int32} {M : fv_M} (ho : o.length = n) (hn : n ≤ 5) (ha : a < n) (hb : b < n) : fv_F E d mX7_swaps [.ref 106, .int (nI a), .int (nI b)] (fv_s M 27 (pLay f o)) none (fv_s M 27 (pLay f (pSw o a b))) := by
  have ha5 : a < 5 := by omega
  have hb5 : b < 5 := by omega
  refine fv_F.of (ls := [some (.ref 106), some (.int (nI a)), some (.int (nI b)), none]) (by decide) (Nat.le_of_ble_eq_true rfl) rfl ?_
  refine x_aload_n (pc := 0) dX7_swaps_0 rfl rfl ?_
  refine x_geta (pc := 1) fl_X7_25 dX7_swaps_1 (tb_106) rfl ?_
  refine x_iload_n (pc := 4) dX7_swaps_4 rfl rfl ?_
  refine x_iald (pc := 5) dX7_swaps_5 (tb_112) (rfl) (by first | assumption | decide | omega) (by first | decide | assumption) ?_
  rw [fv_s_same, Nat.zero_add, pLay_at (by omega)]
  refine x_istore_n3 (pc := 6) dX7_swaps_6 rfl ?_
  refine x_aload_n (pc := 7) dX7_swaps_7 rfl rfl ?_
  refine x_geta (pc := 8) fl_X7_25 dX7_swaps_8 (tb_106) rfl ?_
  refine x_iload_n (pc := 11) dX7_swaps_11 rfl rfl ?_
  refine x_aload_n (pc := 12) dX7_swaps_12 rfl rfl ?_
  refine x_geta (pc := 13) fl_X7_25 dX7_swaps_13 (tb_106) rfl ?_
  refine x_iload_n (pc := 16) dX7_swaps_16 rfl rfl ?_
  refine x_iald (pc := 17) dX7_swaps_17 (tb_112) (rfl) (by first | assumption | decide | omega) (by first | decide | assumption) ?_
  rw [fv_s_same, Nat.zero_add, pLay_at (by omega)]
  refine x_iast (pc := 18) dX7_swaps_18 (tb_112) (rfl) (by first | assumption | decide | omega) (by first | decide | assumption) ?_
  rw [fv_s_same, fv_s_s, Nat.zero_add, pLay_set (by omega)]
  refine x_aload_n (pc := 19) dX7_swaps_19 rfl rfl ?_
  refine x_geta (pc := 20) fl_X7_25 dX7_swaps_20 (tb_106) rfl ?_
  refine x_iload_n (pc := 23) dX7_swaps_23 rfl rfl ?_
  refine x_iload_n (pc := 24) dX7_swaps_24 rfl rfl ?_
  refine x_iast (pc := 25) dX7_swaps_25 (tb_112) (rfl) (by first | assumption | decide | omega) (by first | decide | assumption) ?_
  refine x_ret (pc := 26) dX7_swaps_26 rfl ?_
  refine ⟨rfl, ?_⟩
  rw [fv_s_same, fv_s_s, Nat.zero_add, pLay_set (by rw [List.length_set]; omega)]
  rfl
theorem hX7_nextOrder {E : fv_E} {d n : Nat} {o : List Nat} {f : Nat → Int32} {M : fv_M} (ho : pIb n 8 o) (hn : n ≤ 5) : fv_F E (d + 1) mX7_nextOrder [.ref 106, .int (nI n)] (fv_s M 27 (pLay f o)) (some (.int (bI ((pNx o).isSome = true)))) (fv_s M 27 (pLay f ((pNx o).getD o))) := by
  obtain ⟨hl, hv⟩ := ho
  have hT := wT_all (fun j => decide (o.getD (o.length - 1 - j) 0 < o.getD (o.length - 2 - j) 0)) (o.length - 1)
  rw [show wT (fun j => decide (o.getD (o.length - 1 - j) 0 < o.getD (o.length - 2 - j) 0)) (o.length - 1) = pDe o from rfl, hl] at hT
  obtain ⟨t1, t2, t3⟩ := hT
  refine fv_F.of (ls := [some (.ref 106), some (.int (nI n)), none, none, none, none]) (by decide) (Nat.le_of_ble_eq_true rfl) rfl ?_
  refine x_iload_n (pc := 0) dX7_nextOrder_0 rfl rfl ?_
  refine x_iconst (pc := 1) (v := 2) dX7_nextOrder_1 rfl ?_
  refine x_isub (pc := 2) dX7_nextOrder_2 ?_
  refine x_istore_n2 (pc := 3) dX7_nextOrder_3 rfl ?_
  refine x_loop (fun j => [some (.ref 106), some (.int (nI n)), some (.int (nI n - 2 - nI j)), none, none, none]) (fun _ => fv_s M 27 (pLay f o)) (pDe o) (by simp only [nI_0, Int32.sub_zero]) rfl (fun j hj hL => ?_) ?_
  · show fv_X E mX7_nextOrder _ _ 4 [some (.ref 106), some (.int (nI n)), some (.int (nI n - 2 - nI j)), none, none, none] [] (fv_s M 27 (pLay f o))
    replace hL : fv_X E mX7_nextOrder _ _ 4 [some (.ref 106), some (.int (nI n)), some (.int (nI n - 2 - nI (j + 1))), none, none, none] [] (fv_s M 27 (pLay f o)) := hL
    obtain ⟨f1, f2, -, -, -⟩ := pI_at (n := n) (j := j) (by omega) (by omega)
    obtain ⟨g1, g2, g3, g4⟩ := f1 (by omega)
    have ht := of_decide_eq_true (t2 j hj)
    have v1 := hv (n - 1 - j) (by omega)
    have v2 := hv (n - 2 - j) (by omega)
    refine x_iload_n (pc := 4) dX7_nextOrder_4 rfl rfl ?_
    refine x_if_lt (pc := 5) dX7_nextOrder_5 (tgt := 31) rfl (fun h5 => ?_) (fun h5 => ?_)
    ·
      exact absurd h5 g3
    ·
      refine x_aload_n (pc := 8) dX7_nextOrder_8 rfl rfl ?_
      refine x_geta (pc := 9) fl_X7_25 dX7_nextOrder_9 (tb_106) rfl ?_
      refine x_iload_n (pc := 12) dX7_nextOrder_12 rfl rfl ?_
      refine x_iald (pc := 13) dX7_nextOrder_13 (tb_112) (g1) (by omega) (by first | decide | assumption) ?_
      refine x_aload_n (pc := 14) dX7_nextOrder_14 rfl rfl ?_
      refine x_geta (pc := 15) fl_X7_25 dX7_nextOrder_15 (tb_106) rfl ?_
      refine x_iload_n (pc := 18) dX7_nextOrder_18 rfl rfl ?_
      refine x_iconst (pc := 19) (v := 1) dX7_nextOrder_19 rfl ?_
      refine x_iadd (pc := 20) dX7_nextOrder_20 ?_
      refine x_iald (pc := 21) dX7_nextOrder_21 (tb_112) (g2) (by omega) (by first | decide | assumption) ?_
      rw [fv_s_same, Nat.zero_add, Nat.zero_add, pLay_at (by omega), pLay_at (by omega)]
      refine x_icmp_le (pc := 22) dX7_nextOrder_22 (tgt := 31) rfl (fun h22 => ?_) (fun h22 => ?_)
      ·
        exact absurd h22 (nI_ge ht (by omega))
      ·
        refine x_iinc2 (pc := 25) dX7_nextOrder_25 (f2) rfl ?_
        refine x_goto (pc := 28) dX7_nextOrder_28 (tgt := 4) rfl ?_
        exact hL
  · show fv_X E mX7_nextOrder _ _ 4 [some (.ref 106), some (.int (nI n)), some (.int (nI n - 2 - nI (pDe o))), none, none, none] [] (fv_s M 27 (pLay f o))
    by_cases hd : pDe o + 1 < n
    · obtain ⟨f1, -, -, f4, -⟩ := pI_at (n := n) (j := pDe o) (by omega) (by omega)
      obtain ⟨g1, g2, g3, g4⟩ := f1 (by omega)
      have ht := of_decide_eq_false (t3 (by omega))
      have v1 := hv (n - 1 - pDe o) (by omega)
      have v2 := hv (n - 2 - pDe o) (by omega)
      have hT := wT_all (fun j => decide (o.getD (o.length - 1 - j) 0 < o.getD (n - 2 - pDe o) 0)) (o.length - 1 - (n - 2 - pDe o))
      rw [show wT (fun j => decide (o.getD (o.length - 1 - j) 0 < o.getD (n - 2 - pDe o) 0)) (o.length - 1 - (n - 2 - pDe o)) = pTu o (n - 2 - pDe o) from rfl, hl] at hT
      obtain ⟨u1, u2, u3⟩ := hT
      refine x_iload_n (pc := 4) dX7_nextOrder_4 rfl rfl ?_
      refine x_if_lt (pc := 5) dX7_nextOrder_5 (tgt := 31) rfl (fun h5 => ?_) (fun h5 => ?_)
      ·
        exact absurd h5 g3
      ·
        refine x_aload_n (pc := 8) dX7_nextOrder_8 rfl rfl ?_
        refine x_geta (pc := 9) fl_X7_25 dX7_nextOrder_9 (tb_106) rfl ?_
        refine x_iload_n (pc := 12) dX7_nextOrder_12 rfl rfl ?_
        refine x_iald (pc := 13) dX7_nextOrder_13 (tb_112) (g1) (by omega) (by first | decide | assumption) ?_
        refine x_aload_n (pc := 14) dX7_nextOrder_14 rfl rfl ?_
        refine x_geta (pc := 15) fl_X7_25 dX7_nextOrder_15 (tb_106) rfl ?_
        refine x_iload_n (pc := 18) dX7_nextOrder_18 rfl rfl ?_
        refine x_iconst (pc := 19) (v := 1) dX7_nextOrder_19 rfl ?_
        refine x_iadd (pc := 20) dX7_nextOrder_20 ?_
        refine x_iald (pc := 21) dX7_nextOrder_21 (tb_112) (g2) (by omega) (by first | decide | assumption) ?_
        rw [fv_s_same, Nat.zero_add, Nat.zero_add, pLay_at (by omega), pLay_at (by omega)]
        refine x_icmp_le (pc := 22) dX7_nextOrder_22 (tgt := 31) rfl (fun h22 => ?_) (fun h22 => ?_)
        ·
          refine x_iload_n (pc := 31) dX7_nextOrder_31 rfl rfl ?_
          refine x_if_ge (pc := 32) dX7_nextOrder_32 (tgt := 37) rfl (fun h32 => ?_) (fun h32 => ?_)
          ·
            refine x_iload_n (pc := 37) dX7_nextOrder_37 rfl rfl ?_
            refine x_iconst (pc := 38) (v := 1) dX7_nextOrder_38 rfl ?_
            refine x_isub (pc := 39) dX7_nextOrder_39 ?_
            refine x_istore_n3 (pc := 40) dX7_nextOrder_40 rfl ?_
            rw [g1]
            refine x_loop (fun j => [some (.ref 106), some (.int (nI n)), some (.int (nI (n - 2 - pDe o))), some (.int (nI n - 1 - nI j)), none, none]) (fun _ => fv_s M 27 (pLay f o)) (pTu o (n - 2 - pDe o)) (by simp only [nI_0, Int32.sub_zero]) rfl (fun j hj hL => ?_) ?_
            · show fv_X E mX7_nextOrder _ _ 41 [some (.ref 106), some (.int (nI n)), some (.int (nI (n - 2 - pDe o))), some (.int (nI n - 1 - nI j)), none, none] [] (fv_s M 27 (pLay f o))
              replace hL : fv_X E mX7_nextOrder _ _ 41 [some (.ref 106), some (.int (nI n)), some (.int (nI (n - 2 - pDe o))), some (.int (nI n - 1 - nI (j + 1))), none, none] [] (fv_s M 27 (pLay f o)) := hL
              obtain ⟨-, -, -, k2, k3⟩ := pI_at (n := n) (j := j) (by omega) (by omega)
              replace k2 := k2 (by omega)
              have hu := of_decide_eq_true (u2 j hj)
              refine x_aload_n (pc := 41) dX7_nextOrder_41 rfl rfl ?_
              refine x_geta (pc := 42) fl_X7_25 dX7_nextOrder_42 (tb_106) rfl ?_
              refine x_iload_n (pc := 45) dX7_nextOrder_45 rfl rfl ?_
              refine x_iald (pc := 46) dX7_nextOrder_46 (tb_112) (k2) (by omega) (by first | decide | assumption) ?_
              refine x_aload_n (pc := 47) dX7_nextOrder_47 rfl rfl ?_
              refine x_geta (pc := 48) fl_X7_25 dX7_nextOrder_48 (tb_106) rfl ?_
              refine x_iload_n (pc := 51) dX7_nextOrder_51 rfl rfl ?_
              refine x_iald (pc := 52) dX7_nextOrder_52 (tb_112) (rfl) (by omega) (by first | decide | assumption) ?_
              rw [fv_s_same, Nat.zero_add, Nat.zero_add, pLay_at (by omega), pLay_at (by omega)]
              refine x_icmp_ge (pc := 53) dX7_nextOrder_53 (tgt := 62) rfl (fun h53 => ?_) (fun h53 => ?_)
              ·
                exact absurd h53 (nI_ge hu (by omega))
              ·
                refine x_iinc3 (pc := 56) dX7_nextOrder_56 (k3) rfl ?_
                refine x_goto (pc := 59) dX7_nextOrder_59 (tgt := 41) rfl ?_
                exact hL
            · show fv_X E mX7_nextOrder _ _ 41 [some (.ref 106), some (.int (nI n)), some (.int (nI (n - 2 - pDe o))), some (.int (nI n - 1 - nI (pTu o (n - 2 - pDe o)))), none, none] [] (fv_s M 27 (pLay f o))
              obtain ⟨-, -, -, k2, k3⟩ := pI_at (n := n) (j := pTu o (n - 2 - pDe o)) (by omega) (by omega)
              replace k2 := k2 (by omega)
              have hib : pIb n 8 (pSw o (n - 2 - pDe o) (n - 1 - pTu o (n - 2 - pDe o))) := pSw_ib ⟨hl, hv⟩ (by omega) (by omega)
              have hcs := hX7_swaps (E := E) (d := d) (M := M) (f := f) hl hn (a := n - 2 - pDe o) (b := n - 1 - pTu o (n - 2 - pDe o)) (by omega) (by omega)
              rw [k2]
              have hgo : fv_X E mX7_nextOrder (d + 1) (fun r' M' => r' = some (.int (bI ((pNx o).isSome = true))) ∧ M' = fv_s M 27 (pLay f ((pNx o).getD o))) 62 [some (.ref 106), some (.int (nI n)), some (.int (nI (n - 2 - pDe o))), some (.int (nI (n - 1 - pTu o (n - 2 - pDe o)))), none, none] [] (fv_s M 27 (pLay f o)) := by
                refine x_aload_n (pc := 62) dX7_nextOrder_62 rfl rfl ?_
                refine x_iload_n (pc := 63) dX7_nextOrder_63 rfl rfl ?_
                refine x_iload_n (pc := 64) dX7_nextOrder_64 rfl rfl ?_
                refine x_Vv (pc := 65) ks_X7_164 dX7_nextOrder_65 (tb_106) rfl rfl (hcs) rfl rfl rfl (Nat.le_of_ble_eq_true rfl) ?_
                refine x_iload_n (pc := 68) dX7_nextOrder_68 rfl rfl ?_
                refine x_iconst (pc := 69) (v := 1) dX7_nextOrder_69 rfl ?_
                refine x_iadd (pc := 70) dX7_nextOrder_70 ?_
                refine x_istore4 (pc := 71) dX7_nextOrder_71 rfl ?_
                refine x_iload_n (pc := 73) dX7_nextOrder_73 rfl rfl ?_
                refine x_iconst (pc := 74) (v := 1) dX7_nextOrder_74 rfl ?_
                refine x_isub (pc := 75) dX7_nextOrder_75 ?_
                refine x_istore5 (pc := 76) dX7_nextOrder_76 rfl ?_
                refine x_loop (fun j => [some (.ref 106), some (.int (nI n)), some (.int (nI (n - 2 - pDe o))), some (.int (nI (n - 1 - pTu o (n - 2 - pDe o)))), some (.int (nI (n - 2 - pDe o + 1 + j))), some (.int (nI n - 1 - nI j))]) (fun j => fv_s M 27 (pLay f (pRv (pSw o (n - 2 - pDe o) (n - 1 - pTu o (n - 2 - pDe o))) (n - 2 - pDe o) n (j)))) ((pDe o + 1) / 2) (by simp only [nI_0, Int32.sub_zero, Nat.add_zero, ← nI_1]) rfl (fun j hj hL => ?_) ?_
                · show fv_X E mX7_nextOrder _ _ 78 [some (.ref 106), some (.int (nI n)), some (.int (nI (n - 2 - pDe o))), some (.int (nI (n - 1 - pTu o (n - 2 - pDe o)))), some (.int (nI (n - 2 - pDe o + 1 + j))), some (.int (nI n - 1 - nI j))] [] (fv_s M 27 (pLay f (pRv (pSw o (n - 2 - pDe o) (n - 1 - pTu o (n - 2 - pDe o))) (n - 2 - pDe o) n (j))))
                  replace hL : fv_X E mX7_nextOrder _ _ 78 [some (.ref 106), some (.int (nI n)), some (.int (nI (n - 2 - pDe o))), some (.int (nI (n - 1 - pTu o (n - 2 - pDe o)))), some (.int (nI (n - 2 - pDe o + 1 + (j + 1)))), some (.int (nI n - 1 - nI (j + 1)))] [] (fv_s M 27 (pLay f (pRv (pSw o (n - 2 - pDe o) (n - 1 - pTu o (n - 2 - pDe o))) (n - 2 - pDe o) n (j + 1)))) := hL
                  obtain ⟨-, -, -, k4, k5⟩ := pI_at (n := n) (j := j) (by omega) (by omega)
                  replace k4 := k4 (by omega)
                  have hcs2 := hX7_swaps (E := E) (d := d) (M := M) (f := f) (pRv_ib (i := n - 2 - pDe o) hib j (by omega)).1 hn (a := n - 2 - pDe o + 1 + j) (b := n - 1 - j) (by omega) (by omega)
                  rw [k4]
                  refine x_iload (pc := 78) dX7_nextOrder_78 rfl ?_
                  refine x_iload (pc := 80) dX7_nextOrder_80 rfl ?_
                  refine x_icmp_ge (pc := 82) dX7_nextOrder_82 (tgt := 102) rfl (fun h82 => ?_) (fun h82 => ?_)
                  ·
                    exact absurd h82 (nI_ge (by omega) (by omega))
                  ·
                    refine x_aload_n (pc := 85) dX7_nextOrder_85 rfl rfl ?_
                    refine x_iload (pc := 86) dX7_nextOrder_86 rfl ?_
                    refine x_iload (pc := 88) dX7_nextOrder_88 rfl ?_
                    refine x_Vv (pc := 90) ks_X7_164 dX7_nextOrder_90 (tb_106) rfl rfl (hcs2) rfl rfl rfl (Nat.le_of_ble_eq_true rfl) ?_
                    refine x_iinc4 (pc := 93) dX7_nextOrder_93 (fv_inc _) rfl ?_
                    rw [← k4]
                    refine x_iinc5 (pc := 96) dX7_nextOrder_96 (k5) rfl ?_
                    refine x_goto (pc := 99) dX7_nextOrder_99 (tgt := 78) rfl ?_
                    exact hL
                · show fv_X E mX7_nextOrder _ _ 78 [some (.ref 106), some (.int (nI n)), some (.int (nI (n - 2 - pDe o))), some (.int (nI (n - 1 - pTu o (n - 2 - pDe o)))), some (.int (nI (n - 2 - pDe o + 1 + (pDe o + 1) / 2))), some (.int (nI n - 1 - nI ((pDe o + 1) / 2)))] [] (fv_s M 27 (pLay f (pRv (pSw o (n - 2 - pDe o) (n - 1 - pTu o (n - 2 - pDe o))) (n - 2 - pDe o) n ((pDe o + 1) / 2))))
                  obtain ⟨-, -, -, k4, k5⟩ := pI_at (n := n) (j := (pDe o + 1) / 2) (by omega) (by omega)
                  replace k4 := k4 (by omega)
                  rw [k4]
                  refine x_iload (pc := 78) dX7_nextOrder_78 rfl ?_
                  refine x_iload (pc := 80) dX7_nextOrder_80 rfl ?_
                  refine x_icmp_ge (pc := 82) dX7_nextOrder_82 (tgt := 102) rfl (fun h82 => ?_) (fun h82 => ?_)
                  ·
                    refine x_iconst (pc := 102) (v := 1) dX7_nextOrder_102 rfl ?_
                    refine x_iret (pc := 103) dX7_nextOrder_103 rfl (by first | rfl | exact fv_nz _) ?_
                    have e : pNx o = some (pRv (pSw o (n - 2 - pDe o) (n - 1 - pTu o (n - 2 - pDe o))) (n - 2 - pDe o) n ((pDe o + 1) / 2)) := by unfold pNx; rw [hl, if_pos hd]
                    rw [e]
                    exact ⟨rfl, rfl⟩
                  ·
                    exact absurd (nI_le (by omega) (by omega)) h82
              by_cases hq : pTu o (n - 2 - pDe o) < n - 1 - (n - 2 - pDe o)
              · have hu := of_decide_eq_false (u3 hq)
                have v3 := hv (n - 1 - pTu o (n - 2 - pDe o)) (by omega)
                refine x_aload_n (pc := 41) dX7_nextOrder_41 rfl rfl ?_
                refine x_geta (pc := 42) fl_X7_25 dX7_nextOrder_42 (tb_106) rfl ?_
                refine x_iload_n (pc := 45) dX7_nextOrder_45 rfl rfl ?_
                refine x_iald (pc := 46) dX7_nextOrder_46 (tb_112) (rfl) (by omega) (by first | decide | assumption) ?_
                refine x_aload_n (pc := 47) dX7_nextOrder_47 rfl rfl ?_
                refine x_geta (pc := 48) fl_X7_25 dX7_nextOrder_48 (tb_106) rfl ?_
                refine x_iload_n (pc := 51) dX7_nextOrder_51 rfl rfl ?_
                refine x_iald (pc := 52) dX7_nextOrder_52 (tb_112) (rfl) (by omega) (by first | decide | assumption) ?_
                rw [fv_s_same, Nat.zero_add, Nat.zero_add, pLay_at (by omega), pLay_at (by omega)]
                refine x_icmp_ge (pc := 53) dX7_nextOrder_53 (tgt := 62) rfl (fun h53 => ?_) (fun h53 => ?_)
                ·
                  exact hgo
                ·
                  exact absurd (nI_le (Nat.le_of_not_lt hu) (by omega)) h53
              · have e3 : n - 1 - pTu o (n - 2 - pDe o) = n - 2 - pDe o := by omega
                refine x_aload_n (pc := 41) dX7_nextOrder_41 rfl rfl ?_
                refine x_geta (pc := 42) fl_X7_25 dX7_nextOrder_42 (tb_106) rfl ?_
                refine x_iload_n (pc := 45) dX7_nextOrder_45 rfl rfl ?_
                refine x_iald (pc := 46) dX7_nextOrder_46 (tb_112) (rfl) (by omega) (by first | decide | assumption) ?_
                refine x_aload_n (pc := 47) dX7_nextOrder_47 rfl rfl ?_
                refine x_geta (pc := 48) fl_X7_25 dX7_nextOrder_48 (tb_106) rfl ?_
                refine x_iload_n (pc := 51) dX7_nextOrder_51 rfl rfl ?_
                refine x_iald (pc := 52) dX7_nextOrder_52 (tb_112) (rfl) (by omega) (by first | decide | assumption) ?_
                rw [fv_s_same, Nat.zero_add, Nat.zero_add, pLay_at (by omega), pLay_at (by omega)]
                refine x_icmp_ge (pc := 53) dX7_nextOrder_53 (tgt := 62) rfl (fun h53 => ?_) (fun h53 => ?_)
                ·
                  exact hgo
                ·
                  exact absurd (by rw [e3]; exact Int32.le_refl _) h53
          ·
            exact absurd g4 h32
        ·
          exact absurd (Nat.le_of_not_lt ht) (fun q => h22 (nI_le q (by omega)))
    · obtain ⟨-, -, f3, -, -⟩ := pI_at (n := n) (j := pDe o) (by omega) (by omega)
      obtain ⟨g1, g2⟩ := f3 (by omega)
      refine x_iload_n (pc := 4) dX7_nextOrder_4 rfl rfl ?_
      refine x_if_lt (pc := 5) dX7_nextOrder_5 (tgt := 31) rfl (fun h5 => ?_) (fun h5 => ?_)
      ·
        refine x_iload_n (pc := 31) dX7_nextOrder_31 rfl rfl ?_
        refine x_if_ge (pc := 32) dX7_nextOrder_32 (tgt := 37) rfl (fun h32 => ?_) (fun h32 => ?_)
        ·
          exact absurd h32 g2
        ·
          refine x_iconst (pc := 35) (v := 0) dX7_nextOrder_35 rfl ?_
          refine x_iret (pc := 36) dX7_nextOrder_36 rfl (by first | rfl | exact fv_nz _) ?_
          have e : pNx o = none := by unfold pNx; rw [hl, if_neg hd]
          rw [e]
          exact ⟨rfl, rfl⟩
      ·
        exact absurd g1 h5
