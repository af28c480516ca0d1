/-- the sort of a byte -/
def pSo (v : Nat) : Nat := if 97 ≤ v ∧ v ≤ 122 then 1 else if 48 ≤ v ∧ v ≤ 57 then 2 else if v = 59 then 3 else if v = 32 then 4 else 5
/-- where a run that begins at p ends -/
def pRF (f : Nat → Bool) : Nat → Nat → Nat
  | 0, p => p
  | k + 1, p => if f p = true then pRF f k (p + 1) else p
def pRun (f : Nat → Bool) (L p : Nat) : Nat := pRF f (L - p) p
theorem pRun_step {f : Nat → Bool} {L p : Nat} (h : p < L) (hf : f p = true) : pRun f L p = pRun f L (p + 1) := by
  unfold pRun
  rw [show L - p = (L - (p + 1)) + 1 by omega]
  show (if f p = true then _ else _) = _
  rw [if_pos hf]
theorem pRun_stop {f : Nat → Bool} {L p : Nat} (h : p < L → f p = false) : pRun f L p = p := by
  unfold pRun
  rcases Nat.lt_or_ge p L with hp | hp
  · rw [show L - p = (L - (p + 1)) + 1 by omega]
    show (if f p = true then _ else _) = _
    rw [if_neg (fun q => by rw [h hp] at q; cases q)]
  · rw [show L - p = 0 by omega]; rfl
theorem pRun_all {f : Nat → Bool} {L : Nat} : ∀ (k p : Nat), L - p = k → p ≤ L → p ≤ pRun f L p ∧ pRun f L p ≤ L ∧ (∀ q, p ≤ q → q < pRun f L p → f q = true) ∧ (pRun f L p < L → f (pRun f L p) = false) := by
  intro k
  induction k with
  | zero =>
    intro p hk hp
    rw [pRun_stop (fun h => absurd h (by omega))]
    exact ⟨Nat.le_refl _, hp, fun q h1 h2 => absurd h2 (by omega), fun h => absurd h (by omega)⟩
  | succ k ih =>
    intro p hk hp
    by_cases hf : f p = true
    · rw [pRun_step (by omega) hf]
      obtain ⟨a, b, c, e⟩ := ih (p + 1) (by omega) (by omega)
      refine ⟨by omega, b, fun q h1 h2 => ?_, e⟩
      by_cases hq : q = p
      · rw [hq]; exact hf
      · exact c q (by omega) h2
    · have hf' : f p = false := by
        cases h : f p with
        | false => rfl
        | true => exact absurd h hf
      rw [pRun_stop (fun _ => hf')]
      exact ⟨Nat.le_refl _, hp, fun q h1 h2 => absurd h2 (by omega), fun _ => hf'⟩
theorem pRun_sp {f : Nat → Bool} {L p : Nat} (hp : p ≤ L) : p ≤ pRun f L p ∧ pRun f L p ≤ L ∧ (∀ q, p ≤ q → q < pRun f L p → f q = true) ∧ (pRun f L p < L → f (pRun f L p) = false) := pRun_all _ p rfl hp
/-- blanks skipped; a token's end; the starts of tokens, of the last sort 0: the end -/
def pTsk (b : Nat → Nat) (L p : Nat) : Nat := pRun (fun q => decide (pSo (b q) = 4)) L p
def pTE (b : Nat → Nat) (L s : Nat) : Nat := if s < L then (if pSo (b s) = 1 ∨ pSo (b s) = 2 then pRun (fun q => decide (pSo (b q) = pSo (b s))) L (s + 1) else s + 1) else L
def pTS (b : Nat → Nat) (L : Nat) : Nat → Nat
  | 0 => pTsk b L 0
  | j + 1 => pTsk b L (pTE b L (pTS b L j))
def pTo (b : Nat → Nat) (L s : Nat) : Nat := if s < L then pSo (b s) else 0
def pAd (b : Nat → Nat) (L j : Nat) : Nat := if pTS b L j < L then j + 1 else j
def pTn (b : Nat → Nat) (L : Nat) : Nat := wT (fun j => decide (pTS b L j < L)) L
theorem pTE_le {b : Nat → Nat} {L s : Nat} (hs : s ≤ L) : s ≤ pTE b L s ∧ pTE b L s ≤ L ∧ (s < L → s < pTE b L s) := by
  unfold pTE
  by_cases h : s < L
  · rw [if_pos h]
    by_cases h2 : pSo (b s) = 1 ∨ pSo (b s) = 2
    · rw [if_pos h2]
      have := pRun_sp (f := fun q => decide (pSo (b q) = pSo (b s))) (L := L) (p := s + 1) (by omega)
      refine ⟨by omega, this.2.1, fun _ => by omega⟩
    · rw [if_neg h2]
      exact ⟨by omega, by omega, fun _ => by omega⟩
  · rw [if_neg h]
    exact ⟨hs, Nat.le_refl _, fun q => absurd q h⟩
theorem pTS_le {b : Nat → Nat} {L : Nat} : ∀ j, pTS b L j ≤ L
  | 0 => (pRun_sp (Nat.zero_le _)).2.1
  | j + 1 => (pRun_sp (pTE_le (pTS_le j)).2.1).2.1
theorem pTS_lt {b : Nat → Nat} {L j : Nat} (h : pTS b L j < L) : pTS b L j < pTS b L (j + 1) := by
  have h1 := pTE_le (b := b) (pTS_le (b := b) (L := L) j)
  have h2 := (pRun_sp (f := fun q => decide (pSo (b q) = 4)) h1.2.1).1
  have h3 : pTS b L (j + 1) = pRun (fun q => decide (pSo (b q) = 4)) L (pTE b L (pTS b L j)) := rfl
  rw [h3]
  have := h1.2.2 h
  omega
theorem pTS_end {b : Nat → Nat} {L j : Nat} (h : ¬ pTS b L j < L) : pTS b L (j + 1) = pTS b L j := by
  have h0 := pTS_le (b := b) (L := L) j
  have e : pTS b L j = L := by omega
  show pTsk b L (pTE b L (pTS b L j)) = _
  rw [e]
  unfold pTE
  rw [if_neg (Nat.lt_irrefl _)]
  exact pRun_stop (fun q => absurd q (Nat.lt_irrefl _))
theorem pAd_S {b : Nat → Nat} {L j : Nat} : pTS b L (pAd b L j) = pTS b L (j + 1) := by
  unfold pAd
  by_cases h : pTS b L j < L
  · rw [if_pos h]
  · rw [if_neg h, pTS_end h]
theorem pTS_so {b : Nat → Nat} {L : Nat} : ∀ {j : Nat}, pTS b L j < L → pSo (b (pTS b L j)) ≠ 4
  | 0, h => of_decide_eq_false ((pRun_sp (f := fun q => decide (pSo (b q) = 4)) (Nat.zero_le _)).2.2.2 h)
  | j + 1, h => of_decide_eq_false ((pRun_sp (f := fun q => decide (pSo (b q) = 4)) (pTE_le (pTS_le j)).2.1).2.2.2 h)
theorem pTn_sp (b : Nat → Nat) (L : Nat) : pTn b L ≤ L ∧ pTS b L (pTn b L) = L ∧ ∀ j, j < pTn b L → pTS b L j < L := by
  obtain ⟨h1, h2, h3⟩ := wT_all (fun j => decide (pTS b L j < L)) L
  refine ⟨h1, ?_, fun j hj => of_decide_eq_true (h2 j hj)⟩
  have hk : ∀ k, k ≤ pTn b L → k ≤ pTS b L k := by
    intro k
    induction k with
    | zero => exact fun _ => Nat.zero_le _
    | succ k ih =>
      intro hk
      have := pTS_lt (of_decide_eq_true (h2 k (by show k < pTn b L; omega)))
      have := ih (by omega)
      omega
  have h5 := pTS_le (b := b) (L := L) (pTn b L)
  rcases Nat.lt_or_ge (pTn b L) L with h | h
  · have := of_decide_eq_false (h3 h)
    have e : pTS b L (pTn b L) = pTS b L (wT (fun j => decide (pTS b L j < L)) L) := rfl
    omega
  · have := hk _ (Nat.le_refl _)
    omega
theorem pAd_le {b : Nat → Nat} {L j : Nat} (h : j ≤ pTn b L) : pAd b L j ≤ pTn b L := by
  unfold pAd
  by_cases q : pTS b L j < L
  · rw [if_pos q]
    have := (pTn_sp b L).2.1
    rcases Nat.lt_or_ge j (pTn b L) with h | h
    · omega
    · have e : j = pTn b L := by omega
      rw [e] at q; omega
  · rw [if_neg q]; exact h
theorem pAd_iff {b : Nat → Nat} {L j : Nat} (h : j ≤ pTn b L) : pTS b L j < L ↔ j < pTn b L := by
  have := pTn_sp b L
  refine ⟨fun q => ?_, fun q => this.2.2 j q⟩
  rcases Nat.lt_or_ge j (pTn b L) with h | h
  · exact h
  · have e : j = pTn b L := by omega
    rw [e] at q; omega
theorem pTE_run {b : Nat → Nat} {L s : Nat} (hs : s < L) (h : pSo (b s) = 1 ∨ pSo (b s) = 2) : pTE b L s = pRun (fun q => decide (pSo (b q) = pSo (b s))) L s := by
  rw [pRun_step hs (decide_eq_true rfl)]
  unfold pTE
  rw [if_pos hs, if_pos h]
theorem pTE_one {b : Nat → Nat} {L s : Nat} (hs : s < L) (h : ¬ (pSo (b s) = 1 ∨ pSo (b s) = 2)) : pTE b L s = s + 1 := by
  unfold pTE
  rw [if_pos hs, if_neg h]
theorem pTE_all {b : Nat → Nat} {L s : Nat} (hs : s < L) (h : pSo (b s) = 1 ∨ pSo (b s) = 2) {i : Nat} (hi : i < pTE b L s - s) : pSo (b (s + i)) = pSo (b s) := by
  rw [pTE_run hs h] at hi
  exact of_decide_eq_true ((pRun_sp (f := fun q => decide (pSo (b q) = pSo (b s))) (Nat.le_of_lt hs)).2.2.1 (s + i) (by omega) (by omega))
theorem pSo_1 {v : Nat} : pSo v = 1 ↔ 97 ≤ v ∧ v ≤ 122 := by unfold pSo; constructor <;> intro h <;> split at * <;> first | assumption | (repeat' split at h) <;> first | omega | rfl | omega
theorem pSo_2 {v : Nat} : pSo v = 2 ↔ 48 ≤ v ∧ v ≤ 57 := by
  unfold pSo
  by_cases h1 : 97 ≤ v ∧ v ≤ 122
  · rw [if_pos h1]; omega
  · rw [if_neg h1]
    by_cases h2 : 48 ≤ v ∧ v ≤ 57
    · rw [if_pos h2]; omega
    · rw [if_neg h2]
      by_cases h3 : v = 59
      · rw [if_pos h3]; omega
      · rw [if_neg h3]
        by_cases h4 : v = 32
        · rw [if_pos h4]; omega
        · rw [if_neg h4]; omega
/-- the value of letters: in the words, and with the bound of the tape's reader -/
def pFo (a : Nat → Nat) : Nat → Nat
  | 0 => 0
  | i + 1 => pFo a i * 27 + a i
def pFs (a : Nat → Nat) : Nat → Nat
  | 0 => 0
  | i + 1 => if 9999999999999 < pFs a i then pFs a i else pFs a i * 27 + a i
theorem pFs_iff {a c : Nat → Nat} : ∀ (n m : Nat), (∀ i, i < m → 1 ≤ a i ∧ a i ≤ 26) → (∀ i, i < n → 1 ≤ c i ∧ c i ≤ 26) → pFo c n ≤ 9999999999999 → (pFs a m = pFo c n ↔ m = n ∧ ∀ i, i < n → a i = c i) := by
  intro n
  induction n with
  | zero =>
    intro m ha hc _
    cases m with
    | zero => exact ⟨fun _ => ⟨rfl, fun i h => absurd h (by omega)⟩, fun _ => rfl⟩
    | succ m =>
      have := ha m (by omega)
      refine ⟨fun h => ?_, fun h => absurd h.1 (by omega)⟩
      have h' : (if 9999999999999 < pFs a m then pFs a m else pFs a m * 27 + a m) = 0 := h
      by_cases hs : 9999999999999 < pFs a m
      · rw [if_pos hs] at h'; omega
      · rw [if_neg hs] at h'; omega
  | succ n ih =>
    intro m ha hc hle
    have hcs : pFo c (n + 1) = pFo c n * 27 + c n := rfl
    rw [hcs] at hle ⊢
    have hC := hc n (by omega)
    cases m with
    | zero =>
      refine ⟨fun h => ?_, fun h => absurd h.1 (by omega)⟩
      have h' : 0 = pFo c n * 27 + c n := h
      omega
    | succ m =>
      have hA := ha m (by omega)
      have ihm := ih m (fun i hi => ha i (by omega)) (fun i hi => hc i (by omega)) (by omega)
      have has : pFs a (m + 1) = if 9999999999999 < pFs a m then pFs a m else pFs a m * 27 + a m := rfl
      rw [has]
      by_cases hs : 9999999999999 < pFs a m
      · rw [if_pos hs]
        refine ⟨fun h => absurd h (by omega), fun h => ?_⟩
        have := ihm.mpr ⟨by omega, fun i hi => h.2 i (by omega)⟩
        omega
      · rw [if_neg hs]
        refine ⟨fun h => ?_, fun h => ?_⟩
        · have e1 : pFs a m = pFo c n := by omega
          have e2 : a m = c n := by omega
          obtain ⟨f1, f2⟩ := ihm.mp e1
          refine ⟨by omega, fun i hi => ?_⟩
          by_cases hin : i = n
          · rw [hin]; rw [f1] at e2; exact e2
          · exact f2 i (by omega)
        · have e : m = n := by omega
          subst e
          have h1 := ihm.mpr ⟨rfl, fun i hi => h.2 i (by omega)⟩
          have h2 := h.2 m (by omega)
          omega
/-- the bytes and the value of word k -/
def pKb (k i : Nat) : Nat := (((fv_kB.getD k []).getD i 0).toInt).toNat
def pKv (k : Nat) : Nat := pFo (fun i => pKb k i - 96) (fv_kL.getD k 0)
theorem pKb_all : ((List.range 15).all fun k => decide (pKv k ≤ 9999999999999) && (List.range (fv_kL.getD k 0)).all fun i => decide ((fv_kB.getD k []).getD i 0 = nI (pKb k i) ∧ 97 ≤ pKb k i ∧ pKb k i ≤ 122)) = true := by decide +kernel
theorem pKb_sp {k : Nat} (hk : k < 15) : pKv k ≤ 9999999999999 ∧ ∀ i, i < fv_kL.getD k 0 → ((fv_kB.getD k []).getD i 0 = nI (pKb k i) ∧ 97 ≤ pKb k i ∧ pKb k i ≤ 122) := by
  have h := fv_all1 pKb_all hk
  rw [Bool.and_eq_true] at h
  exact ⟨of_decide_eq_true h.1, fun i hi => of_decide_eq_true (fv_all1 h.2 hi)⟩
theorem pKv_inj_all : ((List.range 15).all fun k => (List.range 15).all fun l => decide (pKv k = pKv l → k = l)) = true := by decide +kernel
theorem pKv_inj {k l : Nat} (hk : k < 15) (hl : l < 15) (h : pKv k = pKv l) : k = l := of_decide_eq_true (fv_all1 (fv_all1 pKv_inj_all hk) hl) h
/-- the token's value as a word; which of the words it is -/
def pJv (b : Nat → Nat) (L s : Nat) : Nat := pFs (fun i => b (s + i) - 96) (pTE b L s - s)
def pWi (b : Nat → Nat) (L s : Nat) : Nat := if pTo b L s = 1 then wT (fun k => decide (pKv k ≠ pJv b L s)) 15 else 15
theorem pWi_iff {b : Nat → Nat} {L s k : Nat} (hk : k < 15) : pWi b L s = k ↔ (pTo b L s = 1 ∧ pJv b L s = pKv k) := by
  unfold pWi
  by_cases h : pTo b L s = 1
  · rw [if_pos h]
    obtain ⟨h1, h2, h3⟩ := wT_all (fun k => decide (pKv k ≠ pJv b L s)) 15
    have h3' : wT (fun k => decide (pKv k ≠ pJv b L s)) 15 < 15 → pKv (wT (fun k => decide (pKv k ≠ pJv b L s)) 15) = pJv b L s := fun q => Decidable.not_not.mp (of_decide_eq_false (h3 q))
    refine ⟨fun e => ⟨h, ?_⟩, fun e => ?_⟩
    · rw [e] at h3'; exact (h3' hk).symm
    · rcases Nat.lt_or_ge (wT (fun k => decide (pKv k ≠ pJv b L s)) 15) 15 with q | q
      · exact pKv_inj q hk ((h3' q).trans e.2)
      · exact absurd e.2.symm (of_decide_eq_true (h2 k (by omega)))
  · rw [if_neg h]
    exact ⟨fun e => absurd e (by omega), fun e => absurd e.1 h⟩
theorem pWi_le {b : Nat → Nat} {L s : Nat} : pWi b L s ≤ 15 := by
  unfold pWi
  by_cases h : pTo b L s = 1
  · rw [if_pos h]; exact (wT_all _ 15).1
  · rw [if_neg h]; exact Nat.le_refl _
theorem pTo_1 {b : Nat → Nat} {L s : Nat} (h : pTo b L s = 1) : s < L ∧ pSo (b s) = 1 := by
  unfold pTo at h
  by_cases q : s < L
  · rw [if_pos q] at h; exact ⟨q, h⟩
  · rw [if_neg q] at h; exact absurd h (by omega)
theorem pTo_2 {b : Nat → Nat} {L s : Nat} (h : pTo b L s = 2) : s < L ∧ pSo (b s) = 2 := by
  unfold pTo at h
  by_cases q : s < L
  · rw [if_pos q] at h; exact ⟨q, h⟩
  · rw [if_neg q] at h; exact absurd h (by omega)
theorem pWi_w {b : Nat → Nat} {L s k : Nat} (hk : k < 15) : pWi b L s = k ↔ (pTo b L s = 1 ∧ pTE b L s - s = fv_kL.getD k 0 ∧ ∀ i, i < fv_kL.getD k 0 → b (s + i) = pKb k i) := by
  rw [pWi_iff hk]
  refine and_congr_right (fun h => ?_)
  obtain ⟨hs, h1⟩ := pTo_1 h
  obtain ⟨k1, k2⟩ := pKb_sp hk
  have hl : ∀ i, i < pTE b L s - s → 97 ≤ b (s + i) ∧ b (s + i) ≤ 122 := fun i hi => pSo_1.mp ((pTE_all hs (.inl h1) hi).trans h1)
  refine Iff.trans (pFs_iff (a := fun i => b (s + i) - 96) (c := fun i => pKb k i - 96) (fv_kL.getD k 0) (pTE b L s - s) (fun i hi => ?_) (fun i hi => ?_) k1) (and_congr_right (fun e => forall_congr' (fun i => forall_congr' (fun hi => ?_))))
  · have := hl i hi; show 1 ≤ b (s + i) - 96 ∧ b (s + i) - 96 ≤ 26; omega
  · have := k2 i hi; show 1 ≤ pKb k i - 96 ∧ pKb k i - 96 ≤ 26; omega
  · have := hl i (by omega)
    have := k2 i hi
    show b (s + i) - 96 = pKb k i - 96 ↔ _
    omega
/-- the value of digits: with the class's bound, with the model's -/
def pNv (b : Nat → Nat) (s : Nat) : Nat → Nat
  | 0 => 0
  | i + 1 => min 1000 (pNv b s i * 10 + (b (s + i) - 48))
def pNm (b : Nat → Nat) (s : Nat) : Nat → Nat
  | 0 => 0
  | i + 1 => if 999 < pNm b s i then pNm b s i else pNm b s i * 10 + (b (s + i) - 48)
theorem pNm_v {b : Nat → Nat} {s : Nat} : ∀ i, pNv b s i = min 1000 (pNm b s i)
  | 0 => rfl
  | i + 1 => by
    have ih := pNm_v (b := b) (s := s) i
    show min 1000 (pNv b s i * 10 + (b (s + i) - 48)) = min 1000 (if 999 < pNm b s i then pNm b s i else pNm b s i * 10 + (b (s + i) - 48))
    rw [ih]
    by_cases h : 999 < pNm b s i
    · rw [if_pos h]; omega
    · rw [if_neg h]; omega
def pVn (b : Nat → Nat) (L s : Nat) : Nat := pNv b s (pTE b L s - s)
def pVm (b : Nat → Nat) (L s : Nat) : Nat := pNm b s (pTE b L s - s)
theorem pVm_n {b : Nat → Nat} {L s : Nat} : pVn b L s = min 1000 (pVm b L s) := pNm_v _
