/-! THE WORLD OF A MEMORY, and what a write does to it. -/
def fv_s (M : fv_M) (r : Nat) (f : Nat → Int32) : fv_M := fun r' => if r' = r then f else M r'
def fv_u (f : Nat → Int32) (i : Nat) (v : Int32) : Nat → Int32 := fun j => if j = i then v else f j
theorem fv_s_same (M : fv_M) (r : Nat) (f : Nat → Int32) : fv_s M r f r = f := if_pos rfl
theorem fv_s_ne (M : fv_M) {r r' : Nat} (f : Nat → Int32) (h : r' ≠ r) : fv_s M r f r' = M r' := if_neg h
theorem fv_s_s (M : fv_M) (r : Nat) (f g : Nat → Int32) : fv_s (fv_s M r f) r g = fv_s M r g := by
  funext r'; unfold fv_s; split <;> rfl
theorem fv_s_id (M : fv_M) (r : Nat) : fv_s M r (M r) = M := by
  funext r'; unfold fv_s; split
  · next h => rw [h]
  · rfl
theorem fv_s_comm (M : fv_M) {r q : Nat} (f g : Nat → Int32) (h : r ≠ q) : fv_s (fv_s M r f) q g = fv_s (fv_s M q g) r f := by
  funext r'; unfold fv_s
  by_cases h1 : r' = q <;> by_cases h2 : r' = r <;> simp_all
theorem fv_u_same (f : Nat → Int32) (i : Nat) (v : Int32) : fv_u f i v i = v := if_pos rfl
theorem fv_u_ne (f : Nat → Int32) {i j : Nat} (v : Int32) (h : j ≠ i) : fv_u f i v j = f j := if_neg h
theorem fv_u_u (f : Nat → Int32) (i : Nat) (v w : Int32) : fv_u (fv_u f i v) i w = fv_u f i w := by
  funext j; unfold fv_u; split <;> rfl
theorem fv_u_id (f : Nat → Int32) (i : Nat) : fv_u f i (f i) = f := by
  funext j; unfold fv_u; split
  · next h => rw [h]
  · rfl
def fv_comb (h l : Int32) : Int64 := Int64.ofBitVec ((h.toBitVec ++ l.toBitVec : BitVec (32 + 32)) : BitVec 64)
def fv_hi (v : Int64) : Int32 := Int32.ofBitVec (v.toBitVec.extractLsb' 32 32)
def fv_lo (v : Int64) : Int32 := Int32.ofBitVec (v.toBitVec.extractLsb' 0 32)
theorem fv_comb_eq (v : Int64) : fv_comb (fv_hi v) (fv_lo v) = v := by
  obtain ⟨⟨b⟩⟩ := v
  unfold fv_comb fv_hi fv_lo
  have h : ((b.extractLsb' 32 32 ++ b.extractLsb' 0 32 : BitVec (32 + 32)) : BitVec 64) = b := by
    apply BitVec.eq_of_getLsbD_eq
    intro i hi
    rw [BitVec.getLsbD_append]
    by_cases h : i < 32
    · simp [h, BitVec.getLsbD_extractLsb']
    · have h2 : i - 32 < 32 := by omega
      have h3 : 32 + (i - 32) = i := by omega
      simp [h, BitVec.getLsbD_extractLsb', h2, h3]
  exact congrArg Int64.ofBitVec h
def fv_cv (E : fv_E) (v : Value) : Value := match v with
  | .ref q => .ref (E.2.1 q)
  | x => x
def fv_val (M : fv_M) (p : fv_Sp) : Value := match p.1 with
  | 0 => .int (M p.2.1 p.2.2)
  | 1 => .ref p.2.1
  | _ => .long (fv_comb (M p.2.1 p.2.2) (M p.2.1 (p.2.2 + 1)))
def fv_arr (M : fv_M) (n r i0 : Nat) : Nat → Int32 := fun c => if c < n then M r (i0 + c) else 0
def fv_cell (E : fv_E) (M : fv_M) (t : fv_Tb) : va_E := match t with
  | .inl o => .inr (o.1, o.2.map (fun p => fv_cv E (fv_val M p)))
  | .inr a => if a.1 < 2 then .inl (E.2.2.2 a.1, a.2.1, .inl (fv_arr M a.2.1 a.2.2.1 a.2.2.2)) else .inl (E.2.2.2 a.1, a.2.1, .inr (.inr (.inr (.inr (fun k => some (E.2.1 (a.2.2.1 + a.2.2.2 * k)))))))
def fv_W (E : fv_E) (M : fv_M) : va_W := fv_tab.mapIdx fun k t => (E.2.1 k, fv_cell E M t)
theorem fv_W_at {E : fv_E} {M : fv_M} {k : Nat} {t : fv_Tb} (h : fv_tab[k]? = some t) : (fv_W E M)[k]? = some (E.2.1 k, fv_cell E M t) := by
  unfold fv_W
  rw [List.getElem?_mapIdx, h]; rfl
theorem fv_W_non {E : fv_E} {M : fv_M} {k : Nat} (h : fv_tab[k]? = none) : (fv_W E M)[k]? = none := by
  unfold fv_W
  rw [List.getElem?_mapIdx, h]; rfl
theorem fv_W_len (E : fv_E) (M : fv_M) : (fv_W E M).length = fv_tab.length := by unfold fv_W; exact List.length_mapIdx
theorem fv_chk_slot {j ci k : Nat} {ss : List fv_Sp} {p : fv_Sp} (h : fv_tab[j]? = some (.inl (ci, ss))) (hk : ss[k]? = some p) : p.1 = 1 ∨ (p.1 = 0 ∧ fv_own p.2.1 p.2.2 = (j, k)) ∨ (p.1 = 2 ∧ fv_own p.2.1 p.2.2 = (j, k) ∧ fv_own p.2.1 (p.2.2 + 1) = (j, k + 1000)) := by
  have h1 := fv_chk_at h
  unfold fv_chk at h1
  dsimp only at h1
  rw [Bool.and_eq_true] at h1
  have h2 := List.all_eq_true.mp h1.2 _ (List.mem_of_getElem? (i := k) (by rw [List.getElem?_mapIdx, hk]; rfl))
  simp only [id_eq, Bool.or_eq_true, Bool.and_eq_true, beq_iff_eq] at h2
  rcases h2 with (h2 | h2) | h2
  · exact Or.inl h2
  · exact Or.inr (Or.inl h2)
  · exact Or.inr (Or.inr h2)
theorem fv_chk_k {j ci k : Nat} {ss : List fv_Sp} {p : fv_Sp} (h : fv_tab[j]? = some (.inl (ci, ss))) (hk : ss[k]? = some p) : k < 1000 := by
  have h1 := fv_chk_at h
  unfold fv_chk at h1
  dsimp only at h1
  rw [Bool.and_eq_true] at h1
  have h2 : ss.length < 1000 := by simpa using h1.1
  have h3 := (List.getElem?_eq_some_iff.mp hk).1
  omega
theorem fv_chk_arr {j ty n r i0 c : Nat} (h : fv_tab[j]? = some (.inr (ty, n, r, i0))) (hty : ty < 2) (hc : c < n) : fv_own r (i0 + c) = (j, c) := by
  have h1 := fv_chk_at h
  unfold fv_chk at h1
  dsimp only at h1
  have h3 : (!(decide (ty < 2))) = false := by simp [hty]
  rw [h3, Bool.false_or] at h1
  have h2 := List.all_eq_true.mp h1 c (List.mem_range.mpr hc)
  simpa using h2
theorem fv_val_same {E : fv_E} {M M' : fv_M} {j ci k : Nat} {ss : List fv_Sp} {p : fv_Sp} (h : fv_tab[j]? = some (.inl (ci, ss))) (hk : ss[k]? = some p) (hM : ∀ r i, fv_own r i = (j, k) ∨ (fv_own r i = (j, k + 1000) ∧ p.1 = 2) → M' r i = M r i) : fv_cv E (fv_val M' p) = fv_cv E (fv_val M p) := by
  obtain ⟨t, r, i⟩ := p
  rcases fv_chk_slot h hk with h1 | ⟨h1, h2⟩ | ⟨h1, h2, h3⟩
  · dsimp only at h1; subst h1; rfl
  · dsimp only at h1 h2; subst h1
    unfold fv_val; dsimp only
    rw [hM r i (Or.inl h2)]
    rfl
  · dsimp only at h1 h2 h3; subst h1
    unfold fv_val; dsimp only
    rw [hM r i (Or.inl h2), hM r (i + 1) (Or.inr ⟨h3, rfl⟩)]
theorem fv_cell_other {E : fv_E} {M M' : fv_M} {j : Nat} {t : fv_Tb} (h : fv_tab[j]? = some t) (hM : ∀ r i, (fv_own r i).1 = j → M' r i = M r i) : fv_cell E M' t = fv_cell E M t := by
  cases t with
  | inl o =>
    obtain ⟨ci, ss⟩ := o
    unfold fv_cell
    dsimp only
    have : ss.map (fun p => fv_cv E (fv_val M' p)) = ss.map (fun p => fv_cv E (fv_val M p)) := by
      apply List.map_congr_left
      intro p hp
      obtain ⟨k, hk⟩ := List.getElem?_of_mem hp
      exact fv_val_same h hk (fun r i hri => hM r i (by rcases hri with e | ⟨e, -⟩ <;> rw [e]))
    rw [this]
  | inr a =>
    obtain ⟨ty, n, r, i0⟩ := a
    unfold fv_cell
    dsimp only
    by_cases hty : ty < 2
    · rw [if_pos hty, if_pos hty]
      have : fv_arr M' n r i0 = fv_arr M n r i0 := by
        funext c
        unfold fv_arr
        by_cases hc : c < n
        · rw [if_pos hc, if_pos hc]
          exact hM _ _ (by rw [fv_chk_arr h hty hc])
        · rw [if_neg hc, if_neg hc]
      rw [this]
    · rw [if_neg hty, if_neg hty]
theorem fv_W_ext {E : fv_E} {M M' : fv_M} {q : Nat} {x : Nat × va_E} {t : fv_Tb} (ht : fv_tab[q]? = some t) (hx : x = (E.2.1 q, fv_cell E M' t)) (hM : ∀ r i, (fv_own r i).1 ≠ q → M' r i = M r i) : (fv_W E M).set q x = fv_W E M' := by
  subst hx
  have hl : q < fv_tab.length := (List.getElem?_eq_some_iff.mp ht).1
  apply List.ext_getElem?
  intro j
  by_cases hj : j = q
  · subst hj
    rw [List.getElem?_set_self (by rw [fv_W_len]; exact hl), fv_W_at ht]
  · rw [List.getElem?_set_ne (Ne.symm hj)]
    cases hjt : fv_tab[j]? with
    | none => rw [fv_W_non hjt, fv_W_non hjt]
    | some u =>
      rw [fv_W_at hjt, fv_W_at hjt, fv_cell_other (M := M) (M' := M') hjt (fun r i e => hM r i (by rw [e]; exact hj))]
theorem fv_W_put {E : fv_E} {M : fv_M} {q ci k r i : Nat} {ss : List fv_Sp} {v : Int32} (ht : fv_tab[q]? = some (.inl (ci, ss))) (hk : ss[k]? = some (0, r, i)) :
    (fv_W E M).set q (E.2.1 q, .inr (ci, (ss.map (fun p => fv_cv E (fv_val M p))).set k (.int v))) = fv_W E (fv_s M r (fv_u (M r) i v)) := by
  have ho : fv_own r i = (q, k) := by
    rcases fv_chk_slot ht hk with h1 | ⟨h1, h2⟩ | ⟨h1, h2, h3⟩
    · cases h1
    · exact h2
    · cases h1
  have hM : ∀ r' i', fv_own r' i' ≠ (q, k) → fv_s M r (fv_u (M r) i v) r' i' = M r' i' := by
    intro r' i' hne
    unfold fv_s fv_u
    by_cases h1 : r' = r
    · subst h1
      rw [if_pos rfl]
      exact if_neg (fun e => hne (by rw [e]; exact ho))
    · rw [if_neg h1]
  refine fv_W_ext ht ?_ (fun r' i' h => hM r' i' (fun e => h (by rw [e])))
  unfold fv_cell
  dsimp only
  congr 2
  congr 1
  apply List.ext_getElem?
  intro j
  by_cases hj : j = k
  · subst hj
    rw [List.getElem?_set_self (by rw [List.length_map]; exact (List.getElem?_eq_some_iff.mp hk).1), List.getElem?_map, hk]
    show some (Value.int v) = some (Value.int (fv_s M r (fv_u (M r) i v) r i))
    rw [fv_s_same, fv_u_same]
  · rw [List.getElem?_set_ne (Ne.symm hj), List.getElem?_map, List.getElem?_map]
    cases hp : ss[j]? with
    | none => rfl
    | some p =>
      show some _ = some _
      refine congrArg some (fv_val_same (M := fv_s M r (fv_u (M r) i v)) (M' := M) ht hp (fun r' i' e => (hM r' i' (fun e2 => ?_)).symm))
      rcases e with e | ⟨e, e3⟩
      · rw [e] at e2
        exact hj (Prod.mk.inj e2).2
      · rw [e] at e2
        have h9 := (Prod.mk.inj e2).2
        have h8 := fv_chk_k ht hk
        omega
theorem fv_W_putl {E : fv_E} {M : fv_M} {q ci k r i : Nat} {ss : List fv_Sp} {v : Int64} (ht : fv_tab[q]? = some (.inl (ci, ss))) (hk : ss[k]? = some (2, r, i)) :
    (fv_W E M).set q (E.2.1 q, .inr (ci, (ss.map (fun p => fv_cv E (fv_val M p))).set k (.long v))) = fv_W E (fv_s M r (fv_u (fv_u (M r) i (fv_hi v)) (i + 1) (fv_lo v))) := by
  obtain ⟨ho, ho2⟩ : fv_own r i = (q, k) ∧ fv_own r (i + 1) = (q, k + 1000) := by
    rcases fv_chk_slot ht hk with h1 | ⟨h1, h2⟩ | ⟨h1, h2, h3⟩
    · cases h1
    · cases h1
    · exact ⟨h2, h3⟩
  have hM : ∀ r' i', fv_own r' i' ≠ (q, k) → fv_own r' i' ≠ (q, k + 1000) → fv_s M r (fv_u (fv_u (M r) i (fv_hi v)) (i + 1) (fv_lo v)) r' i' = M r' i' := by
    intro r' i' hne hne2
    unfold fv_s fv_u
    by_cases h1 : r' = r
    · subst h1
      rw [if_pos rfl]
      rw [if_neg (fun e => hne2 (by rw [e]; exact ho2))]
      exact if_neg (fun e => hne (by rw [e]; exact ho))
    · rw [if_neg h1]
  refine fv_W_ext ht ?_ (fun r' i' h => hM r' i' (fun e => h (by rw [e])) (fun e => h (by rw [e])))
  unfold fv_cell
  dsimp only
  congr 2
  congr 1
  apply List.ext_getElem?
  intro j
  by_cases hj : j = k
  · subst hj
    rw [List.getElem?_set_self (by rw [List.length_map]; exact (List.getElem?_eq_some_iff.mp hk).1), List.getElem?_map, hk]
    show some (Value.long v) = some (Value.long (fv_comb (fv_s M r (fv_u (fv_u (M r) i (fv_hi v)) (i + 1) (fv_lo v)) r i) (fv_s M r (fv_u (fv_u (M r) i (fv_hi v)) (i + 1) (fv_lo v)) r (i + 1))))
    rw [fv_s_same, fv_u_same, fv_u_ne _ _ (by omega), fv_u_same, fv_comb_eq]
  · rw [List.getElem?_set_ne (Ne.symm hj), List.getElem?_map, List.getElem?_map]
    cases hp : ss[j]? with
    | none => rfl
    | some p =>
      show some _ = some _
      have h8 := fv_chk_k ht hk
      have h7 := fv_chk_k ht hp
      refine congrArg some (fv_val_same (M := fv_s M r (fv_u (fv_u (M r) i (fv_hi v)) (i + 1) (fv_lo v))) (M' := M) ht hp (fun r' i' e => (hM r' i' (fun e2 => ?_) (fun e2 => ?_)).symm))
      · rcases e with e | ⟨e, e3⟩
        · rw [e] at e2
          exact hj (Prod.mk.inj e2).2
        · rw [e] at e2
          have h9 := (Prod.mk.inj e2).2
          omega
      · rcases e with e | ⟨e, e3⟩
        · rw [e] at e2
          have h9 := (Prod.mk.inj e2).2
          omega
        · rw [e] at e2
          have h9 := (Prod.mk.inj e2).2
          omega
theorem fv_W_ast {E : fv_E} {M : fv_M} {q ty n r i0 c : Nat} {v : Int32} (ht : fv_tab[q]? = some (.inr (ty, n, r, i0))) (hty : ty < 2) (hc : c < n) :
    (fv_W E M).set q (E.2.1 q, .inl (E.2.2.2 ty, n, .inl (upd (fv_arr M n r i0) c v))) = fv_W E (fv_s M r (fv_u (M r) (i0 + c) v)) := by
  refine fv_W_ext ht ?_ (fun r' i' h => ?_)
  · unfold fv_cell
    dsimp only
    rw [if_pos hty]
    congr 4
    refine congrArg Sum.inl (funext fun j => ?_)
    unfold upd fv_arr
    by_cases h1 : j = c
    · subst h1
      rw [if_pos rfl, if_pos hc, fv_s_same, fv_u_same]
    · rw [if_neg h1]
      by_cases h2 : j < n
      · rw [if_pos h2, if_pos h2, fv_s_same, fv_u_ne _ _ (by omega)]
      · rw [if_neg h2, if_neg h2]
  · unfold fv_s fv_u
    by_cases h1 : r' = r
    · subst h1
      rw [if_pos rfl]
      exact if_neg (fun e => h (by rw [e, fv_chk_arr ht hty hc]))
    · rw [if_neg h1]
theorem fv_D_any {E : fv_E} {A : Nat → Prop} {M M' : fv_M} (h : va_D A (fv_W E M)) : va_D A (fv_W E M') := by
  have key : ∀ (k : Nat) (x : Nat × va_E), (fv_W E M')[k]? = some x → ∃ y, (fv_W E M)[k]? = some y ∧ y.1 = x.1 := by
    intro k x hx
    cases hk : fv_tab[k]? with
    | none => rw [fv_W_non hk] at hx; cases hx
    | some t =>
      rw [fv_W_at hk] at hx
      cases hx
      exact ⟨_, fv_W_at hk, rfl⟩
  refine ⟨fun i j x y hi hj e => ?_, fun k x hk => ?_⟩
  · obtain ⟨x', h1, e1⟩ := key i x hi
    obtain ⟨y', h2, e2⟩ := key j y hj
    exact h.1 i j x' y' h1 h2 (by rw [e1, e2, e])
  · obtain ⟨x', h1, e1⟩ := key k x hk
    rw [← e1]
    exact h.2 k x' h1
