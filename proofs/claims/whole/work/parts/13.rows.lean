section FVR
variable {E : fv_E} {y : fv_Y} {d pc : Nat} {Φ : Option Value → fv_M → Prop} {ls : List (Option Value)} {st : List Value} {M : fv_M}
theorem x_iconst {n : Int} {v : Int32} (hdg : decode y.2.1 pc = .ok (.iconst n, 1)) (hv : Int32.ofInt n = v) (k : fv_X E y d Φ (pc + 1) (ls) (.int v :: st) M) : fv_X E y d Φ (pc) (ls) (st) M := by
  intro p l e s m args below meth c H locs lsA F hP hS hL
  exact lv_iconst F.1 F.2.1 hdg hv (k p l e s m args below meth c H locs lsA F hP hS hL)
theorem x_bipush {n : Int} {v : Int32} (hdg : decode y.2.1 pc = .ok (.bipush n, 2)) (hv : (Int8.ofInt n).toInt32 = v) (k : fv_X E y d Φ (pc + 2) (ls) (.int v :: st) M) : fv_X E y d Φ (pc) (ls) (st) M := by
  intro p l e s m args below meth c H locs lsA F hP hS hL
  exact lv_bipush F.1 F.2.1 hdg hv (k p l e s m args below meth c H locs lsA F hP hS hL)
theorem x_sipush {n : Int} {v : Int32} (hdg : decode y.2.1 pc = .ok (.sipush n, 3)) (hv : (Int16.ofInt n).toInt32 = v) (k : fv_X E y d Φ (pc + 3) (ls) (.int v :: st) M) : fv_X E y d Φ (pc) (ls) (st) M := by
  intro p l e s m args below meth c H locs lsA F hP hS hL
  exact lv_sipush F.1 F.2.1 hdg hv (k p l e s m args below meth c H locs lsA F hP hS hL)
theorem x_lconst {n : Fin 2} {v : Int64} (hdg : decode y.2.1 pc = .ok (.lconst n, 1)) (hv : Int64.ofNat (n : Nat) = v) (k : fv_X E y d Φ (pc + 1) (ls) (.long v :: st) M) : fv_X E y d Φ (pc) (ls) (st) M := by
  intro p l e s m args below meth c H locs lsA F hP hS hL
  exact lv_lconst F.1 F.2.1 hdg hv (k p l e s m args below meth c H locs lsA F hP hS hL)
theorem x_ldc {idx : Nat} {v : Int32} (hw : Cond.constant y.1.cls idx v ∈ fv_g) (hdg : decode y.2.1 pc = .ok (.ldc idx, 2)) (k : fv_X E y d Φ (pc + 2) (ls) (.int v :: st) M) : fv_X E y d Φ (pc) (ls) (st) M := by
  intro p l e s m args below meth c H locs lsA F hP hS hL
  exact lv_ldc F.1 F.2.1 F.2.2.2.1 (F.2.2.2.2.1 _ hw) hdg (k p l e s m args below meth c H locs lsA F hP hS hL)
theorem x_ldcw {idx : Nat} {v : Int32} (hw : Cond.constant y.1.cls idx v ∈ fv_g) (hdg : decode y.2.1 pc = .ok (.ldc_w idx, 3)) (k : fv_X E y d Φ (pc + 3) (ls) (.int v :: st) M) : fv_X E y d Φ (pc) (ls) (st) M := by
  intro p l e s m args below meth c H locs lsA F hP hS hL
  exact lv_ldcw F.1 F.2.1 F.2.2.2.1 (F.2.2.2.2.1 _ hw) hdg (k p l e s m args below meth c H locs lsA F hP hS hL)
theorem x_ldc2 {idx : Nat} {v : Int64} (hw : Cond.constantLong y.1.cls idx v ∈ fv_g) (hdg : decode y.2.1 pc = .ok (.ldc2_w idx, 3)) (k : fv_X E y d Φ (pc + 3) (ls) (.long v :: st) M) : fv_X E y d Φ (pc) (ls) (st) M := by
  intro p l e s m args below meth c H locs lsA F hP hS hL
  exact lv_ldc2 F.1 F.2.1 F.2.2.2.1 (F.2.2.2.2.1 _ hw) hdg (k p l e s m args below meth c H locs lsA F hP hS hL)
theorem x_iload_n {j : Fin 4} {i : Nat} {x : Int32} (hdg : decode y.2.1 pc = .ok (.iload_n j, 1)) (hi : (j : Nat) = i) (hl : ls[i]? = some (some (.int x))) (k : fv_X E y d Φ (pc + 1) (ls) (.int x :: st) M) : fv_X E y d Φ (pc) (ls) (st) M := by
  intro p l e s m args below meth c H locs lsA F hP hS hL
  exact lv_iload_n F.1 F.2.1 hdg hi (hL.2.2 _ _ hl) (k p l e s m args below meth c H locs lsA F hP hS hL)
theorem x_iload {i : Nat} {x : Int32} (hdg : decode y.2.1 pc = .ok (.iload i, 2)) (hl : ls[i]? = some (some (.int x))) (k : fv_X E y d Φ (pc + 2) (ls) (.int x :: st) M) : fv_X E y d Φ (pc) (ls) (st) M := by
  intro p l e s m args below meth c H locs lsA F hP hS hL
  exact lv_iload F.1 F.2.1 hdg (hL.2.2 _ _ hl) (k p l e s m args below meth c H locs lsA F hP hS hL)
theorem x_lload_n {j : Fin 4} {i : Nat} {x : Int64} (hdg : decode y.2.1 pc = .ok (.lload_n j, 1)) (hi : (j : Nat) = i) (hl : ls[i]? = some (some (.long x))) (k : fv_X E y d Φ (pc + 1) (ls) (.long x :: st) M) : fv_X E y d Φ (pc) (ls) (st) M := by
  intro p l e s m args below meth c H locs lsA F hP hS hL
  exact lv_lload_n F.1 F.2.1 hdg hi (hL.2.2 _ _ hl) (k p l e s m args below meth c H locs lsA F hP hS hL)
theorem x_lload {i : Nat} {x : Int64} (hdg : decode y.2.1 pc = .ok (.lload i, 2)) (hl : ls[i]? = some (some (.long x))) (k : fv_X E y d Φ (pc + 2) (ls) (.long x :: st) M) : fv_X E y d Φ (pc) (ls) (st) M := by
  intro p l e s m args below meth c H locs lsA F hP hS hL
  exact lv_lload F.1 F.2.1 hdg (hL.2.2 _ _ hl) (k p l e s m args below meth c H locs lsA F hP hS hL)
theorem x_aload_n {j : Fin 4} {i : Nat} {x : Nat} (hdg : decode y.2.1 pc = .ok (.aload_n j, 1)) (hi : (j : Nat) = i) (hl : ls[i]? = some (some (.ref x))) (k : fv_X E y d Φ (pc + 1) (ls) (.ref x :: st) M) : fv_X E y d Φ (pc) (ls) (st) M := by
  intro p l e s m args below meth c H locs lsA F hP hS hL
  exact lv_aload_n F.1 F.2.1 hdg hi (hL.2.2 _ _ hl) (k p l e s m args below meth c H locs lsA F hP hS hL)
theorem x_aload {i : Nat} {x : Nat} (hdg : decode y.2.1 pc = .ok (.aload i, 2)) (hl : ls[i]? = some (some (.ref x))) (k : fv_X E y d Φ (pc + 2) (ls) (.ref x :: st) M) : fv_X E y d Φ (pc) (ls) (st) M := by
  intro p l e s m args below meth c H locs lsA F hP hS hL
  exact lv_aload F.1 F.2.1 hdg (hL.2.2 _ _ hl) (k p l e s m args below meth c H locs lsA F hP hS hL)
def fv_lv (E : fv_E) (ls : List (Option Value)) : List (Nat × Value) := (ls.mapIdx fun j o => o.map fun v => (j, fv_cv E v)).filterMap id
theorem fv_lv_mem {E : fv_E} {ls : List (Option Value)} {q : Nat × Value} : q ∈ fv_lv E ls ↔ ∃ v, ls[q.1]? = some (some v) ∧ q.2 = fv_cv E v := by
  unfold fv_lv
  rw [List.mem_filterMap]
  constructor
  · rintro ⟨o, ho, hq⟩
    obtain ⟨j, hj⟩ := List.getElem?_of_mem ho
    rw [List.getElem?_mapIdx] at hj
    cases h : ls[j]? with
    | none => rw [h] at hj; cases hj
    | some o' =>
      rw [h] at hj
      cases o' with
      | none => simp at hj; subst hj; cases hq
      | some v =>
        simp at hj; subst hj; cases hq
        exact ⟨v, h, rfl⟩
  · rintro ⟨v, hv, hq⟩
    obtain ⟨j, z⟩ := q
    dsimp only at hv hq
    subst hq
    exact ⟨some (j, fv_cv E v), List.mem_of_getElem? (i := j) (by rw [List.getElem?_mapIdx, hv]; rfl), rfl⟩
theorem fv_L.has {E : fv_E} {lsA : Array Slot} {ls : List (Option Value)} (h : fv_L E lsA ls) : lv_has lsA ls.length (fv_lv E ls) := by
  refine ⟨h.1, h.2.1, fun q hq => ?_⟩
  obtain ⟨v, h1, h2⟩ := fv_lv_mem.mp hq
  rw [h2]
  exact h.2.2 _ _ h1
def fv_c1 (o : Option Value) : Bool := match o with
  | some v => v.category == 1
  | none => true
/-- the locals behind a store of one word -/
theorem fv_L.st1 {E : fv_E} {lsA : Array Slot} {ls : List (Option Value)} {i n : Nat} {v : Value} (hn : n = ls.length) (hc : ∀ o, 0 < i → ls[i - 1]? = some o → fv_c1 o = true) (h : lv_has lsA n ((i, fv_cv E v) :: (fv_lv E ls).filter (fun q => !(q.1 == i) && !(q.1 + 1 == i && q.2.category == 2)))) : fv_L E lsA (ls.set i (some v)) := by
  refine ⟨by rw [h.1, hn, List.length_set], h.2.1, fun j w hj => ?_⟩
  by_cases hji : j = i
  · subst hji
    rw [List.getElem?_set] at hj
    simp only [if_true] at hj
    split at hj
    · cases hj
      exact h.2.2 _ List.mem_cons_self
    · cases hj
  · rw [List.getElem?_set_ne (Ne.symm hji)] at hj
    refine h.2.2 (j, fv_cv E w) (List.mem_cons_of_mem _ (List.mem_filter.mpr ⟨fv_lv_mem.mpr ⟨w, hj, rfl⟩, ?_⟩))
    have h1 : (j == i) = false := by simpa using hji
    rw [h1]
    by_cases h2 : j + 1 = i
    · have h3 := hc (some w) (by omega) (by rw [show i - 1 = j by omega]; exact hj)
      have h4 : w.category = 1 := by simpa [fv_c1] using h3
      simp [fv_cat, h4]
    · simp [h2]
/-- the locals behind a store of a long -/
theorem fv_L.st2 {E : fv_E} {lsA : Array Slot} {ls : List (Option Value)} {i n : Nat} {v : Value} (hn : n = ls.length) (hc : ∀ o, 0 < i → ls[i - 1]? = some o → fv_c1 o = true) (h : lv_has lsA n ((i, fv_cv E v) :: (fv_lv E ls).filter (fun q => !(q.1 == i) && (!(q.1 == i + 1) && !(q.1 + 1 == i && q.2.category == 2))))) : fv_L E lsA ((ls.set i (some v)).set (i + 1) none) := by
  refine ⟨by rw [h.1, hn, List.length_set, List.length_set], h.2.1, fun j w hj => ?_⟩
  by_cases hj1 : j = i + 1
  · subst hj1
    rw [List.getElem?_set] at hj
    simp only [if_true] at hj
    split at hj <;> cases hj
  rw [List.getElem?_set_ne (Ne.symm hj1)] at hj
  by_cases hji : j = i
  · subst hji
    rw [List.getElem?_set] at hj
    simp only [if_true] at hj
    split at hj
    · cases hj
      exact h.2.2 _ List.mem_cons_self
    · cases hj
  · rw [List.getElem?_set_ne (Ne.symm hji)] at hj
    refine h.2.2 (j, fv_cv E w) (List.mem_cons_of_mem _ (List.mem_filter.mpr ⟨fv_lv_mem.mpr ⟨w, hj, rfl⟩, ?_⟩))
    have h1 : (j == i) = false := by simpa using hji
    have h0 : (j == i + 1) = false := by simpa using hj1
    rw [h1, h0]
    by_cases h2 : j + 1 = i
    · have h3 := hc (some w) (by omega) (by rw [show i - 1 = j by omega]; exact hj)
      have h4 : w.category = 1 := by simpa [fv_c1] using h3
      simp [fv_cat, h4]
    · simp [h2]
theorem xg_istore_n {j : Fin 4} {i : Nat} {x : Int32} (hdg : decode y.2.1 pc = .ok (.istore_n j, 1)) (hi : (j : Nat) = i) (hn : i < ls.length) (hc : ∀ o, 0 < i → ls[i - 1]? = some o → fv_c1 o = true) (k : fv_X E y d Φ (pc + 1) (ls.set i (some (.int x))) (st) M) : fv_X E y d Φ (pc) (ls) (.int x :: st) M := by
  intro p l e s m args below meth c H locs lsA F hP hS hL
  exact lv_istore_n F.1 F.2.1 hdg hi hL.has hn rfl (fun ls2 h2 => k p l e s m args below meth c H locs ls2 F hP hS (fv_L.st1 (v := .int x) rfl hc h2))
theorem xg_istore {i : Nat} {x : Int32} (hdg : decode y.2.1 pc = .ok (.istore i, 2)) (hn : i < ls.length) (hc : ∀ o, 0 < i → ls[i - 1]? = some o → fv_c1 o = true) (k : fv_X E y d Φ (pc + 2) (ls.set i (some (.int x))) (st) M) : fv_X E y d Φ (pc) (ls) (.int x :: st) M := by
  intro p l e s m args below meth c H locs lsA F hP hS hL
  exact lv_istore F.1 F.2.1 hdg hL.has hn rfl (fun ls2 h2 => k p l e s m args below meth c H locs ls2 F hP hS (fv_L.st1 (v := .int x) rfl hc h2))
theorem xg_astore_n {j : Fin 4} {i : Nat} {x : Nat} (hdg : decode y.2.1 pc = .ok (.astore_n j, 1)) (hi : (j : Nat) = i) (hn : i < ls.length) (hc : ∀ o, 0 < i → ls[i - 1]? = some o → fv_c1 o = true) (k : fv_X E y d Φ (pc + 1) (ls.set i (some (.ref x))) (st) M) : fv_X E y d Φ (pc) (ls) (.ref x :: st) M := by
  intro p l e s m args below meth c H locs lsA F hP hS hL
  exact lv_astore_n F.1 F.2.1 hdg hi hL.has hn rfl (fun ls2 h2 => k p l e s m args below meth c H locs ls2 F hP hS (fv_L.st1 (v := .ref x) rfl hc h2))
theorem xg_astore {i : Nat} {x : Nat} (hdg : decode y.2.1 pc = .ok (.astore i, 2)) (hn : i < ls.length) (hc : ∀ o, 0 < i → ls[i - 1]? = some o → fv_c1 o = true) (k : fv_X E y d Φ (pc + 2) (ls.set i (some (.ref x))) (st) M) : fv_X E y d Φ (pc) (ls) (.ref x :: st) M := by
  intro p l e s m args below meth c H locs lsA F hP hS hL
  exact lv_astore F.1 F.2.1 hdg hL.has hn rfl (fun ls2 h2 => k p l e s m args below meth c H locs ls2 F hP hS (fv_L.st1 (v := .ref x) rfl hc h2))
theorem xg_lstore_n {j : Fin 4} {i : Nat} {x : Int64} (hdg : decode y.2.1 pc = .ok (.lstore_n j, 1)) (hi : (j : Nat) = i) (hn : i + 1 < ls.length) (hc : ∀ o, 0 < i → ls[i - 1]? = some o → fv_c1 o = true) (k : fv_X E y d Φ (pc + 1) ((ls.set i (some (.long x))).set (i + 1) none) (st) M) : fv_X E y d Φ (pc) (ls) (.long x :: st) M := by
  intro p l e s m args below meth c H locs lsA F hP hS hL
  exact lv_lstore_n F.1 F.2.1 hdg hi hL.has hn rfl (fun ls2 h2 => k p l e s m args below meth c H locs ls2 F hP hS (fv_L.st2 (v := .long x) rfl hc h2))
theorem xg_lstore {i : Nat} {x : Int64} (hdg : decode y.2.1 pc = .ok (.lstore i, 2)) (hn : i + 1 < ls.length) (hc : ∀ o, 0 < i → ls[i - 1]? = some o → fv_c1 o = true) (k : fv_X E y d Φ (pc + 2) ((ls.set i (some (.long x))).set (i + 1) none) (st) M) : fv_X E y d Φ (pc) (ls) (.long x :: st) M := by
  intro p l e s m args below meth c H locs lsA F hP hS hL
  exact lv_lstore F.1 F.2.1 hdg hL.has hn rfl (fun ls2 h2 => k p l e s m args below meth c H locs ls2 F hP hS (fv_L.st2 (v := .long x) rfl hc h2))
theorem xg_iinc {i : Nat} {n : Int} {x v : Int32} (hdg : decode y.2.1 pc = .ok (.iinc i n, 3)) (hx : ls[i]? = some (some (.int x))) (hv : x + Int32.ofInt n = v) (hc : ∀ o, 0 < i → ls[i - 1]? = some o → fv_c1 o = true) (k : fv_X E y d Φ (pc + 3) (ls.set i (some (.int v))) (st) M) : fv_X E y d Φ (pc) (ls) (st) M := by
  intro p l e s m args below meth c H locs lsA F hP hS hL
  have hm : (i, Value.int x) ∈ fv_lv E ls := fv_lv_mem.mpr ⟨.int x, hx, rfl⟩
  obtain ⟨kk, hk⟩ := List.getElem?_of_mem hm
  exact lv_iinc F.1 F.2.1 hdg hL.has hk hv (List.getElem?_eq_some_iff.mp hx).1 rfl (fun ls2 h2 => k p l e s m args below meth c H locs ls2 F hP hS (fv_L.st1 (v := .int v) rfl hc h2))
theorem x_istore_n0 {v0 : Option Value} {t : List (Option Value)} {x : Int32} (hdg : decode y.2.1 pc = .ok (.istore_n 0, 1))  (k : fv_X E y d Φ (pc + 1) (some (.int x) :: t) (st) M) : fv_X E y d Φ (pc) (v0 :: t) (.int x :: st) M := xg_istore_n (i := 0) hdg rfl (by simp only [List.length_cons]; omega) (fun _ h _ => absurd h (Nat.lt_irrefl 0)) k
theorem x_astore_n0 {v0 : Option Value} {t : List (Option Value)} {x : Nat} (hdg : decode y.2.1 pc = .ok (.astore_n 0, 1))  (k : fv_X E y d Φ (pc + 1) (some (.ref x) :: t) (st) M) : fv_X E y d Φ (pc) (v0 :: t) (.ref x :: st) M := xg_astore_n (i := 0) hdg rfl (by simp only [List.length_cons]; omega) (fun _ h _ => absurd h (Nat.lt_irrefl 0)) k
theorem x_iinc0 {t : List (Option Value)} {x v : Int32} {n : Int} (hdg : decode y.2.1 pc = .ok (.iinc 0 n, 3)) (hv : x + Int32.ofInt n = v)  (k : fv_X E y d Φ (pc + 3) (some (.int v) :: t) (st) M) : fv_X E y d Φ (pc) (some (.int x) :: t) (st) M := xg_iinc (i := 0) hdg rfl hv (fun _ h _ => absurd h (Nat.lt_irrefl 0)) k
theorem x_lstore_n0 {v0 z : Option Value} {t : List (Option Value)} {x : Int64} (hdg : decode y.2.1 pc = .ok (.lstore_n 0, 1))  (k : fv_X E y d Φ (pc + 1) (some (.long x) :: none :: t) (st) M) : fv_X E y d Φ (pc) (v0 :: z :: t) (.long x :: st) M := xg_lstore_n (i := 0) hdg rfl (by simp only [List.length_cons]; omega) (fun _ h _ => absurd h (Nat.lt_irrefl 0)) k
theorem x_istore_n1 {v0 v1 : Option Value} {t : List (Option Value)} {x : Int32} (hdg : decode y.2.1 pc = .ok (.istore_n 1, 1)) (hc : fv_c1 v0 = true) (k : fv_X E y d Φ (pc + 1) (v0 :: some (.int x) :: t) (st) M) : fv_X E y d Φ (pc) (v0 :: v1 :: t) (.int x :: st) M := xg_istore_n (i := 1) hdg rfl (by simp only [List.length_cons]; omega) (fun o _ h => by cases h; exact hc) k
theorem x_astore_n1 {v0 v1 : Option Value} {t : List (Option Value)} {x : Nat} (hdg : decode y.2.1 pc = .ok (.astore_n 1, 1)) (hc : fv_c1 v0 = true) (k : fv_X E y d Φ (pc + 1) (v0 :: some (.ref x) :: t) (st) M) : fv_X E y d Φ (pc) (v0 :: v1 :: t) (.ref x :: st) M := xg_astore_n (i := 1) hdg rfl (by simp only [List.length_cons]; omega) (fun o _ h => by cases h; exact hc) k
theorem x_iinc1 {v0 : Option Value} {t : List (Option Value)} {x v : Int32} {n : Int} (hdg : decode y.2.1 pc = .ok (.iinc 1 n, 3)) (hv : x + Int32.ofInt n = v) (hc : fv_c1 v0 = true) (k : fv_X E y d Φ (pc + 3) (v0 :: some (.int v) :: t) (st) M) : fv_X E y d Φ (pc) (v0 :: some (.int x) :: t) (st) M := xg_iinc (i := 1) hdg rfl hv (fun o _ h => by cases h; exact hc) k
theorem x_lstore_n1 {v0 v1 z : Option Value} {t : List (Option Value)} {x : Int64} (hdg : decode y.2.1 pc = .ok (.lstore_n 1, 1)) (hc : fv_c1 v0 = true) (k : fv_X E y d Φ (pc + 1) (v0 :: some (.long x) :: none :: t) (st) M) : fv_X E y d Φ (pc) (v0 :: v1 :: z :: t) (.long x :: st) M := xg_lstore_n (i := 1) hdg rfl (by simp only [List.length_cons]; omega) (fun o _ h => by cases h; exact hc) k
theorem x_istore_n2 {v0 v1 v2 : Option Value} {t : List (Option Value)} {x : Int32} (hdg : decode y.2.1 pc = .ok (.istore_n 2, 1)) (hc : fv_c1 v1 = true) (k : fv_X E y d Φ (pc + 1) (v0 :: v1 :: some (.int x) :: t) (st) M) : fv_X E y d Φ (pc) (v0 :: v1 :: v2 :: t) (.int x :: st) M := xg_istore_n (i := 2) hdg rfl (by simp only [List.length_cons]; omega) (fun o _ h => by cases h; exact hc) k
theorem x_astore_n2 {v0 v1 v2 : Option Value} {t : List (Option Value)} {x : Nat} (hdg : decode y.2.1 pc = .ok (.astore_n 2, 1)) (hc : fv_c1 v1 = true) (k : fv_X E y d Φ (pc + 1) (v0 :: v1 :: some (.ref x) :: t) (st) M) : fv_X E y d Φ (pc) (v0 :: v1 :: v2 :: t) (.ref x :: st) M := xg_astore_n (i := 2) hdg rfl (by simp only [List.length_cons]; omega) (fun o _ h => by cases h; exact hc) k
theorem x_iinc2 {v0 v1 : Option Value} {t : List (Option Value)} {x v : Int32} {n : Int} (hdg : decode y.2.1 pc = .ok (.iinc 2 n, 3)) (hv : x + Int32.ofInt n = v) (hc : fv_c1 v1 = true) (k : fv_X E y d Φ (pc + 3) (v0 :: v1 :: some (.int v) :: t) (st) M) : fv_X E y d Φ (pc) (v0 :: v1 :: some (.int x) :: t) (st) M := xg_iinc (i := 2) hdg rfl hv (fun o _ h => by cases h; exact hc) k
theorem x_lstore_n2 {v0 v1 v2 z : Option Value} {t : List (Option Value)} {x : Int64} (hdg : decode y.2.1 pc = .ok (.lstore_n 2, 1)) (hc : fv_c1 v1 = true) (k : fv_X E y d Φ (pc + 1) (v0 :: v1 :: some (.long x) :: none :: t) (st) M) : fv_X E y d Φ (pc) (v0 :: v1 :: v2 :: z :: t) (.long x :: st) M := xg_lstore_n (i := 2) hdg rfl (by simp only [List.length_cons]; omega) (fun o _ h => by cases h; exact hc) k
theorem x_istore_n3 {v0 v1 v2 v3 : Option Value} {t : List (Option Value)} {x : Int32} (hdg : decode y.2.1 pc = .ok (.istore_n 3, 1)) (hc : fv_c1 v2 = true) (k : fv_X E y d Φ (pc + 1) (v0 :: v1 :: v2 :: some (.int x) :: t) (st) M) : fv_X E y d Φ (pc) (v0 :: v1 :: v2 :: v3 :: t) (.int x :: st) M := xg_istore_n (i := 3) hdg rfl (by simp only [List.length_cons]; omega) (fun o _ h => by cases h; exact hc) k
theorem x_astore_n3 {v0 v1 v2 v3 : Option Value} {t : List (Option Value)} {x : Nat} (hdg : decode y.2.1 pc = .ok (.astore_n 3, 1)) (hc : fv_c1 v2 = true) (k : fv_X E y d Φ (pc + 1) (v0 :: v1 :: v2 :: some (.ref x) :: t) (st) M) : fv_X E y d Φ (pc) (v0 :: v1 :: v2 :: v3 :: t) (.ref x :: st) M := xg_astore_n (i := 3) hdg rfl (by simp only [List.length_cons]; omega) (fun o _ h => by cases h; exact hc) k
theorem x_iinc3 {v0 v1 v2 : Option Value} {t : List (Option Value)} {x v : Int32} {n : Int} (hdg : decode y.2.1 pc = .ok (.iinc 3 n, 3)) (hv : x + Int32.ofInt n = v) (hc : fv_c1 v2 = true) (k : fv_X E y d Φ (pc + 3) (v0 :: v1 :: v2 :: some (.int v) :: t) (st) M) : fv_X E y d Φ (pc) (v0 :: v1 :: v2 :: some (.int x) :: t) (st) M := xg_iinc (i := 3) hdg rfl hv (fun o _ h => by cases h; exact hc) k
theorem x_lstore_n3 {v0 v1 v2 v3 z : Option Value} {t : List (Option Value)} {x : Int64} (hdg : decode y.2.1 pc = .ok (.lstore_n 3, 1)) (hc : fv_c1 v2 = true) (k : fv_X E y d Φ (pc + 1) (v0 :: v1 :: v2 :: some (.long x) :: none :: t) (st) M) : fv_X E y d Φ (pc) (v0 :: v1 :: v2 :: v3 :: z :: t) (.long x :: st) M := xg_lstore_n (i := 3) hdg rfl (by simp only [List.length_cons]; omega) (fun o _ h => by cases h; exact hc) k
theorem x_istore4 {v0 v1 v2 v3 v4 : Option Value} {t : List (Option Value)} {x : Int32} (hdg : decode y.2.1 pc = .ok (.istore 4, 2)) (hc : fv_c1 v3 = true) (k : fv_X E y d Φ (pc + 2) (v0 :: v1 :: v2 :: v3 :: some (.int x) :: t) (st) M) : fv_X E y d Φ (pc) (v0 :: v1 :: v2 :: v3 :: v4 :: t) (.int x :: st) M := xg_istore (i := 4) hdg (by simp only [List.length_cons]; omega) (fun o _ h => by cases h; exact hc) k
theorem x_astore4 {v0 v1 v2 v3 v4 : Option Value} {t : List (Option Value)} {x : Nat} (hdg : decode y.2.1 pc = .ok (.astore 4, 2)) (hc : fv_c1 v3 = true) (k : fv_X E y d Φ (pc + 2) (v0 :: v1 :: v2 :: v3 :: some (.ref x) :: t) (st) M) : fv_X E y d Φ (pc) (v0 :: v1 :: v2 :: v3 :: v4 :: t) (.ref x :: st) M := xg_astore (i := 4) hdg (by simp only [List.length_cons]; omega) (fun o _ h => by cases h; exact hc) k
theorem x_iinc4 {v0 v1 v2 v3 : Option Value} {t : List (Option Value)} {x v : Int32} {n : Int} (hdg : decode y.2.1 pc = .ok (.iinc 4 n, 3)) (hv : x + Int32.ofInt n = v) (hc : fv_c1 v3 = true) (k : fv_X E y d Φ (pc + 3) (v0 :: v1 :: v2 :: v3 :: some (.int v) :: t) (st) M) : fv_X E y d Φ (pc) (v0 :: v1 :: v2 :: v3 :: some (.int x) :: t) (st) M := xg_iinc (i := 4) hdg rfl hv (fun o _ h => by cases h; exact hc) k
theorem x_lstore4 {v0 v1 v2 v3 v4 z : Option Value} {t : List (Option Value)} {x : Int64} (hdg : decode y.2.1 pc = .ok (.lstore 4, 2)) (hc : fv_c1 v3 = true) (k : fv_X E y d Φ (pc + 2) (v0 :: v1 :: v2 :: v3 :: some (.long x) :: none :: t) (st) M) : fv_X E y d Φ (pc) (v0 :: v1 :: v2 :: v3 :: v4 :: z :: t) (.long x :: st) M := xg_lstore (i := 4) hdg (by simp only [List.length_cons]; omega) (fun o _ h => by cases h; exact hc) k
theorem x_istore5 {v0 v1 v2 v3 v4 v5 : Option Value} {t : List (Option Value)} {x : Int32} (hdg : decode y.2.1 pc = .ok (.istore 5, 2)) (hc : fv_c1 v4 = true) (k : fv_X E y d Φ (pc + 2) (v0 :: v1 :: v2 :: v3 :: v4 :: some (.int x) :: t) (st) M) : fv_X E y d Φ (pc) (v0 :: v1 :: v2 :: v3 :: v4 :: v5 :: t) (.int x :: st) M := xg_istore (i := 5) hdg (by simp only [List.length_cons]; omega) (fun o _ h => by cases h; exact hc) k
theorem x_astore5 {v0 v1 v2 v3 v4 v5 : Option Value} {t : List (Option Value)} {x : Nat} (hdg : decode y.2.1 pc = .ok (.astore 5, 2)) (hc : fv_c1 v4 = true) (k : fv_X E y d Φ (pc + 2) (v0 :: v1 :: v2 :: v3 :: v4 :: some (.ref x) :: t) (st) M) : fv_X E y d Φ (pc) (v0 :: v1 :: v2 :: v3 :: v4 :: v5 :: t) (.ref x :: st) M := xg_astore (i := 5) hdg (by simp only [List.length_cons]; omega) (fun o _ h => by cases h; exact hc) k
theorem x_iinc5 {v0 v1 v2 v3 v4 : Option Value} {t : List (Option Value)} {x v : Int32} {n : Int} (hdg : decode y.2.1 pc = .ok (.iinc 5 n, 3)) (hv : x + Int32.ofInt n = v) (hc : fv_c1 v4 = true) (k : fv_X E y d Φ (pc + 3) (v0 :: v1 :: v2 :: v3 :: v4 :: some (.int v) :: t) (st) M) : fv_X E y d Φ (pc) (v0 :: v1 :: v2 :: v3 :: v4 :: some (.int x) :: t) (st) M := xg_iinc (i := 5) hdg rfl hv (fun o _ h => by cases h; exact hc) k
theorem x_lstore5 {v0 v1 v2 v3 v4 v5 z : Option Value} {t : List (Option Value)} {x : Int64} (hdg : decode y.2.1 pc = .ok (.lstore 5, 2)) (hc : fv_c1 v4 = true) (k : fv_X E y d Φ (pc + 2) (v0 :: v1 :: v2 :: v3 :: v4 :: some (.long x) :: none :: t) (st) M) : fv_X E y d Φ (pc) (v0 :: v1 :: v2 :: v3 :: v4 :: v5 :: z :: t) (.long x :: st) M := xg_lstore (i := 5) hdg (by simp only [List.length_cons]; omega) (fun o _ h => by cases h; exact hc) k
theorem x_istore6 {v0 v1 v2 v3 v4 v5 v6 : Option Value} {t : List (Option Value)} {x : Int32} (hdg : decode y.2.1 pc = .ok (.istore 6, 2)) (hc : fv_c1 v5 = true) (k : fv_X E y d Φ (pc + 2) (v0 :: v1 :: v2 :: v3 :: v4 :: v5 :: some (.int x) :: t) (st) M) : fv_X E y d Φ (pc) (v0 :: v1 :: v2 :: v3 :: v4 :: v5 :: v6 :: t) (.int x :: st) M := xg_istore (i := 6) hdg (by simp only [List.length_cons]; omega) (fun o _ h => by cases h; exact hc) k
theorem x_astore6 {v0 v1 v2 v3 v4 v5 v6 : Option Value} {t : List (Option Value)} {x : Nat} (hdg : decode y.2.1 pc = .ok (.astore 6, 2)) (hc : fv_c1 v5 = true) (k : fv_X E y d Φ (pc + 2) (v0 :: v1 :: v2 :: v3 :: v4 :: v5 :: some (.ref x) :: t) (st) M) : fv_X E y d Φ (pc) (v0 :: v1 :: v2 :: v3 :: v4 :: v5 :: v6 :: t) (.ref x :: st) M := xg_astore (i := 6) hdg (by simp only [List.length_cons]; omega) (fun o _ h => by cases h; exact hc) k
theorem x_iinc6 {v0 v1 v2 v3 v4 v5 : Option Value} {t : List (Option Value)} {x v : Int32} {n : Int} (hdg : decode y.2.1 pc = .ok (.iinc 6 n, 3)) (hv : x + Int32.ofInt n = v) (hc : fv_c1 v5 = true) (k : fv_X E y d Φ (pc + 3) (v0 :: v1 :: v2 :: v3 :: v4 :: v5 :: some (.int v) :: t) (st) M) : fv_X E y d Φ (pc) (v0 :: v1 :: v2 :: v3 :: v4 :: v5 :: some (.int x) :: t) (st) M := xg_iinc (i := 6) hdg rfl hv (fun o _ h => by cases h; exact hc) k
theorem x_lstore6 {v0 v1 v2 v3 v4 v5 v6 z : Option Value} {t : List (Option Value)} {x : Int64} (hdg : decode y.2.1 pc = .ok (.lstore 6, 2)) (hc : fv_c1 v5 = true) (k : fv_X E y d Φ (pc + 2) (v0 :: v1 :: v2 :: v3 :: v4 :: v5 :: some (.long x) :: none :: t) (st) M) : fv_X E y d Φ (pc) (v0 :: v1 :: v2 :: v3 :: v4 :: v5 :: v6 :: z :: t) (.long x :: st) M := xg_lstore (i := 6) hdg (by simp only [List.length_cons]; omega) (fun o _ h => by cases h; exact hc) k
theorem x_istore7 {v0 v1 v2 v3 v4 v5 v6 v7 : Option Value} {t : List (Option Value)} {x : Int32} (hdg : decode y.2.1 pc = .ok (.istore 7, 2)) (hc : fv_c1 v6 = true) (k : fv_X E y d Φ (pc + 2) (v0 :: v1 :: v2 :: v3 :: v4 :: v5 :: v6 :: some (.int x) :: t) (st) M) : fv_X E y d Φ (pc) (v0 :: v1 :: v2 :: v3 :: v4 :: v5 :: v6 :: v7 :: t) (.int x :: st) M := xg_istore (i := 7) hdg (by simp only [List.length_cons]; omega) (fun o _ h => by cases h; exact hc) k
theorem x_astore7 {v0 v1 v2 v3 v4 v5 v6 v7 : Option Value} {t : List (Option Value)} {x : Nat} (hdg : decode y.2.1 pc = .ok (.astore 7, 2)) (hc : fv_c1 v6 = true) (k : fv_X E y d Φ (pc + 2) (v0 :: v1 :: v2 :: v3 :: v4 :: v5 :: v6 :: some (.ref x) :: t) (st) M) : fv_X E y d Φ (pc) (v0 :: v1 :: v2 :: v3 :: v4 :: v5 :: v6 :: v7 :: t) (.ref x :: st) M := xg_astore (i := 7) hdg (by simp only [List.length_cons]; omega) (fun o _ h => by cases h; exact hc) k
theorem x_iinc7 {v0 v1 v2 v3 v4 v5 v6 : Option Value} {t : List (Option Value)} {x v : Int32} {n : Int} (hdg : decode y.2.1 pc = .ok (.iinc 7 n, 3)) (hv : x + Int32.ofInt n = v) (hc : fv_c1 v6 = true) (k : fv_X E y d Φ (pc + 3) (v0 :: v1 :: v2 :: v3 :: v4 :: v5 :: v6 :: some (.int v) :: t) (st) M) : fv_X E y d Φ (pc) (v0 :: v1 :: v2 :: v3 :: v4 :: v5 :: v6 :: some (.int x) :: t) (st) M := xg_iinc (i := 7) hdg rfl hv (fun o _ h => by cases h; exact hc) k
theorem x_lstore7 {v0 v1 v2 v3 v4 v5 v6 v7 z : Option Value} {t : List (Option Value)} {x : Int64} (hdg : decode y.2.1 pc = .ok (.lstore 7, 2)) (hc : fv_c1 v6 = true) (k : fv_X E y d Φ (pc + 2) (v0 :: v1 :: v2 :: v3 :: v4 :: v5 :: v6 :: some (.long x) :: none :: t) (st) M) : fv_X E y d Φ (pc) (v0 :: v1 :: v2 :: v3 :: v4 :: v5 :: v6 :: v7 :: z :: t) (.long x :: st) M := xg_lstore (i := 7) hdg (by simp only [List.length_cons]; omega) (fun o _ h => by cases h; exact hc) k
theorem x_istore8 {v0 v1 v2 v3 v4 v5 v6 v7 v8 : Option Value} {t : List (Option Value)} {x : Int32} (hdg : decode y.2.1 pc = .ok (.istore 8, 2)) (hc : fv_c1 v7 = true) (k : fv_X E y d Φ (pc + 2) (v0 :: v1 :: v2 :: v3 :: v4 :: v5 :: v6 :: v7 :: some (.int x) :: t) (st) M) : fv_X E y d Φ (pc) (v0 :: v1 :: v2 :: v3 :: v4 :: v5 :: v6 :: v7 :: v8 :: t) (.int x :: st) M := xg_istore (i := 8) hdg (by simp only [List.length_cons]; omega) (fun o _ h => by cases h; exact hc) k
theorem x_astore8 {v0 v1 v2 v3 v4 v5 v6 v7 v8 : Option Value} {t : List (Option Value)} {x : Nat} (hdg : decode y.2.1 pc = .ok (.astore 8, 2)) (hc : fv_c1 v7 = true) (k : fv_X E y d Φ (pc + 2) (v0 :: v1 :: v2 :: v3 :: v4 :: v5 :: v6 :: v7 :: some (.ref x) :: t) (st) M) : fv_X E y d Φ (pc) (v0 :: v1 :: v2 :: v3 :: v4 :: v5 :: v6 :: v7 :: v8 :: t) (.ref x :: st) M := xg_astore (i := 8) hdg (by simp only [List.length_cons]; omega) (fun o _ h => by cases h; exact hc) k
theorem x_iinc8 {v0 v1 v2 v3 v4 v5 v6 v7 : Option Value} {t : List (Option Value)} {x v : Int32} {n : Int} (hdg : decode y.2.1 pc = .ok (.iinc 8 n, 3)) (hv : x + Int32.ofInt n = v) (hc : fv_c1 v7 = true) (k : fv_X E y d Φ (pc + 3) (v0 :: v1 :: v2 :: v3 :: v4 :: v5 :: v6 :: v7 :: some (.int v) :: t) (st) M) : fv_X E y d Φ (pc) (v0 :: v1 :: v2 :: v3 :: v4 :: v5 :: v6 :: v7 :: some (.int x) :: t) (st) M := xg_iinc (i := 8) hdg rfl hv (fun o _ h => by cases h; exact hc) k
theorem x_lstore8 {v0 v1 v2 v3 v4 v5 v6 v7 v8 z : Option Value} {t : List (Option Value)} {x : Int64} (hdg : decode y.2.1 pc = .ok (.lstore 8, 2)) (hc : fv_c1 v7 = true) (k : fv_X E y d Φ (pc + 2) (v0 :: v1 :: v2 :: v3 :: v4 :: v5 :: v6 :: v7 :: some (.long x) :: none :: t) (st) M) : fv_X E y d Φ (pc) (v0 :: v1 :: v2 :: v3 :: v4 :: v5 :: v6 :: v7 :: v8 :: z :: t) (.long x :: st) M := xg_lstore (i := 8) hdg (by simp only [List.length_cons]; omega) (fun o _ h => by cases h; exact hc) k
theorem x_istore9 {v0 v1 v2 v3 v4 v5 v6 v7 v8 v9 : Option Value} {t : List (Option Value)} {x : Int32} (hdg : decode y.2.1 pc = .ok (.istore 9, 2)) (hc : fv_c1 v8 = true) (k : fv_X E y d Φ (pc + 2) (v0 :: v1 :: v2 :: v3 :: v4 :: v5 :: v6 :: v7 :: v8 :: some (.int x) :: t) (st) M) : fv_X E y d Φ (pc) (v0 :: v1 :: v2 :: v3 :: v4 :: v5 :: v6 :: v7 :: v8 :: v9 :: t) (.int x :: st) M := xg_istore (i := 9) hdg (by simp only [List.length_cons]; omega) (fun o _ h => by cases h; exact hc) k
theorem x_astore9 {v0 v1 v2 v3 v4 v5 v6 v7 v8 v9 : Option Value} {t : List (Option Value)} {x : Nat} (hdg : decode y.2.1 pc = .ok (.astore 9, 2)) (hc : fv_c1 v8 = true) (k : fv_X E y d Φ (pc + 2) (v0 :: v1 :: v2 :: v3 :: v4 :: v5 :: v6 :: v7 :: v8 :: some (.ref x) :: t) (st) M) : fv_X E y d Φ (pc) (v0 :: v1 :: v2 :: v3 :: v4 :: v5 :: v6 :: v7 :: v8 :: v9 :: t) (.ref x :: st) M := xg_astore (i := 9) hdg (by simp only [List.length_cons]; omega) (fun o _ h => by cases h; exact hc) k
theorem x_iinc9 {v0 v1 v2 v3 v4 v5 v6 v7 v8 : Option Value} {t : List (Option Value)} {x v : Int32} {n : Int} (hdg : decode y.2.1 pc = .ok (.iinc 9 n, 3)) (hv : x + Int32.ofInt n = v) (hc : fv_c1 v8 = true) (k : fv_X E y d Φ (pc + 3) (v0 :: v1 :: v2 :: v3 :: v4 :: v5 :: v6 :: v7 :: v8 :: some (.int v) :: t) (st) M) : fv_X E y d Φ (pc) (v0 :: v1 :: v2 :: v3 :: v4 :: v5 :: v6 :: v7 :: v8 :: some (.int x) :: t) (st) M := xg_iinc (i := 9) hdg rfl hv (fun o _ h => by cases h; exact hc) k
theorem x_lstore9 {v0 v1 v2 v3 v4 v5 v6 v7 v8 v9 z : Option Value} {t : List (Option Value)} {x : Int64} (hdg : decode y.2.1 pc = .ok (.lstore 9, 2)) (hc : fv_c1 v8 = true) (k : fv_X E y d Φ (pc + 2) (v0 :: v1 :: v2 :: v3 :: v4 :: v5 :: v6 :: v7 :: v8 :: some (.long x) :: none :: t) (st) M) : fv_X E y d Φ (pc) (v0 :: v1 :: v2 :: v3 :: v4 :: v5 :: v6 :: v7 :: v8 :: v9 :: z :: t) (.long x :: st) M := xg_lstore (i := 9) hdg (by simp only [List.length_cons]; omega) (fun o _ h => by cases h; exact hc) k
theorem x_istore10 {v0 v1 v2 v3 v4 v5 v6 v7 v8 v9 v10 : Option Value} {t : List (Option Value)} {x : Int32} (hdg : decode y.2.1 pc = .ok (.istore 10, 2)) (hc : fv_c1 v9 = true) (k : fv_X E y d Φ (pc + 2) (v0 :: v1 :: v2 :: v3 :: v4 :: v5 :: v6 :: v7 :: v8 :: v9 :: some (.int x) :: t) (st) M) : fv_X E y d Φ (pc) (v0 :: v1 :: v2 :: v3 :: v4 :: v5 :: v6 :: v7 :: v8 :: v9 :: v10 :: t) (.int x :: st) M := xg_istore (i := 10) hdg (by simp only [List.length_cons]; omega) (fun o _ h => by cases h; exact hc) k
theorem x_astore10 {v0 v1 v2 v3 v4 v5 v6 v7 v8 v9 v10 : Option Value} {t : List (Option Value)} {x : Nat} (hdg : decode y.2.1 pc = .ok (.astore 10, 2)) (hc : fv_c1 v9 = true) (k : fv_X E y d Φ (pc + 2) (v0 :: v1 :: v2 :: v3 :: v4 :: v5 :: v6 :: v7 :: v8 :: v9 :: some (.ref x) :: t) (st) M) : fv_X E y d Φ (pc) (v0 :: v1 :: v2 :: v3 :: v4 :: v5 :: v6 :: v7 :: v8 :: v9 :: v10 :: t) (.ref x :: st) M := xg_astore (i := 10) hdg (by simp only [List.length_cons]; omega) (fun o _ h => by cases h; exact hc) k
theorem x_iinc10 {v0 v1 v2 v3 v4 v5 v6 v7 v8 v9 : Option Value} {t : List (Option Value)} {x v : Int32} {n : Int} (hdg : decode y.2.1 pc = .ok (.iinc 10 n, 3)) (hv : x + Int32.ofInt n = v) (hc : fv_c1 v9 = true) (k : fv_X E y d Φ (pc + 3) (v0 :: v1 :: v2 :: v3 :: v4 :: v5 :: v6 :: v7 :: v8 :: v9 :: some (.int v) :: t) (st) M) : fv_X E y d Φ (pc) (v0 :: v1 :: v2 :: v3 :: v4 :: v5 :: v6 :: v7 :: v8 :: v9 :: some (.int x) :: t) (st) M := xg_iinc (i := 10) hdg rfl hv (fun o _ h => by cases h; exact hc) k
theorem x_lstore10 {v0 v1 v2 v3 v4 v5 v6 v7 v8 v9 v10 z : Option Value} {t : List (Option Value)} {x : Int64} (hdg : decode y.2.1 pc = .ok (.lstore 10, 2)) (hc : fv_c1 v9 = true) (k : fv_X E y d Φ (pc + 2) (v0 :: v1 :: v2 :: v3 :: v4 :: v5 :: v6 :: v7 :: v8 :: v9 :: some (.long x) :: none :: t) (st) M) : fv_X E y d Φ (pc) (v0 :: v1 :: v2 :: v3 :: v4 :: v5 :: v6 :: v7 :: v8 :: v9 :: v10 :: z :: t) (.long x :: st) M := xg_lstore (i := 10) hdg (by simp only [List.length_cons]; omega) (fun o _ h => by cases h; exact hc) k
theorem x_istore11 {v0 v1 v2 v3 v4 v5 v6 v7 v8 v9 v10 v11 : Option Value} {t : List (Option Value)} {x : Int32} (hdg : decode y.2.1 pc = .ok (.istore 11, 2)) (hc : fv_c1 v10 = true) (k : fv_X E y d Φ (pc + 2) (v0 :: v1 :: v2 :: v3 :: v4 :: v5 :: v6 :: v7 :: v8 :: v9 :: v10 :: some (.int x) :: t) (st) M) : fv_X E y d Φ (pc) (v0 :: v1 :: v2 :: v3 :: v4 :: v5 :: v6 :: v7 :: v8 :: v9 :: v10 :: v11 :: t) (.int x :: st) M := xg_istore (i := 11) hdg (by simp only [List.length_cons]; omega) (fun o _ h => by cases h; exact hc) k
theorem x_astore11 {v0 v1 v2 v3 v4 v5 v6 v7 v8 v9 v10 v11 : Option Value} {t : List (Option Value)} {x : Nat} (hdg : decode y.2.1 pc = .ok (.astore 11, 2)) (hc : fv_c1 v10 = true) (k : fv_X E y d Φ (pc + 2) (v0 :: v1 :: v2 :: v3 :: v4 :: v5 :: v6 :: v7 :: v8 :: v9 :: v10 :: some (.ref x) :: t) (st) M) : fv_X E y d Φ (pc) (v0 :: v1 :: v2 :: v3 :: v4 :: v5 :: v6 :: v7 :: v8 :: v9 :: v10 :: v11 :: t) (.ref x :: st) M := xg_astore (i := 11) hdg (by simp only [List.length_cons]; omega) (fun o _ h => by cases h; exact hc) k
theorem x_iinc11 {v0 v1 v2 v3 v4 v5 v6 v7 v8 v9 v10 : Option Value} {t : List (Option Value)} {x v : Int32} {n : Int} (hdg : decode y.2.1 pc = .ok (.iinc 11 n, 3)) (hv : x + Int32.ofInt n = v) (hc : fv_c1 v10 = true) (k : fv_X E y d Φ (pc + 3) (v0 :: v1 :: v2 :: v3 :: v4 :: v5 :: v6 :: v7 :: v8 :: v9 :: v10 :: some (.int v) :: t) (st) M) : fv_X E y d Φ (pc) (v0 :: v1 :: v2 :: v3 :: v4 :: v5 :: v6 :: v7 :: v8 :: v9 :: v10 :: some (.int x) :: t) (st) M := xg_iinc (i := 11) hdg rfl hv (fun o _ h => by cases h; exact hc) k
theorem x_lstore11 {v0 v1 v2 v3 v4 v5 v6 v7 v8 v9 v10 v11 z : Option Value} {t : List (Option Value)} {x : Int64} (hdg : decode y.2.1 pc = .ok (.lstore 11, 2)) (hc : fv_c1 v10 = true) (k : fv_X E y d Φ (pc + 2) (v0 :: v1 :: v2 :: v3 :: v4 :: v5 :: v6 :: v7 :: v8 :: v9 :: v10 :: some (.long x) :: none :: t) (st) M) : fv_X E y d Φ (pc) (v0 :: v1 :: v2 :: v3 :: v4 :: v5 :: v6 :: v7 :: v8 :: v9 :: v10 :: v11 :: z :: t) (.long x :: st) M := xg_lstore (i := 11) hdg (by simp only [List.length_cons]; omega) (fun o _ h => by cases h; exact hc) k
theorem x_istore12 {v0 v1 v2 v3 v4 v5 v6 v7 v8 v9 v10 v11 v12 : Option Value} {t : List (Option Value)} {x : Int32} (hdg : decode y.2.1 pc = .ok (.istore 12, 2)) (hc : fv_c1 v11 = true) (k : fv_X E y d Φ (pc + 2) (v0 :: v1 :: v2 :: v3 :: v4 :: v5 :: v6 :: v7 :: v8 :: v9 :: v10 :: v11 :: some (.int x) :: t) (st) M) : fv_X E y d Φ (pc) (v0 :: v1 :: v2 :: v3 :: v4 :: v5 :: v6 :: v7 :: v8 :: v9 :: v10 :: v11 :: v12 :: t) (.int x :: st) M := xg_istore (i := 12) hdg (by simp only [List.length_cons]; omega) (fun o _ h => by cases h; exact hc) k
theorem x_astore12 {v0 v1 v2 v3 v4 v5 v6 v7 v8 v9 v10 v11 v12 : Option Value} {t : List (Option Value)} {x : Nat} (hdg : decode y.2.1 pc = .ok (.astore 12, 2)) (hc : fv_c1 v11 = true) (k : fv_X E y d Φ (pc + 2) (v0 :: v1 :: v2 :: v3 :: v4 :: v5 :: v6 :: v7 :: v8 :: v9 :: v10 :: v11 :: some (.ref x) :: t) (st) M) : fv_X E y d Φ (pc) (v0 :: v1 :: v2 :: v3 :: v4 :: v5 :: v6 :: v7 :: v8 :: v9 :: v10 :: v11 :: v12 :: t) (.ref x :: st) M := xg_astore (i := 12) hdg (by simp only [List.length_cons]; omega) (fun o _ h => by cases h; exact hc) k
theorem x_iinc12 {v0 v1 v2 v3 v4 v5 v6 v7 v8 v9 v10 v11 : Option Value} {t : List (Option Value)} {x v : Int32} {n : Int} (hdg : decode y.2.1 pc = .ok (.iinc 12 n, 3)) (hv : x + Int32.ofInt n = v) (hc : fv_c1 v11 = true) (k : fv_X E y d Φ (pc + 3) (v0 :: v1 :: v2 :: v3 :: v4 :: v5 :: v6 :: v7 :: v8 :: v9 :: v10 :: v11 :: some (.int v) :: t) (st) M) : fv_X E y d Φ (pc) (v0 :: v1 :: v2 :: v3 :: v4 :: v5 :: v6 :: v7 :: v8 :: v9 :: v10 :: v11 :: some (.int x) :: t) (st) M := xg_iinc (i := 12) hdg rfl hv (fun o _ h => by cases h; exact hc) k
theorem x_lstore12 {v0 v1 v2 v3 v4 v5 v6 v7 v8 v9 v10 v11 v12 z : Option Value} {t : List (Option Value)} {x : Int64} (hdg : decode y.2.1 pc = .ok (.lstore 12, 2)) (hc : fv_c1 v11 = true) (k : fv_X E y d Φ (pc + 2) (v0 :: v1 :: v2 :: v3 :: v4 :: v5 :: v6 :: v7 :: v8 :: v9 :: v10 :: v11 :: some (.long x) :: none :: t) (st) M) : fv_X E y d Φ (pc) (v0 :: v1 :: v2 :: v3 :: v4 :: v5 :: v6 :: v7 :: v8 :: v9 :: v10 :: v11 :: v12 :: z :: t) (.long x :: st) M := xg_lstore (i := 12) hdg (by simp only [List.length_cons]; omega) (fun o _ h => by cases h; exact hc) k
theorem x_iadd {a b : Int32} (hdg : decode y.2.1 pc = .ok (.iadd, 1))  (k : fv_X E y d Φ (pc + 1) (ls) (.int (a + b) :: st) M) : fv_X E y d Φ (pc) (ls) (.int b :: .int a :: st) M := by
  intro p l e s m args below meth c H locs lsA F hP hS hL
  exact lv_iadd F.1 F.2.1 hdg  (k p l e s m args below meth c H locs lsA F hP hS hL)
theorem x_isub {a b : Int32} (hdg : decode y.2.1 pc = .ok (.isub, 1))  (k : fv_X E y d Φ (pc + 1) (ls) (.int (a - b) :: st) M) : fv_X E y d Φ (pc) (ls) (.int b :: .int a :: st) M := by
  intro p l e s m args below meth c H locs lsA F hP hS hL
  exact lv_isub F.1 F.2.1 hdg  (k p l e s m args below meth c H locs lsA F hP hS hL)
theorem x_imul {a b : Int32} (hdg : decode y.2.1 pc = .ok (.imul, 1))  (k : fv_X E y d Φ (pc + 1) (ls) (.int (a * b) :: st) M) : fv_X E y d Φ (pc) (ls) (.int b :: .int a :: st) M := by
  intro p l e s m args below meth c H locs lsA F hP hS hL
  exact lv_imul F.1 F.2.1 hdg  (k p l e s m args below meth c H locs lsA F hP hS hL)
theorem x_iand {a b : Int32} (hdg : decode y.2.1 pc = .ok (.iand, 1))  (k : fv_X E y d Φ (pc + 1) (ls) (.int (a &&& b) :: st) M) : fv_X E y d Φ (pc) (ls) (.int b :: .int a :: st) M := by
  intro p l e s m args below meth c H locs lsA F hP hS hL
  exact lv_iand F.1 F.2.1 hdg  (k p l e s m args below meth c H locs lsA F hP hS hL)
theorem x_ior {a b : Int32} (hdg : decode y.2.1 pc = .ok (.ior, 1))  (k : fv_X E y d Φ (pc + 1) (ls) (.int (a ||| b) :: st) M) : fv_X E y d Φ (pc) (ls) (.int b :: .int a :: st) M := by
  intro p l e s m args below meth c H locs lsA F hP hS hL
  exact lv_ior F.1 F.2.1 hdg  (k p l e s m args below meth c H locs lsA F hP hS hL)
theorem x_ixor {a b : Int32} (hdg : decode y.2.1 pc = .ok (.ixor, 1))  (k : fv_X E y d Φ (pc + 1) (ls) (.int (a ^^^ b) :: st) M) : fv_X E y d Φ (pc) (ls) (.int b :: .int a :: st) M := by
  intro p l e s m args below meth c H locs lsA F hP hS hL
  exact lv_ixor F.1 F.2.1 hdg  (k p l e s m args below meth c H locs lsA F hP hS hL)
theorem x_ishl {a b : Int32} (hdg : decode y.2.1 pc = .ok (.ishl, 1))  (k : fv_X E y d Φ (pc + 1) (ls) (.int (a <<< (b &&& 31)) :: st) M) : fv_X E y d Φ (pc) (ls) (.int b :: .int a :: st) M := by
  intro p l e s m args below meth c H locs lsA F hP hS hL
  exact lv_ishl F.1 F.2.1 hdg  (k p l e s m args below meth c H locs lsA F hP hS hL)
theorem x_ishr {a b : Int32} (hdg : decode y.2.1 pc = .ok (.ishr, 1))  (k : fv_X E y d Φ (pc + 1) (ls) (.int (a >>> (b &&& 31)) :: st) M) : fv_X E y d Φ (pc) (ls) (.int b :: .int a :: st) M := by
  intro p l e s m args below meth c H locs lsA F hP hS hL
  exact lv_ishr F.1 F.2.1 hdg  (k p l e s m args below meth c H locs lsA F hP hS hL)
theorem x_iushr {a b : Int32} (hdg : decode y.2.1 pc = .ok (.iushr, 1))  (k : fv_X E y d Φ (pc + 1) (ls) (.int ((a.toUInt32 >>> (b.toUInt32 &&& Int32.toUInt32 31)).toInt32) :: st) M) : fv_X E y d Φ (pc) (ls) (.int b :: .int a :: st) M := by
  intro p l e s m args below meth c H locs lsA F hP hS hL
  exact lv_iushr F.1 F.2.1 hdg rfl (k p l e s m args below meth c H locs lsA F hP hS hL)
theorem x_idiv {a b : Int32} (hdg : decode y.2.1 pc = .ok (.idiv, 1)) (hne : ¬ b = 0) (k : fv_X E y d Φ (pc + 1) (ls) (.int (a / b) :: st) M) : fv_X E y d Φ (pc) (ls) (.int b :: .int a :: st) M := by
  intro p l e s m args below meth c H locs lsA F hP hS hL
  exact lv_idiv F.1 F.2.1 hdg hne (k p l e s m args below meth c H locs lsA F hP hS hL)
theorem x_irem {a b : Int32} (hdg : decode y.2.1 pc = .ok (.irem, 1)) (hne : ¬ b = 0) (k : fv_X E y d Φ (pc + 1) (ls) (.int (a - a / b * b) :: st) M) : fv_X E y d Φ (pc) (ls) (.int b :: .int a :: st) M := by
  intro p l e s m args below meth c H locs lsA F hP hS hL
  exact lv_irem F.1 F.2.1 hdg hne (k p l e s m args below meth c H locs lsA F hP hS hL)
theorem x_ladd {a b : Int64} (hdg : decode y.2.1 pc = .ok (.ladd, 1))  (k : fv_X E y d Φ (pc + 1) (ls) (.long (a + b) :: st) M) : fv_X E y d Φ (pc) (ls) (.long b :: .long a :: st) M := by
  intro p l e s m args below meth c H locs lsA F hP hS hL
  exact lv_ladd F.1 F.2.1 hdg  (k p l e s m args below meth c H locs lsA F hP hS hL)
theorem x_lsub {a b : Int64} (hdg : decode y.2.1 pc = .ok (.lsub, 1))  (k : fv_X E y d Φ (pc + 1) (ls) (.long (a - b) :: st) M) : fv_X E y d Φ (pc) (ls) (.long b :: .long a :: st) M := by
  intro p l e s m args below meth c H locs lsA F hP hS hL
  exact lv_lsub F.1 F.2.1 hdg  (k p l e s m args below meth c H locs lsA F hP hS hL)
theorem x_lmul {a b : Int64} (hdg : decode y.2.1 pc = .ok (.lmul, 1))  (k : fv_X E y d Φ (pc + 1) (ls) (.long (a * b) :: st) M) : fv_X E y d Φ (pc) (ls) (.long b :: .long a :: st) M := by
  intro p l e s m args below meth c H locs lsA F hP hS hL
  exact lv_lmul F.1 F.2.1 hdg  (k p l e s m args below meth c H locs lsA F hP hS hL)
theorem x_ldiv {a b : Int64} (hdg : decode y.2.1 pc = .ok (.ldiv, 1)) (hne : ¬ b = 0) (k : fv_X E y d Φ (pc + 1) (ls) (.long (a / b) :: st) M) : fv_X E y d Φ (pc) (ls) (.long b :: .long a :: st) M := by
  intro p l e s m args below meth c H locs lsA F hP hS hL
  exact lv_ldiv F.1 F.2.1 hdg hne (k p l e s m args below meth c H locs lsA F hP hS hL)
theorem x_lrem {a b : Int64} (hdg : decode y.2.1 pc = .ok (.lrem, 1)) (hne : ¬ b = 0) (k : fv_X E y d Φ (pc + 1) (ls) (.long (a - a / b * b) :: st) M) : fv_X E y d Φ (pc) (ls) (.long b :: .long a :: st) M := by
  intro p l e s m args below meth c H locs lsA F hP hS hL
  exact lv_lrem F.1 F.2.1 hdg hne (k p l e s m args below meth c H locs lsA F hP hS hL)
theorem x_lcmp {a b : Int64} (hdg : decode y.2.1 pc = .ok (.lcmp, 1))  (k : fv_X E y d Φ (pc + 1) (ls) (.int (lg_cmp a b) :: st) M) : fv_X E y d Φ (pc) (ls) (.long b :: .long a :: st) M := by
  intro p l e s m args below meth c H locs lsA F hP hS hL
  exact W.lcmp F.1 F.2.1 hdg  (k p l e s m args below meth c H locs lsA F hP hS hL)
theorem x_i2l {a : Int32} (hdg : decode y.2.1 pc = .ok (.i2l, 1))  (k : fv_X E y d Φ (pc + 1) (ls) (.long a.toInt64 :: st) M) : fv_X E y d Φ (pc) (ls) (.int a :: st) M := by
  intro p l e s m args below meth c H locs lsA F hP hS hL
  exact lv_i2l F.1 F.2.1 hdg rfl (k p l e s m args below meth c H locs lsA F hP hS hL)
theorem x_l2i {a : Int64} (hdg : decode y.2.1 pc = .ok (.l2i, 1))  (k : fv_X E y d Φ (pc + 1) (ls) (.int a.toInt32 :: st) M) : fv_X E y d Φ (pc) (ls) (.long a :: st) M := by
  intro p l e s m args below meth c H locs lsA F hP hS hL
  exact lv_l2i F.1 F.2.1 hdg rfl (k p l e s m args below meth c H locs lsA F hP hS hL)
theorem x_i2b {a : Int32} (hdg : decode y.2.1 pc = .ok (.i2b, 1))  (k : fv_X E y d Φ (pc + 1) (ls) (.int a.toInt8.toInt32 :: st) M) : fv_X E y d Φ (pc) (ls) (.int a :: st) M := by
  intro p l e s m args below meth c H locs lsA F hP hS hL
  exact lv_i2b F.1 F.2.1 hdg rfl (k p l e s m args below meth c H locs lsA F hP hS hL)
theorem x_i2s {a : Int32} (hdg : decode y.2.1 pc = .ok (.i2s, 1))  (k : fv_X E y d Φ (pc + 1) (ls) (.int a.toInt16.toInt32 :: st) M) : fv_X E y d Φ (pc) (ls) (.int a :: st) M := by
  intro p l e s m args below meth c H locs lsA F hP hS hL
  exact lv_i2s F.1 F.2.1 hdg rfl (k p l e s m args below meth c H locs lsA F hP hS hL)
theorem x_i2c {a : Int32} (hdg : decode y.2.1 pc = .ok (.i2c, 1))  (k : fv_X E y d Φ (pc + 1) (ls) (.int (a.toUInt32 % 65536).toInt32 :: st) M) : fv_X E y d Φ (pc) (ls) (.int a :: st) M := by
  intro p l e s m args below meth c H locs lsA F hP hS hL
  exact lv_i2c F.1 F.2.1 hdg rfl (k p l e s m args below meth c H locs lsA F hP hS hL)
theorem x_dupi {a : Int32} (hdg : decode y.2.1 pc = .ok (.dup, 1))  (k : fv_X E y d Φ (pc + 1) (ls) (.int a :: .int a :: st) M) : fv_X E y d Φ (pc) (ls) (.int a :: st) M := by
  intro p l e s m args below meth c H locs lsA F hP hS hL
  exact lv_dup F.1 F.2.1 hdg rfl (k p l e s m args below meth c H locs lsA F hP hS hL)
theorem x_dupa {a : Nat} (hdg : decode y.2.1 pc = .ok (.dup, 1))  (k : fv_X E y d Φ (pc + 1) (ls) (.ref a :: .ref a :: st) M) : fv_X E y d Φ (pc) (ls) (.ref a :: st) M := by
  intro p l e s m args below meth c H locs lsA F hP hS hL
  exact lv_dup F.1 F.2.1 hdg rfl (k p l e s m args below meth c H locs lsA F hP hS hL)
theorem x_popi {a : Int32} (hdg : decode y.2.1 pc = .ok (.pop, 1))  (k : fv_X E y d Φ (pc + 1) (ls) (st) M) : fv_X E y d Φ (pc) (ls) (.int a :: st) M := by
  intro p l e s m args below meth c H locs lsA F hP hS hL
  exact lv_pop F.1 F.2.1 hdg rfl (k p l e s m args below meth c H locs lsA F hP hS hL)
theorem x_dup2 {a : Int32} {b : Nat} (hdg : decode y.2.1 pc = .ok (.dup2, 1))  (k : fv_X E y d Φ (pc + 1) (ls) (.int a :: .ref b :: .int a :: .ref b :: st) M) : fv_X E y d Φ (pc) (ls) (.int a :: .ref b :: st) M := by
  intro p l e s m args below meth c H locs lsA F hP hS hL
  exact lv_dup2_11 F.1 F.2.1 hdg rfl rfl (k p l e s m args below meth c H locs lsA F hP hS hL)
theorem x_icmp_eq {a b : Int32} {off : Int} {tgt : Nat} (hdg : decode y.2.1 pc = .ok (.if_icmp .eq off, 3)) (ht : (pc : Int) + off = (tgt : Int)) (kt : a = b → fv_X E y d Φ (tgt) (ls) (st) M) (kf : ¬ (a = b) → fv_X E y d Φ (pc + 3) (ls) (st) M) : fv_X E y d Φ (pc) (ls) (.int b :: .int a :: st) M := by
  intro p l e s m args below meth c H locs lsA F hP hS hL
  exact lv_icmp_eq F.1 F.2.1 hdg ht (fun h => kt h p l e s m args below meth c H locs lsA F hP hS hL) (fun h => kf h p l e s m args below meth c H locs lsA F hP hS hL)
theorem x_if_eq {a : Int32} {off : Int} {tgt : Nat} (hdg : decode y.2.1 pc = .ok (.ifCond .eq off, 3)) (ht : (pc : Int) + off = (tgt : Int)) (kt : a = 0 → fv_X E y d Φ (tgt) (ls) (st) M) (kf : ¬ (a = 0) → fv_X E y d Φ (pc + 3) (ls) (st) M) : fv_X E y d Φ (pc) (ls) (.int a :: st) M := by
  intro p l e s m args below meth c H locs lsA F hP hS hL
  exact lv_if_eq F.1 F.2.1 hdg ht (fun h => kt h p l e s m args below meth c H locs lsA F hP hS hL) (fun h => kf h p l e s m args below meth c H locs lsA F hP hS hL)
theorem x_icmp_ne {a b : Int32} {off : Int} {tgt : Nat} (hdg : decode y.2.1 pc = .ok (.if_icmp .ne off, 3)) (ht : (pc : Int) + off = (tgt : Int)) (kt : a ≠ b → fv_X E y d Φ (tgt) (ls) (st) M) (kf : a = b → fv_X E y d Φ (pc + 3) (ls) (st) M) : fv_X E y d Φ (pc) (ls) (.int b :: .int a :: st) M := by
  intro p l e s m args below meth c H locs lsA F hP hS hL
  exact lv_icmp_ne F.1 F.2.1 hdg ht (fun h => kt h p l e s m args below meth c H locs lsA F hP hS hL) (fun h => kf h p l e s m args below meth c H locs lsA F hP hS hL)
theorem x_if_ne {a : Int32} {off : Int} {tgt : Nat} (hdg : decode y.2.1 pc = .ok (.ifCond .ne off, 3)) (ht : (pc : Int) + off = (tgt : Int)) (kt : a ≠ 0 → fv_X E y d Φ (tgt) (ls) (st) M) (kf : a = 0 → fv_X E y d Φ (pc + 3) (ls) (st) M) : fv_X E y d Φ (pc) (ls) (.int a :: st) M := by
  intro p l e s m args below meth c H locs lsA F hP hS hL
  exact lv_if_ne F.1 F.2.1 hdg ht (fun h => kt h p l e s m args below meth c H locs lsA F hP hS hL) (fun h => kf h p l e s m args below meth c H locs lsA F hP hS hL)
theorem x_icmp_lt {a b : Int32} {off : Int} {tgt : Nat} (hdg : decode y.2.1 pc = .ok (.if_icmp .lt off, 3)) (ht : (pc : Int) + off = (tgt : Int)) (kt : a < b → fv_X E y d Φ (tgt) (ls) (st) M) (kf : ¬ (a < b) → fv_X E y d Φ (pc + 3) (ls) (st) M) : fv_X E y d Φ (pc) (ls) (.int b :: .int a :: st) M := by
  intro p l e s m args below meth c H locs lsA F hP hS hL
  exact lv_icmp_lt F.1 F.2.1 hdg ht (fun h => kt h p l e s m args below meth c H locs lsA F hP hS hL) (fun h => kf h p l e s m args below meth c H locs lsA F hP hS hL)
theorem x_if_lt {a : Int32} {off : Int} {tgt : Nat} (hdg : decode y.2.1 pc = .ok (.ifCond .lt off, 3)) (ht : (pc : Int) + off = (tgt : Int)) (kt : a < 0 → fv_X E y d Φ (tgt) (ls) (st) M) (kf : ¬ (a < 0) → fv_X E y d Φ (pc + 3) (ls) (st) M) : fv_X E y d Φ (pc) (ls) (.int a :: st) M := by
  intro p l e s m args below meth c H locs lsA F hP hS hL
  exact lv_if_lt F.1 F.2.1 hdg ht (fun h => kt h p l e s m args below meth c H locs lsA F hP hS hL) (fun h => kf h p l e s m args below meth c H locs lsA F hP hS hL)
theorem x_icmp_ge {a b : Int32} {off : Int} {tgt : Nat} (hdg : decode y.2.1 pc = .ok (.if_icmp .ge off, 3)) (ht : (pc : Int) + off = (tgt : Int)) (kt : b ≤ a → fv_X E y d Φ (tgt) (ls) (st) M) (kf : ¬ (b ≤ a) → fv_X E y d Φ (pc + 3) (ls) (st) M) : fv_X E y d Φ (pc) (ls) (.int b :: .int a :: st) M := by
  intro p l e s m args below meth c H locs lsA F hP hS hL
  exact lv_icmp_ge F.1 F.2.1 hdg ht (fun h => kt h p l e s m args below meth c H locs lsA F hP hS hL) (fun h => kf h p l e s m args below meth c H locs lsA F hP hS hL)
theorem x_if_ge {a : Int32} {off : Int} {tgt : Nat} (hdg : decode y.2.1 pc = .ok (.ifCond .ge off, 3)) (ht : (pc : Int) + off = (tgt : Int)) (kt : 0 ≤ a → fv_X E y d Φ (tgt) (ls) (st) M) (kf : ¬ (0 ≤ a) → fv_X E y d Φ (pc + 3) (ls) (st) M) : fv_X E y d Φ (pc) (ls) (.int a :: st) M := by
  intro p l e s m args below meth c H locs lsA F hP hS hL
  exact lv_if_ge F.1 F.2.1 hdg ht (fun h => kt h p l e s m args below meth c H locs lsA F hP hS hL) (fun h => kf h p l e s m args below meth c H locs lsA F hP hS hL)
theorem x_icmp_gt {a b : Int32} {off : Int} {tgt : Nat} (hdg : decode y.2.1 pc = .ok (.if_icmp .gt off, 3)) (ht : (pc : Int) + off = (tgt : Int)) (kt : b < a → fv_X E y d Φ (tgt) (ls) (st) M) (kf : ¬ (b < a) → fv_X E y d Φ (pc + 3) (ls) (st) M) : fv_X E y d Φ (pc) (ls) (.int b :: .int a :: st) M := by
  intro p l e s m args below meth c H locs lsA F hP hS hL
  exact lv_icmp_gt F.1 F.2.1 hdg ht (fun h => kt h p l e s m args below meth c H locs lsA F hP hS hL) (fun h => kf h p l e s m args below meth c H locs lsA F hP hS hL)
theorem x_if_gt {a : Int32} {off : Int} {tgt : Nat} (hdg : decode y.2.1 pc = .ok (.ifCond .gt off, 3)) (ht : (pc : Int) + off = (tgt : Int)) (kt : 0 < a → fv_X E y d Φ (tgt) (ls) (st) M) (kf : ¬ (0 < a) → fv_X E y d Φ (pc + 3) (ls) (st) M) : fv_X E y d Φ (pc) (ls) (.int a :: st) M := by
  intro p l e s m args below meth c H locs lsA F hP hS hL
  exact lv_if_gt F.1 F.2.1 hdg ht (fun h => kt h p l e s m args below meth c H locs lsA F hP hS hL) (fun h => kf h p l e s m args below meth c H locs lsA F hP hS hL)
theorem x_icmp_le {a b : Int32} {off : Int} {tgt : Nat} (hdg : decode y.2.1 pc = .ok (.if_icmp .le off, 3)) (ht : (pc : Int) + off = (tgt : Int)) (kt : a ≤ b → fv_X E y d Φ (tgt) (ls) (st) M) (kf : ¬ (a ≤ b) → fv_X E y d Φ (pc + 3) (ls) (st) M) : fv_X E y d Φ (pc) (ls) (.int b :: .int a :: st) M := by
  intro p l e s m args below meth c H locs lsA F hP hS hL
  exact lv_icmp_le F.1 F.2.1 hdg ht (fun h => kt h p l e s m args below meth c H locs lsA F hP hS hL) (fun h => kf h p l e s m args below meth c H locs lsA F hP hS hL)
theorem x_if_le {a : Int32} {off : Int} {tgt : Nat} (hdg : decode y.2.1 pc = .ok (.ifCond .le off, 3)) (ht : (pc : Int) + off = (tgt : Int)) (kt : a ≤ 0 → fv_X E y d Φ (tgt) (ls) (st) M) (kf : ¬ (a ≤ 0) → fv_X E y d Φ (pc + 3) (ls) (st) M) : fv_X E y d Φ (pc) (ls) (.int a :: st) M := by
  intro p l e s m args below meth c H locs lsA F hP hS hL
  exact lv_if_le F.1 F.2.1 hdg ht (fun h => kt h p l e s m args below meth c H locs lsA F hP hS hL) (fun h => kf h p l e s m args below meth c H locs lsA F hP hS hL)
theorem x_goto {off : Int} {tgt : Nat} (hdg : decode y.2.1 pc = .ok (.goto off, 3)) (ht : (pc : Int) + off = (tgt : Int)) (k : fv_X E y d Φ (tgt) (ls) (st) M) : fv_X E y d Φ (pc) (ls) (st) M := by
  intro p l e s m args below meth c H locs lsA F hP hS hL
  exact lv_goto F.1 F.2.1 hdg ht (k p l e s m args below meth c H locs lsA F hP hS hL)
theorem x_tableIn {dflt lo hi : Int} {offs : Array Int} {len : Nat} {x : Int32} {off : Int} {tgt : Nat} (hdg : decode y.2.1 pc = .ok (.tableswitch dflt lo hi offs, len)) (h1 : ¬ x.toInt < lo) (h2 : ¬ hi < x.toInt) (ho : offs[(x.toInt - lo).toNat]? = some off) (ht : (pc : Int) + off = (tgt : Int)) (k : fv_X E y d Φ (tgt) (ls) (st) M) : fv_X E y d Φ (pc) (ls) (.int x :: st) M := by
  intro p l e s m args below meth c H locs lsA F hP hS hL
  exact lv_tableIn F.1 F.2.1 hdg h1 h2 ho ht (k p l e s m args below meth c H locs lsA F hP hS hL)
theorem x_tableOut {dflt lo hi : Int} {offs : Array Int} {len : Nat} {x : Int32} {tgt : Nat} (hdg : decode y.2.1 pc = .ok (.tableswitch dflt lo hi offs, len)) (h : x.toInt < lo ∨ hi < x.toInt) (ht : (pc : Int) + dflt = (tgt : Int)) (k : fv_X E y d Φ (tgt) (ls) (st) M) : fv_X E y d Φ (pc) (ls) (.int x :: st) M := by
  intro p l e s m args below meth c H locs lsA F hP hS hL
  exact lv_tableOut F.1 F.2.1 hdg h ht (k p l e s m args below meth c H locs lsA F hP hS hL)
theorem x_iret {v : Int32} {ty : FieldType} (hdg : decode y.2.1 pc = .ok (.ireturn, 1)) (hr : y.2.2.2 = some ty) (hn : narrow ty (.int v) = .int v) (h : Φ (some (.int v)) M) : fv_X E y d Φ pc ls [.int v] M := by
  intro p l e s m args below meth c H locs lsA F hP hS hL
  exact W.zret F.1 F.2.1 (F.2.2.2.2.2.2.1.trans hr) hn (fun t ht hW => ⟨⟨some (.int v), M, rfl, h, by rw [ht]; exact hP⟩, hS.F ht⟩) hS.2.2 hdg F.2.2.2.2.2.1
theorem x_lret {v : Int64} (hdg : decode y.2.1 pc = .ok (.lreturn, 1)) (hr : y.2.2.2 = some .long) (h : Φ (some (.long v)) M) : fv_X E y d Φ pc ls [.long v] M := by
  intro p l e s m args below meth c H locs lsA F hP hS hL
  exact W.lret F.1 F.2.1 (F.2.2.2.2.2.2.1.trans hr) (fun t ht hW => ⟨⟨some (.long v), M, rfl, h, by rw [ht]; exact hP⟩, hS.F ht⟩) hS.2.2 hdg F.2.2.2.2.2.1
theorem x_ret (hdg : decode y.2.1 pc = .ok (.return_, 1)) (hr : y.2.2.2 = none) (h : Φ none M) : fv_X E y d Φ pc ls [] M := by
  intro p l e s m args below meth c H locs lsA F hP hS hL
  exact W.vret F.1 F.2.1 (F.2.2.2.2.2.2.1.trans hr) (fun t ht hW => ⟨⟨none, M, rfl, h, by rw [ht]; exact hP⟩, hS.F ht⟩) hS.2.2 hdg F.2.2.2.2.2.1
/-- a class of the world: its words are of the tables, its fields -/
theorem fv_uw {ci : Nat} {q : vw_C} (h : vwCl[ci]? = some q) : ∀ w ∈ u_ws q.1 q.2.1 q.2.2, w ∈ fv_g := by
  have key : vwCl.all (fun q => (u_ws q.1 q.2.1 q.2.2).all (fun w => decide (w ∈ lw_tbl) && goodWord w)) = true := by decide +kernel
  intro w hw
  have h1 := List.all_eq_true.mp (List.all_eq_true.mp key q (List.mem_of_getElem? h)) w hw
  rw [Bool.and_eq_true] at h1
  exact List.mem_filter.mpr ⟨of_decide_eq_true h1.1, h1.2⟩
def fv_fl (own : String) (idx ci k : Nat) (ty : FieldType) (fin : Bool) : Prop := ∃ q : vw_C, vwCl[ci]? = some q ∧ k < q.2.2 ∧ Cond.fieldLink own idx (q.2.1 k).1 (q.2.1 k).2.1 (q.2.1 k).2.2.1 ∈ fv_g ∧ parseFieldDescriptor (q.2.1 k).2.2.1 = some ty ∧ (q.2.1 k).2.2.2 = fin
theorem x_get {ty : FieldType} {fin : Bool} {idx ci k a : Nat} {ss : List fv_Sp} {sp : fv_Sp} (hf : fv_fl y.1.cls idx ci k ty fin) (hdg : decode y.2.1 pc = .ok (.getfield idx, 3)) (htb : fv_tab[a]? = some (.inl (ci, ss))) (hk : ss[k]? = some sp) {v : Value} (hv : fv_val M sp = v)
    (kk : fv_X E y d Φ (pc + 3) ls (v :: st) M) : fv_X E y d Φ pc ls (.ref a :: st) M := by
  intro p l e s m args below meth c H locs lsA F hP hS hL
  obtain ⟨q, h1, h2, h3, -, -⟩ := hf
  obtain ⟨C, T, N⟩ := q
  subst hv
  exact va_get F.1 F.2.1 F.2.2.2.2.1 (fv_uw h1) F.2.2.2.1 F.2.2.2.2.2.2.2.1 hP a (fv_W_at htb) h1 k h2 (F.2.2.2.2.1 _ h3) (fun _ h => h) (v := fv_cv E (fv_val M sp)) (by rw [List.getElem?_map, hk]; rfl) hdg (kk p l e s m args below meth c H locs lsA F hP hS hL)
/-- the fields of a class have names apart and types -/
theorem fv_ft {ci : Nat} {q : vw_C} (h : vwCl[ci]? = some q) : ∃ ty0 : Nat → FieldType, (∀ k, k < q.2.2 → parseFieldDescriptor (q.2.1 k).2.2.1 = some (ty0 k)) ∧ (∀ a, a < q.2.2 → ∀ b, b < q.2.2 → a ≠ b → (q.2.1 a).2.1 ≠ (q.2.1 b).2.1) := by
  match ci, h with
  | 0, h => cases h; exact ⟨tyX0, tyX0_ok, nmX0⟩
  | 1, h => cases h; exact ⟨tyX1, tyX1_ok, nmX1⟩
  | 2, h => cases h; exact ⟨tyX2, tyX2_ok, nmX2⟩
  | 3, h => cases h; exact ⟨tyX3, tyX3_ok, nmX3⟩
  | 4, h => cases h; exact ⟨tyX4, tyX4_ok, nmX4⟩
  | 5, h => cases h; exact ⟨tyX5, tyX5_ok, nmX5⟩
  | 6, h => cases h; exact ⟨tyX6, tyX6_ok, nmX6⟩
  | 7, h => cases h; exact ⟨tyX7, tyX7_ok, nmX7⟩
  | n + 8, h => cases h
theorem x_put {ty : FieldType} {idx ci k a r i : Nat} {ss : List fv_Sp} {v : Int32} (hf : fv_fl y.1.cls idx ci k ty false) (hdg : decode y.2.1 pc = .ok (.putfield idx, 3)) (htb : fv_tab[a]? = some (.inl (ci, ss))) (hk : ss[k]? = some (0, r, i)) (hnar : narrow ty (.int v) = .int v) (hfit : fits ty (.int v) = true)
    (kk : fv_X E y d Φ (pc + 3) ls st (fv_s M r (fv_u (M r) i v))) : fv_X E y d Φ pc ls (.int v :: .ref a :: st) M := by
  intro p l e s m args below meth c H locs lsA F hP hS hL
  obtain ⟨q, h1, h2, h3, h4, h5⟩ := hf
  obtain ⟨ty0, t1, t2⟩ := fv_ft h1
  obtain ⟨C, T, N⟩ := q
  refine va_put F.1 F.2.1 F.2.2.2.2.1 (fv_uw h1) ty0 t1 t2 F.2.2.2.1 F.2.2.2.2.2.2.2.1 hP (fv_D_any F.2.2.2.2.2.2.2.2.1) hS a (fv_W_at htb) h1 k h2 (F.2.2.2.2.1 _ h3) (fun _ h => h) h5 h4 hnar hfit (by rw [List.length_map]; exact (List.getElem?_eq_some_iff.mp hk).1) hdg (fun H1 locs1 hP1 hD1 hS1 => ?_)
  exact kk p l e s m args below meth c H1 locs1 lsA F (by rw [← fv_W_put htb hk]; exact hP1) hS1 hL
theorem x_putl {idx ci k a r i : Nat} {ss : List fv_Sp} {v : Int64} (hf : fv_fl y.1.cls idx ci k .long false) (hdg : decode y.2.1 pc = .ok (.putfield idx, 3)) (htb : fv_tab[a]? = some (.inl (ci, ss))) (hk : ss[k]? = some (2, r, i))
    (kk : fv_X E y d Φ (pc + 3) ls st (fv_s M r (fv_u (fv_u (M r) i (fv_hi v)) (i + 1) (fv_lo v)))) : fv_X E y d Φ pc ls (.long v :: .ref a :: st) M := by
  intro p l e s m args below meth c H locs lsA F hP hS hL
  obtain ⟨q, h1, h2, h3, h4, h5⟩ := hf
  obtain ⟨ty0, t1, t2⟩ := fv_ft h1
  obtain ⟨C, T, N⟩ := q
  refine va_put F.1 F.2.1 F.2.2.2.2.1 (fv_uw h1) ty0 t1 t2 F.2.2.2.1 F.2.2.2.2.2.2.2.1 hP (fv_D_any F.2.2.2.2.2.2.2.2.1) hS a (fv_W_at htb) h1 k h2 (F.2.2.2.2.1 _ h3) (fun _ h => h) h5 h4 rfl rfl (by rw [List.length_map]; exact (List.getElem?_eq_some_iff.mp hk).1) hdg (fun H1 locs1 hP1 hD1 hS1 => ?_)
  exact kk p l e s m args below meth c H1 locs1 lsA F (by rw [← fv_W_putl htb hk]; exact hP1) hS1 hL
theorem fv_cell_i {E : fv_E} {M : fv_M} {ty n r i0 : Nat} (h : ty < 2) : fv_cell E M (.inr (ty, n, r, i0)) = .inl (E.2.2.2 ty, n, .inl (fv_arr M n r i0)) := if_pos h
theorem fv_cell_r {E : fv_E} {M : fv_M} {ty n r i0 : Nat} (h : ¬ ty < 2) : fv_cell E M (.inr (ty, n, r, i0)) = .inl (E.2.2.2 ty, n, .inr (.inr (.inr (.inr (fun k => some (E.2.1 (r + i0 * k))))))) := if_neg h
theorem fv_nIc {c n : Nat} (h : c < n) (hn : n ≤ 1000) : (nI c).toNatClampNeg = c := nI_clamp (by omega)
theorem x_iald {a n r i0 c : Nat} {i : Int32} (hdg : decode y.2.1 pc = .ok (.iaload, 1)) (htb : fv_tab[a]? = some (.inr (0, n, r, i0))) (hi : i = nI c) (hc : c < n) (hn : n ≤ 1000)
    (kk : fv_X E y d Φ (pc + 1) ls (.int (M r (i0 + c)) :: st) M) : fv_X E y d Φ pc ls (.int i :: .ref a :: st) M := by
  intro p l e s m args below meth c' H locs lsA F hP hS hL
  subst hi
  have h := fv_W_at (E := E) (M := M) htb
  rw [fv_cell_i (by decide)] at h
  refine va_iald F.1 F.2.1 F.2.2.2.2.2.2.2.1 hP a 0 h rfl (nI_in hc (by omega)) hdg ?_
  rw [fv_nIc hc hn, show fv_arr M n r i0 c = M r (i0 + c) from if_pos hc]
  exact kk p l e s m args below meth c' H locs lsA F hP hS hL
theorem x_cald {a n r i0 c : Nat} {i : Int32} (hdg : decode y.2.1 pc = .ok (.caload, 1)) (htb : fv_tab[a]? = some (.inr (1, n, r, i0))) (hi : i = nI c) (hc : c < n) (hn : n ≤ 1000)
    (kk : fv_X E y d Φ (pc + 1) ls (.int (M r (i0 + c)) :: st) M) : fv_X E y d Φ pc ls (.int i :: .ref a :: st) M := by
  intro p l e s m args below meth c' H locs lsA F hP hS hL
  subst hi
  have h := fv_W_at (E := E) (M := M) htb
  rw [fv_cell_i (by decide)] at h
  refine va_cald F.1 F.2.1 F.2.2.2.2.2.2.2.1 hP a 1 h rfl (nI_in hc (by omega)) hdg ?_
  rw [fv_nIc hc hn, show fv_arr M n r i0 c = M r (i0 + c) from if_pos hc]
  exact kk p l e s m args below meth c' H locs lsA F hP hS hL
theorem x_iast {a n r i0 c : Nat} {i v : Int32} (hdg : decode y.2.1 pc = .ok (.iastore, 1)) (htb : fv_tab[a]? = some (.inr (0, n, r, i0))) (hi : i = nI c) (hc : c < n) (hn : n ≤ 1000)
    (kk : fv_X E y d Φ (pc + 1) ls st (fv_s M r (fv_u (M r) (i0 + c) v))) : fv_X E y d Φ pc ls (.int v :: .int i :: .ref a :: st) M := by
  intro p l e s m args below meth c' H locs lsA F hP hS hL
  subst hi
  have h := fv_W_at (E := E) (M := M) htb
  rw [fv_cell_i (by decide)] at h
  refine va_iast F.1 F.2.1 F.2.2.2.2.2.2.2.1 hP (fv_D_any F.2.2.2.2.2.2.2.2.1) hS a 0 h rfl (nI_in hc (by omega)) hdg (fun H1 locs1 hP1 hD1 hS1 => ?_)
  rw [fv_nIc hc hn, fv_W_ast htb (by decide) hc] at hP1
  exact kk p l e s m args below meth c' H1 locs1 lsA F hP1 hS1 hL
theorem x_aald {ty a n r i0 c : Nat} {C : String} {i : Int32} (hdg : decode y.2.1 pc = .ok (.aaload, 1)) (htb : fv_tab[a]? = some (.inr (ty, n, r, i0))) (hty : ¬ ty < 2) (ht : (fv_tys E)[ty]? = some (E.2.2.2 ty, .object C)) (hi : i = nI c) (hc : c < n) (hn : n ≤ 1000)
    (kk : fv_X E y d Φ (pc + 1) ls (.ref (r + i0 * c) :: st) M) : fv_X E y d Φ pc ls (.int i :: .ref a :: st) M := by
  intro p l e s m args below meth c' H locs lsA F hP hS hL
  subst hi
  have h := fv_W_at (E := E) (M := M) htb
  rw [fv_cell_r hty] at h
  refine va_aldq F.1 F.2.1 F.2.2.2.2.2.2.2.1 hP a ty h ht (nI_in hc (by omega)) hdg ?_
  rw [fv_nIc hc hn]
  exact kk p l e s m args below meth c' H locs lsA F hP hS hL
theorem x_alen {ty a n r i0 : Nat} {T : FieldType} (hdg : decode y.2.1 pc = .ok (.arraylength, 1)) (htb : fv_tab[a]? = some (.inr (ty, n, r, i0))) (hty : ty < 2) (ht : (fv_tys E)[ty]? = some (E.2.2.2 ty, T))
    (kk : fv_X E y d Φ (pc + 1) ls (.int (nI n) :: st) M) : fv_X E y d Φ pc ls (.ref a :: st) M := by
  intro p l e s m args below meth c' H locs lsA F hP hS hL
  have h := fv_W_at (E := E) (M := M) htb
  rw [fv_cell_i hty] at h
  exact va_alen F.1 F.2.1 F.2.2.2.2.2.2.2.1 hP a ty h ht rfl hdg (kk p l e s m args below meth c' H locs lsA F hP hS hL)
end FVR
