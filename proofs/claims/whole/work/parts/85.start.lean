/-! WHAT THE STATEMENT GIVES OF THE START -/
def vl_fl : List Cond := flatC (Jvm.Cond.and given_1 narrow_1)
def vl_tm (i : Nat) : Term := Term.string "FeatherVotes$Tape" (fv_kI.getD i 0)
def vl_fd (i : Nat) : Term := Term.field (vl_tm i) "java/lang/String" "value" "[B"
def vl_ix (i : Nat) : Nat := [107, 43, 51, 60, 71, 82, 94, 121, 135, 152, 170, 190, 211, 232, 255].getD i 0
def vl_pj (i j : Nat) : Nat := [0, 115, 116, 117, 118, 119, 120, 134, 150, 167, 186, 206, 226, 248, 271, 115, 0, 59, 69, 79, 90, 102, 128, 144, 161, 180, 200, 220, 242, 265, 116, 59, 0, 70, 80, 91, 103, 129, 145, 162, 181, 201, 221, 243, 266, 117, 69, 70, 0, 81, 92, 104, 130, 146, 163, 182, 202, 222, 244, 267, 118, 79, 80, 81, 0, 93, 105, 131, 147, 164, 183, 203, 223, 245, 268, 119, 90, 91, 92, 93, 0, 106, 132, 148, 165, 184, 204, 224, 246, 269, 120, 102, 103, 104, 105, 106, 0, 133, 149, 166, 185, 205, 225, 247, 270, 134, 128, 129, 130, 131, 132, 133, 0, 151, 168, 187, 207, 227, 249, 272, 150, 144, 145, 146, 147, 148, 149, 151, 0, 169, 188, 208, 228, 250, 273, 167, 161, 162, 163, 164, 165, 166, 168, 169, 0, 189, 209, 229, 251, 274, 186, 180, 181, 182, 183, 184, 185, 187, 188, 189, 0, 210, 230, 252, 275, 206, 200, 201, 202, 203, 204, 205, 207, 208, 209, 210, 0, 231, 253, 276, 226, 220, 221, 222, 223, 224, 225, 227, 228, 229, 230, 231, 0, 254, 277, 248, 242, 243, 244, 245, 246, 247, 249, 250, 251, 252, 253, 254, 0, 278, 271, 265, 266, 267, 268, 269, 270, 272, 273, 274, 275, 276, 277, 278, 0].getD (15 * i + j) 0
theorem vl_ix_all : ((List.range 15).all fun i => decide (vl_fl[vl_ix i]? = some (Cond.exactly (vl_tm i) "java/lang/String")) && (decide (vl_fl[vl_ix i + 1]? = some (Cond.eq (.field (vl_tm i) "java/lang/String" "coder" "B") (.int 0))) && (decide (vl_fl[vl_ix i + 2]? = some (Cond.arrayOf (vl_fd i) .byte)) && (decide (vl_fl[vl_ix i + 3]? = some (Cond.eq (.length (vl_fd i)) (.int (Int32.ofNat (fv_kL.getD i 0))))) && (List.range (fv_kL.getD i 0)).all fun j => decide (vl_fl[vl_ix i + 4 + j]? = some (Cond.eq (.elem (vl_fd i) (.int (Int32.ofNat j))) (.int ((fv_kB.getD i []).getD j 0)))))))) = true := by decide +kernel
theorem vl_pj_all : ((List.range 15).all fun i => (List.range 15).all fun j => decide (i = j ∨ vl_fl[vl_pj i j]? = some (Cond.not (.eq (vl_tm i) (vl_tm j))) ∨ vl_fl[vl_pj i j]? = some (Cond.not (.eq (vl_tm j) (vl_tm i))))) = true := by decide +kernel
theorem vl_ix_at {i : Nat} (hi : i < 15) : vl_fl[vl_ix i]? = some (Cond.exactly (vl_tm i) "java/lang/String") ∧ vl_fl[vl_ix i + 1]? = some (Cond.eq (.field (vl_tm i) "java/lang/String" "coder" "B") (.int 0)) ∧ vl_fl[vl_ix i + 2]? = some (Cond.arrayOf (vl_fd i) .byte) ∧ vl_fl[vl_ix i + 3]? = some (Cond.eq (.length (vl_fd i)) (.int (Int32.ofNat (fv_kL.getD i 0)))) ∧ ∀ j, j < fv_kL.getD i 0 → vl_fl[vl_ix i + 4 + j]? = some (Cond.eq (.elem (vl_fd i) (.int (Int32.ofNat j))) (.int ((fv_kB.getD i []).getD j 0))) := by
  have h := fv_all1 vl_ix_all hi
  rw [Bool.and_eq_true, Bool.and_eq_true, Bool.and_eq_true, Bool.and_eq_true] at h
  obtain ⟨h1, h2, h3, h4, h5⟩ := h
  exact ⟨of_decide_eq_true h1, of_decide_eq_true h2, of_decide_eq_true h3, of_decide_eq_true h4, fun j hj => of_decide_eq_true (fv_all1 h5 hj)⟩
theorem vl_kl {i : Nat} : fv_kL.getD i 0 < 2 ^ 31 := by
  rcases Nat.lt_or_ge i 15 with h | h
  · exact of_decide_eq_true (fv_all1 (p := fun i => decide (fv_kL.getD i 0 < 2 ^ 31)) (n := 15) (by decide +kernel) h)
  · rw [List.getD_eq_getElem?_getD, List.getElem?_eq_none (by show 15 ≤ i; exact h)]; decide
section VLS
variable {s : State} {b : Nat} {A : Nat → Prop}
theorem vl_strings (hf : ∀ w ∈ vl_fl, w.before #[Value.ref b] s = true) (hA : ∀ a : Nat, a < s.heap.size → ¬ A a) : ∃ adK adV : Nat → Nat, vk_S 15 fv_kL fv_kB adK adV A s s.heap ∧ ∀ i, i < 15 → (vl_tm i).eval #[Value.ref b] s none [] s = some (.ref (adK i)) := by
  have at' : ∀ {k : Nat} {w : Cond}, vl_fl[k]? = some w → w.before #[Value.ref b] s = true := fun h => hf _ (List.mem_of_getElem? h)
  refine vk_Sof (fun i _ => vl_kl) (fun i hi => at' (vl_ix_at hi).1) (fun i hi => at' (vl_ix_at hi).2.1) (fun i hi => at' (vl_ix_at hi).2.2.1) (fun i hi => at' (vl_ix_at hi).2.2.2.1) (fun i hi j hj => at' ((vl_ix_at hi).2.2.2.2 j hj)) (fun i j hi hj hij => ?_) hA
  rcases of_decide_eq_true (fv_all1 (fv_all1 vl_pj_all hi) hj) with h | h | h
  · exact absurd h hij
  · exact .inl (at' h)
  · exact .inr (at' h)
theorem vl_above (hf : ∀ w ∈ vl_fl, w.before #[Value.ref b] s = true) (hA : ∀ a : Nat, a < s.heap.size → ¬ A a) : ∃ t : Nat, (Term.static "FeatherVotes" "ABOVE" "[I").eval #[Value.ref b] s none [] s = some (.ref t) ∧ va_T .int t 7 (fun j => .int (fv_ab.getD j 0)) A s s.heap := by
  have at' : ∀ {k : Nat} {w : Cond}, vl_fl[k]? = some w → w.before #[Value.ref b] s = true := fun h => hf _ (List.mem_of_getElem? h)
  refine va_Tof (N := 7) (by decide) (at' (k := 5) (by decide +kernel)) (va_eqt (at' (k := 6) (by decide +kernel))) (fun j hj => va_eqt (at' (k := 7 + j) ?_)) hA
  exact of_decide_eq_true (fv_all1 (p := fun j => decide (vl_fl[7 + j]? = some (Cond.eq (.elem (.static "FeatherVotes" "ABOVE" "[I") (.int (Int32.ofNat j))) (.int (fv_ab.getD j 0))))) (n := 7) (by decide +kernel) hj)
theorem vl_nm : ∀ q ∈ fv_nm, Cond.methodLinkNest q.1 q.2.1 q.2.2 "FeatherVotes" ∈ lw_tbl := by
  have key : fv_nm.all (fun q => decide (Cond.methodLinkNest q.1 q.2.1 q.2.2 "FeatherVotes" ∈ lw_tbl)) = true := by decide +kernel
  exact fun q hq => of_decide_eq_true (List.all_eq_true.mp key q hq)
theorem vl_N (hts : ∀ w ∈ lw_tbl, w.before #[Value.ref b] s = true) : vz_N s :=
  ⟨fun q hq => va_Nw.of rfl (hts _ (vl_nm q hq)), va_AO.of (hts _ (List.mem_of_getElem? (i := 100) (by decide +kernel))), va_AO.of (hts _ (List.mem_of_getElem? (i := 102) (by decide +kernel))), va_AO.of (hts _ (List.mem_of_getElem? (i := 227) (by decide +kernel)))⟩
theorem vl_ai {args : Array Value} {ty : FieldType} (hn : ∀ C, ty ≠ .object C) (h : (Cond.arrayClass ty).before args s = true) : ∃ c : ClassId, ArrOfT s c ty ∧ va_RA s c ty := by
  obtain ⟨c, k, comp, h1, h2, h3⟩ := Cond.arrayClass_spec h
  refine ⟨c, fun n z => ⟨fun k h => (by cases h), k, h2, comp, h3⟩, ?_⟩
  cases ty <;> first | exact h1 | exact absurd rfl (hn _)
theorem vl_ao {args : Array Value} {C : String} (h : (Cond.arrayOver (.object C)).before args s = true) : ∃ c : ClassId, ArrOfT s c (.object C) ∧ va_RA s c (.object C) := by
  obtain ⟨comp, c, k, h1, -, h2, h3, h4⟩ := Cond.arrayOver_spec h
  exact ⟨c, fun n z => ⟨fun k h => (by cases h), k, h2, comp, h3⟩, k, comp, h2, h3, h1, h4⟩
theorem vl_Kn (hts : ∀ w ∈ lw_tbl, w.before #[Value.ref b] s = true) : ∀ ci : Nat, ∃ z : ClassId × (Nat → Nat), ∀ q, vwCl[ci]? = some q → u_Kn s q.1 q.2.1 q.2.2 z.1 z.2 := by
  have key : ∀ (ci : Nat) (q : vw_C), vwCl[ci]? = some q → (Cond.instantiable q.1 q.2.2).before #[Value.ref b] s = true → ∃ z : ClassId × (Nat → Nat), ∀ q, vwCl[ci]? = some q → u_Kn s q.1 q.2.1 q.2.2 z.1 z.2 := fun ci q hq h => by
    obtain ⟨c, f, h1⟩ := u_known (C := q.1) (T := q.2.1) (N := q.2.2) hts (fun w hw => (List.mem_filter.mp (fv_uw hq w hw)).1) h
    exact ⟨(c, f), fun q' h' => by rw [hq] at h'; cases h'; exact h1⟩
  have h0 := key 0 _ rfl (hts _ (List.mem_of_getElem? (i := 103) (by decide +kernel)))
  intro ci
  match ci with
  | 0 => exact h0
  | 1 => exact key 1 _ rfl (hts _ (List.mem_of_getElem? (i := 128) (by decide +kernel)))
  | 2 => exact key 2 _ rfl (hts _ (List.mem_of_getElem? (i := 229) (by decide +kernel)))
  | 3 => exact key 3 _ rfl (hts _ (List.mem_of_getElem? (i := 257) (by decide +kernel)))
  | 4 => exact key 4 _ rfl (hts _ (List.mem_of_getElem? (i := 94) (by decide +kernel)))
  | 5 => exact key 5 _ rfl (hts _ (List.mem_of_getElem? (i := 198) (by decide +kernel)))
  | 6 => exact key 6 _ rfl (hts _ (List.mem_of_getElem? (i := 86) (by decide +kernel)))
  | 7 => exact key 7 _ rfl (hts _ (List.mem_of_getElem? (i := 921) (by decide +kernel)))
  | n + 8 =>
    obtain ⟨z, -⟩ := h0
    exact ⟨z, fun q h => by cases h⟩
theorem vl_K (hts : ∀ w ∈ lw_tbl, w.before #[Value.ref b] s = true) : ∃ D : vz_G, va_K D.1 vwCl (fv_tys (vz_E D)) s := by
  obtain ⟨f, hf⟩ := Classical.axiomOfChoice (vl_Kn hts)
  obtain ⟨t0, a0⟩ := vl_ai (ty := .int) (fun C h => by cases h) (hts _ (List.mem_of_getElem? (i := 127) (by decide +kernel)))
  obtain ⟨t1, a1⟩ := vl_ai (ty := .char) (fun C h => by cases h) (hts _ (List.mem_of_getElem? (i := 1002) (by decide +kernel)))
  obtain ⟨t2, a2⟩ := vl_ao (C := RX0) (hts _ (List.mem_of_getElem? (i := 100) (by decide +kernel)))
  obtain ⟨t3, a3⟩ := vl_ao (C := RX1) (hts _ (List.mem_of_getElem? (i := 102) (by decide +kernel)))
  obtain ⟨t4, a4⟩ := vl_ao (C := RX3) (hts _ (List.mem_of_getElem? (i := 227) (by decide +kernel)))
  refine ⟨((fun c => (f c).1, fun c => (f c).2), fun k => if k = 0 then t0 else if k = 1 then t1 else if k = 2 then t2 else if k = 3 then t3 else t4), fun c q hq => hf c q hq, fun k q hk => ?_⟩
  match k, hk with
  | 0, hk => cases hk; exact a0
  | 1, hk => cases hk; exact a1
  | 2, hk => cases hk; exact a2
  | 3, hk => cases hk; exact a3
  | 4, hk => cases hk; exact a4
  | n + 5, hk => cases hk
def vl_si (i : Nat) : Nat := [742, 736, 737, 738, 739, 740, 741, 808, 818, 825, 826, 833, 840, 841, 842].getD i 0
theorem vl_si_all : ((List.range 15).all fun i => decide (lw_tbl[vl_si i]? = some (Cond.stringRef RX5 (fv_kI.getD i 0) (fv_kT.getD i "")))) = true := by decide +kernel
theorem vl_Z {E : fv_E} {ab : Nat} {adK adV : Nat → Nat} (hts : ∀ w ∈ lw_tbl, w.before #[Value.ref b] s = true) (hf : ∀ w ∈ vl_fl, w.before #[Value.ref b] s = true) (hA : ∀ a : Nat, a < s.heap.size → ¬ fv_A E a) (h1 : (Term.static "FeatherVotes" "ABOVE" "[I").eval #[Value.ref b] s none [] s = some (.ref ab)) (h2 : va_T .int ab 7 (fun j => .int (fv_ab.getD j 0)) (fv_A E) s s.heap) (h3 : vk_S 15 fv_kL fv_kB adK adV (fv_A E) s s.heap) (h4 : ∀ i, i < 15 → (vl_tm i).eval #[Value.ref b] s none [] s = some (.ref (adK i))) (e1 : E.2.1 2000 = ab) (e2 : ∀ i, i < 15 → E.2.1 (1000 + i) = adK i) (e3 : ∀ i, i < 15 → E.2.1 (1500 + i) = adV i) : fv_Z E s s.heap := by
  refine ⟨fun q hq => va_Nw.of rfl (hts _ (vl_nm q hq)), va_Nw.of rfl (hts _ (List.mem_of_getElem? (i := 418) (by decide +kernel))), ?_, ?_, ?_, ?_, ⟨fun i hi => ?_, fun i j hi hj e => h3.2 i j hi hj (by rw [← e2 i hi, ← e2 j hj]; exact e)⟩, fun i hi => ?_⟩
  · rw [e1]
    exact va_Zref (hts _ (List.mem_of_getElem? (i := 419) (by decide +kernel))) (hts _ (List.mem_of_getElem? (i := 69) (by decide +kernel))) h1 hA
  · rw [e1]; exact h2
  · exact va_Zof (hts _ (List.mem_of_getElem? (i := 756) (by decide +kernel))) (hts _ (List.mem_of_getElem? (i := 81) (by decide +kernel))) (va_eqt (hf _ (List.mem_of_getElem? (i := 14) (by decide +kernel)))) hA
  · exact va_Zqof (hts _ (List.mem_of_getElem? (i := 772) (by decide +kernel))) (hts _ (List.mem_of_getElem? (i := 83) (by decide +kernel))) (hf _ (List.mem_of_getElem? (i := 15) (by decide +kernel))) hA
  · show va_O _ (E.2.1 (1000 + i)) _ _ _ ∧ va_OF _ _ _ _ (E.2.1 (1000 + i)) _ _ _ ∧ va_OF _ _ _ (.ref (E.2.1 (1500 + i))) (E.2.1 (1000 + i)) _ _ _ ∧ va_T _ (E.2.1 (1500 + i)) _ _ _ _ _
    rw [e2 i hi, e3 i hi]
    exact h3.1 i hi
  · rw [e2 i hi]
    exact vk_R.of (hts _ (List.mem_of_getElem? (of_decide_eq_true (fv_all1 vl_si_all hi)))) (h4 i hi)
end VLS
