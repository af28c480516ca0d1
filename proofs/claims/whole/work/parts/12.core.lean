/-! THE JUDGEMENT fv_X: from this place of this method, with these locals, this stack and this memory, the method returns with Φ. fv_C: a method's contract in it. -/
def fv_A (E : fv_E) : Nat → Prop := fun q => E.1 ≤ q
def fv_tys (E : fv_E) : List (ClassId × FieldType) := [(E.2.2.2 0, .int), (E.2.2.2 1, .char), (E.2.2.2 2, .object RX0), (E.2.2.2 3, .object RX1), (E.2.2.2 4, .object RX3)]
def fv_g : List Cond := lw_tbl.filter goodWord
def fv_rm (d : Nat) : Room := { frames := d, cells := 0, slots := 0, locals := 38 * d }
abbrev fv_Y : Type := MethodName × ByteArray × Nat × Option FieldType
def fv_ws (y : fv_Y) : List Cond := Cond.code y.1 y.2.1 y.2.2.1 y.2.2.2 :: fv_g
def fv_nm : List (String × Nat × MethodName) := [(RX4, 43, yX0_init), (RX4, 44, yX1_init), (RX6, 28, yX5_init), (RX6, 41, yX2_init), (RX6, 50, yX3_init), (RX4, 64, yX6_isUpTo), (RX0, 45, yX6_isUpTo), (RX3, 28, yX6_isUpTo)]
def fv_kI : List Nat := [111, 99, 101, 103, 105, 107, 109, 134, 126, 132, 82, 166, 172, 174, 87]
def fv_kT : List String := ["bird", "swan", "crow", "raven", "tern", "wren", "gull", "has", "keeps", "grows", "motion", "quorum", "wants", "effect", "season"]
def fv_kB : List (List Int32) := [[98, 105, 114, 100], [115, 119, 97, 110], [99, 114, 111, 119], [114, 97, 118, 101, 110], [116, 101, 114, 110], [119, 114, 101, 110], [103, 117, 108, 108], [104, 97, 115], [107, 101, 101, 112, 115], [103, 114, 111, 119, 115], [109, 111, 116, 105, 111, 110], [113, 117, 111, 114, 117, 109], [119, 97, 110, 116, 115], [101, 102, 102, 101, 99, 116], [115, 101, 97, 115, 111, 110]]
def fv_kL : List Nat := [4, 4, 4, 5, 4, 4, 4, 3, 5, 5, 6, 6, 5, 6, 6]
def fv_ab : List Int32 := [-1, 0, 0, 2, 3, 0, 5]
def fv_Z (E : fv_E) (s : State) (H : Heap) : Prop :=
  (∀ q ∈ fv_nm, va_Nw (.methodLinkNest q.1 q.2.1 q.2.2 "FeatherVotes") s) ∧ va_Nw (.fieldLinkNest RX0 49 "FeatherVotes" "ABOVE" "[I" "FeatherVotes") s ∧
  va_Z "FeatherVotes" "ABOVE" "[I" (.ref (E.2.1 2000)) (fv_A E) s H ∧ va_T .int (E.2.1 2000) 7 (fun j => .int (fv_ab.getD j 0)) (fv_A E) s H ∧
  va_Z "java/lang/String" "COMPACT_STRINGS" "Z" (.int 1) (fv_A E) s H ∧ va_Zq "jdk/internal/util/Preconditions" "SIOOBE_FORMATTER" "Ljava/util/function/BiFunction;" (fv_A E) s H ∧
  vk_S 15 fv_kL fv_kB (fun i => E.2.1 (1000 + i)) (fun i => E.2.1 (1500 + i)) (fv_A E) s H ∧ ∀ i, i < 15 → vk_R RX5 (fv_kI.getD i 0) (fv_kT.getD i "") (E.2.1 (1000 + i)) s
theorem fv_Z.warm {E : fv_E} {s U : State} {H : Heap} (hW : s.WarmedH U.vm) (h : fv_Z E s H) : fv_Z E U H := by
  obtain ⟨h1, h2, h3, h4, h5, h6, h7, h8⟩ := h
  exact ⟨fun q hq => va_Nw.warmM hW (h1 q hq), va_Nw.warmF hW h2, va_Z.moved hW.alike h3, va_T.moved hW.alike h4, va_Z.moved hW.alike h5, va_Zq.moved hW.alike h6, vk_S.moved hW.alike h7, fun i hi => vk_R.warm hW (h8 i hi)⟩
theorem fv_Z.kept {E : fv_E} {s : State} {H H1 : Heap} (h : fv_Z E s H) (hq : ∀ a : Nat, a < H.size → ¬ fv_A E a → H1[a]? = H[a]?) : fv_Z E s H1 := by
  obtain ⟨h1, h2, h3, h4, h5, h6, h7, h8⟩ := h
  exact ⟨h1, h2, h3.kept hq, h4.kept hq, h5.kept hq, h6.kept hq, h7.kept hq, h8⟩
def fv_SF (E : fv_E) (s : State) : Prop := va_K E.2.2.1 vwCl (fv_tys E) s ∧ va_D (fv_A E) (fv_W E (fun _ _ => 0)) ∧ fv_Z E s s.heap
theorem fv_SF.at {E : fv_E} {s U : State} {locs : List Loc} (h : fv_SF E s) (hW : s.WarmedH U.vm) (hS : va_S (fv_A E) s.heap U.heap locs) : fv_SF E U :=
  ⟨va_K.moved hW.alike h.1, h.2.1, (h.2.2.warm hW).kept hS.2.1⟩
theorem fv_SF.calling {E : fv_E} {U : State} (h : fv_SF E U) (g : JFrame) (mk : MethodId) (a : Array Value) : fv_SF E (U.calling g mk a) :=
  ⟨va_K.moved (u := U) (U := U.calling g mk a) (Vm.Alike.refl U.vm) h.1, h.2.1, h.2.2.warm (U := U.calling g mk a) (State.WarmedH.refl U)⟩
def fv_Fix (E : fv_E) (y : fv_Y) (p : Program) (s : State) (m : MethodId) (args : Array Value) (meth : Method) (c : Code) : Prop :=
  p.tables.exec = Jvm.exec ∧ c.code = y.2.1 ∧ c.maxLocals = y.2.2.1 ∧ s.vm.findClass y.1.cls = some m.cls ∧ (∀ w ∈ fv_g, w.before args s = true) ∧ meth.locks = false ∧ meth.sig.returnType = y.2.2.2 ∧ fv_SF E s
def fv_L (E : fv_E) (lsA : Array Slot) (ls : List (Option Value)) : Prop := lsA.size = ls.length ∧ lv_wf lsA ∧ ∀ (i : Nat) (v : Value), ls[i]? = some (some v) → lsA[i]? = some (.val (fv_cv E v))
def fv_Q (E : fv_E) (Φ : Option Value → fv_M → Prop) : Array Value → State → Outcome → State → Prop := fun _ st oc t => (∃ (r : Option Value) (M' : fv_M), oc = .returned (r.map (fv_cv E)) ∧ Φ r M' ∧ va_P E.2.2.1 vwCl (fv_W E M') t.heap) ∧ va_F (fv_A E) st t
def fv_X (E : fv_E) (y : fv_Y) (d : Nat) (Φ : Option Value → fv_M → Prop) (pc : Nat) (ls : List (Option Value)) (st : List Value) (M : fv_M) : Prop :=
  ∀ (p : Program) (l : Launch) (e : Env) (s : State) (m : MethodId) (args : Array Value) (below : List Frame) (meth : Method) (c : Code) (H : Heap) (locs : List Loc) (lsA : Array Slot),
    fv_Fix E y p s m args meth c → va_P E.2.2.1 vwCl (fv_W E M) H → va_S (fv_A E) s.heap H locs → fv_L E lsA ls →
    W p l e (fv_rm d) s m args below meth c H locs 0 0 (MQ below (fv_Q E Φ) args s 0 0 (fv_A E)) (F0 m pc lsA (st.map (fv_cv E)))
def fv_Pc (E : fv_E) (M : fv_M) (args : List Value) : Array Value → State → Prop := va_Pc (args.map (fv_cv E)) (fun U => fv_SF E U ∧ va_P E.2.2.1 vwCl (fv_W E M) U.heap)
def fv_C (E : fv_E) (d : Nat) (y : fv_Y) (args : List Value) (M : fv_M) (Φ : Option Value → fv_M → Prop) : Prop :=
  ∀ l : Launch, Met l y.1 (fv_ws y) (fv_rm d) (fv_Pc E M args) (fv_Q E Φ) 0 0 (fv_A E)
theorem fv_cat (E : fv_E) (v : Value) : (fv_cv E v).category = v.category := by cases v <;> rfl
theorem fv_sum (E : fv_E) (st : List Value) : ((st.map (fv_cv E)).map fun v => v.category) = st.map fun v => v.category := by
  rw [List.map_map]
  exact List.map_congr_left (fun v _ => fv_cat E v)
/-- the locals at the entry -/
def fv_ent : List Value → List (Option Value)
  | [] => []
  | v :: vs => if v.category = 2 then some v :: none :: fv_ent vs else some v :: fv_ent vs
theorem fv_ent_len (E : fv_E) (vs : List Value) : (lg_sl (vs.map (fv_cv E))).length = (fv_ent vs).length := by
  induction vs with
  | nil => rfl
  | cons v vs ih =>
    unfold lg_sl at ih ⊢
    rw [List.map_cons, List.flatMap_cons, List.length_append, ih, fv_cat]
    rw [show fv_ent (v :: vs) = if v.category = 2 then some v :: none :: fv_ent vs else some v :: fv_ent vs from rfl]
    by_cases h : v.category = 2
    · rw [if_pos h, if_pos h]; simp only [List.length_cons, List.length_nil]; omega
    · rw [if_neg h, if_neg h]; simp only [List.length_cons, List.length_nil]; omega
theorem fv_ent_at (E : fv_E) (vs : List Value) : ∀ (k i : Nat) (v : Value), (fv_ent vs)[i]? = some (some v) → (k + i, fv_cv E v) ∈ lv_args k (vs.map (fv_cv E)) := by
  induction vs with
  | nil => intro k i v h; simp [fv_ent] at h
  | cons w vs ih =>
    intro k i v h
    unfold fv_ent at h
    rw [List.map_cons]
    unfold lv_args
    by_cases hc : w.category = 2
    · rw [if_pos hc] at h
      rw [if_pos (by rw [fv_cat]; exact hc)]
      match i with
      | 0 => simp at h; subst h; exact List.mem_cons_self
      | 1 => simp at h
      | i + 2 =>
        have h2 := ih (k + 2) i v (by simpa using h)
        rw [show k + (i + 2) = k + 2 + i by omega]
        exact List.mem_cons_of_mem _ h2
    · rw [if_neg hc] at h
      rw [if_neg (by rw [fv_cat]; exact hc)]
      match i with
      | 0 => simp at h; subst h; exact List.mem_cons_self
      | i + 1 =>
        have h2 := ih (k + 1) i v (by simpa using h)
        rw [show k + (i + 1) = k + 1 + i by omega]
        exact List.mem_cons_of_mem _ h2
/-- a contract out of the walk of its body -/
theorem fv_C.of {E : fv_E} {d : Nat} {y : fv_Y} {args : List Value} {M : fv_M} {Φ : Option Value → fv_M → Prop} {ls : List (Option Value)} (hy : plainName y.1.cls = true) (hle : (fv_ent args).length ≤ y.2.2.1)
    (hls : fv_ent args ++ List.replicate (y.2.2.1 - (fv_ent args).length) none = ls) (h : fv_X E y d Φ 0 ls [] M) : fv_C E d y args M Φ := by
  intro l
  refine Met.ofW (cc := y.2.1) (maxL := y.2.2.1) (ret := y.2.2.2) hy rfl ?_
  intro p e s m args' below meth c s₁ B hml hv
  obtain ⟨rfl, hSF, hP⟩ := hv
  have hts := atoms_spec (ws := fv_ws y) B.pre
  have hown : s.vm.findClass y.1.cls = some m.cls := findClass_of_methodNamed B.named
  have hle' : (lg_sl (args.map (fv_cv E))).length ≤ y.2.2.1 := by rw [fv_ent_len]; exact hle
  rw [lg_entry_eq]
  have hl := lv_entry (args.map (fv_cv E)) (n := y.2.2.1) hle'
  refine h p l e s m _ below meth c s.heap [] _ ⟨B.exec, B.bytes, hml, hown, fun w hw => hts w (List.mem_cons_of_mem _ hw), B.notSynchronized, B.returns, hSF⟩ hP va_S.rf ⟨?_, hl.2.1, ?_⟩
  · rw [hl.1, ← hls, List.length_append, List.length_replicate]; omega
  · intro i v hv
    rw [← hls] at hv
    by_cases hi : i < (fv_ent args).length
    · rw [List.getElem?_append_left hi] at hv
      have := fv_ent_at E args 0 i v hv
      rw [Nat.zero_add] at this
      exact hl.2.2 _ this
    · rw [List.getElem?_append_right (by omega)] at hv
      rw [List.getElem?_replicate] at hv
      split at hv <;> simp at hv
/-- behind a call -/
theorem fv_run {p : Program} {l : Launch} {e : Env} {s : State} {m : MethodId} {args : Array Value} {below : List Frame} {meth : Method} {c : Code} {H : Heap} {locs : List Loc} {lsA : Array Slot} {pc d : Nat} {st0 rest : List Value} {a : Array Value} {E : fv_E} {Φ' : Option Value → fv_M → Prop} {Q : State → Prop}
    (hr : va_Run p l e (fv_rm d) s m args below meth c H locs 0 0 0 0 (F0 m pc lsA st0) rest (fv_Q E Φ' a) (fv_A E)) (hS : va_S (fv_A E) s.heap H locs)
    (kk : ∀ (r : Option Value) (M' : fv_M) (H1 : Heap) (locs1 : List Loc), Φ' r M' → va_P E.2.2.1 vwCl (fv_W E M') H1 → va_S (fv_A E) s.heap H1 locs1 → W p l e (fv_rm d) s m args below meth c H1 locs1 0 0 Q (F0 m (pc + 3) lsA ((r.map (fv_cv E)).toList ++ rest))) :
    W p l e (fv_rm d) s m args below meth c H locs 0 0 Q (F0 m pc lsA st0) := by
  intro T hT X
  obtain ⟨v, st₀, t, T', L, h0, X', hL, e1, e2, ⟨⟨r, M', hv, hp, hb⟩, hz, hk⟩, st⟩ := hr T hT X
  cases hv
  rw [h0] at hz hk
  obtain ⟨t2, a1, b1⟩ := kk r M' T'.heap (locs ++ L) hp (by rw [e1]; exact hb)
    ⟨Nat.le_trans hS.1 (by rw [e1]; exact hz), fun q h1 h2 => by rw [e1, hk q (Nat.lt_of_lt_of_le h1 hS.1) h2]; exact hS.2.1 q h1 h2, fun q hq => by
      rcases List.mem_append.mp hq with h | h
      · exact hS.2.2 q h
      · exact hL q h⟩ T' rfl X'
  exact ⟨t2, st t2 a1, b1⟩
theorem fv_mem {w : Cond} (i : Nat) (h : lw_tbl[i]? = some w) (hg : goodWord w = true) : w ∈ fv_g := List.mem_filter.mpr ⟨List.mem_of_getElem? h, hg⟩
theorem fv_good {y : fv_Y} (h : Cond.code y.1 y.2.1 y.2.2.1 y.2.2.2 ∈ fv_g) : GoodIn fv_g (fv_ws y) := by
  intro w hw
  have hm : w ∈ fv_g := by
    rcases List.mem_cons.mp hw with e | e
    · rw [e]; exact h
    · exact e
  exact ⟨hm, good_of_word (List.mem_filter.mp hm).2⟩
def fv_ar (y : fv_Y) (n : Nat) : Prop := (y.1.cls ≠ "java/lang/invoke/MethodHandle" ∧ y.1.cls ≠ "java/lang/invoke/VarHandle" ∧ (parseMethodDescriptor y.1.desc).map (fun d => d.parameters.length) = some n) ∧ y.2.2.1 ≤ 19
/-- what the tables say of a call: static, virtual, a nest mate's static -/
def fv_kS (own : String) (idx : Nat) (y : fv_Y) (n : Nat) : Prop := Cond.methodLink own idx y.1 ∈ fv_g ∧ Cond.static y.1 ∈ fv_g ∧ Cond.initialized y.1.cls ∈ fv_g ∧ Cond.code y.1 y.2.1 y.2.2.1 y.2.2.2 ∈ fv_g ∧ fv_ar y n
def fv_kV (own : String) (idx : Nat) (y : fv_Y) (n : Nat) : Prop := Cond.methodLink own idx y.1 ∈ fv_g ∧ Cond.instanceMethod y.1 ∈ fv_g ∧ Cond.selects y.1.cls y.1 y.1 ∈ fv_g ∧ Cond.initialized y.1.cls ∈ fv_g ∧ Cond.code y.1 y.2.1 y.2.2.1 y.2.2.2 ∈ fv_g ∧ fv_ar y n
def fv_kN (own : String) (idx : Nat) (y : fv_Y) (n : Nat) : Prop := (own, idx, y.1) ∈ fv_nm ∧ Cond.static y.1 ∈ fv_g ∧ Cond.initialized y.1.cls ∈ fv_g ∧ Cond.code y.1 y.2.1 y.2.2.1 y.2.2.2 ∈ fv_g ∧ fv_ar y n
theorem fv_blind (E : fv_E) (M : fv_M) (as : List Value) : FrameBlind (fv_Pc E M as) := fun a U g mk q => ⟨q.1, q.2.1.calling g mk a, q.2.2⟩
theorem fv_pre {E : fv_E} {M : fv_M} {as : List Value} {s : State} {H : Heap} {locs : List Loc} (h : fv_SF E s) (hP : va_P E.2.2.1 vwCl (fv_W E M) H) (hS : va_S (fv_A E) s.heap H locs) : PreS s H (fv_Pc E M as) (as.map (fv_cv E)) :=
  ⟨fv_blind E M as, fun U hU hW => ⟨rfl, h.at hW (by rw [hU]; exact hS), by rw [hU]; exact hP⟩⟩
section FVX
variable {E : fv_E} {y y' : fv_Y} {d pc idx n : Nat} {Φ Φ' : Option Value → fv_M → Prop} {ls : List (Option Value)} {st As rest : List Value} {M : fv_M}
theorem x_callS (hk : fv_kS y.1.cls idx y' n) (hdg : decode y.2.1 pc = .ok (.invokestatic idx, 3)) (hC : fv_C E d y' As M Φ') (hst : st = As.reverse ++ rest) (hn : As.length = n) (hlen : ls.length = y.2.2.1) (hroom : (rest.map fun v => v.category).sum ≤ 8)
    (kk : ∀ (r : Option Value) (M' : fv_M), Φ' r M' → fv_X E y (d + 1) Φ (pc + 3) ls (r.toList ++ rest) M') : fv_X E y (d + 1) Φ pc ls st M := by
  intro p l e s m args below meth c H locs lsA F hP hS hL
  obtain ⟨hx, hb, hml, hown, hts, hlk, hret, hSF⟩ := id F
  obtain ⟨k1, k2, k3, k4, k5, k6⟩ := hk
  have hr := va_runS (As := As.map (fv_cv E)) (rest := rest.map (fv_cv E)) (g := F0 m pc lsA (st.map (fv_cv E))) (below := below) (e := e) (meth := meth) (locs := locs) (cells := 0) (slots := 0) ⟨hx, hb, hml, hown, hts⟩ (hC l)
    ⟨callB_of n hts (fv_good k4) rfl rfl rfl (hts _ k3) (hts _ k1) k5 (R := fv_rm (d + 1)) ⟨Nat.le_refl _, by show 8 + (y'.2.2.1 + 11) + 38 * d ≤ 38 * (d + 1); omega⟩, hts _ k2⟩ (fv_pre hSF hP hS)
    rfl (by rw [List.length_map]; exact hn) (hL.1.trans hlen) (by show st.map _ = _; rw [hst, List.map_append, List.map_reverse]) (lv_room (by rw [fv_sum]; exact hroom)) hdg ⟨Nat.zero_le _, Nat.zero_le _⟩
  refine fv_run hr hS (fun r M' H1 locs1 hΦ hP1 hS1 => ?_)
  have := kk r M' hΦ p l e s m args below meth c H1 locs1 lsA F hP1 hS1 hL
  cases r <;> exact this
theorem x_callN (hk : fv_kN y.1.cls idx y' n) (hdg : decode y.2.1 pc = .ok (.invokestatic idx, 3)) (hC : fv_C E d y' As M Φ') (hst : st = As.reverse ++ rest) (hn : As.length = n) (hlen : ls.length = y.2.2.1) (hroom : (rest.map fun v => v.category).sum ≤ 8)
    (kk : ∀ (r : Option Value) (M' : fv_M), Φ' r M' → fv_X E y (d + 1) Φ (pc + 3) ls (r.toList ++ rest) M') : fv_X E y (d + 1) Φ pc ls st M := by
  intro p l e s m args below meth c H locs lsA F hP hS hL
  obtain ⟨hx, hb, hml, hown, hts, hlk, hret, hSF⟩ := id F
  obtain ⟨k1, k2, k3, k4, k5, k6⟩ := hk
  have hr := va_runSN (As := As.map (fv_cv E)) (rest := rest.map (fv_cv E)) (g := F0 m pc lsA (st.map (fv_cv E))) (below := below) (e := e) (meth := meth) (locs := locs) (cells := 0) (slots := 0) ⟨hx, hb, hml, hown, hts⟩ (hC l)
    ⟨va_cnB n hts (fv_good k4) rfl rfl rfl (hSF.2.2.1 _ k1) (hts _ k3) k5 (R := fv_rm (d + 1)) ⟨Nat.le_refl _, by show 8 + (y'.2.2.1 + 11) + 38 * d ≤ 38 * (d + 1); omega⟩, hts _ k2, trivial⟩ (fv_pre hSF hP hS)
    rfl (by rw [List.length_map]; exact hn) (hL.1.trans hlen) (by show st.map _ = _; rw [hst, List.map_append, List.map_reverse]) (lv_room (by rw [fv_sum]; exact hroom)) hdg ⟨Nat.zero_le _, Nat.zero_le _⟩
  refine fv_run hr hS (fun r M' H1 locs1 hΦ hP1 hS1 => ?_)
  have := kk r M' hΦ p l e s m args below meth c H1 locs1 lsA F hP1 hS1 hL
  cases r <;> exact this
theorem x_callV {b ci : Nat} {ss : List fv_Sp} {q : vw_C} (hk : fv_kV y.1.cls idx y' n) (hdg : decode y.2.1 pc = .ok (.invokevirtual idx, 3)) (htb : fv_tab[b]? = some (.inl (ci, ss))) (hci : vwCl[ci]? = some q) (hq : q.1 = y'.1.cls) (hC : fv_C E d y' (.ref b :: As) M Φ') (hst : st = As.reverse ++ .ref b :: rest) (hn : As.length = n) (hlen : ls.length = y.2.2.1) (hroom : (rest.map fun v => v.category).sum ≤ 8)
    (kk : ∀ (r : Option Value) (M' : fv_M), Φ' r M' → fv_X E y (d + 1) Φ (pc + 3) ls (r.toList ++ rest) M') : fv_X E y (d + 1) Φ pc ls st M := by
  intro p l e s m args below meth c H locs lsA F hP hS hL
  obtain ⟨hx, hb, hml, hown, hts, hlk, hret, hSF⟩ := id F
  obtain ⟨k1, k2, k2', k3, k4, k5, k6⟩ := hk
  have hpre := fv_pre (as := .ref b :: As) hSF hP hS
  have hr := va_runV (As := As.map (fv_cv E)) (rest := rest.map (fv_cv E)) (b := E.2.1 b) (C := y'.1.cls) (g := F0 m pc lsA (st.map (fv_cv E))) (below := below) (e := e) (meth := meth) (locs := locs) (cells := 0) (slots := 0) ⟨hx, hb, hml, hown, hts⟩ (hC l)
    ⟨callB_of n hts (fv_good k4) rfl rfl rfl (hts _ k3) (hts _ k1) k5 (R := fv_rm (d + 1)) ⟨Nat.le_refl _, by show 8 + (y'.2.2.1 + 11) + 38 * d ≤ 38 * (d + 1); omega⟩, hts _ k2, hts _ k2'⟩
    ⟨hpre.1, by rw [← hq]; exact va_recv hSF.1 hP hci (fv_W_at htb), hpre.2⟩
    rfl (by rw [List.length_map]; exact hn) (hL.1.trans hlen) (by show st.map _ = _; rw [hst, List.map_append, List.map_reverse]; rfl) (lv_room (by rw [fv_sum]; exact hroom)) hdg ⟨Nat.zero_le _, Nat.zero_le _⟩
  refine fv_run hr hS (fun r M' H1 locs1 hΦ hP1 hS1 => ?_)
  have := kk r M' hΦ p l e s m args below meth c H1 locs1 lsA F hP1 hS1 hL
  cases r <;> exact this
end FVX
