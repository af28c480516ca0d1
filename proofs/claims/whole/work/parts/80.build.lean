/-! BUILDING: worlds as lists, for the constructors -/
abbrev vz_G : Type := va_G × (Nat → ClassId)
def vz_E (D : vz_G) : fv_E := (0, fun q => q, D.1, D.2)
def vz_N (s : State) : Prop := (∀ q ∈ fv_nm, va_Nw (.methodLinkNest q.1 q.2.1 q.2.2 "FeatherVotes") s) ∧ va_AO RX0 s ∧ va_AO RX1 s ∧ va_AO RX3 s
theorem vz_N.warm {s U : State} (hW : s.WarmedH U.vm) (h : vz_N s) : vz_N U := ⟨fun q hq => va_Nw.warmM hW (h.1 q hq), h.2.1.moved hW.alike, h.2.2.1.moved hW.alike, h.2.2.2.moved hW.alike⟩
def vz_Fix (D : vz_G) (y : fv_Y) (p : Program) (s : State) (m : MethodId) (args : Array Value) (meth : Method) (c : Code) : Prop :=
  p.tables.exec = Jvm.exec ∧ c.code = y.2.1 ∧ c.maxLocals = y.2.2.1 ∧ s.vm.findClass y.1.cls = some m.cls ∧ (∀ w ∈ fv_g, w.before args s = true) ∧ meth.locks = false ∧ meth.sig.returnType = y.2.2.2 ∧ va_K D.1 vwCl (fv_tys (vz_E D)) s ∧ vz_N s ∧ meth.name = y.1.name
def vz_rm (d mc ms : Nat) : Room := { frames := d, cells := mc, slots := ms, locals := 38 * d }
def vz_Q (D : vz_G) (w0 : va_W) (W1 : (Nat → Nat) → va_W) (sz : Nat) : Array Value → State → Outcome → State → Prop := va_Qv (S := Nat → Nat) (fun _ => True) (fun q t => va_P D.1 vwCl (W1 q) t.heap ∧ va_D (va_A w0 sz) (W1 q)) (va_A w0 sz)
def vz_X (D : vz_G) (y : fv_Y) (d mc ms : Nat) (w0 : va_W) (W1 : (Nat → Nat) → va_W) (pc : Nat) (ls : List (Option Value)) (st : List Value) (ws : va_W) (n k : Nat) : Prop :=
  ∀ (p : Program) (l : Launch) (e : Env) (s : State) (m : MethodId) (args : Array Value) (below : List Frame) (meth : Method) (c : Code) (H : Heap) (locs : List Loc) (lsA : Array Slot),
    vz_Fix D y p s m args meth c → va_P D.1 vwCl ws H → va_D (va_A w0 s.heap.size) ws → va_S (va_A w0 s.heap.size) s.heap H locs → fv_L (vz_E D) lsA ls →
    W p l e (vz_rm d mc ms) s m args below meth c H locs n k (MQ below (vz_Q D w0 W1 s.heap.size) args s mc ms (va_A w0 s.heap.size)) (F0 m pc lsA (st.map (fv_cv (vz_E D))))
def vz_C (D : vz_G) (d mc ms : Nat) (y : fv_Y) (as : List Value) (w0 : va_W) (W1 : (Nat → Nat) → va_W) : Prop :=
  ∀ (l : Launch) (sz : Nat), Met l y.1 (fv_ws y) (vz_rm d mc ms) (va_Pc (as.map (fv_cv (vz_E D))) (fun U => U.heap.size = sz ∧ va_P D.1 vwCl w0 U.heap ∧ va_D (va_A w0 sz) w0 ∧ va_K D.1 vwCl (fv_tys (vz_E D)) U ∧ vz_N U)) (vz_Q D w0 W1 sz) mc ms (va_A w0 sz)
theorem vz_C.of {D : vz_G} {d mc ms : Nat} {y : fv_Y} {as : List Value} {w0 : va_W} {W1 : (Nat → Nat) → va_W} {ls : List (Option Value)} (hy : plainName y.1.cls = true) (hle : (fv_ent as).length ≤ y.2.2.1) (hls : fv_ent as ++ List.replicate (y.2.2.1 - (fv_ent as).length) none = ls) (h : vz_X D y d mc ms w0 W1 0 ls [] w0 0 0) : vz_C D d mc ms y as w0 W1 := by
  intro l sz
  refine Met.ofW (cc := y.2.1) (maxL := y.2.2.1) (ret := y.2.2.2) hy rfl ?_
  intro p e s m args' below meth c s₁ B hml hv
  obtain ⟨rfl, hsz, hP, hD, hK, hN⟩ := hv
  subst hsz
  have hts := atoms_spec (ws := fv_ws y) B.pre
  have hown : s.vm.findClass y.1.cls = some m.cls := findClass_of_methodNamed B.named
  have hle' : (lg_sl (as.map (fv_cv (vz_E D)))).length ≤ y.2.2.1 := by rw [fv_ent_len]; exact hle
  rw [lg_entry_eq]
  have hl := lv_entry (as.map (fv_cv (vz_E D))) (n := y.2.2.1) hle'
  refine h p l e s m _ below meth c s.heap [] _ ⟨B.exec, B.bytes, hml, hown, fun w hw => hts w (List.mem_cons_of_mem _ hw), B.notSynchronized, B.returns, hK, hN, (name_of_methodNamed B.named B.method).1⟩ hP hD va_S.rf ⟨?_, hl.2.1, ?_⟩
  · rw [hl.1, ← hls, List.length_append, List.length_replicate]; omega
  · intro i v hv
    rw [← hls] at hv
    by_cases hi : i < (fv_ent as).length
    · rw [List.getElem?_append_left hi] at hv
      have := fv_ent_at (vz_E D) as 0 i v hv
      rw [Nat.zero_add] at this
      exact hl.2.2 _ this
    · rw [List.getElem?_append_right (by omega)] at hv
      rw [List.getElem?_replicate] at hv
      split at hv <;> simp at hv
theorem vz_mid {ws : va_W} {x y : Nat × va_E} : (x :: (ws ++ [y]))[ws.length + 1]? = some y := by simp
theorem vz_rest (ws : va_W) (x : Nat × va_E) : (List.range ws.length).map (fun i => (ws ++ [x])[i]?) = ws.map some := by
  apply List.ext_getElem?
  intro i
  rw [List.getElem?_map, List.getElem?_map]
  by_cases h : i < ws.length
  · rw [List.getElem?_range h, List.getElem?_eq_getElem h]
    show some ((ws ++ [x])[i]?) = some (some _)
    rw [List.getElem?_append_left h, List.getElem?_eq_getElem h]
  · rw [List.getElem?_eq_none (by rw [List.length_range]; omega), List.getElem?_eq_none (by omega)]; rfl
theorem vz_ndl : ∀ l : List Nat, l.Nodup → va_nd l = true
  | [], _ => rfl
  | a :: l, h => by
    obtain ⟨h1, h2⟩ := List.nodup_cons.mp h
    unfold va_nd
    rw [vz_ndl l h2]
    simp [h1]
theorem vz_nd (n : Nat) : va_nd (List.range n) = true := vz_ndl _ List.nodup_range
/-- behind the call on the last cell -/
theorem vz_join {A0 : Nat → Prop} {D : va_G} {cl : List vw_C} {ws w1 : va_W} {x : Nat × va_E} {H H1 : Heap} (hP : va_P D cl (ws ++ [x]) H) (hD : va_D A0 (ws ++ [x])) (hk : ∀ q : Nat, q < H.size → ¬ va_A [x] H.size q → H1[q]? = H[q]?) (hF : ∀ q, va_A [x] H.size q → A0 q) (hP1 : va_P D cl w1 H1) (hD1 : va_D (va_A [x] H.size) w1) : va_P D cl (ws ++ w1) H1 ∧ va_D A0 (ws ++ w1) :=
  va_join (wc := [x]) (wr := ws) hP hD [ws.length] (List.range ws.length) (by simp) (vz_rest ws x) (vz_nd _) (fun i hi => by
    have := List.mem_range.mp hi
    intro h
    have := List.mem_singleton.mp h
    omega) hk hF hP1 hD1
section VZ
variable {D : vz_G} {y y' : fv_Y} {d mc ms : Nat} {w0 : va_W} {W1 : (Nat → Nat) → va_W} {pc n k : Nat} {ls : List (Option Value)} {st : List Value} {ws : va_W}
theorem vz_iconst {z : Int} {v : Int32} (hdg : decode y.2.1 pc = .ok (.iconst z, 1)) (hv : Int32.ofInt z = v) (kk : vz_X D y d mc ms w0 W1 (pc + 1) ls (.int v :: st) ws n k) : vz_X D y d mc ms w0 W1 pc ls st ws n k := by
  intro p l e s m args below meth c H locs lsA F hP hD hS hL
  exact lv_iconst F.1 F.2.1 hdg hv (kk p l e s m args below meth c H locs lsA F hP hD hS hL)
theorem vz_bipush {z : Int} {v : Int32} (hdg : decode y.2.1 pc = .ok (.bipush z, 2)) (hv : (Int8.ofInt z).toInt32 = v) (kk : vz_X D y d mc ms w0 W1 (pc + 2) ls (.int v :: st) ws n k) : vz_X D y d mc ms w0 W1 pc ls st ws n k := by
  intro p l e s m args below meth c H locs lsA F hP hD hS hL
  exact lv_bipush F.1 F.2.1 hdg hv (kk p l e s m args below meth c H locs lsA F hP hD hS hL)
theorem vz_sipush {z : Int} {v : Int32} (hdg : decode y.2.1 pc = .ok (.sipush z, 3)) (hv : (Int16.ofInt z).toInt32 = v) (kk : vz_X D y d mc ms w0 W1 (pc + 3) ls (.int v :: st) ws n k) : vz_X D y d mc ms w0 W1 pc ls st ws n k := by
  intro p l e s m args below meth c H locs lsA F hP hD hS hL
  exact lv_sipush F.1 F.2.1 hdg hv (kk p l e s m args below meth c H locs lsA F hP hD hS hL)
theorem vz_iload_n {j : Fin 4} {i : Nat} {x : Int32} (hdg : decode y.2.1 pc = .ok (.iload_n j, 1)) (hi : (j : Nat) = i) (hl : ls[i]? = some (some (.int x))) (kk : vz_X D y d mc ms w0 W1 (pc + 1) ls (.int x :: st) ws n k) : vz_X D y d mc ms w0 W1 pc ls st ws n k := by
  intro p l e s m args below meth c H locs lsA F hP hD hS hL
  exact lv_iload_n F.1 F.2.1 hdg hi (hL.2.2 _ _ hl) (kk p l e s m args below meth c H locs lsA F hP hD hS hL)
theorem vz_aload_n {j : Fin 4} {i : Nat} {x : Nat} (hdg : decode y.2.1 pc = .ok (.aload_n j, 1)) (hi : (j : Nat) = i) (hl : ls[i]? = some (some (.ref x))) (kk : vz_X D y d mc ms w0 W1 (pc + 1) ls (.ref x :: st) ws n k) : vz_X D y d mc ms w0 W1 pc ls st ws n k := by
  intro p l e s m args below meth c H locs lsA F hP hD hS hL
  exact lv_aload_n F.1 F.2.1 hdg hi (hL.2.2 _ _ hl) (kk p l e s m args below meth c H locs lsA F hP hD hS hL)
theorem vz_istore1 {v0 v1 : Option Value} {x : Int32} (hdg : decode y.2.1 pc = .ok (.istore_n 1, 1)) (hc : fv_c1 v0 = true) (kk : vz_X D y d mc ms w0 W1 (pc + 1) [v0, some (.int x)] st ws n k) : vz_X D y d mc ms w0 W1 pc [v0, v1] (.int x :: st) ws n k := by
  intro p l e s m args below meth c H locs lsA F hP hD hS hL
  exact lv_istore_n F.1 F.2.1 hdg rfl hL.has (by show 1 < 2; decide) rfl (fun ls2 h2 => kk p l e s m args below meth c H locs ls2 F hP hD hS (fv_L.st1 (ls := [v0, v1]) (i := 1) (v := .int x) rfl (fun o _ h => by cases h; exact hc) h2))
theorem vz_iinc1 {v0 : Option Value} {z : Int} {x v : Int32} (hdg : decode y.2.1 pc = .ok (.iinc 1 z, 3)) (hv : x + Int32.ofInt z = v) (hc : fv_c1 v0 = true) (kk : vz_X D y d mc ms w0 W1 (pc + 3) [v0, some (.int v)] st ws n k) : vz_X D y d mc ms w0 W1 pc [v0, some (.int x)] st ws n k := by
  intro p l e s m args below meth c H locs lsA F hP hD hS hL
  have hm : (1, Value.int x) ∈ fv_lv (vz_E D) [v0, some (.int x)] := fv_lv_mem.mpr ⟨.int x, rfl, rfl⟩
  obtain ⟨q, hk⟩ := List.getElem?_of_mem hm
  exact lv_iinc F.1 F.2.1 hdg hL.has hk hv (by show 1 < 2; decide) rfl (fun ls2 h2 => kk p l e s m args below meth c H locs ls2 F hP hD hS (fv_L.st1 (ls := [v0, some (.int x)]) (i := 1) (v := .int v) rfl (fun o _ h => by cases h; exact hc) h2))
theorem vz_goto {off : Int} {tgt : Nat} (hdg : decode y.2.1 pc = .ok (.goto off, 3)) (ht : (pc : Int) + off = (tgt : Int)) (kk : vz_X D y d mc ms w0 W1 tgt ls st ws n k) : vz_X D y d mc ms w0 W1 pc ls st ws n k := by
  intro p l e s m args below meth c H locs lsA F hP hD hS hL
  exact lv_goto F.1 F.2.1 hdg ht (kk p l e s m args below meth c H locs lsA F hP hD hS hL)
theorem vz_icmp_ge {a b : Int32} {off : Int} {tgt : Nat} (hdg : decode y.2.1 pc = .ok (.if_icmp .ge off, 3)) (ht : (pc : Int) + off = (tgt : Int)) (kt : b ≤ a → vz_X D y d mc ms w0 W1 tgt ls st ws n k) (kf : ¬ b ≤ a → vz_X D y d mc ms w0 W1 (pc + 3) ls st ws n k) : vz_X D y d mc ms w0 W1 pc ls (.int b :: .int a :: st) ws n k := by
  intro p l e s m args below meth c H locs lsA F hP hD hS hL
  exact lv_icmp_ge F.1 F.2.1 hdg ht (fun h => kt h p l e s m args below meth c H locs lsA F hP hD hS hL) (fun h => kf h p l e s m args below meth c H locs lsA F hP hD hS hL)
theorem vz_iadd {a b : Int32} (hdg : decode y.2.1 pc = .ok (.iadd, 1)) (kk : vz_X D y d mc ms w0 W1 (pc + 1) ls (.int (a + b) :: st) ws n k) : vz_X D y d mc ms w0 W1 pc ls (.int b :: .int a :: st) ws n k := by
  intro p l e s m args below meth c H locs lsA F hP hD hS hL
  exact lv_iadd F.1 F.2.1 hdg (kk p l e s m args below meth c H locs lsA F hP hD hS hL)
theorem vz_dup {a : Nat} (hdg : decode y.2.1 pc = .ok (.dup, 1)) (kk : vz_X D y d mc ms w0 W1 (pc + 1) ls (.ref a :: .ref a :: st) ws n k) : vz_X D y d mc ms w0 W1 pc ls (.ref a :: st) ws n k := by
  intro p l e s m args below meth c H locs lsA F hP hD hS hL
  exact lv_dup F.1 F.2.1 hdg rfl (kk p l e s m args below meth c H locs lsA F hP hD hS hL)
theorem vz_object {idx a : Nat} (h1 : Cond.methodLink y.1.cls idx objectInit ∈ fv_g) (h2 : Cond.instanceMethod objectInit ∈ fv_g) (h3 : Cond.code objectInit ⟨#[0xb1]⟩ 1 none ∈ fv_g) (hlen : ls.length = y.2.2.1) (hdg : decode y.2.1 pc = .ok (.invokespecial idx, 3)) (kk : vz_X D y (d + 1) mc ms w0 W1 (pc + 3) ls [] ws n k) : vz_X D y (d + 1) mc ms w0 W1 pc ls [.ref a] ws n k := by
  intro p l e s m args below meth c H locs lsA F hP hD hS hL
  refine W.objInit (a := a) (rest := []) F.1 F.2.1 F.2.2.2.1 (F.2.2.2.2.1 _ h1) (F.2.2.2.2.1 _ h2) (F.2.2.2.2.1 _ h3) rfl ((hL.1.trans hlen).trans F.2.2.1.symm) rfl hdg (by show 1 ≤ d + 1; omega) (by show 0 + 12 ≤ 38 * (d + 1); omega) ?_
  exact kk p l e s m args below meth c H locs lsA F hP hD hS hL
theorem vz_put {ty : FieldType} {fin : Bool} {idx ci j a : Nat} {fs : List Value} {v : Value} (hf : fv_fl y.1.cls idx ci j ty fin) (hdecl : ∀ q, vwCl[ci]? = some q → (q.2.1 j).1 = y.1.cls) (hin : y.1.name = "<init>") (hdg : decode y.2.1 pc = .ok (.putfield idx, 3)) (hnar : narrow ty v = v) (hfit : fits ty v = true) (hl : j < fs.length) (hcv : fv_cv (vz_E D) v = v) (kk : vz_X D y d mc ms w0 W1 (pc + 3) ls st ((a, .inr (ci, fs.set j v)) :: ws) n k) : vz_X D y d mc ms w0 W1 pc ls (v :: .ref a :: st) ((a, .inr (ci, fs)) :: ws) n k := by
  intro p l e s m args below meth c H locs lsA F hP hD hS hL
  obtain ⟨q, h1, h2, h3, h4, h5⟩ := hf
  obtain ⟨ty0, t1, t2⟩ := fv_ft h1
  have hde := hdecl q h1
  obtain ⟨C, T, N⟩ := q
  show W _ _ _ _ _ _ _ _ _ _ _ _ _ _ _ (F0 m pc lsA (fv_cv (vz_E D) v :: .ref a :: st.map (fv_cv (vz_E D))))
  rw [hcv]
  cases fin with
  | true => exact va_putF F.1 F.2.1 F.2.2.2.2.1 (fv_uw h1) ty0 t1 t2 F.2.2.2.1 F.2.2.2.2.2.2.2.1 hP hD hS 0 rfl h1 j h2 (F.2.2.2.2.1 _ h3) (fun _ h => h) h5 (F.2.2.2.2.2.2.2.2.2.trans hin) hde h4 hnar hfit hl hdg (fun H1 locs1 hP1 hD1 hS1 => kk p l e s m args below meth c H1 locs1 lsA F hP1 hD1 hS1 hL)
  | false => exact va_put F.1 F.2.1 F.2.2.2.2.1 (fv_uw h1) ty0 t1 t2 F.2.2.2.1 F.2.2.2.2.2.2.2.1 hP hD hS 0 rfl h1 j h2 (F.2.2.2.2.1 _ h3) (fun _ h => h) h5 h4 hnar hfit hl hdg (fun H1 locs1 hP1 hD1 hS1 => kk p l e s m args below meth c H1 locs1 lsA F hP1 hD1 hS1 hL)
theorem vz_geta {ty : FieldType} {fin : Bool} {idx ci j a b : Nat} {fs : List Value} (hf : fv_fl y.1.cls idx ci j ty fin) (hdg : decode y.2.1 pc = .ok (.getfield idx, 3)) (hv : fs[j]? = some (.ref b)) (kk : vz_X D y d mc ms w0 W1 (pc + 3) ls (.ref b :: st) ((a, .inr (ci, fs)) :: ws) n k) : vz_X D y d mc ms w0 W1 pc ls (.ref a :: st) ((a, .inr (ci, fs)) :: ws) n k := by
  intro p l e s m args below meth c H locs lsA F hP hD hS hL
  obtain ⟨q, h1, h2, h3, -, -⟩ := hf
  obtain ⟨C, T, N⟩ := q
  exact va_get F.1 F.2.1 F.2.2.2.2.1 (fv_uw h1) F.2.2.2.1 F.2.2.2.2.2.2.2.1 hP 0 rfl h1 j h2 (F.2.2.2.2.1 _ h3) (fun _ h => h) (v := .ref b) hv hdg (kk p l e s m args below meth c H locs lsA F hP hD hS hL)
theorem vz_up {w0 : va_W} {s : State} : ∀ q : Nat, s.heap.size ≤ q → va_A w0 s.heap.size q := fun _ h => Or.inr h
theorem vz_newi {N : Nat} {z : Int32} (h1 : Cond.arrayClass .int ∈ fv_g) (hdg : decode y.2.1 pc = .ok (.newarray .int, 2)) (hz : z = nI N) (hN : N < 1000) (hc : n + 1 ≤ mc) (hs : k + N ≤ ms) (kk : ∀ q : Nat, vz_X D y d mc ms w0 W1 (pc + 2) ls (.ref q :: st) (ws ++ [(q, .inl (D.2 0, N, .inl (fun _ => 0)))]) (n + 1) (k + N)) : vz_X D y d mc ms w0 W1 pc ls (.int z :: st) ws n k := by
  intro p l e s m args below meth c H locs lsA F hP hD hS hL
  subst hz
  have hK := F.2.2.2.2.2.2.2.1
  refine va_newa (atype := .int) (ty := .int) (a0 := (N, .inl (fun _ => 0))) F.1 F.2.1 (F.2.2.2.2.1 _ h1) rfl hK hP hD hS vz_up (fun _ => rfl) (nI_pos (by omega)) (nI_clamp (by omega)) (by show N * 4 ≤ 536870912; omega) hc hs hdg (fun q cA H1 hK1 hP1 hD1 hS1 => ?_)
  have e0 : va_RA s (D.2 0) .int := (hK.2 0 _ rfl).2
  have e1 : va_RA s cA .int := (hK1.2 5 _ rfl).2
  have e : cA = D.2 0 := Option.some.inj ((show s.vm.findClass _ = some cA from e1).symm.trans (show s.vm.findClass _ = some (D.2 0) from e0))
  subst e
  exact kk q p l e s m args below meth c H1 locs lsA F hP1 hD1 hS1 hL
theorem vz_newc {N : Nat} {z : Int32} (h1 : Cond.arrayClass .char ∈ fv_g) (hdg : decode y.2.1 pc = .ok (.newarray .char, 2)) (hz : z = nI N) (hN : N < 1000) (hc : n + 1 ≤ mc) (hs : k + N ≤ ms) (kk : ∀ q : Nat, vz_X D y d mc ms w0 W1 (pc + 2) ls (.ref q :: st) (ws ++ [(q, .inl (D.2 1, N, .inl (fun _ => 0)))]) (n + 1) (k + N)) : vz_X D y d mc ms w0 W1 pc ls (.int z :: st) ws n k := by
  intro p l e s m args below meth c H locs lsA F hP hD hS hL
  subst hz
  have hK := F.2.2.2.2.2.2.2.1
  refine va_newa (atype := .char) (ty := .char) (a0 := (N, .inl (fun _ => 0))) F.1 F.2.1 (F.2.2.2.2.1 _ h1) rfl hK hP hD hS vz_up (fun _ => rfl) (nI_pos (by omega)) (nI_clamp (by omega)) (by show N * 2 ≤ 536870912; omega) hc hs hdg (fun q cA H1 hK1 hP1 hD1 hS1 => ?_)
  have e0 : va_RA s (D.2 1) .char := (hK.2 1 _ rfl).2
  have e1 : va_RA s cA .char := (hK1.2 5 _ rfl).2
  have e : cA = D.2 1 := Option.some.inj ((show s.vm.findClass _ = some cA from e1).symm.trans (show s.vm.findClass _ = some (D.2 1) from e0))
  subst e
  exact kk q p l e s m args below meth c H1 locs lsA F hP1 hD1 hS1 hL
theorem vz_newq {N idx t0 : Nat} {C : String} {z : Int32} (ht : (fv_tys (vz_E D))[t0]? = some (D.2 t0, .object C)) (h1 : Cond.classLink y.1.cls idx C ∈ fv_g) (h2 : ∀ s : State, vz_N s → va_AO C s) (hdg : decode y.2.1 pc = .ok (.anewarray idx, 3)) (hz : z = nI N) (hN : N < 1000) (hc : n + 1 ≤ mc) (hs : k + N ≤ ms) (kk : ∀ q : Nat, vz_X D y d mc ms w0 W1 (pc + 3) ls (.ref q :: st) (ws ++ [(q, .inl (D.2 t0, N, .inr (.inr (.inr (.inr (fun _ => none))))))]) (n + 1) (k + N)) : vz_X D y d mc ms w0 W1 pc ls (.int z :: st) ws n k := by
  intro p l e s m args below meth c H locs lsA F hP hD hS hL
  subst hz
  have hK := F.2.2.2.2.2.2.2.1
  refine va_newq F.1 F.2.1 F.2.2.2.1 (F.2.2.2.2.1 _ h1) (h2 s F.2.2.2.2.2.2.2.2.1) hK hP hD hS vz_up (nI_pos (by omega)) (nI_clamp (by omega)) (by omega) hc hs hdg (fun q cA H1 hK1 hP1 hD1 hS1 => ?_)
  obtain ⟨-, -, -, -, -, e0⟩ := (show va_RA s (D.2 t0) (.object C) from (hK.2 t0 _ ht).2)
  obtain ⟨-, -, -, -, -, e1⟩ := (show va_RA s cA (.object C) from (hK1.2 5 _ rfl).2)
  have e : cA = D.2 t0 := Option.some.inj (e1.symm.trans e0)
  subst e
  exact kk q p l e s m args below meth c H1 locs lsA F hP1 hD1 hS1 hL
theorem vz_new {ci idx : Nat} {q0 : vw_C} {fs : List Value} (hq : vwCl[ci]? = some q0) (hfs : ∀ ty0 : Nat → FieldType, (∀ j, j < q0.2.2 → parseFieldDescriptor (q0.2.1 j).2.2.1 = some (ty0 j)) → ∀ j, j < q0.2.2 → defaultValue (ty0 j) = vp_V fs j) (h1 : Cond.classLink y.1.cls idx q0.1 ∈ fv_g) (h2 : Cond.instantiable q0.1 q0.2.2 ∈ fv_g) (h3 : Cond.initialized q0.1 ∈ fv_g) (hdg : decode y.2.1 pc = .ok (.new idx, 3)) (hc : n + 1 ≤ mc) (hs : k + q0.2.2 ≤ ms) (kk : ∀ q : Nat, vz_X D y d mc ms w0 W1 (pc + 3) ls (.ref q :: st) (ws ++ [(q, .inr (ci, fs))]) (n + 1) (k + q0.2.2)) : vz_X D y d mc ms w0 W1 pc ls st ws n k := by
  intro p l e s m args below meth c H locs lsA F hP hD hS hL
  obtain ⟨ty0, t1, t2⟩ := fv_ft hq
  have hd := hfs ty0 t1
  obtain ⟨C, T, N⟩ := q0
  exact va_new F.1 F.2.1 F.2.2.2.2.1 (fv_uw hq) ty0 t1 F.2.2.2.1 (F.2.2.2.2.1 _ h1) (F.2.2.2.2.1 _ h2) (F.2.2.2.2.1 _ h3) F.2.2.2.2.2.2.2.1 hP hD hS vz_up hq hd hc hs hdg (fun q H1 hP1 hD1 hS1 => kk q p l e s m args below meth c H1 locs lsA F hP1 hD1 hS1 hL)
theorem vz_ret (q : Nat → Nat) (hdg : decode y.2.1 pc = .ok (.return_, 1)) (hr : y.2.2.2 = none) (hn : n ≤ mc) (hk : k ≤ ms) (h : W1 q = ws) : vz_X D y d mc ms w0 W1 pc ls [] ws n k := by
  intro p l e s m args below meth c H locs lsA F hP hD hS hL
  subst h
  exact W.widen hn hk (W.vret F.1 F.2.1 (F.2.2.2.2.2.2.1.trans hr) (fun t ht hW => ⟨⟨q, rfl, trivial, by rw [ht]; exact hP, hD⟩, hS.F ht⟩) hS.2.2 hdg F.2.2.2.2.2.1)
theorem vz_pre {as : List Value} {x : Nat × va_E} {s : State} {H : Heap} (hK : va_K D.1 vwCl (fv_tys (vz_E D)) s) (hN : vz_N s) (hP : va_P D.1 vwCl [x] H) (hD : va_D (va_A [x] H.size) [x]) : PreS s H (va_Pc (as.map (fv_cv (vz_E D))) (fun U => U.heap.size = H.size ∧ va_P D.1 vwCl [x] U.heap ∧ va_D (va_A [x] H.size) [x] ∧ va_K D.1 vwCl (fv_tys (vz_E D)) U ∧ vz_N U)) (as.map (fv_cv (vz_E D))) :=
  ⟨fun a U g mk q => ⟨q.1, q.2.1, q.2.2.1, q.2.2.2.1, va_K.moved (u := U) (U := U.calling g mk a) (Vm.Alike.refl U.vm) q.2.2.2.2.1, q.2.2.2.2.2.warm (U := U.calling g mk a) (State.WarmedH.refl U)⟩, fun U hU hW => ⟨rfl, by rw [hU], by rw [hU]; exact hP, hD, va_K.moved hW.alike hK, hN.warm hW⟩⟩
theorem vz_init {ci idx b mc' ms' d' : Nat} {fs : List Value} {w1 : (Nat → Nat) → va_W} (hC : vz_C D d' mc' ms' y' [.ref b] [(b, .inr (ci, fs))] w1) (h1 : Cond.methodLink y.1.cls idx y'.1 ∈ fv_g) (h2 : Cond.instanceMethod y'.1 ∈ fv_g) (h3 : Cond.initialized y'.1.cls ∈ fv_g) (h4 : Cond.code y'.1 y'.2.1 y'.2.2.1 none ∈ fv_g) (hret : y'.2.2.2 = none) (hin : y'.1.name = "<init>") (hd : y'.1.cls ≠ "java/lang/invoke/MethodHandle" ∧ y'.1.cls ≠ "java/lang/invoke/VarHandle" ∧ (parseMethodDescriptor y'.1.desc).map (fun d => d.parameters.length) = some 0) (hml : y'.2.2.1 ≤ 19) (hdd : d' ≤ d) (hlen : ls.length = y.2.2.1) (hroom : (st.map fun v => v.category).sum ≤ 8) (hdg : decode y.2.1 pc = .ok (.invokespecial idx, 3)) (hc : n + mc' ≤ mc) (hs : k + ms' ≤ ms)
    (kk : ∀ q : Nat → Nat, vz_X D y (d + 1) mc ms w0 W1 (pc + 3) ls st (ws ++ w1 q) (n + mc') (k + ms')) : vz_X D y (d + 1) mc ms w0 W1 pc ls (.ref b :: st) (ws ++ [(b, .inr (ci, fs))]) n k := by
  intro p l e s m args below meth c H locs lsA F hP hD hS hL
  obtain ⟨hx, hb, hml0, hown, hts, hlk, hretc, hK, hN, hnm⟩ := id F
  have hP1 : va_P D.1 vwCl [(b, .inr (ci, fs))] H := hP.sub (ws' := [(b, .inr (ci, fs))]) [ws.length] (by simp)
  have hD1 : va_D (va_A [(b, .inr (ci, fs))] H.size) [(b, .inr (ci, fs))] := (hD.sub (ws' := [(b, .inr (ci, fs))]) [ws.length] rfl (by simp)).self
  have hF := va_free (wc := [(b, .inr (ci, fs))]) hD hS vz_up [ws.length] (by simp)
  have hr := va_runI (As := []) (rest := st.map (fv_cv (vz_E D))) (b := b) (g := F0 m pc lsA (.ref b :: st.map (fv_cv (vz_E D)))) (below := below) (e := e) (meth := meth) (locs := locs) (cells := n) (slots := k) ⟨hx, hb, hml0, hown, hts⟩ (hC l H.size)
    (cwI 0 hts (fv_good (y := y') (by rw [hret]; exact h4)) (by show fv_ws y' = _; unfold fv_ws; rw [hret]) rfl rfl (hts _ h3) (hts _ h1) (hts _ h2) hin hd (R := vz_rm (d + 1) mc ms) ⟨by show d' + 1 ≤ d + 1; omega, by show 8 + (y'.2.2.1 + 11) + 38 * d' ≤ 38 * (d + 1); omega⟩)
    (vz_pre (as := [.ref b]) hK hN hP1 hD1) rfl rfl (hL.1.trans hlen) rfl (lv_room (by rw [fv_sum]; exact hroom)) hdg ⟨hc, hs⟩
  refine va_callv hr hS (fun q _ h => hF q h) hF (fun u t H1 locs1 ht hvm hw hB hz1 hk1 hS1 => ?_)
  obtain ⟨hP2, hD2⟩ := hB
  rw [ht] at hP2
  obtain ⟨hP3, hD3⟩ := vz_join hP hD hk1 hF hP2 hD2
  exact kk u p l e s m args below meth c H1 locs1 lsA F hP3 hD3 hS1 hL
theorem vz_initN {ci idx b mc' ms' d' : Nat} {fs : List Value} {w1 : (Nat → Nat) → va_W} (hC : vz_C D d' mc' ms' y' [.ref b] [(b, .inr (ci, fs))] w1) (h1 : (y.1.cls, idx, y'.1) ∈ fv_nm) (h2 : Cond.instanceMethod y'.1 ∈ fv_g) (h3 : Cond.initialized y'.1.cls ∈ fv_g) (h4 : Cond.code y'.1 y'.2.1 y'.2.2.1 none ∈ fv_g) (hret : y'.2.2.2 = none) (hin : y'.1.name = "<init>") (hd : y'.1.cls ≠ "java/lang/invoke/MethodHandle" ∧ y'.1.cls ≠ "java/lang/invoke/VarHandle" ∧ (parseMethodDescriptor y'.1.desc).map (fun d => d.parameters.length) = some 0) (hml : y'.2.2.1 ≤ 19) (hdd : d' ≤ d) (hlen : ls.length = y.2.2.1) (hroom : (st.map fun v => v.category).sum ≤ 8) (hdg : decode y.2.1 pc = .ok (.invokespecial idx, 3)) (hc : n + mc' ≤ mc) (hs : k + ms' ≤ ms)
    (kk : ∀ q : Nat → Nat, vz_X D y (d + 1) mc ms w0 W1 (pc + 3) ls st (ws ++ w1 q) (n + mc') (k + ms')) : vz_X D y (d + 1) mc ms w0 W1 pc ls (.ref b :: st) (ws ++ [(b, .inr (ci, fs))]) n k := by
  intro p l e s m args below meth c H locs lsA F hP hD hS hL
  obtain ⟨hx, hb, hml0, hown, hts, hlk, hretc, hK, hN, hnm⟩ := id F
  have hP1 : va_P D.1 vwCl [(b, .inr (ci, fs))] H := hP.sub (ws' := [(b, .inr (ci, fs))]) [ws.length] (by simp)
  have hD1 : va_D (va_A [(b, .inr (ci, fs))] H.size) [(b, .inr (ci, fs))] := (hD.sub (ws' := [(b, .inr (ci, fs))]) [ws.length] rfl (by simp)).self
  have hF := va_free (wc := [(b, .inr (ci, fs))]) hD hS vz_up [ws.length] (by simp)
  have hr := va_runIN (As := []) (rest := st.map (fv_cv (vz_E D))) (b := b) (g := F0 m pc lsA (.ref b :: st.map (fv_cv (vz_E D)))) (below := below) (e := e) (meth := meth) (locs := locs) (cells := n) (slots := k) ⟨hx, hb, hml0, hown, hts⟩ (hC l H.size)
    ⟨va_cnB 0 hts (fv_good (y := y') (by rw [hret]; exact h4)) (by show fv_ws y' = _; unfold fv_ws; rw [hret]) rfl rfl (hN.1 _ h1) (hts _ h3) hd (R := vz_rm (d + 1) mc ms) ⟨by show d' + 1 ≤ d + 1; omega, by show 8 + (y'.2.2.1 + 11) + 38 * d' ≤ 38 * (d + 1); omega⟩, hin, hts _ h2⟩
    (vz_pre (as := [.ref b]) hK hN hP1 hD1) rfl rfl (hL.1.trans hlen) rfl (lv_room (by rw [fv_sum]; exact hroom)) hdg ⟨hc, hs⟩
  refine va_callv hr hS (fun q _ h => hF q h) hF (fun u t H1 locs1 ht hvm hw hB hz1 hk1 hS1 => ?_)
  obtain ⟨hP2, hD2⟩ := hB
  rw [ht] at hP2
  obtain ⟨hP3, hD3⟩ := vz_join hP hD hk1 hF hP2 hD2
  exact kk u p l e s m args below meth c H1 locs1 lsA F hP3 hD3 hS1 hL
theorem vz_ast {r a N c t0 : Nat} {f : Nat → Int32} {i x : Int32} (ha : ws[r]? = some (a, .inl (D.2 t0, N, .inl f))) (ht : (fv_tys (vz_E D))[t0]? = some (D.2 t0, .int)) (hi : i = nI c) (hc : c < N) (hN : N ≤ 1000) (hdg : decode y.2.1 pc = .ok (.iastore, 1)) (kk : vz_X D y d mc ms w0 W1 (pc + 1) ls st (ws.set r (a, .inl (D.2 t0, N, .inl (upd f c x)))) n k) : vz_X D y d mc ms w0 W1 pc ls (.int x :: .int i :: .ref a :: st) ws n k := by
  intro p l e s m args below meth c' H locs lsA F hP hD hS hL
  subst hi
  refine va_iast F.1 F.2.1 F.2.2.2.2.2.2.2.1 hP hD hS r t0 ha ht (nI_in hc (by omega)) hdg (fun H1 locs1 hP1 hD1 hS1 => ?_)
  rw [fv_nIc hc hN] at hP1 hD1
  exact kk p l e s m args below meth c' H1 locs1 lsA F hP1 hD1 hS1 hL
/-- a row of letters that is made: the last cell -/
def vz_l (l : List Int32) : Nat → Int32 := fun c => l.getD c 0
theorem vz_l_set {l : List Int32} {c : Nat} {x : Int32} (h : c < l.length) : upd (vz_l l) c x = vz_l (l.set c x) := by
  funext j
  unfold upd vz_l
  by_cases e : j = c
  · subst e
    rw [if_pos rfl, List.getD_eq_getElem?_getD, List.getElem?_set_self h]; rfl
  · rw [if_neg e, List.getD_eq_getElem?_getD, List.getD_eq_getElem?_getD, List.getElem?_set_ne (Ne.symm e)]
theorem vz_l_0 (N : Nat) : (fun _ => 0) = vz_l (List.replicate N 0) := by
  funext j
  unfold vz_l
  rw [List.getD_eq_getElem?_getD, List.getElem?_replicate]
  split <;> rfl
theorem vz_cast {a N c : Nat} {l : List Int32} {z : Nat × va_E} {i x : Int32} (hi : i = nI c) (hc : c < N) (hN : N ≤ 1000) (hl : l.length = N) (hx : vp_nar .char x = x) (hdg : decode y.2.1 pc = .ok (.castore, 1)) (kk : vz_X D y d mc ms w0 W1 (pc + 1) ls st (z :: (ws ++ [(a, .inl (D.2 1, N, .inl (vz_l (l.set c x))))])) n k) : vz_X D y d mc ms w0 W1 pc ls (.int x :: .int i :: .ref a :: st) (z :: (ws ++ [(a, .inl (D.2 1, N, .inl (vz_l l)))])) n k := by
  intro p l' e s m args below meth c' H locs lsA F hP hD hS hL
  subst hi
  refine va_cast F.1 F.2.1 F.2.2.2.2.2.2.2.1 hP hD hS (ws.length + 1) 1 vz_mid rfl (nI_in hc (by omega)) hdg (fun H1 locs1 hP1 hD1 hS1 => ?_)
  rw [fv_nIc hc hN, hx, vz_l_set (by rw [hl]; exact hc), show (z :: (ws ++ [(a, .inl (D.2 1, N, .inl (vz_l l)))])).set (ws.length + 1) (a, .inl (D.2 1, N, .inl (vz_l (l.set c x)))) = z :: (ws ++ [(a, .inl (D.2 1, N, .inl (vz_l (l.set c x))))]) from by simp] at hP1 hD1
  exact kk p l' e s m args below meth c' H1 locs1 lsA F hP1 hD1 hS1 hL
theorem vz_astq {r qk t0 a v N c ci : Nat} {f : Nat → Option Nat} {q0 : vw_C} {vs : List Value} {i : Int32} (ha : ws[r]? = some (a, .inl (D.2 t0, N, .inr (.inr (.inr (.inr f)))))) (ht : (fv_tys (vz_E D))[t0]? = some (D.2 t0, .object q0.1)) (hv : ws[qk]? = some (v, .inr (ci, vs))) (hq : vwCl[ci]? = some q0) (hi : i = nI c) (hc : c < N) (hN : N ≤ 1000) (hdg : decode y.2.1 pc = .ok (.aastore, 1)) (kk : vz_X D y d mc ms w0 W1 (pc + 1) ls st (ws.set r (a, .inl (D.2 t0, N, .inr (.inr (.inr (.inr (va_up f c (some v)))))))) n k) : vz_X D y d mc ms w0 W1 pc ls (.ref v :: .int i :: .ref a :: st) ws n k := by
  intro p l e s m args below meth c' H locs lsA F hP hD hS hL
  subst hi
  refine va_astq F.1 F.2.1 F.2.2.2.2.2.2.2.1 hP hD hS r t0 qk ci ha ht hv hq (nI_in hc (by omega)) hdg (fun H1 locs1 hP1 hD1 hS1 => ?_)
  rw [fv_nIc hc hN] at hP1 hD1
  exact kk p l e s m args below meth c' H1 locs1 lsA F hP1 hD1 hS1 hL
end VZ
