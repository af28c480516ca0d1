/-! THE CLAIM OUT OF ONE WALK OF THE LAW'S BODY. Your part is whole_start (and what it stands on); all else here is the same for every law, but numbers. -/
def R_law : String := "FeatherVotesLaw"
def lw_P (b : Addr) (xs : List Int32) (args : Array Value) (s : State) : Prop := args = #[.ref b] ∧ s.IntsAt b xs ∧ xs.length ≤ 3072 ∧ (Jvm.Cond.and given_1 narrow_1).before args s = true
def lw_Q (_ : Array Value) (s : State) (o : Outcome) (t : State) : Prop := o = .returned (some (.int 1)) ∧ Framed s o t [] 600000 7302250
def lw_Z (below : List Frame) (a : Array Value) (s : State) : State → Prop := fun t => ∃ o, t.status = .running ∧ Ended t below o ∧ lw_Q a s o t
/-- the law's own end, with 1 on the stack, nothing written that was there before, its room as the claim has it -/
theorem lw_ret {p : Program} {l : Launch} {e : Env} {s : State} {m : MethodId} {below : List Frame} {meth : Method} {c : Code} {b : Nat} (hx : p.tables.exec = Jvm.exec) (hb : c.code = code) (hr : meth.sig.returnType = ret) (hlocks : meth.locks = false) {pc : Nat} {H : Heap} {ls : Array Slot} (hdg : decode code pc = .ok (.ireturn, 1)) : W p l e room_1 s m #[Value.ref b] below meth c H [] 600000 7302250 (lw_Z below #[Value.ref b] s) (F0 m pc ls [.int 1]) := by
  intro T hT X
  obtain ⟨fs, hret, hrun, hended, hW, hframe⟩ := X.leave (v := some (.int 1)) (hlocks := hlocks) (fun h => by rw [hr] at h; cases h)
  have hmeth' : T.vm.method? m = some meth := X.method'
  refine ⟨T.setFrames fs, ?_, .returned (some (.int 1)), hrun, hended, rfl, ⟨_, rfl⟩, hW, hframe⟩
  jvm_step X.here [X.here.top, hx, hb, hdg, hmeth', hr, ret, narrow_b1]
  (try refine ⟨rfl, ?_⟩); (try refine ⟨rfl, ?_⟩)
  first | (intro acts; rw [hret _ acts rfl rfl rfl]) | rw [hret _ _ rfl rfl rfl]
  exact Steps.refl _
/-- what holds at the law's entry: the machine, the code, the tables' words (any of lw_tbl by 'hts w (by decide +kernel)'), the script of L ints xs at the cell b, what the Statement gives of the start (any of its parts by flat_of_before) -/
def lw_At (p : Program) (s : State) (m : MethodId) (meth : Method) (c : Code) (b L : Nat) (xs : Nat → Int32) : Prop :=
  p.tables.exec = Jvm.exec ∧ c.code = code ∧ meth.sig.returnType = ret ∧ c.maxLocals = 4 ∧ s.vm.findClass R_law = some m.cls ∧ (∀ w ∈ lw_tbl, w.before #[Value.ref b] s = true) ∧ va_X b L xs s s.heap ∧ b < s.heap.size ∧ meth.locks = false ∧ (Jvm.Cond.and given_1 narrow_1).before #[Value.ref b] s = true
def vl_Fx (E : fv_E) (p : Program) (s : State) (m : MethodId) (meth : Method) (c : Code) (b L : Nat) (xs : Nat → Int32) : Prop := lw_At p s m meth c b L xs ∧ fv_SF E s ∧ E.1 = s.heap.size ∧ E.2.1 3000 = b ∧ L ≤ 3072
def vl_X (E : fv_E) (p : Program) (l : Launch) (e : Env) (s : State) (m : MethodId) (below : List Frame) (meth : Method) (c : Code) (b : Nat) (pc : Nat) (ls : List (Option Value)) (st : List Value) (M : fv_M) : Prop :=
  ∀ (H : Heap) (locs : List Loc) (lsA : Array Slot), va_P E.2.2.1 vwCl (fv_W E M) H → va_S (fv_A E) s.heap H locs → fv_L E lsA ls → W p l e room_1 s m #[Value.ref b] below meth c H locs 123 2000 (lw_Z below #[Value.ref b] s) (F0 m pc lsA (st.map (fv_cv E)))
abbrev vl_l (i : Nat) : List (Option Value) := [some (.ref 3000), some (.ref 0), some (.ref 106), some (.int (nI i))]
section VL
variable {E : fv_E} {p : Program} {l : Launch} {e : Env} {s : State} {m : MethodId} {below : List Frame} {meth : Method} {c : Code} {b L : Nat} {xs : Nat → Int32} {pc i j n : Nat} {ls : List (Option Value)} {st rest : List Value} {M : fv_M}
theorem vl_out (F : vl_Fx E p s m meth c b L xs) : ¬ fv_A E b := by
  have h := F.1.2.2.2.2.2.2.2.1
  have h2 := F.2.2.1
  unfold fv_A
  omega
theorem vl_fetch (F : vl_Fx E p s m meth c b L xs) {z : Int} (d0 : decode code pc = .ok (.aload_n 0, 1)) (d1 : decode code (pc + 1) = .ok (.iload_n 3, 1)) (d2 : decode code (pc + 2) = .ok (.iconst z, 1)) (d3 : decode code (pc + 3) = .ok (.iadd, 1)) (d4 : decode code (pc + 4) = .ok (.iaload, 1)) (hz : Int32.ofInt z = nI j) (h : i + j < L) (k : vl_X E p l e s m below meth c b (pc + 5) (vl_l i) (.int (xs (i + j)) :: st) M) : vl_X E p l e s m below meth c b pc (vl_l i) st M := by
  intro H locs lsA hP hS hL
  have hLL := F.2.2.2.2
  refine lv_aload_n F.1.1 F.1.2.1 d0 rfl (hL.2.2 0 (.ref 3000) rfl) ?_
  refine lv_iload_n F.1.1 F.1.2.1 d1 rfl (hL.2.2 3 (.int (nI i)) rfl) ?_
  refine lv_iconst F.1.1 F.1.2.1 d2 hz ?_
  refine lv_iadd F.1.1 F.1.2.1 d3 ?_
  rw [nI_add, F.2.2.2.1]
  refine va_sld F.1.1 F.1.2.1 F.1.2.2.2.2.2.2.1 F.1.2.2.2.2.2.2.2.1 (vl_out F) hS (vp_in_nI h (by omega)) d4 ?_
  rw [nI_clamp (by omega)]
  exact k H locs lsA hP hS hL
theorem vl_head (F : vl_Fx E p s m meth c b L xs) (h : i < L) (k : vl_X E p l e s m below meth c b 33 (vl_l i) [.int (xs i &&& 63)] M) : vl_X E p l e s m below meth c b 27 (vl_l i) [] M := by
  intro H locs lsA hP hS hL
  have hLL := F.2.2.2.2
  refine lv_aload_n F.1.1 F.1.2.1 dL_law_27 rfl (hL.2.2 0 (.ref 3000) rfl) ?_
  refine lv_iload_n F.1.1 F.1.2.1 dL_law_28 rfl (hL.2.2 3 (.int (nI i)) rfl) ?_
  rw [F.2.2.2.1]
  refine va_sld F.1.1 F.1.2.1 F.1.2.2.2.2.2.2.1 F.1.2.2.2.2.2.2.2.1 (vl_out F) hS (vp_in_nI h (by omega)) dL_law_29 ?_
  rw [nI_clamp (by omega)]
  refine lv_bipush (v := 63) F.1.1 F.1.2.1 dL_law_30 rfl ?_
  refine lv_iand F.1.1 F.1.2.1 dL_law_32 ?_
  exact k H locs lsA hP hS hL
theorem vl_aload (F : vl_Fx E p s m meth c b L xs) {k0 : Fin 4} {x : Nat} (hdg : decode code pc = .ok (.aload_n k0, 1)) (hi : (k0 : Nat) = n) (hl : ls[n]? = some (some (.ref x))) (k : vl_X E p l e s m below meth c b (pc + 1) ls (.ref x :: st) M) : vl_X E p l e s m below meth c b pc ls st M := by
  intro H locs lsA hP hS hL
  exact lv_aload_n F.1.1 F.1.2.1 hdg hi (hL.2.2 _ _ hl) (k H locs lsA hP hS hL)
theorem vl_swc (F : vl_Fx E p s m meth c b L xs) {dflt lo hi : Int} {offs : Array Int} {len : Nat} {x : Int32} {off : Int} {tgt : Nat} (v : Int32) (hdg : decode code pc = .ok (.tableswitch dflt lo hi offs, len)) (h1 : ¬ v.toInt < lo) (h2 : ¬ hi < v.toInt) (ho : offs[(v.toInt - lo).toNat]? = some off) (ht : (pc : Int) + off = (tgt : Int)) (kt : x = v → vl_X E p l e s m below meth c b tgt ls st M) (kf : ¬ x = v → vl_X E p l e s m below meth c b pc ls (.int x :: st) M) : vl_X E p l e s m below meth c b pc ls (.int x :: st) M := by
  by_cases h : x = v
  · have k := kt h
    subst h
    intro H locs lsA hP hS hL
    exact lv_tableIn F.1.1 F.1.2.1 hdg h1 h2 ho ht (k H locs lsA hP hS hL)
  · exact kf h
theorem vl_swd (F : vl_Fx E p s m meth c b L xs) {dflt lo hi : Int} {offs : Array Int} {len : Nat} {x : Int32} {tgt : Nat} (hdg : decode code pc = .ok (.tableswitch dflt lo hi offs, len)) (h : ∀ z : Int, lo ≤ z → z ≤ hi → ¬ x = Int32.ofInt z) (ht : (pc : Int) + dflt = (tgt : Int)) (k : vl_X E p l e s m below meth c b tgt ls st M) : vl_X E p l e s m below meth c b pc ls (.int x :: st) M := by
  intro H locs lsA hP hS hL
  refine lv_tableOut F.1.1 F.1.2.1 hdg ?_ ht (k H locs lsA hP hS hL)
  by_cases h1 : x.toInt < lo
  · exact Or.inl h1
  · by_cases h2 : hi < x.toInt
    · exact Or.inr h2
    · exact absurd (Int32.ofInt_toInt x).symm (h x.toInt (by omega) (by omega))
theorem vl_callP (F : vl_Fx E p s m meth c b L xs) {a idx ci : Nat} {ss : List fv_Sp} {q : vw_C} {y' : fv_Y} {As : List Value} {Φ' : Option Value → fv_M → Prop} (hk : fv_kV RL idx y' n) (hdg : decode code pc = .ok (.invokevirtual idx, 3)) (htb : fv_tab[a]? = some (.inl (ci, ss))) (hci : vwCl[ci]? = some q) (hq : q.1 = y'.1.cls) (hC : fv_C E 13 y' (.ref a :: As) M Φ') (hst : st = As.reverse ++ .ref a :: rest) (hn : As.length = n) (hlen : ls.length = 4) (hroom : (rest.map fun v => v.category).sum ≤ 8)
    (kk : ∀ (r : Option Value) (M' : fv_M), Φ' r M' → vl_X E p l e s m below meth c b (pc + 3) ls (r.toList ++ rest) M') : vl_X E p l e s m below meth c b pc ls st M := by
  intro H locs lsA hP hS hL
  obtain ⟨hx, hb, hr0, hml, hown, hts, hX, hbl, hlocks, hgv⟩ := id F.1
  have hSF := F.2.1
  have htg : ∀ w ∈ fv_g, w.before #[Value.ref b] s = true := fun w hw => hts w (List.mem_filter.mp hw).1
  obtain ⟨k1, k2, k2', k3, k4, k5, k6⟩ := hk
  have hpre := fv_pre (as := .ref a :: As) hSF hP hS
  have hr := va_runV (As := As.map (fv_cv E)) (rest := rest.map (fv_cv E)) (b := E.2.1 a) (C := y'.1.cls) (g := F0 m pc lsA (st.map (fv_cv E))) (below := below) (e := e) (meth := meth) (locs := locs) (cells := 123) (slots := 2000) ⟨hx, hb, hml, hown, htg⟩ (hC l)
    ⟨callB_of (own := RL) n htg (fv_good k4) rfl rfl rfl (htg _ k3) (htg _ k1) k5 (R := room_1) ⟨by show 13 + 1 ≤ 14; omega, by show 8 + (y'.2.2.1 + 11) + 38 * 13 ≤ 532; omega⟩, htg _ k2, htg _ k2'⟩
    ⟨hpre.1, by rw [← hq]; exact va_recv hSF.1 hP hci (fv_W_at htb), hpre.2⟩
    rfl (by rw [List.length_map]; exact hn) (hL.1.trans hlen) (by show st.map _ = _; rw [hst, List.map_append, List.map_reverse]; rfl) (lv_room (by rw [fv_sum]; exact hroom)) hdg ⟨Nat.le_of_ble_eq_true rfl, Nat.le_of_ble_eq_true rfl⟩
  intro T hT X
  obtain ⟨v, st₀, t, T', L', h0, X', hL', e1, e2, ⟨⟨r, M', hv, hp, hbW⟩, hz, hkk⟩, stp⟩ := hr T hT X
  cases hv
  rw [h0] at hz hkk
  have hgo := kk r M' hp T'.heap (locs ++ L') lsA (by rw [e1]; exact hbW)
    ⟨Nat.le_trans hS.1 (by rw [e1]; exact hz), fun q h1 h2 => by rw [e1, hkk q (Nat.lt_of_lt_of_le h1 hS.1) h2]; exact hS.2.1 q h1 h2, fun q hq => by
      rcases List.mem_append.mp hq with h | h
      · exact hS.2.2 q h
      · exact hL' q h⟩ hL
  have hgo2 : W p l e room_1 s m #[Value.ref b] below meth c T'.heap (locs ++ L') 123 2000 (lw_Z below #[Value.ref b] s) (F0 m (pc + 3) lsA ((r.map (fv_cv E)).toList ++ rest.map (fv_cv E))) := by
    cases r <;> exact hgo
  obtain ⟨t2, a1, b1⟩ := hgo2 T' rfl X'
  exact ⟨t2, stp t2 a1, b1⟩
theorem vl_icmp_eq (F : vl_Fx E p s m meth c b L xs) {x y : Int32} {off : Int} {tgt : Nat} (hdg : decode code pc = .ok (.if_icmp .eq off, 3)) (ht : (pc : Int) + off = (tgt : Int)) (h : x = y) (kt : vl_X E p l e s m below meth c b tgt ls st M) : vl_X E p l e s m below meth c b pc ls (.int y :: .int x :: st) M := by
  intro H locs lsA hP hS hL
  exact lv_icmp_eq F.1.1 F.1.2.1 hdg ht (fun _ => kt H locs lsA hP hS hL) (fun q => absurd h q)
theorem vl_lcmp_eq (F : vl_Fx E p s m meth c b L xs) {x : Int64} {off : Int} {tgt : Nat} (hdg : decode code pc = .ok (.lcmp, 1)) (hdg2 : decode code (pc + 1) = .ok (.ifCond .eq off, 3)) (ht : ((pc + 1 : Nat) : Int) + off = (tgt : Int)) (kt : vl_X E p l e s m below meth c b tgt ls st M) : vl_X E p l e s m below meth c b pc ls (.long x :: .long x :: st) M := by
  intro H locs lsA hP hS hL
  refine W.lcmp F.1.1 F.1.2.1 hdg ?_
  exact lv_if_eq F.1.1 F.1.2.1 hdg2 ht (fun _ => kt H locs lsA hP hS hL) (fun q => absurd ((lg_cmp_eq x x).mpr rfl) q)
theorem vl_next (F : vl_Fx E p s m meth c b L xs) (k : vl_X E p l e s m below meth c b 18 (vl_l (i + 6)) [] M) : vl_X E p l e s m below meth c b 1498 (vl_l i) [] M := by
  intro H locs lsA hP hS hL
  have hm : (3, Value.int (nI i)) ∈ fv_lv E (vl_l i) := fv_lv_mem.mpr ⟨.int (nI i), rfl, rfl⟩
  obtain ⟨q, hk⟩ := List.getElem?_of_mem hm
  refine lv_iinc F.1.1 F.1.2.1 dL_law_1498 hL.has hk (v := nI (i + 6)) (nI_add i 6) (by show 3 < 4; decide) rfl (fun ls2 h2 => ?_)
  have hL2 : fv_L E ls2 (vl_l (i + 6)) := fv_L.st1 (ls := vl_l i) (i := 3) (v := .int (nI (i + 6))) rfl (fun o _ h => by cases h; rfl) h2
  refine lv_goto F.1.1 F.1.2.1 dL_law_1501 (tgt := 18) rfl ?_
  exact k H locs ls2 hP hS hL2
theorem vl_end (F : vl_Fx E p s m meth c b L xs) : vl_X E p l e s m below meth c b 1504 ls [] M := by
  intro H locs lsA hP hS hL
  refine lv_iconst (v := 1) F.1.1 F.1.2.1 dL_law_1504 rfl ?_
  refine va_forget (fun q hq => by
    have h := hS.2.2 q hq
    have h2 := F.2.2.1
    unfold fv_A at h
    omega) ?_
  refine W.widen (k := 600000) (n := 7302250) (Nat.le_of_ble_eq_true rfl) (Nat.le_of_ble_eq_true rfl) ?_
  exact lw_ret F.1.1 F.1.2.1 F.1.2.2.1 F.1.2.2.2.2.2.2.2.2.1 dL_law_1505
theorem vl_6 {L : Nat} (h : L < 6) : (nI L - 6 : Int32) < 0 := of_decide_eq_true (fv_all1 (p := fun L => decide ((nI L - 6 : Int32) < 0)) (n := 6) (by decide +kernel) h)
theorem vl_test (F : vl_Fx E p s m meth c b L xs) (hi : i < 2 ^ 30) (k : i + 6 ≤ L → vl_X E p l e s m below meth c b 27 (vl_l i) [] M) : vl_X E p l e s m below meth c b 18 (vl_l i) [] M := by
  have hend := vl_end (l := l) (e := e) (below := below) (ls := vl_l i) (M := M) F
  have hLL := F.2.2.2.2
  intro H locs lsA hP hS hL
  refine lv_iload_n F.1.1 F.1.2.1 dL_law_18 rfl (hL.2.2 3 (.int (nI i)) rfl) ?_
  refine lv_aload_n F.1.1 F.1.2.1 dL_law_19 rfl (hL.2.2 0 (.ref 3000) rfl) ?_
  rw [F.2.2.2.1]
  refine va_slen F.1.1 F.1.2.1 F.1.2.2.2.2.2.2.1 F.1.2.2.2.2.2.2.2.1 (vl_out F) hS dL_law_20 ?_
  refine lv_bipush (v := 6) F.1.1 F.1.2.1 dL_law_21 rfl ?_
  refine lv_isub F.1.1 F.1.2.1 dL_law_23 ?_
  refine lv_icmp_gt F.1.1 F.1.2.1 dL_law_24 (tgt := 1504) rfl (fun _ => hend H locs lsA hP hS hL) (fun h => ?_)
  refine k ?_ H locs lsA hP hS hL
  rcases Nat.lt_or_ge L 6 with h6 | h6
  · exact absurd (Int32.lt_of_le_of_lt (Int32.not_lt.mp h) (vl_6 h6)) (nI_pos (by omega))
  · have e6 : Int32.ofNat L - 6 = nI (L - 6) := nI_sub' (a := L) (b := 6) h6
    rw [e6] at h
    have := (nI_leI (by omega) (by omega)).mp (Int32.not_lt.mp h)
    omega
theorem vl_loop (F : vl_Fx E p s m meth c b L xs) : ∀ (f i : Nat) (M : fv_M), L < i + 6 * f → i < 6000 → pInv M → vl_X E p l e s m below meth c b 18 (vl_l i) [] M := by
  intro f
  induction f with
  | zero => intro i M hf hi I; exact vl_test F (by omega) (fun h => absurd h (by omega))
  | succ f ih =>
    intro i M hf hi I
    refine vl_test F (by omega) (fun h6 => ?_)
    have hLL := F.2.2.2.2
    have H98 : ∀ M', pInv M' → vl_X E p l e s m below meth c b 1498 (vl_l i) [] M' := fun M' I' => vl_next F (ih (i + 6) M' (by omega) (by omega) I')
    refine vl_head F (by omega) ?_
    clear ih
    refine vl_swc F 0 dL_law_33 (by decide) (by decide) rfl (tgt := 236) rfl (fun _ => ?_) (fun n0 => ?_)
    ·
      refine vl_aload F (n := 1) dL_law_236 rfl rfl ?_
      refine vl_fetch F (j := 1) dL_law_237 dL_law_238 dL_law_239 dL_law_240 dL_law_241 rfl (by omega) ?_
      refine vl_callP F ks_L_13 dL_law_242 tb_fv rfl rfl (op_bird I) rfl rfl rfl (Nat.le_of_ble_eq_true rfl) (fun r M1 h1 => ?_)
      obtain ⟨v, rfl, h2⟩ := h1
      refine vl_aload F (n := 2) dL_law_245 rfl rfl ?_
      refine vl_fetch F (j := 1) dL_law_246 dL_law_247 dL_law_248 dL_law_249 dL_law_250 rfl (by omega) ?_
      refine vl_callP F ks_L_17 dL_law_251 tb_106 rfl rfl h2 rfl rfl rfl (Nat.le_of_ble_eq_true rfl) (fun r M2 h3 => ?_)
      obtain ⟨rfl, I2⟩ := h3
      exact vl_icmp_eq F dL_law_254 (tgt := 1498) rfl rfl (H98 M2 I2)
    refine vl_swc F 1 dL_law_33 (by decide) (by decide) rfl (tgt := 259) rfl (fun _ => ?_) (fun n1 => ?_)
    ·
      refine vl_aload F (n := 1) dL_law_259 rfl rfl ?_
      refine vl_fetch F (j := 1) dL_law_260 dL_law_261 dL_law_262 dL_law_263 dL_law_264 rfl (by omega) ?_
      refine vl_fetch F (j := 2) dL_law_265 dL_law_266 dL_law_267 dL_law_268 dL_law_269 rfl (by omega) ?_
      refine vl_callP F ks_L_18 dL_law_270 tb_fv rfl rfl (op_of I) rfl rfl rfl (Nat.le_of_ble_eq_true rfl) (fun r M1 h1 => ?_)
      obtain ⟨v, rfl, h2⟩ := h1
      refine vl_aload F (n := 2) dL_law_273 rfl rfl ?_
      refine vl_fetch F (j := 1) dL_law_274 dL_law_275 dL_law_276 dL_law_277 dL_law_278 rfl (by omega) ?_
      refine vl_fetch F (j := 2) dL_law_279 dL_law_280 dL_law_281 dL_law_282 dL_law_283 rfl (by omega) ?_
      refine vl_callP F ks_L_22 dL_law_284 tb_106 rfl rfl h2 rfl rfl rfl (Nat.le_of_ble_eq_true rfl) (fun r M2 h3 => ?_)
      obtain ⟨rfl, I2⟩ := h3
      exact vl_icmp_eq F dL_law_287 (tgt := 1498) rfl rfl (H98 M2 I2)
    refine vl_swc F 2 dL_law_33 (by decide) (by decide) rfl (tgt := 292) rfl (fun _ => ?_) (fun n2 => ?_)
    ·
      refine vl_aload F (n := 1) dL_law_292 rfl rfl ?_
      refine vl_fetch F (j := 1) dL_law_293 dL_law_294 dL_law_295 dL_law_296 dL_law_297 rfl (by omega) ?_
      refine vl_fetch F (j := 2) dL_law_298 dL_law_299 dL_law_300 dL_law_301 dL_law_302 rfl (by omega) ?_
      refine vl_fetch F (j := 3) dL_law_303 dL_law_304 dL_law_305 dL_law_306 dL_law_307 rfl (by omega) ?_
      refine vl_callP F ks_L_23 dL_law_308 tb_fv rfl rfl (op_change I) rfl rfl rfl (Nat.le_of_ble_eq_true rfl) (fun r M1 h1 => ?_)
      obtain ⟨v, rfl, h2⟩ := h1
      refine vl_aload F (n := 2) dL_law_311 rfl rfl ?_
      refine vl_fetch F (j := 1) dL_law_312 dL_law_313 dL_law_314 dL_law_315 dL_law_316 rfl (by omega) ?_
      refine vl_fetch F (j := 2) dL_law_317 dL_law_318 dL_law_319 dL_law_320 dL_law_321 rfl (by omega) ?_
      refine vl_fetch F (j := 3) dL_law_322 dL_law_323 dL_law_324 dL_law_325 dL_law_326 rfl (by omega) ?_
      refine vl_callP F ks_L_27 dL_law_327 tb_106 rfl rfl h2 rfl rfl rfl (Nat.le_of_ble_eq_true rfl) (fun r M2 h3 => ?_)
      obtain ⟨rfl, I2⟩ := h3
      exact vl_icmp_eq F dL_law_330 (tgt := 1498) rfl rfl (H98 M2 I2)
    refine vl_swc F 3 dL_law_33 (by decide) (by decide) rfl (tgt := 335) rfl (fun _ => ?_) (fun n3 => ?_)
    ·
      refine vl_aload F (n := 1) dL_law_335 rfl rfl ?_
      refine vl_fetch F (j := 1) dL_law_336 dL_law_337 dL_law_338 dL_law_339 dL_law_340 rfl (by omega) ?_
      refine vl_callP F ks_L_28 dL_law_341 tb_fv rfl rfl (op_motion I) rfl rfl rfl (Nat.le_of_ble_eq_true rfl) (fun r M1 h1 => ?_)
      obtain ⟨v, rfl, h2⟩ := h1
      refine vl_aload F (n := 2) dL_law_344 rfl rfl ?_
      refine vl_fetch F (j := 1) dL_law_345 dL_law_346 dL_law_347 dL_law_348 dL_law_349 rfl (by omega) ?_
      refine vl_callP F ks_L_31 dL_law_350 tb_106 rfl rfl h2 rfl rfl rfl (Nat.le_of_ble_eq_true rfl) (fun r M2 h3 => ?_)
      obtain ⟨rfl, I2⟩ := h3
      exact vl_icmp_eq F dL_law_353 (tgt := 1498) rfl rfl (H98 M2 I2)
    refine vl_swc F 4 dL_law_33 (by decide) (by decide) rfl (tgt := 358) rfl (fun _ => ?_) (fun n4 => ?_)
    ·
      refine vl_aload F (n := 1) dL_law_358 rfl rfl ?_
      refine vl_fetch F (j := 1) dL_law_359 dL_law_360 dL_law_361 dL_law_362 dL_law_363 rfl (by omega) ?_
      refine vl_fetch F (j := 2) dL_law_364 dL_law_365 dL_law_366 dL_law_367 dL_law_368 rfl (by omega) ?_
      refine vl_callP F ks_L_32 dL_law_369 tb_fv rfl rfl (op_told I) rfl rfl rfl (Nat.le_of_ble_eq_true rfl) (fun r M1 h1 => ?_)
      obtain ⟨v, rfl, h2⟩ := h1
      refine vl_aload F (n := 2) dL_law_372 rfl rfl ?_
      refine vl_fetch F (j := 1) dL_law_373 dL_law_374 dL_law_375 dL_law_376 dL_law_377 rfl (by omega) ?_
      refine vl_fetch F (j := 2) dL_law_378 dL_law_379 dL_law_380 dL_law_381 dL_law_382 rfl (by omega) ?_
      refine vl_callP F ks_L_35 dL_law_383 tb_106 rfl rfl h2 rfl rfl rfl (Nat.le_of_ble_eq_true rfl) (fun r M2 h3 => ?_)
      obtain ⟨rfl, I2⟩ := h3
      exact vl_icmp_eq F dL_law_386 (tgt := 1498) rfl rfl (H98 M2 I2)
    refine vl_swc F 5 dL_law_33 (by decide) (by decide) rfl (tgt := 391) rfl (fun _ => ?_) (fun n5 => ?_)
    ·
      refine vl_aload F (n := 1) dL_law_391 rfl rfl ?_
      refine vl_fetch F (j := 1) dL_law_392 dL_law_393 dL_law_394 dL_law_395 dL_law_396 rfl (by omega) ?_
      refine vl_fetch F (j := 2) dL_law_397 dL_law_398 dL_law_399 dL_law_400 dL_law_401 rfl (by omega) ?_
      refine vl_fetch F (j := 3) dL_law_402 dL_law_403 dL_law_404 dL_law_405 dL_law_406 rfl (by omega) ?_
      refine vl_callP F ks_L_36 dL_law_407 tb_fv rfl rfl (op_tell I) rfl rfl rfl (Nat.le_of_ble_eq_true rfl) (fun r M1 h1 => ?_)
      obtain ⟨v, rfl, h2⟩ := h1
      refine vl_aload F (n := 2) dL_law_410 rfl rfl ?_
      refine vl_fetch F (j := 1) dL_law_411 dL_law_412 dL_law_413 dL_law_414 dL_law_415 rfl (by omega) ?_
      refine vl_fetch F (j := 2) dL_law_416 dL_law_417 dL_law_418 dL_law_419 dL_law_420 rfl (by omega) ?_
      refine vl_fetch F (j := 3) dL_law_421 dL_law_422 dL_law_423 dL_law_424 dL_law_425 rfl (by omega) ?_
      refine vl_callP F ks_L_39 dL_law_426 tb_106 rfl rfl h2 rfl rfl rfl (Nat.le_of_ble_eq_true rfl) (fun r M2 h3 => ?_)
      obtain ⟨rfl, I2⟩ := h3
      exact vl_icmp_eq F dL_law_429 (tgt := 1498) rfl rfl (H98 M2 I2)
    refine vl_swc F 6 dL_law_33 (by decide) (by decide) rfl (tgt := 434) rfl (fun _ => ?_) (fun n6 => ?_)
    ·
      refine vl_aload F (n := 1) dL_law_434 rfl rfl ?_
      refine vl_fetch F (j := 1) dL_law_435 dL_law_436 dL_law_437 dL_law_438 dL_law_439 rfl (by omega) ?_
      refine vl_fetch F (j := 2) dL_law_440 dL_law_441 dL_law_442 dL_law_443 dL_law_444 rfl (by omega) ?_
      refine vl_callP F ks_L_40 dL_law_445 tb_fv rfl rfl (op_drops I) rfl rfl rfl (Nat.le_of_ble_eq_true rfl) (fun r M1 h1 => ?_)
      obtain ⟨v, rfl, h2⟩ := h1
      refine vl_aload F (n := 2) dL_law_448 rfl rfl ?_
      refine vl_fetch F (j := 1) dL_law_449 dL_law_450 dL_law_451 dL_law_452 dL_law_453 rfl (by omega) ?_
      refine vl_fetch F (j := 2) dL_law_454 dL_law_455 dL_law_456 dL_law_457 dL_law_458 rfl (by omega) ?_
      refine vl_callP F ks_L_43 dL_law_459 tb_106 rfl rfl h2 rfl rfl rfl (Nat.le_of_ble_eq_true rfl) (fun r M2 h3 => ?_)
      obtain ⟨rfl, I2⟩ := h3
      exact vl_icmp_eq F dL_law_462 (tgt := 1498) rfl rfl (H98 M2 I2)
    refine vl_swc F 7 dL_law_33 (by decide) (by decide) rfl (tgt := 467) rfl (fun _ => ?_) (fun n7 => ?_)
    ·
      refine vl_aload F (n := 1) dL_law_467 rfl rfl ?_
      refine vl_fetch F (j := 1) dL_law_468 dL_law_469 dL_law_470 dL_law_471 dL_law_472 rfl (by omega) ?_
      refine vl_fetch F (j := 2) dL_law_473 dL_law_474 dL_law_475 dL_law_476 dL_law_477 rfl (by omega) ?_
      refine vl_callP F ks_L_44 dL_law_478 tb_fv rfl rfl (op_side I) rfl rfl rfl (Nat.le_of_ble_eq_true rfl) (fun r M1 h1 => ?_)
      obtain ⟨v, rfl, h2⟩ := h1
      refine vl_aload F (n := 2) dL_law_481 rfl rfl ?_
      refine vl_fetch F (j := 1) dL_law_482 dL_law_483 dL_law_484 dL_law_485 dL_law_486 rfl (by omega) ?_
      refine vl_fetch F (j := 2) dL_law_487 dL_law_488 dL_law_489 dL_law_490 dL_law_491 rfl (by omega) ?_
      refine vl_callP F ks_L_47 dL_law_492 tb_106 rfl rfl h2 rfl rfl rfl (Nat.le_of_ble_eq_true rfl) (fun r M2 h3 => ?_)
      obtain ⟨rfl, I2⟩ := h3
      exact vl_icmp_eq F dL_law_495 (tgt := 1498) rfl rfl (H98 M2 I2)
    refine vl_swc F 8 dL_law_33 (by decide) (by decide) rfl (tgt := 500) rfl (fun _ => ?_) (fun n8 => ?_)
    ·
      refine vl_aload F (n := 1) dL_law_500 rfl rfl ?_
      refine vl_fetch F (j := 1) dL_law_501 dL_law_502 dL_law_503 dL_law_504 dL_law_505 rfl (by omega) ?_
      refine vl_callP F ks_L_48 dL_law_506 tb_fv rfl rfl (op_passes I) rfl rfl rfl (Nat.le_of_ble_eq_true rfl) (fun r M1 h1 => ?_)
      obtain ⟨v, rfl, h2⟩ := h1
      refine vl_aload F (n := 2) dL_law_509 rfl rfl ?_
      refine vl_fetch F (j := 1) dL_law_510 dL_law_511 dL_law_512 dL_law_513 dL_law_514 rfl (by omega) ?_
      refine vl_callP F ks_L_51 dL_law_515 tb_106 rfl rfl h2 rfl rfl rfl (Nat.le_of_ble_eq_true rfl) (fun r M2 h3 => ?_)
      obtain ⟨rfl, I2⟩ := h3
      exact vl_icmp_eq F dL_law_518 (tgt := 1498) rfl rfl (H98 M2 I2)
    refine vl_swc F 9 dL_law_33 (by decide) (by decide) rfl (tgt := 523) rfl (fun _ => ?_) (fun n9 => ?_)
    ·
      refine vl_aload F (n := 1) dL_law_523 rfl rfl ?_
      refine vl_fetch F (j := 1) dL_law_524 dL_law_525 dL_law_526 dL_law_527 dL_law_528 rfl (by omega) ?_
      refine vl_callP F ks_L_52 dL_law_529 tb_fv rfl rfl (op_vote I) rfl rfl rfl (Nat.le_of_ble_eq_true rfl) (fun r M1 h1 => ?_)
      obtain ⟨v, rfl, h2⟩ := h1
      refine vl_aload F (n := 2) dL_law_532 rfl rfl ?_
      refine vl_fetch F (j := 1) dL_law_533 dL_law_534 dL_law_535 dL_law_536 dL_law_537 rfl (by omega) ?_
      refine vl_callP F ks_L_55 dL_law_538 tb_106 rfl rfl h2 rfl rfl rfl (Nat.le_of_ble_eq_true rfl) (fun r M2 h3 => ?_)
      obtain ⟨rfl, I2⟩ := h3
      exact vl_icmp_eq F dL_law_541 (tgt := 1498) rfl rfl (H98 M2 I2)
    refine vl_swc F 10 dL_law_33 (by decide) (by decide) rfl (tgt := 546) rfl (fun _ => ?_) (fun n10 => ?_)
    ·
      refine vl_aload F (n := 1) dL_law_546 rfl rfl ?_
      refine vl_fetch F (j := 1) dL_law_547 dL_law_548 dL_law_549 dL_law_550 dL_law_551 rfl (by omega) ?_
      refine vl_callP F ks_L_56 dL_law_552 tb_fv rfl rfl (op_seasons I) rfl rfl rfl (Nat.le_of_ble_eq_true rfl) (fun r M1 h1 => ?_)
      obtain ⟨v, rfl, h2⟩ := h1
      refine vl_aload F (n := 2) dL_law_555 rfl rfl ?_
      refine vl_fetch F (j := 1) dL_law_556 dL_law_557 dL_law_558 dL_law_559 dL_law_560 rfl (by omega) ?_
      refine vl_callP F ks_L_59 dL_law_561 tb_106 rfl rfl h2 rfl rfl rfl (Nat.le_of_ble_eq_true rfl) (fun r M2 h3 => ?_)
      obtain ⟨rfl, I2⟩ := h3
      exact vl_icmp_eq F dL_law_564 (tgt := 1498) rfl rfl (H98 M2 I2)
    refine vl_swc F 11 dL_law_33 (by decide) (by decide) rfl (tgt := 569) rfl (fun _ => ?_) (fun n11 => ?_)
    ·
      refine vl_aload F (n := 1) dL_law_569 rfl rfl ?_
      refine vl_fetch F (j := 1) dL_law_570 dL_law_571 dL_law_572 dL_law_573 dL_law_574 rfl (by omega) ?_
      refine vl_callP F ks_L_60 dL_law_575 tb_fv rfl rfl (op_now I) rfl rfl rfl (Nat.le_of_ble_eq_true rfl) (fun r M1 h1 => ?_)
      obtain ⟨v, rfl, h2⟩ := h1
      refine vl_aload F (n := 2) dL_law_578 rfl rfl ?_
      refine vl_fetch F (j := 1) dL_law_579 dL_law_580 dL_law_581 dL_law_582 dL_law_583 rfl (by omega) ?_
      refine vl_callP F ks_L_63 dL_law_584 tb_106 rfl rfl h2 rfl rfl rfl (Nat.le_of_ble_eq_true rfl) (fun r M2 h3 => ?_)
      obtain ⟨rfl, I2⟩ := h3
      exact vl_icmp_eq F dL_law_587 (tgt := 1498) rfl rfl (H98 M2 I2)
    refine vl_swc F 12 dL_law_33 (by decide) (by decide) rfl (tgt := 592) rfl (fun _ => ?_) (fun n12 => ?_)
    ·
      refine vl_aload F (n := 1) dL_law_592 rfl rfl ?_
      refine vl_callP F ks_L_64 dL_law_593 tb_fv rfl rfl (op_clears I) rfl rfl rfl (Nat.le_of_ble_eq_true rfl) (fun r M1 h1 => ?_)
      obtain ⟨v, rfl, h2⟩ := h1
      refine vl_aload F (n := 2) dL_law_596 rfl rfl ?_
      refine vl_callP F ks_L_68 dL_law_597 tb_106 rfl rfl h2 rfl rfl rfl (Nat.le_of_ble_eq_true rfl) (fun r M2 h3 => ?_)
      obtain ⟨rfl, I2⟩ := h3
      exact vl_icmp_eq F dL_law_600 (tgt := 1498) rfl rfl (H98 M2 I2)
    refine vl_swc F 13 dL_law_33 (by decide) (by decide) rfl (tgt := 605) rfl (fun _ => ?_) (fun n13 => ?_)
    ·
      refine vl_aload F (n := 1) dL_law_605 rfl rfl ?_
      refine vl_fetch F (j := 1) dL_law_606 dL_law_607 dL_law_608 dL_law_609 dL_law_610 rfl (by omega) ?_
      refine vl_callP F ks_L_69 dL_law_611 tb_fv rfl rfl (op_when I) rfl rfl rfl (Nat.le_of_ble_eq_true rfl) (fun r M1 h1 => ?_)
      obtain ⟨v, rfl, h2⟩ := h1
      refine vl_aload F (n := 2) dL_law_614 rfl rfl ?_
      refine vl_fetch F (j := 1) dL_law_615 dL_law_616 dL_law_617 dL_law_618 dL_law_619 rfl (by omega) ?_
      refine vl_callP F ks_L_72 dL_law_620 tb_106 rfl rfl h2 rfl rfl rfl (Nat.le_of_ble_eq_true rfl) (fun r M2 h3 => ?_)
      obtain ⟨rfl, I2⟩ := h3
      exact vl_icmp_eq F dL_law_623 (tgt := 1498) rfl rfl (H98 M2 I2)
    refine vl_swc F 14 dL_law_33 (by decide) (by decide) rfl (tgt := 628) rfl (fun _ => ?_) (fun n14 => ?_)
    ·
      refine vl_aload F (n := 1) dL_law_628 rfl rfl ?_
      refine vl_fetch F (j := 1) dL_law_629 dL_law_630 dL_law_631 dL_law_632 dL_law_633 rfl (by omega) ?_
      refine vl_callP F ks_L_73 dL_law_634 tb_fv rfl rfl (op_flies I) rfl rfl rfl (Nat.le_of_ble_eq_true rfl) (fun r M1 h1 => ?_)
      obtain ⟨v, rfl, h2⟩ := h1
      refine vl_aload F (n := 2) dL_law_637 rfl rfl ?_
      refine vl_fetch F (j := 1) dL_law_638 dL_law_639 dL_law_640 dL_law_641 dL_law_642 rfl (by omega) ?_
      refine vl_callP F ks_L_76 dL_law_643 tb_106 rfl rfl h2 rfl rfl rfl (Nat.le_of_ble_eq_true rfl) (fun r M2 h3 => ?_)
      obtain ⟨rfl, I2⟩ := h3
      exact vl_icmp_eq F dL_law_646 (tgt := 1498) rfl rfl (H98 M2 I2)
    refine vl_swc F 15 dL_law_33 (by decide) (by decide) rfl (tgt := 651) rfl (fun _ => ?_) (fun n15 => ?_)
    ·
      refine vl_aload F (n := 1) dL_law_651 rfl rfl ?_
      refine vl_fetch F (j := 1) dL_law_652 dL_law_653 dL_law_654 dL_law_655 dL_law_656 rfl (by omega) ?_
      refine vl_callP F ks_L_77 dL_law_657 tb_fv rfl rfl (op_plucked I) rfl rfl rfl (Nat.le_of_ble_eq_true rfl) (fun r M1 h1 => ?_)
      obtain ⟨v, rfl, h2⟩ := h1
      refine vl_aload F (n := 2) dL_law_660 rfl rfl ?_
      refine vl_fetch F (j := 1) dL_law_661 dL_law_662 dL_law_663 dL_law_664 dL_law_665 rfl (by omega) ?_
      refine vl_callP F ks_L_80 dL_law_666 tb_106 rfl rfl h2 rfl rfl rfl (Nat.le_of_ble_eq_true rfl) (fun r M2 h3 => ?_)
      obtain ⟨rfl, I2⟩ := h3
      exact vl_icmp_eq F dL_law_669 (tgt := 1498) rfl rfl (H98 M2 I2)
    refine vl_swc F 16 dL_law_33 (by decide) (by decide) rfl (tgt := 674) rfl (fun _ => ?_) (fun n16 => ?_)
    ·
      refine vl_aload F (n := 1) dL_law_674 rfl rfl ?_
      refine vl_fetch F (j := 1) dL_law_675 dL_law_676 dL_law_677 dL_law_678 dL_law_679 rfl (by omega) ?_
      refine vl_callP F ks_L_81 dL_law_680 tb_fv rfl rfl (op_hinges I) rfl rfl rfl (Nat.le_of_ble_eq_true rfl) (fun r M1 h1 => ?_)
      obtain ⟨v, rfl, h2⟩ := h1
      refine vl_aload F (n := 2) dL_law_683 rfl rfl ?_
      refine vl_fetch F (j := 1) dL_law_684 dL_law_685 dL_law_686 dL_law_687 dL_law_688 rfl (by omega) ?_
      refine vl_callP F ks_L_84 dL_law_689 tb_106 rfl rfl h2 rfl rfl rfl (Nat.le_of_ble_eq_true rfl) (fun r M2 h3 => ?_)
      obtain ⟨rfl, I2⟩ := h3
      exact vl_icmp_eq F dL_law_692 (tgt := 1498) rfl rfl (H98 M2 I2)
    refine vl_swc F 17 dL_law_33 (by decide) (by decide) rfl (tgt := 697) rfl (fun _ => ?_) (fun n17 => ?_)
    ·
      refine vl_aload F (n := 1) dL_law_697 rfl rfl ?_
      refine vl_fetch F (j := 1) dL_law_698 dL_law_699 dL_law_700 dL_law_701 dL_law_702 rfl (by omega) ?_
      refine vl_callP F ks_L_85 dL_law_703 tb_fv rfl rfl (op_sets I) rfl rfl rfl (Nat.le_of_ble_eq_true rfl) (fun r M1 h1 => ?_)
      obtain ⟨v, rfl, h2⟩ := h1
      refine vl_aload F (n := 2) dL_law_706 rfl rfl ?_
      refine vl_fetch F (j := 1) dL_law_707 dL_law_708 dL_law_709 dL_law_710 dL_law_711 rfl (by omega) ?_
      refine vl_callP F ks_L_88 dL_law_712 tb_106 rfl rfl h2 rfl rfl rfl (Nat.le_of_ble_eq_true rfl) (fun r M2 h3 => ?_)
      obtain ⟨rfl, I2⟩ := h3
      exact vl_icmp_eq F dL_law_715 (tgt := 1498) rfl rfl (H98 M2 I2)
    refine vl_swc F 18 dL_law_33 (by decide) (by decide) rfl (tgt := 720) rfl (fun _ => ?_) (fun n18 => ?_)
    ·
      refine vl_aload F (n := 1) dL_law_720 rfl rfl ?_
      refine vl_fetch F (j := 1) dL_law_721 dL_law_722 dL_law_723 dL_law_724 dL_law_725 rfl (by omega) ?_
      refine vl_fetch F (j := 2) dL_law_726 dL_law_727 dL_law_728 dL_law_729 dL_law_730 rfl (by omega) ?_
      refine vl_callP F ks_L_89 dL_law_731 tb_fv rfl rfl (op_power I) rfl rfl rfl (Nat.le_of_ble_eq_true rfl) (fun r M1 h1 => ?_)
      obtain ⟨v, rfl, h2⟩ := h1
      refine vl_aload F (n := 2) dL_law_734 rfl rfl ?_
      refine vl_fetch F (j := 1) dL_law_735 dL_law_736 dL_law_737 dL_law_738 dL_law_739 rfl (by omega) ?_
      refine vl_fetch F (j := 2) dL_law_740 dL_law_741 dL_law_742 dL_law_743 dL_law_744 rfl (by omega) ?_
      refine vl_callP F ks_L_92 dL_law_745 tb_106 rfl rfl h2 rfl rfl rfl (Nat.le_of_ble_eq_true rfl) (fun r M2 h3 => ?_)
      obtain ⟨rfl, I2⟩ := h3
      exact vl_icmp_eq F dL_law_748 (tgt := 1498) rfl rfl (H98 M2 I2)
    refine vl_swc F 19 dL_law_33 (by decide) (by decide) rfl (tgt := 753) rfl (fun _ => ?_) (fun n19 => ?_)
    ·
      refine vl_aload F (n := 1) dL_law_753 rfl rfl ?_
      refine vl_fetch F (j := 1) dL_law_754 dL_law_755 dL_law_756 dL_law_757 dL_law_758 rfl (by omega) ?_
      refine vl_callP F ks_L_93 dL_law_759 tb_fv rfl rfl (op_won I) rfl rfl rfl (Nat.le_of_ble_eq_true rfl) (fun r M1 h1 => ?_)
      obtain ⟨v, rfl, h2⟩ := h1
      refine vl_aload F (n := 2) dL_law_762 rfl rfl ?_
      refine vl_fetch F (j := 1) dL_law_763 dL_law_764 dL_law_765 dL_law_766 dL_law_767 rfl (by omega) ?_
      refine vl_callP F ks_L_96 dL_law_768 tb_106 rfl rfl h2 rfl rfl rfl (Nat.le_of_ble_eq_true rfl) (fun r M2 h3 => ?_)
      obtain ⟨rfl, I2⟩ := h3
      exact vl_icmp_eq F dL_law_771 (tgt := 1498) rfl rfl (H98 M2 I2)
    refine vl_swc F 20 dL_law_33 (by decide) (by decide) rfl (tgt := 776) rfl (fun _ => ?_) (fun n20 => ?_)
    ·
      refine vl_aload F (n := 1) dL_law_776 rfl rfl ?_
      refine vl_fetch F (j := 1) dL_law_777 dL_law_778 dL_law_779 dL_law_780 dL_law_781 rfl (by omega) ?_
      refine vl_callP F ks_L_97 dL_law_782 tb_fv rfl rfl (op_colour I) rfl rfl rfl (Nat.le_of_ble_eq_true rfl) (fun r M1 h1 => ?_)
      obtain ⟨v, rfl, h2⟩ := h1
      refine vl_aload F (n := 2) dL_law_785 rfl rfl ?_
      refine vl_fetch F (j := 1) dL_law_786 dL_law_787 dL_law_788 dL_law_789 dL_law_790 rfl (by omega) ?_
      refine vl_callP F ks_L_100 dL_law_791 tb_106 rfl rfl h2 rfl rfl rfl (Nat.le_of_ble_eq_true rfl) (fun r M2 h3 => ?_)
      obtain ⟨rfl, I2⟩ := h3
      exact vl_icmp_eq F dL_law_794 (tgt := 1498) rfl rfl (H98 M2 I2)
    refine vl_swc F 21 dL_law_33 (by decide) (by decide) rfl (tgt := 799) rfl (fun _ => ?_) (fun n21 => ?_)
    ·
      refine vl_aload F (n := 1) dL_law_799 rfl rfl ?_
      refine vl_fetch F (j := 1) dL_law_800 dL_law_801 dL_law_802 dL_law_803 dL_law_804 rfl (by omega) ?_
      refine vl_callP F ks_L_101 dL_law_805 tb_fv rfl rfl (op_kindFor I) rfl rfl rfl (Nat.le_of_ble_eq_true rfl) (fun r M1 h1 => ?_)
      obtain ⟨v, rfl, h2⟩ := h1
      refine vl_aload F (n := 2) dL_law_808 rfl rfl ?_
      refine vl_fetch F (j := 1) dL_law_809 dL_law_810 dL_law_811 dL_law_812 dL_law_813 rfl (by omega) ?_
      refine vl_callP F ks_L_104 dL_law_814 tb_106 rfl rfl h2 rfl rfl rfl (Nat.le_of_ble_eq_true rfl) (fun r M2 h3 => ?_)
      obtain ⟨rfl, I2⟩ := h3
      exact vl_icmp_eq F dL_law_817 (tgt := 1498) rfl rfl (H98 M2 I2)
    refine vl_swc F 22 dL_law_33 (by decide) (by decide) rfl (tgt := 822) rfl (fun _ => ?_) (fun n22 => ?_)
    ·
      refine vl_aload F (n := 1) dL_law_822 rfl rfl ?_
      refine vl_fetch F (j := 1) dL_law_823 dL_law_824 dL_law_825 dL_law_826 dL_law_827 rfl (by omega) ?_
      refine vl_callP F ks_L_105 dL_law_828 tb_fv rfl rfl (op_quorum I) rfl rfl rfl (Nat.le_of_ble_eq_true rfl) (fun r M1 h1 => ?_)
      obtain ⟨v, rfl, h2⟩ := h1
      refine vl_aload F (n := 2) dL_law_831 rfl rfl ?_
      refine vl_fetch F (j := 1) dL_law_832 dL_law_833 dL_law_834 dL_law_835 dL_law_836 rfl (by omega) ?_
      refine vl_callP F ks_L_108 dL_law_837 tb_106 rfl rfl h2 rfl rfl rfl (Nat.le_of_ble_eq_true rfl) (fun r M2 h3 => ?_)
      obtain ⟨rfl, I2⟩ := h3
      exact vl_icmp_eq F dL_law_840 (tgt := 1498) rfl rfl (H98 M2 I2)
    refine vl_swc F 23 dL_law_33 (by decide) (by decide) rfl (tgt := 845) rfl (fun _ => ?_) (fun n23 => ?_)
    ·
      refine vl_aload F (n := 1) dL_law_845 rfl rfl ?_
      refine vl_fetch F (j := 1) dL_law_846 dL_law_847 dL_law_848 dL_law_849 dL_law_850 rfl (by omega) ?_
      refine vl_callP F ks_L_109 dL_law_851 tb_fv rfl rfl (op_agenda I) rfl rfl rfl (Nat.le_of_ble_eq_true rfl) (fun r M1 h1 => ?_)
      obtain ⟨v, rfl, h2⟩ := h1
      refine vl_aload F (n := 2) dL_law_854 rfl rfl ?_
      refine vl_fetch F (j := 1) dL_law_855 dL_law_856 dL_law_857 dL_law_858 dL_law_859 rfl (by omega) ?_
      refine vl_callP F ks_L_112 dL_law_860 tb_106 rfl rfl h2 rfl rfl rfl (Nat.le_of_ble_eq_true rfl) (fun r M2 h3 => ?_)
      obtain ⟨rfl, I2⟩ := h3
      exact vl_icmp_eq F dL_law_863 (tgt := 1498) rfl rfl (H98 M2 I2)
    refine vl_swc F 24 dL_law_33 (by decide) (by decide) rfl (tgt := 868) rfl (fun _ => ?_) (fun n24 => ?_)
    ·
      refine vl_aload F (n := 1) dL_law_868 rfl rfl ?_
      refine vl_fetch F (j := 1) dL_law_869 dL_law_870 dL_law_871 dL_law_872 dL_law_873 rfl (by omega) ?_
      refine vl_fetch F (j := 2) dL_law_874 dL_law_875 dL_law_876 dL_law_877 dL_law_878 rfl (by omega) ?_
      refine vl_callP F ks_L_113 dL_law_879 tb_fv rfl rfl (op_ith I) rfl rfl rfl (Nat.le_of_ble_eq_true rfl) (fun r M1 h1 => ?_)
      obtain ⟨v, rfl, h2⟩ := h1
      refine vl_aload F (n := 2) dL_law_882 rfl rfl ?_
      refine vl_fetch F (j := 1) dL_law_883 dL_law_884 dL_law_885 dL_law_886 dL_law_887 rfl (by omega) ?_
      refine vl_fetch F (j := 2) dL_law_888 dL_law_889 dL_law_890 dL_law_891 dL_law_892 rfl (by omega) ?_
      refine vl_callP F ks_L_116 dL_law_893 tb_106 rfl rfl h2 rfl rfl rfl (Nat.le_of_ble_eq_true rfl) (fun r M2 h3 => ?_)
      obtain ⟨rfl, I2⟩ := h3
      exact vl_icmp_eq F dL_law_896 (tgt := 1498) rfl rfl (H98 M2 I2)
    refine vl_swc F 25 dL_law_33 (by decide) (by decide) rfl (tgt := 901) rfl (fun _ => ?_) (fun n25 => ?_)
    ·
      refine vl_aload F (n := 1) dL_law_901 rfl rfl ?_
      refine vl_fetch F (j := 1) dL_law_902 dL_law_903 dL_law_904 dL_law_905 dL_law_906 rfl (by omega) ?_
      refine vl_callP F ks_L_117 dL_law_907 tb_fv rfl rfl (op_ways I) rfl rfl rfl (Nat.le_of_ble_eq_true rfl) (fun r M1 h1 => ?_)
      obtain ⟨v, rfl, h2⟩ := h1
      refine vl_aload F (n := 2) dL_law_910 rfl rfl ?_
      refine vl_fetch F (j := 1) dL_law_911 dL_law_912 dL_law_913 dL_law_914 dL_law_915 rfl (by omega) ?_
      refine vl_callP F ks_L_120 dL_law_916 tb_106 rfl rfl h2 rfl rfl rfl (Nat.le_of_ble_eq_true rfl) (fun r M2 h3 => ?_)
      obtain ⟨rfl, I2⟩ := h3
      exact vl_icmp_eq F dL_law_919 (tgt := 1498) rfl rfl (H98 M2 I2)
    refine vl_swc F 26 dL_law_33 (by decide) (by decide) rfl (tgt := 924) rfl (fun _ => ?_) (fun n26 => ?_)
    ·
      refine vl_aload F (n := 1) dL_law_924 rfl rfl ?_
      refine vl_fetch F (j := 1) dL_law_925 dL_law_926 dL_law_927 dL_law_928 dL_law_929 rfl (by omega) ?_
      refine vl_callP F ks_L_121 dL_law_930 tb_fv rfl rfl (op_left I) rfl rfl rfl (Nat.le_of_ble_eq_true rfl) (fun r M1 h1 => ?_)
      obtain ⟨v, rfl, h2⟩ := h1
      refine vl_aload F (n := 2) dL_law_933 rfl rfl ?_
      refine vl_fetch F (j := 1) dL_law_934 dL_law_935 dL_law_936 dL_law_937 dL_law_938 rfl (by omega) ?_
      refine vl_callP F ks_L_124 dL_law_939 tb_106 rfl rfl h2 rfl rfl rfl (Nat.le_of_ble_eq_true rfl) (fun r M2 h3 => ?_)
      obtain ⟨rfl, I2⟩ := h3
      exact vl_icmp_eq F dL_law_942 (tgt := 1498) rfl rfl (H98 M2 I2)
    refine vl_swc F 27 dL_law_33 (by decide) (by decide) rfl (tgt := 947) rfl (fun _ => ?_) (fun n27 => ?_)
    ·
      refine vl_aload F (n := 1) dL_law_947 rfl rfl ?_
      refine vl_fetch F (j := 1) dL_law_948 dL_law_949 dL_law_950 dL_law_951 dL_law_952 rfl (by omega) ?_
      refine vl_fetch F (j := 2) dL_law_953 dL_law_954 dL_law_955 dL_law_956 dL_law_957 rfl (by omega) ?_
      refine vl_fetch F (j := 3) dL_law_958 dL_law_959 dL_law_960 dL_law_961 dL_law_962 rfl (by omega) ?_
      refine vl_callP F ks_L_125 dL_law_963 tb_fv rfl rfl (op_wind I) rfl rfl rfl (Nat.le_of_ble_eq_true rfl) (fun r M1 h1 => ?_)
      obtain ⟨v, rfl, h2⟩ := h1
      refine vl_aload F (n := 2) dL_law_966 rfl rfl ?_
      refine vl_fetch F (j := 1) dL_law_967 dL_law_968 dL_law_969 dL_law_970 dL_law_971 rfl (by omega) ?_
      refine vl_fetch F (j := 2) dL_law_972 dL_law_973 dL_law_974 dL_law_975 dL_law_976 rfl (by omega) ?_
      refine vl_fetch F (j := 3) dL_law_977 dL_law_978 dL_law_979 dL_law_980 dL_law_981 rfl (by omega) ?_
      refine vl_callP F ks_L_129 dL_law_982 tb_106 rfl rfl h2 rfl rfl rfl (Nat.le_of_ble_eq_true rfl) (fun r M2 h3 => ?_)
      obtain ⟨rfl, I2⟩ := h3
      exact vl_lcmp_eq F dL_law_985 dL_law_986 (tgt := 1498) rfl (H98 M2 I2)
    refine vl_swc F 28 dL_law_33 (by decide) (by decide) rfl (tgt := 991) rfl (fun _ => ?_) (fun n28 => ?_)
    ·
      refine vl_aload F (n := 1) dL_law_991 rfl rfl ?_
      refine vl_fetch F (j := 1) dL_law_992 dL_law_993 dL_law_994 dL_law_995 dL_law_996 rfl (by omega) ?_
      refine vl_callP F ks_L_130 dL_law_997 tb_fv rfl rfl (op_fits I) rfl rfl rfl (Nat.le_of_ble_eq_true rfl) (fun r M1 h1 => ?_)
      obtain ⟨v, rfl, h2⟩ := h1
      refine vl_aload F (n := 2) dL_law_1000 rfl rfl ?_
      refine vl_fetch F (j := 1) dL_law_1001 dL_law_1002 dL_law_1003 dL_law_1004 dL_law_1005 rfl (by omega) ?_
      refine vl_callP F ks_L_133 dL_law_1006 tb_106 rfl rfl h2 rfl rfl rfl (Nat.le_of_ble_eq_true rfl) (fun r M2 h3 => ?_)
      obtain ⟨rfl, I2⟩ := h3
      exact vl_icmp_eq F dL_law_1009 (tgt := 1498) rfl rfl (H98 M2 I2)
    refine vl_swc F 29 dL_law_33 (by decide) (by decide) rfl (tgt := 1014) rfl (fun _ => ?_) (fun n29 => ?_)
    ·
      refine vl_aload F (n := 1) dL_law_1014 rfl rfl ?_
      refine vl_fetch F (j := 1) dL_law_1015 dL_law_1016 dL_law_1017 dL_law_1018 dL_law_1019 rfl (by omega) ?_
      refine vl_fetch F (j := 2) dL_law_1020 dL_law_1021 dL_law_1022 dL_law_1023 dL_law_1024 rfl (by omega) ?_
      refine vl_callP F ks_L_134 dL_law_1025 tb_fv rfl rfl (op_stolen I) rfl rfl rfl (Nat.le_of_ble_eq_true rfl) (fun r M1 h1 => ?_)
      obtain ⟨v, rfl, h2⟩ := h1
      refine vl_aload F (n := 2) dL_law_1028 rfl rfl ?_
      refine vl_fetch F (j := 1) dL_law_1029 dL_law_1030 dL_law_1031 dL_law_1032 dL_law_1033 rfl (by omega) ?_
      refine vl_fetch F (j := 2) dL_law_1034 dL_law_1035 dL_law_1036 dL_law_1037 dL_law_1038 rfl (by omega) ?_
      refine vl_callP F ks_L_137 dL_law_1039 tb_106 rfl rfl h2 rfl rfl rfl (Nat.le_of_ble_eq_true rfl) (fun r M2 h3 => ?_)
      obtain ⟨rfl, I2⟩ := h3
      exact vl_icmp_eq F dL_law_1042 (tgt := 1498) rfl rfl (H98 M2 I2)
    refine vl_swc F 30 dL_law_33 (by decide) (by decide) rfl (tgt := 1047) rfl (fun _ => ?_) (fun n30 => ?_)
    ·
      refine vl_aload F (n := 1) dL_law_1047 rfl rfl ?_
      refine vl_fetch F (j := 1) dL_law_1048 dL_law_1049 dL_law_1050 dL_law_1051 dL_law_1052 rfl (by omega) ?_
      refine vl_callP F ks_L_138 dL_law_1053 tb_fv rfl rfl (op_years I) rfl rfl rfl (Nat.le_of_ble_eq_true rfl) (fun r M1 h1 => ?_)
      obtain ⟨v, rfl, h2⟩ := h1
      refine vl_aload F (n := 2) dL_law_1056 rfl rfl ?_
      refine vl_fetch F (j := 1) dL_law_1057 dL_law_1058 dL_law_1059 dL_law_1060 dL_law_1061 rfl (by omega) ?_
      refine vl_callP F ks_L_141 dL_law_1062 tb_106 rfl rfl h2 rfl rfl rfl (Nat.le_of_ble_eq_true rfl) (fun r M2 h3 => ?_)
      obtain ⟨rfl, I2⟩ := h3
      exact vl_icmp_eq F dL_law_1065 (tgt := 1498) rfl rfl (H98 M2 I2)
    refine vl_swc F 31 dL_law_33 (by decide) (by decide) rfl (tgt := 1070) rfl (fun _ => ?_) (fun n31 => ?_)
    ·
      refine vl_aload F (n := 1) dL_law_1070 rfl rfl ?_
      refine vl_fetch F (j := 1) dL_law_1071 dL_law_1072 dL_law_1073 dL_law_1074 dL_law_1075 rfl (by omega) ?_
      refine vl_callP F ks_L_142 dL_law_1076 tb_fv rfl rfl (op_seed I) rfl rfl rfl (Nat.le_of_ble_eq_true rfl) (fun r M1 h1 => ?_)
      obtain ⟨v, rfl, h2⟩ := h1
      refine vl_aload F (n := 2) dL_law_1079 rfl rfl ?_
      refine vl_fetch F (j := 1) dL_law_1080 dL_law_1081 dL_law_1082 dL_law_1083 dL_law_1084 rfl (by omega) ?_
      refine vl_callP F ks_L_145 dL_law_1085 tb_106 rfl rfl h2 rfl rfl rfl (Nat.le_of_ble_eq_true rfl) (fun r M2 h3 => ?_)
      obtain ⟨rfl, I2⟩ := h3
      exact vl_icmp_eq F dL_law_1088 (tgt := 1498) rfl rfl (H98 M2 I2)
    refine vl_swc F 32 dL_law_33 (by decide) (by decide) rfl (tgt := 1093) rfl (fun _ => ?_) (fun n32 => ?_)
    ·
      refine vl_aload F (n := 1) dL_law_1093 rfl rfl ?_
      refine vl_fetch F (j := 1) dL_law_1094 dL_law_1095 dL_law_1096 dL_law_1097 dL_law_1098 rfl (by omega) ?_
      refine vl_fetch F (j := 2) dL_law_1099 dL_law_1100 dL_law_1101 dL_law_1102 dL_law_1103 rfl (by omega) ?_
      refine vl_callP F ks_L_146 dL_law_1104 tb_fv rfl rfl (op_feed I) rfl rfl rfl (Nat.le_of_ble_eq_true rfl) (fun r M1 h1 => ?_)
      obtain ⟨v, rfl, h2⟩ := h1
      refine vl_aload F (n := 2) dL_law_1107 rfl rfl ?_
      refine vl_fetch F (j := 1) dL_law_1108 dL_law_1109 dL_law_1110 dL_law_1111 dL_law_1112 rfl (by omega) ?_
      refine vl_fetch F (j := 2) dL_law_1113 dL_law_1114 dL_law_1115 dL_law_1116 dL_law_1117 rfl (by omega) ?_
      refine vl_callP F ks_L_149 dL_law_1118 tb_106 rfl rfl h2 rfl rfl rfl (Nat.le_of_ble_eq_true rfl) (fun r M2 h3 => ?_)
      obtain ⟨rfl, I2⟩ := h3
      exact vl_icmp_eq F dL_law_1121 (tgt := 1498) rfl rfl (H98 M2 I2)
    refine vl_swc F 33 dL_law_33 (by decide) (by decide) rfl (tgt := 1126) rfl (fun _ => ?_) (fun n33 => ?_)
    ·
      refine vl_aload F (n := 1) dL_law_1126 rfl rfl ?_
      refine vl_callP F ks_L_150 dL_law_1127 tb_fv rfl rfl (op_wipe I) rfl rfl rfl (Nat.le_of_ble_eq_true rfl) (fun r M1 h1 => ?_)
      obtain ⟨v, rfl, h2⟩ := h1
      refine vl_aload F (n := 2) dL_law_1130 rfl rfl ?_
      refine vl_callP F ks_L_153 dL_law_1131 tb_106 rfl rfl h2 rfl rfl rfl (Nat.le_of_ble_eq_true rfl) (fun r M2 h3 => ?_)
      obtain ⟨rfl, I2⟩ := h3
      exact vl_icmp_eq F dL_law_1134 (tgt := 1498) rfl rfl (H98 M2 I2)
    refine vl_swc F 34 dL_law_33 (by decide) (by decide) rfl (tgt := 1139) rfl (fun _ => ?_) (fun n34 => ?_)
    ·
      refine vl_aload F (n := 1) dL_law_1139 rfl rfl ?_
      refine vl_callP F ks_L_154 dL_law_1140 tb_fv rfl rfl (op_text I) rfl rfl rfl (Nat.le_of_ble_eq_true rfl) (fun r M1 h1 => ?_)
      obtain ⟨v, rfl, h2⟩ := h1
      refine vl_aload F (n := 2) dL_law_1143 rfl rfl ?_
      refine vl_callP F ks_L_157 dL_law_1144 tb_106 rfl rfl h2 rfl rfl rfl (Nat.le_of_ble_eq_true rfl) (fun r M2 h3 => ?_)
      obtain ⟨rfl, I2⟩ := h3
      exact vl_icmp_eq F dL_law_1147 (tgt := 1498) rfl rfl (H98 M2 I2)
    refine vl_swc F 35 dL_law_33 (by decide) (by decide) rfl (tgt := 1152) rfl (fun _ => ?_) (fun n35 => ?_)
    ·
      refine vl_aload F (n := 1) dL_law_1152 rfl rfl ?_
      refine vl_fetch F (j := 1) dL_law_1153 dL_law_1154 dL_law_1155 dL_law_1156 dL_law_1157 rfl (by omega) ?_
      refine vl_fetch F (j := 2) dL_law_1158 dL_law_1159 dL_law_1160 dL_law_1161 dL_law_1162 rfl (by omega) ?_
      refine vl_callP F ks_L_158 dL_law_1163 tb_fv rfl rfl (op_hold I) rfl rfl rfl (Nat.le_of_ble_eq_true rfl) (fun r M1 h1 => ?_)
      obtain ⟨v, rfl, h2⟩ := h1
      refine vl_aload F (n := 2) dL_law_1166 rfl rfl ?_
      refine vl_fetch F (j := 1) dL_law_1167 dL_law_1168 dL_law_1169 dL_law_1170 dL_law_1171 rfl (by omega) ?_
      refine vl_fetch F (j := 2) dL_law_1172 dL_law_1173 dL_law_1174 dL_law_1175 dL_law_1176 rfl (by omega) ?_
      refine vl_callP F ks_L_161 dL_law_1177 tb_106 rfl rfl h2 rfl rfl rfl (Nat.le_of_ble_eq_true rfl) (fun r M2 h3 => ?_)
      obtain ⟨rfl, I2⟩ := h3
      exact vl_icmp_eq F dL_law_1180 (tgt := 1498) rfl rfl (H98 M2 I2)
    refine vl_swc F 36 dL_law_33 (by decide) (by decide) rfl (tgt := 1185) rfl (fun _ => ?_) (fun n36 => ?_)
    ·
      refine vl_aload F (n := 1) dL_law_1185 rfl rfl ?_
      refine vl_fetch F (j := 1) dL_law_1186 dL_law_1187 dL_law_1188 dL_law_1189 dL_law_1190 rfl (by omega) ?_
      refine vl_fetch F (j := 2) dL_law_1191 dL_law_1192 dL_law_1193 dL_law_1194 dL_law_1195 rfl (by omega) ?_
      refine vl_callP F ks_L_162 dL_law_1196 tb_fv rfl rfl (op_as I) rfl rfl rfl (Nat.le_of_ble_eq_true rfl) (fun r M1 h1 => ?_)
      obtain ⟨v, rfl, h2⟩ := h1
      refine vl_aload F (n := 2) dL_law_1199 rfl rfl ?_
      refine vl_fetch F (j := 1) dL_law_1200 dL_law_1201 dL_law_1202 dL_law_1203 dL_law_1204 rfl (by omega) ?_
      refine vl_fetch F (j := 2) dL_law_1205 dL_law_1206 dL_law_1207 dL_law_1208 dL_law_1209 rfl (by omega) ?_
      refine vl_callP F ks_L_165 dL_law_1210 tb_106 rfl rfl h2 rfl rfl rfl (Nat.le_of_ble_eq_true rfl) (fun r M2 h3 => ?_)
      obtain ⟨rfl, I2⟩ := h3
      exact vl_icmp_eq F dL_law_1213 (tgt := 1498) rfl rfl (H98 M2 I2)
    refine vl_swc F 37 dL_law_33 (by decide) (by decide) rfl (tgt := 1218) rfl (fun _ => ?_) (fun n37 => ?_)
    ·
      refine vl_aload F (n := 1) dL_law_1218 rfl rfl ?_
      refine vl_fetch F (j := 1) dL_law_1219 dL_law_1220 dL_law_1221 dL_law_1222 dL_law_1223 rfl (by omega) ?_
      refine vl_fetch F (j := 2) dL_law_1224 dL_law_1225 dL_law_1226 dL_law_1227 dL_law_1228 rfl (by omega) ?_
      refine vl_fetch F (j := 3) dL_law_1229 dL_law_1230 dL_law_1231 dL_law_1232 dL_law_1233 rfl (by omega) ?_
      refine vl_callP F ks_L_166 dL_law_1234 tb_fv rfl rfl (op_sheet I) rfl rfl rfl (Nat.le_of_ble_eq_true rfl) (fun r M1 h1 => ?_)
      obtain ⟨v, rfl, h2⟩ := h1
      refine vl_aload F (n := 2) dL_law_1237 rfl rfl ?_
      refine vl_fetch F (j := 1) dL_law_1238 dL_law_1239 dL_law_1240 dL_law_1241 dL_law_1242 rfl (by omega) ?_
      refine vl_fetch F (j := 2) dL_law_1243 dL_law_1244 dL_law_1245 dL_law_1246 dL_law_1247 rfl (by omega) ?_
      refine vl_fetch F (j := 3) dL_law_1248 dL_law_1249 dL_law_1250 dL_law_1251 dL_law_1252 rfl (by omega) ?_
      refine vl_callP F ks_L_169 dL_law_1253 tb_106 rfl rfl h2 rfl rfl rfl (Nat.le_of_ble_eq_true rfl) (fun r M2 h3 => ?_)
      obtain ⟨rfl, I2⟩ := h3
      exact vl_icmp_eq F dL_law_1256 (tgt := 1498) rfl rfl (H98 M2 I2)
    refine vl_swc F 38 dL_law_33 (by decide) (by decide) rfl (tgt := 1261) rfl (fun _ => ?_) (fun n38 => ?_)
    ·
      refine vl_aload F (n := 1) dL_law_1261 rfl rfl ?_
      refine vl_fetch F (j := 1) dL_law_1262 dL_law_1263 dL_law_1264 dL_law_1265 dL_law_1266 rfl (by omega) ?_
      refine vl_fetch F (j := 2) dL_law_1267 dL_law_1268 dL_law_1269 dL_law_1270 dL_law_1271 rfl (by omega) ?_
      refine vl_fetch F (j := 3) dL_law_1272 dL_law_1273 dL_law_1274 dL_law_1275 dL_law_1276 rfl (by omega) ?_
      refine vl_callP F ks_L_170 dL_law_1277 tb_fv rfl rfl (op_write I) rfl rfl rfl (Nat.le_of_ble_eq_true rfl) (fun r M1 h1 => ?_)
      obtain ⟨v, rfl, h2⟩ := h1
      refine vl_aload F (n := 2) dL_law_1280 rfl rfl ?_
      refine vl_fetch F (j := 1) dL_law_1281 dL_law_1282 dL_law_1283 dL_law_1284 dL_law_1285 rfl (by omega) ?_
      refine vl_fetch F (j := 2) dL_law_1286 dL_law_1287 dL_law_1288 dL_law_1289 dL_law_1290 rfl (by omega) ?_
      refine vl_fetch F (j := 3) dL_law_1291 dL_law_1292 dL_law_1293 dL_law_1294 dL_law_1295 rfl (by omega) ?_
      refine vl_callP F ks_L_173 dL_law_1296 tb_106 rfl rfl h2 rfl rfl rfl (Nat.le_of_ble_eq_true rfl) (fun r M2 h3 => ?_)
      obtain ⟨rfl, I2⟩ := h3
      exact vl_icmp_eq F dL_law_1299 (tgt := 1498) rfl rfl (H98 M2 I2)
    refine vl_swc F 39 dL_law_33 (by decide) (by decide) rfl (tgt := 1304) rfl (fun _ => ?_) (fun n39 => ?_)
    ·
      refine vl_aload F (n := 1) dL_law_1304 rfl rfl ?_
      refine vl_fetch F (j := 1) dL_law_1305 dL_law_1306 dL_law_1307 dL_law_1308 dL_law_1309 rfl (by omega) ?_
      refine vl_fetch F (j := 2) dL_law_1310 dL_law_1311 dL_law_1312 dL_law_1313 dL_law_1314 rfl (by omega) ?_
      refine vl_fetch F (j := 3) dL_law_1315 dL_law_1316 dL_law_1317 dL_law_1318 dL_law_1319 rfl (by omega) ?_
      refine vl_fetch F (j := 4) dL_law_1320 dL_law_1321 dL_law_1322 dL_law_1323 dL_law_1324 rfl (by omega) ?_
      refine vl_fetch F (j := 5) dL_law_1325 dL_law_1326 dL_law_1327 dL_law_1328 dL_law_1329 rfl (by omega) ?_
      refine vl_callP F ks_L_174 dL_law_1330 tb_fv rfl rfl (op_copy I) rfl rfl rfl (Nat.le_of_ble_eq_true rfl) (fun r M1 h1 => ?_)
      obtain ⟨v, rfl, h2⟩ := h1
      refine vl_aload F (n := 2) dL_law_1333 rfl rfl ?_
      refine vl_fetch F (j := 1) dL_law_1334 dL_law_1335 dL_law_1336 dL_law_1337 dL_law_1338 rfl (by omega) ?_
      refine vl_fetch F (j := 2) dL_law_1339 dL_law_1340 dL_law_1341 dL_law_1342 dL_law_1343 rfl (by omega) ?_
      refine vl_fetch F (j := 3) dL_law_1344 dL_law_1345 dL_law_1346 dL_law_1347 dL_law_1348 rfl (by omega) ?_
      refine vl_fetch F (j := 4) dL_law_1349 dL_law_1350 dL_law_1351 dL_law_1352 dL_law_1353 rfl (by omega) ?_
      refine vl_fetch F (j := 5) dL_law_1354 dL_law_1355 dL_law_1356 dL_law_1357 dL_law_1358 rfl (by omega) ?_
      refine vl_callP F ks_L_178 dL_law_1359 tb_106 rfl rfl h2 rfl rfl rfl (Nat.le_of_ble_eq_true rfl) (fun r M2 h3 => ?_)
      obtain ⟨rfl, I2⟩ := h3
      exact vl_icmp_eq F dL_law_1362 (tgt := 1498) rfl rfl (H98 M2 I2)
    refine vl_swc F 40 dL_law_33 (by decide) (by decide) rfl (tgt := 1367) rfl (fun _ => ?_) (fun n40 => ?_)
    ·
      refine vl_aload F (n := 1) dL_law_1367 rfl rfl ?_
      refine vl_fetch F (j := 1) dL_law_1368 dL_law_1369 dL_law_1370 dL_law_1371 dL_law_1372 rfl (by omega) ?_
      refine vl_callP F ks_L_179 dL_law_1373 tb_fv rfl rfl (op_load I) rfl rfl rfl (Nat.le_of_ble_eq_true rfl) (fun r M1 h1 => ?_)
      obtain ⟨v, rfl, h2⟩ := h1
      refine vl_aload F (n := 2) dL_law_1376 rfl rfl ?_
      refine vl_fetch F (j := 1) dL_law_1377 dL_law_1378 dL_law_1379 dL_law_1380 dL_law_1381 rfl (by omega) ?_
      refine vl_callP F ks_L_182 dL_law_1382 tb_106 rfl rfl h2 rfl rfl rfl (Nat.le_of_ble_eq_true rfl) (fun r M2 h3 => ?_)
      obtain ⟨rfl, I2⟩ := h3
      exact vl_icmp_eq F dL_law_1385 (tgt := 1498) rfl rfl (H98 M2 I2)
    refine vl_swc F 41 dL_law_33 (by decide) (by decide) rfl (tgt := 1390) rfl (fun _ => ?_) (fun n41 => ?_)
    ·
      refine vl_aload F (n := 1) dL_law_1390 rfl rfl ?_
      refine vl_fetch F (j := 1) dL_law_1391 dL_law_1392 dL_law_1393 dL_law_1394 dL_law_1395 rfl (by omega) ?_
      refine vl_callP F ks_L_183 dL_law_1396 tb_fv rfl rfl (op_judge I) rfl rfl rfl (Nat.le_of_ble_eq_true rfl) (fun r M1 h1 => ?_)
      obtain ⟨v, rfl, h2⟩ := h1
      refine vl_aload F (n := 2) dL_law_1399 rfl rfl ?_
      refine vl_fetch F (j := 1) dL_law_1400 dL_law_1401 dL_law_1402 dL_law_1403 dL_law_1404 rfl (by omega) ?_
      refine vl_callP F ks_L_186 dL_law_1405 tb_106 rfl rfl h2 rfl rfl rfl (Nat.le_of_ble_eq_true rfl) (fun r M2 h3 => ?_)
      obtain ⟨rfl, I2⟩ := h3
      exact vl_icmp_eq F dL_law_1408 (tgt := 1498) rfl rfl (H98 M2 I2)
    refine vl_swc F 42 dL_law_33 (by decide) (by decide) rfl (tgt := 1413) rfl (fun _ => ?_) (fun n42 => ?_)
    ·
      refine vl_aload F (n := 1) dL_law_1413 rfl rfl ?_
      refine vl_callP F ks_L_187 dL_law_1414 tb_fv rfl rfl (op_image I) rfl rfl rfl (Nat.le_of_ble_eq_true rfl) (fun r M1 h1 => ?_)
      obtain ⟨v, rfl, h2⟩ := h1
      refine vl_aload F (n := 2) dL_law_1417 rfl rfl ?_
      refine vl_callP F ks_L_190 dL_law_1418 tb_106 rfl rfl h2 rfl rfl rfl (Nat.le_of_ble_eq_true rfl) (fun r M2 h3 => ?_)
      obtain ⟨rfl, I2⟩ := h3
      exact vl_icmp_eq F dL_law_1421 (tgt := 1498) rfl rfl (H98 M2 I2)
    refine vl_swc F 43 dL_law_33 (by decide) (by decide) rfl (tgt := 1426) rfl (fun _ => ?_) (fun n43 => ?_)
    ·
      refine vl_aload F (n := 1) dL_law_1426 rfl rfl ?_
      refine vl_callP F ks_L_191 dL_law_1427 tb_fv rfl rfl (op_undo I) rfl rfl rfl (Nat.le_of_ble_eq_true rfl) (fun r M1 h1 => ?_)
      obtain ⟨v, rfl, h2⟩ := h1
      refine vl_aload F (n := 2) dL_law_1430 rfl rfl ?_
      refine vl_callP F ks_L_194 dL_law_1431 tb_106 rfl rfl h2 rfl rfl rfl (Nat.le_of_ble_eq_true rfl) (fun r M2 h3 => ?_)
      obtain ⟨rfl, I2⟩ := h3
      exact vl_icmp_eq F dL_law_1434 (tgt := 1498) rfl rfl (H98 M2 I2)
    refine vl_swc F 44 dL_law_33 (by decide) (by decide) rfl (tgt := 1439) rfl (fun _ => ?_) (fun n44 => ?_)
    ·
      refine vl_aload F (n := 1) dL_law_1439 rfl rfl ?_
      refine vl_callP F ks_L_195 dL_law_1440 tb_fv rfl rfl (op_tear I) rfl rfl rfl (Nat.le_of_ble_eq_true rfl) (fun r M1 h1 => ?_)
      obtain ⟨v, rfl, h2⟩ := h1
      refine vl_aload F (n := 2) dL_law_1443 rfl rfl ?_
      refine vl_callP F ks_L_198 dL_law_1444 tb_106 rfl rfl h2 rfl rfl rfl (Nat.le_of_ble_eq_true rfl) (fun r M2 h3 => ?_)
      obtain ⟨rfl, I2⟩ := h3
      exact vl_icmp_eq F dL_law_1447 (tgt := 1498) rfl rfl (H98 M2 I2)
    refine vl_swc F 45 dL_law_33 (by decide) (by decide) rfl (tgt := 1452) rfl (fun _ => ?_) (fun n45 => ?_)
    ·
      refine vl_aload F (n := 1) dL_law_1452 rfl rfl ?_
      refine vl_fetch F (j := 1) dL_law_1453 dL_law_1454 dL_law_1455 dL_law_1456 dL_law_1457 rfl (by omega) ?_
      refine vl_callP F ks_L_199 dL_law_1458 tb_fv rfl rfl (op_count I) rfl rfl rfl (Nat.le_of_ble_eq_true rfl) (fun r M1 h1 => ?_)
      obtain ⟨v, rfl, h2⟩ := h1
      refine vl_aload F (n := 2) dL_law_1461 rfl rfl ?_
      refine vl_fetch F (j := 1) dL_law_1462 dL_law_1463 dL_law_1464 dL_law_1465 dL_law_1466 rfl (by omega) ?_
      refine vl_callP F ks_L_202 dL_law_1467 tb_106 rfl rfl h2 rfl rfl rfl (Nat.le_of_ble_eq_true rfl) (fun r M2 h3 => ?_)
      obtain ⟨rfl, I2⟩ := h3
      exact vl_icmp_eq F dL_law_1470 (tgt := 1498) rfl rfl (H98 M2 I2)
    refine vl_swc F 46 dL_law_33 (by decide) (by decide) rfl (tgt := 1475) rfl (fun _ => ?_) (fun n46 => ?_)
    ·
      refine vl_aload F (n := 1) dL_law_1475 rfl rfl ?_
      refine vl_fetch F (j := 1) dL_law_1476 dL_law_1477 dL_law_1478 dL_law_1479 dL_law_1480 rfl (by omega) ?_
      refine vl_callP F ks_L_203 dL_law_1481 tb_fv rfl rfl (op_status I) rfl rfl rfl (Nat.le_of_ble_eq_true rfl) (fun r M1 h1 => ?_)
      obtain ⟨v, rfl, h2⟩ := h1
      refine vl_aload F (n := 2) dL_law_1484 rfl rfl ?_
      refine vl_fetch F (j := 1) dL_law_1485 dL_law_1486 dL_law_1487 dL_law_1488 dL_law_1489 rfl (by omega) ?_
      refine vl_callP F ks_L_206 dL_law_1490 tb_106 rfl rfl h2 rfl rfl rfl (Nat.le_of_ble_eq_true rfl) (fun r M2 h3 => ?_)
      obtain ⟨rfl, I2⟩ := h3
      exact vl_icmp_eq F dL_law_1493 (tgt := 1498) rfl rfl (H98 M2 I2)
    refine vl_swd F dL_law_33 (fun z hl hh => ?_) (tgt := 1498) rfl (H98 M I)
    rcases (show z = 0 ∨ z = 1 ∨ z = 2 ∨ z = 3 ∨ z = 4 ∨ z = 5 ∨ z = 6 ∨ z = 7 ∨ z = 8 ∨ z = 9 ∨ z = 10 ∨ z = 11 ∨ z = 12 ∨ z = 13 ∨ z = 14 ∨ z = 15 ∨ z = 16 ∨ z = 17 ∨ z = 18 ∨ z = 19 ∨ z = 20 ∨ z = 21 ∨ z = 22 ∨ z = 23 ∨ z = 24 ∨ z = 25 ∨ z = 26 ∨ z = 27 ∨ z = 28 ∨ z = 29 ∨ z = 30 ∨ z = 31 ∨ z = 32 ∨ z = 33 ∨ z = 34 ∨ z = 35 ∨ z = 36 ∨ z = 37 ∨ z = 38 ∨ z = 39 ∨ z = 40 ∨ z = 41 ∨ z = 42 ∨ z = 43 ∨ z = 44 ∨ z = 45 ∨ z = 46 by omega) with rfl | rfl | rfl | rfl | rfl | rfl | rfl | rfl | rfl | rfl | rfl | rfl | rfl | rfl | rfl | rfl | rfl | rfl | rfl | rfl | rfl | rfl | rfl | rfl | rfl | rfl | rfl | rfl | rfl | rfl | rfl | rfl | rfl | rfl | rfl | rfl | rfl | rfl | rfl | rfl | rfl | rfl | rfl | rfl | rfl | rfl | rfl <;> assumption
end VL
