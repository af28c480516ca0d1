section STR
variable {E : fv_E} {y y' : fv_Y} {d pc idx n : Nat} {Φ Φ' : Option Value → fv_M → Prop} {ls : List (Option Value)} {st As rest : List Value} {M M0 : fv_M}
theorem x_ldcs {k : Nat} (hdg : decode y.2.1 pc = .ok (.ldc idx, 2)) (hk : k < 15) (hi : fv_kI.getD k 0 = idx) (hy : y.1.cls = RX5) (kk : fv_X E y d Φ (pc + 2) ls (.ref (1000 + k) :: st) M) : fv_X E y d Φ pc ls st M := by
  intro p l e s m args below meth c H locs lsA F hP hS hL
  subst hi
  obtain ⟨-, -, -, -, -, -, -, h8⟩ := F.2.2.2.2.2.2.2.2.2
  exact va_ldcS F.1 F.2.1 F.2.2.2.1 (by rw [hy]; exact h8 k hk) hdg (kk p l e s m args below meth c H locs lsA F hP hS hL)
theorem x_sval {k : Nat} (hw : Cond.fieldLink y.1.cls idx "java/lang/String" "value" "[B" ∈ fv_g) (hdg : decode y.2.1 pc = .ok (.getfield idx, 3)) (hk : k < 15) (kk : fv_X E y d Φ (pc + 3) ls (.ref (1500 + k) :: st) M) : fv_X E y d Φ pc ls (.ref (1000 + k) :: st) M := by
  intro p l e s m args below meth c H locs lsA F hP hS hL
  obtain ⟨-, -, -, -, -, -, h7, -⟩ := F.2.2.2.2.2.2.2.2.2
  exact vk_getf F.1 F.2.1 (h7.1 k hk).2.2.1 hS F.2.2.2.1 (F.2.2.2.2.1 _ hw) (fun _ h => h) hdg (kk p l e s m args below meth c H locs lsA F hP hS hL)
theorem x_scod {k : Nat} (hw : Cond.fieldLink y.1.cls idx "java/lang/String" "coder" "B" ∈ fv_g) (hdg : decode y.2.1 pc = .ok (.getfield idx, 3)) (hk : k < 15) (kk : fv_X E y d Φ (pc + 3) ls (.int 0 :: st) M) : fv_X E y d Φ pc ls (.ref (1000 + k) :: st) M := by
  intro p l e s m args below meth c H locs lsA F hP hS hL
  obtain ⟨-, -, -, -, -, -, h7, -⟩ := F.2.2.2.2.2.2.2.2.2
  exact vk_getf F.1 F.2.1 (h7.1 k hk).2.1 hS F.2.2.2.1 (F.2.2.2.2.1 _ hw) (fun _ h => h) hdg (kk p l e s m args below meth c H locs lsA F hP hS hL)
theorem x_slen {k : Nat} (hdg : decode y.2.1 pc = .ok (.arraylength, 1)) (hk : k < 15) (kk : fv_X E y d Φ (pc + 1) ls (.int (nI (fv_kL.getD k 0)) :: st) M) : fv_X E y d Φ pc ls (.ref (1500 + k) :: st) M := by
  intro p l e s m args below meth c H locs lsA F hP hS hL
  obtain ⟨-, -, -, -, -, -, h7, -⟩ := F.2.2.2.2.2.2.2.2.2
  exact va_tlen F.1 F.2.1 (h7.1 k hk).2.2.2 hS rfl hdg (kk p l e s m args below meth c H locs lsA F hP hS hL)
theorem x_sbal {k c : Nat} {i : Int32} (hdg : decode y.2.1 pc = .ok (.baload, 1)) (hk : k < 15) (hi : i = nI c) (hc : c < fv_kL.getD k 0) (hl : fv_kL.getD k 0 < 100) (kk : fv_X E y d Φ (pc + 1) ls (.int ((fv_kB.getD k []).getD c 0) :: st) M) : fv_X E y d Φ pc ls (.int i :: .ref (1500 + k) :: st) M := by
  intro p l e s m args below meth c' H locs lsA F hP hS hL
  subst hi
  obtain ⟨-, -, -, -, -, -, h7, -⟩ := F.2.2.2.2.2.2.2.2.2
  refine va_tb F.1 F.2.1 (h7.1 k hk).2.2.2 hS (nI_in hc (by omega)) (v := .int ((fv_kB.getD k []).getD c 0)) ?_ hdg ?_
  · rw [nI_clamp (by omega)]
  · exact kk p l e s m args below meth c' H locs lsA F hP hS hL
theorem x_comp (hw : Cond.fieldLink y.1.cls idx "java/lang/String" "COMPACT_STRINGS" "Z" ∈ fv_g) (hdg : decode y.2.1 pc = .ok (.getstatic idx, 3)) (k : fv_X E y d Φ (pc + 3) ls (.int 1 :: st) M) : fv_X E y d Φ pc ls st M := by
  intro p l e s m args below meth c H locs lsA F hP hS hL
  obtain ⟨-, -, -, -, h5, -⟩ := F.2.2.2.2.2.2.2.2.2
  exact va_gets F.1 F.2.1 h5 hS F.2.2.2.1 (F.2.2.2.2.1 _ hw) (fun _ h => h) hdg (k p l e s m args below meth c H locs lsA F hP hS hL)
/-- a call on a string -/
theorem x_callT {k : Nat} (hk : fv_kV y.1.cls idx y' n) (hdg : decode y.2.1 pc = .ok (.invokevirtual idx, 3)) (hk15 : k < 15) (hq : "java/lang/String" = y'.1.cls) (hC : fv_C E d y' (.ref (1000 + k) :: As) M Φ') (hst : st = As.reverse ++ .ref (1000 + k) :: rest) (hn : As.length = n) (hlen : ls.length = y.2.2.1) (hroom : (rest.map fun v => v.category).sum ≤ 8)
    (kk : ∀ (r : Option Value) (M' : fv_M), Φ' r M' → fv_X E y (d + 1) Φ (pc + 3) ls (r.toList ++ rest) M') : fv_X E y (d + 1) Φ pc ls st M := by
  intro p l e s m args below meth c H locs lsA F hP hS hL
  obtain ⟨hx, hb, hml, hown, hts, hlk, hret, hSF⟩ := id F
  obtain ⟨k1, k2, k2', k3, k4, k5, k6⟩ := hk
  obtain ⟨-, -, -, -, -, -, h7, -⟩ := F.2.2.2.2.2.2.2.2.2
  have hpre := fv_pre (as := .ref (1000 + k) :: As) hSF hP hS
  have hr := va_runV (As := As.map (fv_cv E)) (rest := rest.map (fv_cv E)) (b := E.2.1 (1000 + k)) (C := y'.1.cls) (g := F0 m pc lsA (st.map (fv_cv E))) (below := below) (e := e) (meth := meth) (locs := locs) (cells := 0) (slots := 0) ⟨hx, hb, hml, hown, hts⟩ (hC l)
    ⟨callB_of n hts (fv_good k4) rfl rfl rfl (hts _ k3) (hts _ k1) k5 (R := fv_rm (d + 1)) ⟨Nat.le_refl _, by show 8 + (y'.2.2.1 + 11) + 38 * d ≤ 38 * (d + 1); omega⟩, hts _ k2, hts _ k2'⟩
    ⟨hpre.1, by rw [← hq]; exact vk_recv (i := k) h7 hk15 hS, hpre.2⟩
    rfl (by rw [List.length_map]; exact hn) (hL.1.trans hlen) (by show st.map _ = _; rw [hst, List.map_append, List.map_reverse]; rfl) (lv_room (by rw [fv_sum]; exact hroom)) hdg ⟨Nat.zero_le _, Nat.zero_le _⟩
  refine fv_run hr hS (fun r M' H1 locs1 hΦ hP1 hS1 => ?_)
  have := kk r M' hΦ p l e s m args below meth c H1 locs1 lsA F hP1 hS1 hL
  cases r <;> exact this
theorem x_Ti {k : Nat} {r : Int32} (hk : fv_kV y.1.cls idx y' n) (hdg : decode y.2.1 pc = .ok (.invokevirtual idx, 3)) (hk15 : k < 15) (hq : "java/lang/String" = y'.1.cls) (hC : fv_F E d y' (.ref (1000 + k) :: As) M (some (.int r)) M0) (hst : st = As.reverse ++ .ref (1000 + k) :: rest) (hn : As.length = n) (hlen : ls.length = y.2.2.1) (hroom : (rest.map fun v => v.category).sum ≤ 8)
    (kk : fv_X E y (d + 1) Φ (pc + 3) ls (.int r :: rest) M0) : fv_X E y (d + 1) Φ pc ls st M :=
  x_callT hk hdg hk15 hq hC hst hn hlen hroom (fun _ _ h => by obtain ⟨rfl, rfl⟩ := h; exact kk)
/-- a contract at raw arguments -/
theorem fv_Rof {as : List Value} {d : Nat} (hy : plainName y.1.cls = true) (hcat : ∀ v ∈ as, v.category = 1) (hle : as.length = y.2.2.1) (hls : ls.length = y.2.2.1) (hat : ∀ (i : Nat) (v : Value), ls[i]? = some (some v) → as[i]? = some (fv_cv E v)) (h : fv_X E y d Φ 0 ls [] M) (l : Launch) :
    Met l y.1 (fv_ws y) (fv_rm d) (va_Pc as (fun U => fv_SF E U ∧ va_P E.2.2.1 vwCl (fv_W E M) U.heap)) (fv_Q E Φ) 0 0 (fv_A E) := by
  refine Met.ofW (cc := y.2.1) (maxL := y.2.2.1) (ret := y.2.2.2) hy rfl ?_
  intro p e s m args' below meth c s₁ B hml hv
  obtain ⟨rfl, hSF, hP⟩ := hv
  have hts := atoms_spec (ws := fv_ws y) B.pre
  have hown : s.vm.findClass y.1.cls = some m.cls := findClass_of_methodNamed B.named
  have hsl : ∀ vs : List Value, (∀ v ∈ vs, v.category = 1) → (lg_sl vs).length = vs.length ∧ ∀ (k i : Nat) (v : Value), vs[i]? = some v → (k + i, v) ∈ lv_args k vs := by
    intro vs
    induction vs with
    | nil => intro _; exact ⟨rfl, fun k i v h => by simp at h⟩
    | cons w vs ih =>
      intro hc
      obtain ⟨a1, a2⟩ := ih (fun v hv => hc v (List.mem_cons_of_mem _ hv))
      have hw : w.category = 1 := hc w List.mem_cons_self
      have hw2 : ¬ w.category = 2 := by rw [hw]; decide
      refine ⟨?_, fun k i v h => ?_⟩
      · unfold lg_sl at a1 ⊢
        rw [List.flatMap_cons, List.length_append, a1, if_neg hw2]
        simp only [List.length_cons, List.length_nil]; omega
      · unfold lv_args
        rw [if_neg hw2]
        match i with
        | 0 => simp at h; subst h; exact List.mem_cons_self
        | i + 1 =>
          have h2 := a2 (k + 1) i v (by simpa using h)
          rw [show k + (i + 1) = k + 1 + i by omega]
          exact List.mem_cons_of_mem _ h2
  obtain ⟨b1, b2⟩ := hsl as hcat
  rw [lg_entry_eq]
  have hl := lv_entry as (n := y.2.2.1) (by rw [b1, hle]; exact Nat.le_refl _)
  refine h p l e s m _ below meth c s.heap [] _ ⟨B.exec, B.bytes, hml, hown, fun w hw => hts w (List.mem_cons_of_mem _ hw), B.notSynchronized, B.returns, hSF⟩ hP va_S.rf ⟨?_, hl.2.1, ?_⟩
  · rw [hl.1, hls]
  · intro i v hv
    have := b2 0 i _ (hat i v hv)
    rw [Nat.zero_add] at this
    exact hl.2.2 _ this
/-- getstatic of the formatter, then the check of an index that is in order -/
theorem x_chk {i k : Int32} {gi : Nat} (hw : Cond.fieldLink y.1.cls gi "jdk/internal/util/Preconditions" "SIOOBE_FORMATTER" "Ljava/util/function/BiFunction;" ∈ fv_g) (hk : fv_kS y.1.cls idx y' 3) (hdg1 : decode y.2.1 pc = .ok (.getstatic gi, 3)) (hdg2 : decode y.2.1 (pc + 3) = .ok (.invokestatic idx, 3)) (hC : ∀ (v : Value), v.category = 1 → ∀ l : Launch, Met l y'.1 (fv_ws y') (fv_rm d) (va_Pc [.int i, .int k, v] (fun U => fv_SF E U ∧ va_P E.2.2.1 vwCl (fv_W E M) U.heap)) (fv_Q E (fun r M' => r = some (.int i) ∧ M' = M)) 0 0 (fv_A E)) (hlen : ls.length = y.2.2.1) (hroom : (st.map fun v => v.category).sum ≤ 8)
    (kk : fv_X E y (d + 1) Φ (pc + 6) ls (.int i :: st) M) : fv_X E y (d + 1) Φ pc ls (.int k :: .int i :: st) M := by
  intro p l e s m args below meth c H locs lsA F hP hS hL
  obtain ⟨hx, hb, hml, hown, hts, hlk, hret, hSF⟩ := id F
  obtain ⟨k1, k2, k3, k4, k5, k6⟩ := hk
  obtain ⟨-, -, -, -, -, h6, -⟩ := F.2.2.2.2.2.2.2.2.2
  obtain ⟨v, hv, hz⟩ : ∃ v : Value, v.category = 1 ∧ va_Z "jdk/internal/util/Preconditions" "SIOOBE_FORMATTER" "Ljava/util/function/BiFunction;" v (fv_A E) s s.heap := by
    rcases h6 with h | ⟨t, h⟩
    · exact ⟨.null, rfl, h⟩
    · exact ⟨.ref t, rfl, h⟩
  refine va_gets F.1 F.2.1 hz hS F.2.2.2.1 (F.2.2.2.2.1 _ hw) (fun _ h => h) hdg1 ?_
  have hpre : PreS s H (va_Pc [.int i, .int k, v] (fun U => fv_SF E U ∧ va_P E.2.2.1 vwCl (fv_W E M) U.heap)) [.int i, .int k, v] :=
    ⟨fun a U g mk q => ⟨q.1, q.2.1.calling g mk a, q.2.2⟩, fun U hU hW => ⟨rfl, hSF.at hW (by rw [hU]; exact hS), by rw [hU]; exact hP⟩⟩
  have hr := va_runS (As := [.int i, .int k, v]) (rest := st.map (fv_cv E)) (g := F0 m (pc + 3) lsA (v :: .int k :: .int i :: st.map (fv_cv E))) (below := below) (e := e) (meth := meth) (locs := locs) (cells := 0) (slots := 0) ⟨hx, hb, hml, hown, hts⟩ (hC v hv l)
    ⟨callB_of 3 hts (fv_good k4) rfl rfl rfl (hts _ k3) (hts _ k1) k5 (R := fv_rm (d + 1)) ⟨Nat.le_refl _, by show 8 + (y'.2.2.1 + 11) + 38 * d ≤ 38 * (d + 1); omega⟩, hts _ k2⟩ hpre
    rfl rfl (hL.1.trans hlen) rfl (lv_room (by rw [fv_sum]; exact hroom)) hdg2 ⟨Nat.zero_le _, Nat.zero_le _⟩
  refine fv_run hr hS (fun r M' H1 locs1 hΦ hP1 hS1 => ?_)
  obtain ⟨rfl, rfl⟩ := hΦ
  exact kk p l e s m args below meth c H1 locs1 lsA F hP1 hS1 hL
end STR
theorem wf_J0_38 : Cond.fieldLink "java/lang/String" 38 "java/lang/String" "COMPACT_STRINGS" "Z" ∈ fv_g := fv_mem 755 (by decide +kernel) rfl
theorem wf_J0_1053 : Cond.fieldLink "java/lang/String" 1053 "jdk/internal/util/Preconditions" "SIOOBE_FORMATTER" "Ljava/util/function/BiFunction;" ∈ fv_g := fv_mem 771 (by decide +kernel) rfl
theorem wf_J0_9 : Cond.fieldLink "java/lang/String" 9 "java/lang/String" "value" "[B" ∈ fv_g := fv_mem 1394 (by decide +kernel) rfl
theorem wf_J0_15 : Cond.fieldLink "java/lang/String" 15 "java/lang/String" "coder" "B" ∈ fv_g := fv_mem 1395 (by decide +kernel) rfl
theorem hJ0_coder {E : fv_E} {d k : Nat} {M : fv_M} (hk : k < 15) : fv_F E d mJ0_coder_7d493 [.ref (1000 + k)] M (some (.int 0)) M := by
  refine fv_F.of (ls := [some (.ref (1000 + k))]) (by decide) (Nat.le_of_ble_eq_true rfl) rfl ?_
  refine x_comp wf_J0_38 dJ0_coder_7d493_0 ?_
  refine x_if_eq (pc := 3) dJ0_coder_7d493_3 (tgt := 13) rfl (fun h => absurd h (by decide)) (fun h => ?_)
  refine x_aload_n (pc := 6) dJ0_coder_7d493_6 rfl rfl ?_
  refine x_scod (pc := 7) wf_J0_15 dJ0_coder_7d493_7 hk ?_
  refine x_goto (pc := 10) dJ0_coder_7d493_10 (tgt := 14) rfl ?_
  refine x_iret (pc := 14) dJ0_coder_7d493_14 rfl rfl ?_
  exact ⟨rfl, rfl⟩
theorem pStr_all : ((List.range 15).all fun k => decide (fv_kL.getD k 0 < 100 ∧ nI (fv_kL.getD k 0) >>> ((0 : Int32) &&& 31) = nI (fv_kL.getD k 0)) && (List.range (fv_kL.getD k 0)).all fun c => decide (((((fv_kB.getD k []).getD c 0 : Int32) &&& 255).toUInt32 % 65536).toInt32 = (fv_kB.getD k []).getD c 0)) = true := by decide +kernel
theorem pStr_at {k : Nat} (hk : k < 15) : (fv_kL.getD k 0 < 100 ∧ nI (fv_kL.getD k 0) >>> ((0 : Int32) &&& 31) = nI (fv_kL.getD k 0)) ∧ ∀ c, c < fv_kL.getD k 0 → ((((fv_kB.getD k []).getD c 0 : Int32) &&& 255).toUInt32 % 65536).toInt32 = (fv_kB.getD k []).getD c 0 := by
  have h := fv_all1 pStr_all hk
  rw [Bool.and_eq_true] at h
  exact ⟨of_decide_eq_true h.1, fun c hc => of_decide_eq_true (fv_all1 h.2 hc)⟩
theorem pStrN_all : ((List.range 15).all fun k => (List.range (fv_kL.getD k 0)).all fun c => decide (((fv_kB.getD k []).getD c 0 : Int32).toUInt32.toUInt16.toUInt32.toInt32 = (fv_kB.getD k []).getD c 0)) = true := by decide +kernel
theorem pStr_n {k c : Nat} (hk : k < 15) (hc : c < fv_kL.getD k 0) : narrow .char (.int ((fv_kB.getD k []).getD c 0)) = .int ((fv_kB.getD k []).getD c 0) := congrArg Value.int (of_decide_eq_true (fv_all1 (fv_all1 pStrN_all hk) hc))
theorem hJ0_length {E : fv_E} {d k : Nat} {M : fv_M} (hk : k < 15) : fv_F E (d + 1) mJ0_length_8abf5 [.ref (1000 + k)] M (some (.int (nI (fv_kL.getD k 0)))) M := by
  refine fv_F.of (ls := [some (.ref (1000 + k))]) (by decide) (Nat.le_of_ble_eq_true rfl) rfl ?_
  refine x_aload_n (pc := 0) dJ0_length_8abf5_0 rfl rfl ?_
  refine x_sval (pc := 1) wf_J0_9 dJ0_length_8abf5_1 hk ?_
  refine x_slen (pc := 4) dJ0_length_8abf5_4 hk ?_
  refine x_aload_n (pc := 5) dJ0_length_8abf5_5 rfl rfl ?_
  refine x_Ti (pc := 6) ks_J0_335 dJ0_length_8abf5_6 hk rfl (hJ0_coder hk) rfl rfl rfl (Nat.le_of_ble_eq_true rfl) ?_
  refine x_ishr (pc := 9) dJ0_length_8abf5_9 ?_
  refine x_iret (pc := 10) dJ0_length_8abf5_10 rfl rfl ?_
  exact ⟨congrArg (fun z => some (Value.int z)) (pStr_at hk).1.2, rfl⟩
theorem hJ0_isLatin1 {E : fv_E} {d k : Nat} {M : fv_M} (hk : k < 15) : fv_F E d mJ0_isLatin1_aae02 [.ref (1000 + k)] M (some (.int 1)) M := by
  refine fv_F.of (ls := [some (.ref (1000 + k))]) (by decide) (Nat.le_of_ble_eq_true rfl) rfl ?_
  refine x_comp wf_J0_38 dJ0_isLatin1_aae02_0 ?_
  refine x_if_eq (pc := 3) dJ0_isLatin1_aae02_3 (tgt := 17) rfl (fun h => absurd h (by decide)) (fun h => ?_)
  refine x_aload_n (pc := 6) dJ0_isLatin1_aae02_6 rfl rfl ?_
  refine x_scod (pc := 7) wf_J0_15 dJ0_isLatin1_aae02_7 hk ?_
  refine x_if_ne (pc := 10) dJ0_isLatin1_aae02_10 (tgt := 17) rfl (fun h => absurd rfl h) (fun h => ?_)
  refine x_iconst (pc := 13) (v := 1) dJ0_isLatin1_aae02_13 rfl ?_
  refine x_goto (pc := 14) dJ0_isLatin1_aae02_14 (tgt := 18) rfl ?_
  refine x_iret (pc := 18) dJ0_isLatin1_aae02_18 rfl rfl ?_
  exact ⟨rfl, rfl⟩
theorem hJ3_checkIndex {E : fv_E} {d : Nat} {i n : Int32} {M : fv_M} (hi : ¬ i < 0) (hn : i < n) (v : Value) (hv : v.category = 1) (l : Launch) : Met l mJ3_checkIndex_8e157.1 (fv_ws mJ3_checkIndex_8e157) (fv_rm d) (va_Pc [.int i, .int n, v] (fun U => fv_SF E U ∧ va_P E.2.2.1 vwCl (fv_W E M) U.heap)) (fv_Q E (fun r M' => r = some (.int i) ∧ M' = M)) 0 0 (fv_A E) := by
  refine fv_Rof (ls := [some (.int i), some (.int n), none]) (by decide) (fun w hw => ?_) rfl rfl (fun j w hw => ?_) ?_ l
  · rcases List.mem_cons.mp hw with e | hw
    · rw [e]; rfl
    rcases List.mem_cons.mp hw with e | hw
    · rw [e]; rfl
    rcases List.mem_cons.mp hw with e | hw
    · rw [e]; exact hv
    · cases hw
  · match j with
    | 0 => simp at hw; subst hw; rfl
    | 1 => simp at hw; subst hw; rfl
    | 2 => simp at hw
    | j + 3 => simp at hw
  · refine x_iload_n (pc := 0) dJ3_checkIndex_8e157_0 rfl rfl ?_
    refine x_if_lt (pc := 1) dJ3_checkIndex_8e157_1 (tgt := 9) rfl (fun h => absurd h hi) (fun h => ?_)
    refine x_iload_n (pc := 4) dJ3_checkIndex_8e157_4 rfl rfl ?_
    refine x_iload_n (pc := 5) dJ3_checkIndex_8e157_5 rfl rfl ?_
    refine x_icmp_lt (pc := 6) dJ3_checkIndex_8e157_6 (tgt := 16) rfl (fun h => ?_) (fun h => absurd hn h)
    refine x_iload_n (pc := 16) dJ3_checkIndex_8e157_16 rfl rfl ?_
    refine x_iret (pc := 17) dJ3_checkIndex_8e157_17 rfl rfl ?_
    exact ⟨rfl, rfl⟩
theorem hJ0_checkIndex {E : fv_E} {d : Nat} {i n : Int32} {M : fv_M} (hi : ¬ i < 0) (hn : i < n) : fv_F E (d + 1) mJ0_checkIndex_df160 [.int i, .int n] M none M := by
  refine fv_F.of (ls := [some (.int i), some (.int n)]) (by decide) (Nat.le_of_ble_eq_true rfl) rfl ?_
  refine x_iload_n (pc := 0) dJ0_checkIndex_df160_0 rfl rfl ?_
  refine x_iload_n (pc := 1) dJ0_checkIndex_df160_1 rfl rfl ?_
  refine x_chk (pc := 2) wf_J0_1053 ks_J0_1059 dJ0_checkIndex_df160_2 dJ0_checkIndex_df160_5 (hJ3_checkIndex hi hn) rfl (Nat.le_of_ble_eq_true rfl) ?_
  refine x_popi (pc := 8) dJ0_checkIndex_df160_8 ?_
  refine x_ret (pc := 9) dJ0_checkIndex_df160_9 rfl ?_
  exact ⟨rfl, rfl⟩
theorem hJ1_charAt {E : fv_E} {d k c : Nat} {M : fv_M} (hk : k < 15) (hc : c < fv_kL.getD k 0) : fv_F E (d + 2) mJ1_charAt_3b067 [.ref (1500 + k), .int (nI c)] M (some (.int ((fv_kB.getD k []).getD c 0))) M := by
  obtain ⟨⟨h1, h2⟩, h3⟩ := pStr_at hk
  have h3c := h3 c hc
  have hcl : c < 100 := by omega
  refine fv_F.of (ls := [some (.ref (1500 + k)), some (.int (nI c))]) (by decide) (Nat.le_of_ble_eq_true rfl) rfl ?_
  refine x_iload_n (pc := 0) dJ1_charAt_3b067_0 rfl rfl ?_
  refine x_aload_n (pc := 1) dJ1_charAt_3b067_1 rfl rfl ?_
  refine x_slen (pc := 2) dJ1_charAt_3b067_2 hk ?_
  refine x_Sv (pc := 3) ks_J1_9 dJ1_charAt_3b067_3 (hJ0_checkIndex (nI_pos (by omega)) (nI_lt hc (by omega))) rfl rfl rfl (Nat.le_of_ble_eq_true rfl) ?_
  refine x_aload_n (pc := 6) dJ1_charAt_3b067_6 rfl rfl ?_
  refine x_iload_n (pc := 7) dJ1_charAt_3b067_7 rfl rfl ?_
  refine x_sbal (pc := 8) dJ1_charAt_3b067_8 hk rfl hc h1 ?_
  refine x_sipush (pc := 9) (v := 255) dJ1_charAt_3b067_9 rfl ?_
  refine x_iand (pc := 12) dJ1_charAt_3b067_12 ?_
  refine x_i2c (pc := 13) dJ1_charAt_3b067_13 ?_
  rw [h3c]
  refine x_iret (pc := 14) dJ1_charAt_3b067_14 rfl (pStr_n hk hc) ?_
  exact ⟨rfl, rfl⟩
theorem hJ0_charAt {E : fv_E} {d k c : Nat} {M : fv_M} (hk : k < 15) (hc : c < fv_kL.getD k 0) : fv_F E (d + 3) mJ0_charAt_5068e [.ref (1000 + k), .int (nI c)] M (some (.int ((fv_kB.getD k []).getD c 0))) M := by
  refine fv_F.of (ls := [some (.ref (1000 + k)), some (.int (nI c))]) (by decide) (Nat.le_of_ble_eq_true rfl) rfl ?_
  refine x_aload_n (pc := 0) dJ0_charAt_5068e_0 rfl rfl ?_
  refine x_Ti (pc := 1) ks_J0_492 dJ0_charAt_5068e_1 hk rfl (hJ0_isLatin1 hk) rfl rfl rfl (Nat.le_of_ble_eq_true rfl) ?_
  refine x_if_eq (pc := 4) dJ0_charAt_5068e_4 (tgt := 16) rfl (fun h => absurd h (by decide)) (fun h => ?_)
  refine x_aload_n (pc := 7) dJ0_charAt_5068e_7 rfl rfl ?_
  refine x_sval (pc := 8) wf_J0_9 dJ0_charAt_5068e_8 hk ?_
  refine x_iload_n (pc := 11) dJ0_charAt_5068e_11 rfl rfl ?_
  refine x_Si (pc := 12) ks_J0_495 dJ0_charAt_5068e_12 (hJ1_charAt hk hc) rfl rfl rfl (Nat.le_of_ble_eq_true rfl) ?_
  refine x_iret (pc := 15) dJ0_charAt_5068e_15 rfl (pStr_n hk hc) ?_
  exact ⟨rfl, rfl⟩
