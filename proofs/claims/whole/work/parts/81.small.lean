section VZ2
variable {D : vz_G} {y y' : fv_Y} {d mc ms : Nat} {w0 : va_W} {W1 : (Nat → Nat) → va_W} {pc n k : Nat} {ls : List (Option Value)} {st : List Value} {ws : va_W}
theorem vz_arrV {c : ClassId} {N : Nat} {g g' : Nat → Value} (h : ∀ j, j < N → g j = g' j) : arrV c N g = arrV c N g' := by
  unfold arrV
  rw [show (fun j : Fin N => g j.val) = fun j : Fin N => g' j.val from funext fun j => h j.val j.isLt]
/-- a row of references as another function tells it -/
theorem vz_chg {r a N : Nat} {c : ClassId} {f f' : Nat → Option Nat} (ha : ws[r]? = some (a, .inl (c, N, .inr (.inr (.inr (.inr f)))))) (hf : ∀ j, j < N → f j = f' j) (kk : vz_X D y d mc ms w0 W1 pc ls st (ws.set r (a, .inl (c, N, .inr (.inr (.inr (.inr f')))))) n k) : vz_X D y d mc ms w0 W1 pc ls st ws n k := by
  intro p l e s m args below meth c' H locs lsA F hP hD hS hL
  refine kk p l e s m args below meth c' H locs lsA F (fun j q hq => ?_) (hD.set ha) hS hL
  by_cases hj : j = r
  · subst hj
    rw [List.getElem?_set_self (List.getElem?_eq_some_iff.mp ha).1] at hq
    cases hq
    have := hP j _ ha
    show H[a]? = some (vp_cell c (N, .inr (.inr (.inr (.inr f')))))
    rw [show H[a]? = some (vp_cell c (N, .inr (.inr (.inr (.inr f))))) from this, vp_cell_q, vp_cell_q]
    exact congrArg some (vz_arrV (fun z hz => by rw [hf z hz]))
  · rw [List.getElem?_set_ne (Ne.symm hj)] at hq
    exact hP j q hq
theorem vz_loop (ls : Nat → List (Option Value)) (ws : Nat → va_W) (N : Nat) {ls0 : List (Option Value)} {ws0 : va_W} (h0 : ls 0 = ls0) (hw : ws 0 = ws0) (hstep : ∀ i, i < N → vz_X D y d mc ms w0 W1 pc (ls (i + 1)) st (ws (i + 1)) n k → vz_X D y d mc ms w0 W1 pc (ls i) st (ws i) n k) (hend : vz_X D y d mc ms w0 W1 pc (ls N) st (ws N) n k) : vz_X D y d mc ms w0 W1 pc ls0 st ws0 n k := by
  subst h0; subst hw
  have key : ∀ j, j ≤ N → vz_X D y d mc ms w0 W1 pc (ls (N - j)) st (ws (N - j)) n k := by
    intro j
    induction j with
    | zero => intro _; exact hend
    | succ j ih =>
      intro hj
      have := ih (by omega)
      rw [show N - j = N - (j + 1) + 1 by omega] at this
      exact hstep _ (by omega) this
  have := key N (Nat.le_refl _)
  rwa [Nat.sub_self] at this
theorem vz_istoreG {j : Fin 4} {i : Nat} {x : Int32} (hdg : decode y.2.1 pc = .ok (.istore_n j, 1)) (hi : (j : Nat) = i) (hn : i < ls.length) (hc : ∀ o, 0 < i → ls[i - 1]? = some o → fv_c1 o = true) (kk : vz_X D y d mc ms w0 W1 (pc + 1) (ls.set i (some (.int x))) st ws n k) : vz_X D y d mc ms w0 W1 pc ls (.int x :: st) ws n k := by
  intro p l e s m args below meth c H locs lsA F hP hD hS hL
  exact lv_istore_n F.1 F.2.1 hdg hi hL.has hn rfl (fun ls2 h2 => kk p l e s m args below meth c H locs ls2 F hP hD hS (fv_L.st1 (v := .int x) rfl hc h2))
theorem vz_iincG {i : Nat} {z : Int} {x v : Int32} (hdg : decode y.2.1 pc = .ok (.iinc i z, 3)) (hx : ls[i]? = some (some (.int x))) (hv : x + Int32.ofInt z = v) (hc : ∀ o, 0 < i → ls[i - 1]? = some o → fv_c1 o = true) (kk : vz_X D y d mc ms w0 W1 (pc + 3) (ls.set i (some (.int v))) st ws n k) : vz_X D y d mc ms w0 W1 pc ls st ws n k := by
  intro p l e s m args below meth c H locs lsA F hP hD hS hL
  have hm : (i, Value.int x) ∈ fv_lv (vz_E D) ls := fv_lv_mem.mpr ⟨.int x, hx, rfl⟩
  obtain ⟨q, hk⟩ := List.getElem?_of_mem hm
  exact lv_iinc F.1 F.2.1 hdg hL.has hk hv (List.getElem?_eq_some_iff.mp hx).1 rfl (fun ls2 h2 => kk p l e s m args below meth c H locs ls2 F hP hD hS (fv_L.st1 (v := .int v) rfl hc h2))
theorem vz_alen {r a N t0 : Nat} {f : Nat → Int32} (ha : ws[r]? = some (a, .inl (D.2 t0, N, .inl f))) (ht : (fv_tys (vz_E D))[t0]? = some (D.2 t0, .int)) (hdg : decode y.2.1 pc = .ok (.arraylength, 1)) (kk : vz_X D y d mc ms w0 W1 (pc + 1) ls (.int (nI N) :: st) ws n k) : vz_X D y d mc ms w0 W1 pc ls (.ref a :: st) ws n k := by
  intro p l e s m args below meth c H locs lsA F hP hD hS hL
  exact va_alen F.1 F.2.1 F.2.2.2.2.2.2.2.1 hP r t0 ha ht rfl hdg (kk p l e s m args below meth c H locs lsA F hP hD hS hL)
theorem vz_join1 {A0 : Nat → Prop} {D : va_G} {cl : List vw_C} {ws : va_W} {x x' : Nat × va_E} {H H1 : Heap} {r : Nat} (hx : ws[r]? = some x) (hxx : x'.1 = x.1) (hP : va_P D cl ws H) (hD : va_D A0 ws) (hk : ∀ q : Nat, q < H.size → ¬ va_A [x] H.size q → H1[q]? = H[q]?) (hP1 : va_P D cl [x'] H1) : va_P D cl (ws.set r x') H1 ∧ va_D A0 (ws.set r x') := by
  have hr : r < ws.length := (List.getElem?_eq_some_iff.mp hx).1
  refine ⟨fun j q hq => ?_, fun i j p q hp hq e => ?_, fun j q hq => ?_⟩
  · by_cases hj : j = r
    · subst hj
      rw [List.getElem?_set_self hr] at hq
      cases hq
      exact hP1 0 _ rfl
    · rw [List.getElem?_set_ne (Ne.symm hj)] at hq
      have h := hP j q hq
      refine h.kept (hk q.1 h.lt (fun z => ?_))
      rcases z with ⟨k2, e, z⟩ | z
      · match k2, z with
        | 0, z =>
          cases z
          exact hj (hD.1 j r q _ hq hx rfl)
        | k2 + 1, z => cases z
      · have := h.lt; omega
  · have f : ∀ (i : Nat) (p : Nat × va_E), (ws.set r x')[i]? = some p → ∃ p', ws[i]? = some p' ∧ p'.1 = p.1 := fun i p hp => by
      by_cases hi : i = r
      · subst hi
        rw [List.getElem?_set_self hr] at hp
        cases hp
        exact ⟨x, hx, hxx.symm⟩
      · rw [List.getElem?_set_ne (Ne.symm hi)] at hp
        exact ⟨p, hp, rfl⟩
    obtain ⟨p', h1, e1⟩ := f i p hp
    obtain ⟨q', h2, e2⟩ := f j q hq
    exact hD.1 i j p' q' h1 h2 (by rw [e1, e2, e])
  · by_cases hj : j = r
    · subst hj
      rw [List.getElem?_set_self hr] at hq
      cases hq
      rw [hxx]
      exact hD.2 j x hx
    · rw [List.getElem?_set_ne (Ne.symm hj)] at hq
      exact hD.2 j q hq
theorem vz_fillC {idx a r N : Nat} {v : Int32} {f f' : Nat → Int32} {t0 : ClassId} (ha : ws[r]? = some (a, .inl (t0, N, .inl f))) (hC : vz_C D d 0 0 mJ7_fill_53178 [.ref a, .int v] [(a, .inl (t0, N, .inl f))] (fun _ => [(a, .inl (t0, N, .inl f'))])) (hk : fv_kS y.1.cls idx mJ7_fill_53178 2) (hlen : ls.length = y.2.2.1) (hdg : decode y.2.1 pc = .ok (.invokestatic idx, 3)) (hn : n ≤ mc) (hs : k ≤ ms) (kk : vz_X D y (d + 1) mc ms w0 W1 (pc + 3) ls [] (ws.set r (a, .inl (t0, N, .inl f'))) n k) : vz_X D y (d + 1) mc ms w0 W1 pc ls [.int v, .ref a] ws n k := by
  intro p l e s m args below meth c H locs lsA F hP hD hS hL
  obtain ⟨hx, hb, hml0, hown, hts, hlk, hretc, hK, hN, hnm⟩ := id F
  obtain ⟨k1, k2, k3, k4, k5, k6⟩ := hk
  have hC1 : [r].map (fun i => ws[i]?) = [((a, .inl (t0, N, .inl f)) : Nat × va_E)].map some := by
    show [ws[r]?] = _
    rw [ha]; rfl
  have hP1 : va_P D.1 vwCl [(a, .inl (t0, N, .inl f))] H := hP.sub [r] (by simp [ha])
  have hD1 : va_D (va_A [(a, .inl (t0, N, .inl f))] H.size) [(a, .inl (t0, N, .inl f))] := (hD.sub [r] rfl hC1).self
  have hF := va_free (wc := [(a, .inl (t0, N, .inl f))]) hD hS vz_up [r] hC1
  have hr := va_runS (As := [.ref a, .int v]) (rest := []) (g := F0 m pc lsA [.int v, .ref a]) (below := below) (e := e) (meth := meth) (locs := locs) (cells := n) (slots := k) ⟨hx, hb, hml0, hown, hts⟩ (hC l H.size)
    ⟨callB_of 2 hts (fv_good k4) rfl rfl rfl (hts _ k3) (hts _ k1) k5 (R := vz_rm (d + 1) mc ms) ⟨Nat.le_refl _, by show 8 + (4 + 11) + 38 * d ≤ 38 * (d + 1); omega⟩, hts _ k2⟩
    (vz_pre (as := [.ref a, .int v]) hK hN hP1 hD1) rfl rfl (hL.1.trans hlen) rfl (lv_room (Nat.le_of_ble_eq_true rfl)) hdg ⟨hn, hs⟩
  refine va_callv hr hS (fun q _ h => hF q h) hF (fun u t H1 locs1 ht hvm hw hB hz1 hk1 hS1 => ?_)
  obtain ⟨hP2, hD2⟩ := hB
  rw [ht] at hP2
  obtain ⟨hP3, hD3⟩ := vz_join1 (x' := (a, .inl (t0, N, .inl f'))) ha rfl hP hD hk1 hP2
  exact kk p l e s m args below meth c H1 locs1 lsA F hP3 hD3 hS1 hL
end VZ2
set_option maxRecDepth 20000 in
theorem vz_o3 : Cond.code objectInit ⟨#[0xb1]⟩ 1 none ∈ fv_g := fv_mem 92 rfl rfl
theorem vz_o2 : Cond.instanceMethod objectInit ∈ fv_g := fv_mem 91 (by decide +kernel) rfl
theorem vz_o4 : Cond.arrayClass .int ∈ fv_g := fv_mem 127 (by decide +kernel) rfl
theorem vz_o5 : Cond.arrayClass .char ∈ fv_g := fv_mem 1002 (by decide +kernel) rfl
def vz_d0 : List Value := [.int 0, .int 0, .int 0, .null]
theorem vz_df0 : ∀ ty0 : Nat → FieldType, (∀ j, j < 4 → parseFieldDescriptor (TX0 j).2.2.1 = some (ty0 j)) → ∀ j, j < 4 → defaultValue (ty0 j) = vp_V vz_d0 j := fun ty0 h j hj => by
  have e : ty0 j = tyX0 j := Option.some.inj ((h j hj).symm.trans (tyX0_ok j hj))
  rw [e]
  exact of_decide_eq_true (fv_all1 (p := fun j => decide (defaultValue (tyX0 j) = vp_V vz_d0 j)) (n := 4) (by decide +kernel) hj)
def vz_d1 : List Value := [.int 0, .int 0, .int 0, .int 0, .int 0]
theorem vz_df1 : ∀ ty0 : Nat → FieldType, (∀ j, j < 5 → parseFieldDescriptor (TX1 j).2.2.1 = some (ty0 j)) → ∀ j, j < 5 → defaultValue (ty0 j) = vp_V vz_d1 j := fun ty0 h j hj => by
  have e : ty0 j = tyX1 j := Option.some.inj ((h j hj).symm.trans (tyX1_ok j hj))
  rw [e]
  exact of_decide_eq_true (fv_all1 (p := fun j => decide (defaultValue (tyX1 j) = vp_V vz_d1 j)) (n := 5) (by decide +kernel) hj)
def vz_d2 : List Value := [.null, .int 0, .int 0, .int 0, .null, .int 0]
theorem vz_df2 : ∀ ty0 : Nat → FieldType, (∀ j, j < 6 → parseFieldDescriptor (TX2 j).2.2.1 = some (ty0 j)) → ∀ j, j < 6 → defaultValue (ty0 j) = vp_V vz_d2 j := fun ty0 h j hj => by
  have e : ty0 j = tyX2 j := Option.some.inj ((h j hj).symm.trans (tyX2_ok j hj))
  rw [e]
  exact of_decide_eq_true (fv_all1 (p := fun j => decide (defaultValue (tyX2 j) = vp_V vz_d2 j)) (n := 6) (by decide +kernel) hj)
def vz_d3 : List Value := [.int 0, .int 0, .null]
theorem vz_df3 : ∀ ty0 : Nat → FieldType, (∀ j, j < 3 → parseFieldDescriptor (TX3 j).2.2.1 = some (ty0 j)) → ∀ j, j < 3 → defaultValue (ty0 j) = vp_V vz_d3 j := fun ty0 h j hj => by
  have e : ty0 j = tyX3 j := Option.some.inj ((h j hj).symm.trans (tyX3_ok j hj))
  rw [e]
  exact of_decide_eq_true (fv_all1 (p := fun j => decide (defaultValue (tyX3 j) = vp_V vz_d3 j)) (n := 3) (by decide +kernel) hj)
def vz_d4 : List Value := [.null, .null, .null, .null, .int 0, .int 0, .int 0, .int 0]
theorem vz_df4 : ∀ ty0 : Nat → FieldType, (∀ j, j < 8 → parseFieldDescriptor (TX4 j).2.2.1 = some (ty0 j)) → ∀ j, j < 8 → defaultValue (ty0 j) = vp_V vz_d4 j := fun ty0 h j hj => by
  have e : ty0 j = tyX4 j := Option.some.inj ((h j hj).symm.trans (tyX4_ok j hj))
  rw [e]
  exact of_decide_eq_true (fv_all1 (p := fun j => decide (defaultValue (tyX4 j) = vp_V vz_d4 j)) (n := 8) (by decide +kernel) hj)
def vz_d5 : List Value := [.int 0, .null, .null, .null, .null, .int 0, .int 0]
theorem vz_df5 : ∀ ty0 : Nat → FieldType, (∀ j, j < 7 → parseFieldDescriptor (TX5 j).2.2.1 = some (ty0 j)) → ∀ j, j < 7 → defaultValue (ty0 j) = vp_V vz_d5 j := fun ty0 h j hj => by
  have e : ty0 j = tyX5 j := Option.some.inj ((h j hj).symm.trans (tyX5_ok j hj))
  rw [e]
  exact of_decide_eq_true (fv_all1 (p := fun j => decide (defaultValue (tyX5 j) = vp_V vz_d5 j)) (n := 7) (by decide +kernel) hj)
def vz_d6 : List Value := [.null, .null, .null, .int 0, .null, .null, .null, .null]
theorem vz_df6 : ∀ ty0 : Nat → FieldType, (∀ j, j < 8 → parseFieldDescriptor (TX6 j).2.2.1 = some (ty0 j)) → ∀ j, j < 8 → defaultValue (ty0 j) = vp_V vz_d6 j := fun ty0 h j hj => by
  have e : ty0 j = tyX6 j := Option.some.inj ((h j hj).symm.trans (tyX6_ok j hj))
  rw [e]
  exact of_decide_eq_true (fv_all1 (p := fun j => decide (defaultValue (tyX6 j) = vp_V vz_d6 j)) (n := 8) (by decide +kernel) hj)
def vz_d7 : List Value := [.null, .null, .null, .int 0, .null, .null, .null, .null, .int 0, .int 0, .int 0, .null, .int 0, .int 0, .int 0, .int 0, .long 0, .null, .null, .null, .null, .null, .null, .null, .null]
theorem vz_df7 : ∀ ty0 : Nat → FieldType, (∀ j, j < 25 → parseFieldDescriptor (TX7 j).2.2.1 = some (ty0 j)) → ∀ j, j < 25 → defaultValue (ty0 j) = vp_V vz_d7 j := fun ty0 h j hj => by
  have e : ty0 j = tyX7 j := Option.some.inj ((h j hj).symm.trans (tyX7_ok j hj))
  rw [e]
  exact of_decide_eq_true (fv_all1 (p := fun j => decide (defaultValue (tyX7 j) = vp_V vz_d7 j)) (n := 25) (by decide +kernel) hj)
theorem vz_X0_init {D : vz_G} {h : Nat} : vz_C D 1 1 4 mX0_init [.ref h] [(h, .inr (0, vz_d0))] (fun q => [(h, .inr (0, [.int 0, .int 0, .int 0, .ref (q 0)])), (q 0, .inl (D.2 0, 4, .inl (fun _ => 0)))]) := by
  refine vz_C.of (ls := [some (.ref h)]) (by decide) (Nat.le_of_ble_eq_true rfl) rfl ?_
  refine vz_aload_n (pc := 0) dX0_init_0 rfl rfl ?_
  refine vz_object (pc := 1) (fv_mem 107 (by decide +kernel) rfl) vz_o2 vz_o3 rfl dX0_init_1 ?_
  refine vz_aload_n (pc := 4) dX0_init_4 rfl rfl ?_
  refine vz_iconst (pc := 5) (v := 4) dX0_init_5 rfl ?_
  refine vz_newi (pc := 6) (N := 4) vz_o4 dX0_init_6 rfl (by decide) (Nat.le_of_ble_eq_true rfl) (Nat.le_of_ble_eq_true rfl) (fun q0 => ?_)
  refine vz_put (pc := 8) fl_X0_9 (fun _ h => by cases h; rfl) rfl dX0_init_8 rfl rfl (Nat.le_of_ble_eq_true rfl) rfl ?_
  exact vz_ret (fun _ => q0) (pc := 11) dX0_init_11 rfl (Nat.le_of_ble_eq_true rfl) (Nat.le_of_ble_eq_true rfl) rfl
theorem vz_X1_init {D : vz_G} {h : Nat} : vz_C D 1 0 0 mX1_init [.ref h] [(h, .inr (1, vz_d1))] (fun q => [(h, .inr (1, [.int 0, .int 0, .int 0, .int 0, .int 0]))]) := by
  refine vz_C.of (ls := [some (.ref h)]) (by decide) (Nat.le_of_ble_eq_true rfl) rfl ?_
  refine vz_aload_n (pc := 0) dX1_init_0 rfl rfl ?_
  refine vz_object (pc := 1) (fv_mem 132 (by decide +kernel) rfl) vz_o2 vz_o3 rfl dX1_init_1 ?_
  exact vz_ret (fun _ => 0) (pc := 4) dX1_init_4 rfl (Nat.le_of_ble_eq_true rfl) (Nat.le_of_ble_eq_true rfl) rfl
theorem vz_X2_init {D : vz_G} {h : Nat} : vz_C D 1 2 10 mX2_init [.ref h] [(h, .inr (2, vz_d2))] (fun q => [(h, .inr (2, [.ref (q 0), .int 0, .int 0, .int 0, .ref (q 1), .int 0])), (q 0, .inl (D.2 0, 5, .inl (fun _ => 0))), (q 1, .inl (D.2 0, 5, .inl (fun _ => 0)))]) := by
  refine vz_C.of (ls := [some (.ref h)]) (by decide) (Nat.le_of_ble_eq_true rfl) rfl ?_
  refine vz_aload_n (pc := 0) dX2_init_0 rfl rfl ?_
  refine vz_object (pc := 1) (fv_mem 233 (by decide +kernel) rfl) vz_o2 vz_o3 rfl dX2_init_1 ?_
  refine vz_aload_n (pc := 4) dX2_init_4 rfl rfl ?_
  refine vz_iconst (pc := 5) (v := 5) dX2_init_5 rfl ?_
  refine vz_newi (pc := 6) (N := 5) vz_o4 dX2_init_6 rfl (by decide) (Nat.le_of_ble_eq_true rfl) (Nat.le_of_ble_eq_true rfl) (fun q0 => ?_)
  refine vz_put (pc := 8) fl_X2_9 (fun _ h => by cases h; rfl) rfl dX2_init_8 rfl rfl (Nat.le_of_ble_eq_true rfl) rfl ?_
  refine vz_aload_n (pc := 11) dX2_init_11 rfl rfl ?_
  refine vz_iconst (pc := 12) (v := 5) dX2_init_12 rfl ?_
  refine vz_newi (pc := 13) (N := 5) vz_o4 dX2_init_13 rfl (by decide) (Nat.le_of_ble_eq_true rfl) (Nat.le_of_ble_eq_true rfl) (fun q1 => ?_)
  refine vz_put (pc := 15) fl_X2_15 (fun _ h => by cases h; rfl) rfl dX2_init_15 rfl rfl (Nat.le_of_ble_eq_true rfl) rfl ?_
  exact vz_ret (fun i => if i = 0 then q0 else q1) (pc := 18) dX2_init_18 rfl (Nat.le_of_ble_eq_true rfl) (Nat.le_of_ble_eq_true rfl) rfl
theorem vz_X3_init {D : vz_G} {h : Nat} : vz_C D 1 1 40 mX3_init [.ref h] [(h, .inr (3, vz_d3))] (fun q => [(h, .inr (3, [.int 0, .int 0, .ref (q 0)])), (q 0, .inl (D.2 0, 40, .inl (fun _ => 0)))]) := by
  refine vz_C.of (ls := [some (.ref h)]) (by decide) (Nat.le_of_ble_eq_true rfl) rfl ?_
  refine vz_aload_n (pc := 0) dX3_init_0 rfl rfl ?_
  refine vz_object (pc := 1) (fv_mem 261 (by decide +kernel) rfl) vz_o2 vz_o3 rfl dX3_init_1 ?_
  refine vz_aload_n (pc := 4) dX3_init_4 rfl rfl ?_
  refine vz_iconst (pc := 5) (v := 0) dX3_init_5 rfl ?_
  refine vz_put (pc := 6) fl_X3_9 (fun _ h => by cases h; rfl) rfl dX3_init_6 rfl rfl (Nat.le_of_ble_eq_true rfl) rfl ?_
  refine vz_aload_n (pc := 9) dX3_init_9 rfl rfl ?_
  refine vz_iconst (pc := 10) (v := 0) dX3_init_10 rfl ?_
  refine vz_put (pc := 11) fl_X3_15 (fun _ h => by cases h; rfl) rfl dX3_init_11 rfl rfl (Nat.le_of_ble_eq_true rfl) rfl ?_
  refine vz_aload_n (pc := 14) dX3_init_14 rfl rfl ?_
  refine vz_bipush (pc := 15) (v := 40) dX3_init_15 rfl ?_
  refine vz_newi (pc := 17) (N := 40) vz_o4 dX3_init_17 rfl (by decide) (Nat.le_of_ble_eq_true rfl) (Nat.le_of_ble_eq_true rfl) (fun q0 => ?_)
  refine vz_put (pc := 19) fl_X3_18 (fun _ h => by cases h; rfl) rfl dX3_init_19 rfl rfl (Nat.le_of_ble_eq_true rfl) rfl ?_
  exact vz_ret (fun _ => q0) (pc := 22) dX3_init_22 rfl (Nat.le_of_ble_eq_true rfl) (Nat.le_of_ble_eq_true rfl) rfl
theorem vz_X5_init {D : vz_G} {h : Nat} : vz_C D 1 4 483 mX5_init [.ref h] [(h, .inr (5, vz_d5))] (fun q => [(h, .inr (5, [.int 0, .ref (q 0), .ref (q 1), .ref (q 2), .ref (q 3), .int 0, .int 0])), (q 0, .inl (D.2 0, 120, .inl (fun _ => 0))), (q 1, .inl (D.2 0, 121, .inl (fun _ => 0))), (q 2, .inl (D.2 0, 121, .inl (fun _ => 0))), (q 3, .inl (D.2 0, 121, .inl (fun _ => 0)))]) := by
  refine vz_C.of (ls := [some (.ref h)]) (by decide) (Nat.le_of_ble_eq_true rfl) rfl ?_
  refine vz_aload_n (pc := 0) dX5_init_0 rfl rfl ?_
  refine vz_object (pc := 1) (fv_mem 202 (by decide +kernel) rfl) vz_o2 vz_o3 rfl dX5_init_1 ?_
  refine vz_aload_n (pc := 4) dX5_init_4 rfl rfl ?_
  refine vz_iconst (pc := 5) (v := 0) dX5_init_5 rfl ?_
  refine vz_put (pc := 6) fl_X5_9 (fun _ h => by cases h; rfl) rfl dX5_init_6 rfl rfl (Nat.le_of_ble_eq_true rfl) rfl ?_
  refine vz_aload_n (pc := 9) dX5_init_9 rfl rfl ?_
  refine vz_bipush (pc := 10) (v := 120) dX5_init_10 rfl ?_
  refine vz_newi (pc := 12) (N := 120) vz_o4 dX5_init_12 rfl (by decide) (Nat.le_of_ble_eq_true rfl) (Nat.le_of_ble_eq_true rfl) (fun q0 => ?_)
  refine vz_put (pc := 14) fl_X5_15 (fun _ h => by cases h; rfl) rfl dX5_init_14 rfl rfl (Nat.le_of_ble_eq_true rfl) rfl ?_
  refine vz_aload_n (pc := 17) dX5_init_17 rfl rfl ?_
  refine vz_bipush (pc := 18) (v := 121) dX5_init_18 rfl ?_
  refine vz_newi (pc := 20) (N := 121) vz_o4 dX5_init_20 rfl (by decide) (Nat.le_of_ble_eq_true rfl) (Nat.le_of_ble_eq_true rfl) (fun q1 => ?_)
  refine vz_put (pc := 22) fl_X5_19 (fun _ h => by cases h; rfl) rfl dX5_init_22 rfl rfl (Nat.le_of_ble_eq_true rfl) rfl ?_
  refine vz_aload_n (pc := 25) dX5_init_25 rfl rfl ?_
  refine vz_bipush (pc := 26) (v := 121) dX5_init_26 rfl ?_
  refine vz_newi (pc := 28) (N := 121) vz_o4 dX5_init_28 rfl (by decide) (Nat.le_of_ble_eq_true rfl) (Nat.le_of_ble_eq_true rfl) (fun q2 => ?_)
  refine vz_put (pc := 30) fl_X5_22 (fun _ h => by cases h; rfl) rfl dX5_init_30 rfl rfl (Nat.le_of_ble_eq_true rfl) rfl ?_
  refine vz_aload_n (pc := 33) dX5_init_33 rfl rfl ?_
  refine vz_bipush (pc := 34) (v := 121) dX5_init_34 rfl ?_
  refine vz_newi (pc := 36) (N := 121) vz_o4 dX5_init_36 rfl (by decide) (Nat.le_of_ble_eq_true rfl) (Nat.le_of_ble_eq_true rfl) (fun q3 => ?_)
  refine vz_put (pc := 38) fl_X5_25 (fun _ h => by cases h; rfl) rfl dX5_init_38 rfl rfl (Nat.le_of_ble_eq_true rfl) rfl ?_
  exact vz_ret (fun i => if i = 0 then q0 else if i = 1 then q1 else if i = 2 then q2 else q3) (pc := 41) dX5_init_41 rfl (Nat.le_of_ble_eq_true rfl) (Nat.le_of_ble_eq_true rfl) rfl
theorem vz_J7_fill {D : vz_G} {d a N : Nat} {v : Int32} {f : Nat → Int32} (hN : N ≤ 1000) : vz_C D d 0 0 mJ7_fill_53178 [.ref a, .int v] [(a, .inl (D.2 0, N, .inl f))] (fun _ => [(a, .inl (D.2 0, N, .inl (fun c => if c < N then v else f c)))]) := by
  refine vz_C.of (ls := [some (.ref a), some (.int v), none, none]) (by decide) (Nat.le_of_ble_eq_true rfl) rfl ?_
  refine vz_iconst (pc := 0) (v := 0) dJ7_fill_53178_0 rfl ?_
  refine vz_istoreG (pc := 1) (i := 2) dJ7_fill_53178_1 rfl (Nat.le_of_ble_eq_true rfl) (fun o _ h => by cases h; rfl) ?_
  refine vz_aload_n (pc := 2) dJ7_fill_53178_2 rfl rfl ?_
  refine vz_alen (pc := 3) (r := 0) (t0 := 0) rfl rfl dJ7_fill_53178_3 ?_
  refine vz_istoreG (pc := 4) (i := 3) dJ7_fill_53178_4 rfl (Nat.le_of_ble_eq_true rfl) (fun o _ h => by cases h; rfl) ?_
  have h0 : (fun c => if c < 0 then v else f c) = f := funext fun c => if_neg (Nat.not_lt_zero c)
  refine vz_loop (fun i => [some (.ref a), some (.int v), some (.int (nI i)), some (.int (nI N))]) (fun i => [(a, .inl (D.2 0, N, .inl (fun c => if c < i then v else f c)))]) N rfl (by rw [h0]) (fun i hi hL => ?_) ?_
  · show vz_X D mJ7_fill_53178 _ _ _ _ _ 5 [some (.ref a), some (.int v), some (.int (nI i)), some (.int (nI N))] [] [(a, .inl (D.2 0, N, .inl (fun c => if c < i then v else f c)))] _ _
    refine vz_iload_n (pc := 5) dJ7_fill_53178_5 rfl rfl ?_
    refine vz_iload_n (pc := 6) dJ7_fill_53178_6 rfl rfl ?_
    refine vz_icmp_ge (pc := 7) dJ7_fill_53178_7 (tgt := 20) rfl (fun h => absurd h (nI_ge hi (by omega))) (fun h => ?_)
    refine vz_aload_n (pc := 10) dJ7_fill_53178_10 rfl rfl ?_
    refine vz_iload_n (pc := 11) dJ7_fill_53178_11 rfl rfl ?_
    refine vz_iload_n (pc := 12) dJ7_fill_53178_12 rfl rfl ?_
    refine vz_ast (pc := 13) (r := 0) (t0 := 0) (c := i) rfl rfl rfl hi hN dJ7_fill_53178_13 ?_
    refine vz_iincG (pc := 14) (i := 2) dJ7_fill_53178_14 rfl (fv_inc _) (fun o _ h => by cases h; rfl) ?_
    refine vz_goto (pc := 17) dJ7_fill_53178_17 (tgt := 5) rfl ?_
    have h1 : upd (fun c => if c < i then v else f c) i v = fun c => if c < i + 1 then v else f c := funext fun c => by
      unfold upd
      by_cases e : c = i
      · rw [if_pos e, if_pos (by omega)]
      · rw [if_neg e]
        show (if c < i then v else f c) = _
        by_cases e2 : c < i
        · rw [if_pos e2, if_pos (by omega)]
        · rw [if_neg e2, if_neg (by omega)]
    rw [h1]
    exact hL
  · show vz_X D mJ7_fill_53178 _ _ _ _ _ 5 [some (.ref a), some (.int v), some (.int (nI N)), some (.int (nI N))] [] [(a, .inl (D.2 0, N, .inl (fun c => if c < N then v else f c)))] _ _
    refine vz_iload_n (pc := 5) dJ7_fill_53178_5 rfl rfl ?_
    refine vz_iload_n (pc := 6) dJ7_fill_53178_6 rfl rfl ?_
    refine vz_icmp_ge (pc := 7) dJ7_fill_53178_7 (tgt := 20) rfl (fun h => ?_) (fun h => absurd (Int32.le_refl _) h)
    exact vz_ret (fun _ => 0) (pc := 20) dJ7_fill_53178_20 rfl (Nat.le_refl _) (Nat.le_refl _) rfl
