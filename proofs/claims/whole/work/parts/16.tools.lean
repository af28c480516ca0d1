/-! CONTRACTS THAT ARE FUNCTIONS, calls by them, loops. -/
def bI (p : Prop) [Decidable p] : Int32 := if p then 1 else 0
theorem bI_t {p : Prop} [Decidable p] (h : p) : bI p = 1 := if_pos h
theorem bI_f {p : Prop} [Decidable p] (h : ¬ p) : bI p = 0 := if_neg h
theorem bI_0 {p : Prop} [Decidable p] : bI p = 0 ↔ ¬ p := by
  unfold bI; split <;> simp_all
theorem bI_1 {p : Prop} [Decidable p] : bI p = 1 ↔ p := by
  unfold bI; split <;> simp_all
theorem bI_congr {p q : Prop} [Decidable p] [Decidable q] (h : p ↔ q) : bI p = bI q := by
  unfold bI; by_cases hp : p
  · rw [if_pos hp, if_pos (h.mp hp)]
  · rw [if_neg hp, if_neg (fun hq => hp (h.mpr hq))]
theorem fv_nz (p : Prop) [Decidable p] : narrow .boolean (.int (bI p)) = .int (bI p) := by
  unfold bI; split <;> rfl
theorem fv_inc (i : Nat) : nI i + Int32.ofInt 1 = nI (i + 1) := by rw [nI_succ]; rfl
theorem fv_dec (i : Nat) : nI (i + 1) + Int32.ofInt (-1) = nI i := by rw [← nI_pred i, Int32.sub_eq_add_neg]; rfl
def fv_F (E : fv_E) (d : Nat) (y : fv_Y) (args : List Value) (M : fv_M) (r : Option Value) (M0 : fv_M) : Prop := fv_C E d y args M (fun r' M' => r' = r ∧ M' = M0)
section FVT
variable {E : fv_E} {y y' : fv_Y} {d pc idx n : Nat} {Φ : Option Value → fv_M → Prop} {ls : List (Option Value)} {st As rest : List Value} {M M0 : fv_M}
theorem x_Si {r : Int32} (hk : fv_kS y.1.cls idx y' n) (hdg : decode y.2.1 pc = .ok (.invokestatic idx, 3)) (hC : fv_F E d y' As M (some (.int r)) M0) (hst : st = As.reverse ++ rest) (hn : As.length = n) (hlen : ls.length = y.2.2.1) (hroom : (rest.map fun v => v.category).sum ≤ 8) (k : fv_X E y (d + 1) Φ (pc + 3) ls (.int r :: rest) M0) : fv_X E y (d + 1) Φ pc ls st M :=
  x_callS hk hdg hC hst hn hlen hroom (fun _ _ h => by obtain ⟨rfl, rfl⟩ := h; exact k)
theorem x_Sl {r : Int64} (hk : fv_kS y.1.cls idx y' n) (hdg : decode y.2.1 pc = .ok (.invokestatic idx, 3)) (hC : fv_F E d y' As M (some (.long r)) M0) (hst : st = As.reverse ++ rest) (hn : As.length = n) (hlen : ls.length = y.2.2.1) (hroom : (rest.map fun v => v.category).sum ≤ 8) (k : fv_X E y (d + 1) Φ (pc + 3) ls (.long r :: rest) M0) : fv_X E y (d + 1) Φ pc ls st M :=
  x_callS hk hdg hC hst hn hlen hroom (fun _ _ h => by obtain ⟨rfl, rfl⟩ := h; exact k)
theorem x_Sa {r : Nat} (hk : fv_kS y.1.cls idx y' n) (hdg : decode y.2.1 pc = .ok (.invokestatic idx, 3)) (hC : fv_F E d y' As M (some (.ref r)) M0) (hst : st = As.reverse ++ rest) (hn : As.length = n) (hlen : ls.length = y.2.2.1) (hroom : (rest.map fun v => v.category).sum ≤ 8) (k : fv_X E y (d + 1) Φ (pc + 3) ls (.ref r :: rest) M0) : fv_X E y (d + 1) Φ pc ls st M :=
  x_callS hk hdg hC hst hn hlen hroom (fun _ _ h => by obtain ⟨rfl, rfl⟩ := h; exact k)
theorem x_Sv (hk : fv_kS y.1.cls idx y' n) (hdg : decode y.2.1 pc = .ok (.invokestatic idx, 3)) (hC : fv_F E d y' As M none M0) (hst : st = As.reverse ++ rest) (hn : As.length = n) (hlen : ls.length = y.2.2.1) (hroom : (rest.map fun v => v.category).sum ≤ 8) (k : fv_X E y (d + 1) Φ (pc + 3) ls rest M0) : fv_X E y (d + 1) Φ pc ls st M :=
  x_callS hk hdg hC hst hn hlen hroom (fun _ _ h => by obtain ⟨rfl, rfl⟩ := h; exact k)
theorem x_Ni {r : Int32} (hk : fv_kN y.1.cls idx y' n) (hdg : decode y.2.1 pc = .ok (.invokestatic idx, 3)) (hC : fv_F E d y' As M (some (.int r)) M0) (hst : st = As.reverse ++ rest) (hn : As.length = n) (hlen : ls.length = y.2.2.1) (hroom : (rest.map fun v => v.category).sum ≤ 8) (k : fv_X E y (d + 1) Φ (pc + 3) ls (.int r :: rest) M0) : fv_X E y (d + 1) Φ pc ls st M :=
  x_callN hk hdg hC hst hn hlen hroom (fun _ _ h => by obtain ⟨rfl, rfl⟩ := h; exact k)
theorem x_Vi {b ci : Nat} {ss : List fv_Sp} {q : vw_C} {r : Int32} (hk : fv_kV y.1.cls idx y' n) (hdg : decode y.2.1 pc = .ok (.invokevirtual idx, 3)) (htb : fv_tab[b]? = some (.inl (ci, ss))) (hci : vwCl[ci]? = some q) (hq : q.1 = y'.1.cls) (hC : fv_F E d y' (.ref b :: As) M (some (.int r)) M0) (hst : st = As.reverse ++ .ref b :: rest) (hn : As.length = n) (hlen : ls.length = y.2.2.1) (hroom : (rest.map fun v => v.category).sum ≤ 8) (k : fv_X E y (d + 1) Φ (pc + 3) ls (.int r :: rest) M0) : fv_X E y (d + 1) Φ pc ls st M :=
  x_callV hk hdg htb hci hq hC hst hn hlen hroom (fun _ _ h => by obtain ⟨rfl, rfl⟩ := h; exact k)
theorem x_Vl {b ci : Nat} {ss : List fv_Sp} {q : vw_C} {r : Int64} (hk : fv_kV y.1.cls idx y' n) (hdg : decode y.2.1 pc = .ok (.invokevirtual idx, 3)) (htb : fv_tab[b]? = some (.inl (ci, ss))) (hci : vwCl[ci]? = some q) (hq : q.1 = y'.1.cls) (hC : fv_F E d y' (.ref b :: As) M (some (.long r)) M0) (hst : st = As.reverse ++ .ref b :: rest) (hn : As.length = n) (hlen : ls.length = y.2.2.1) (hroom : (rest.map fun v => v.category).sum ≤ 8) (k : fv_X E y (d + 1) Φ (pc + 3) ls (.long r :: rest) M0) : fv_X E y (d + 1) Φ pc ls st M :=
  x_callV hk hdg htb hci hq hC hst hn hlen hroom (fun _ _ h => by obtain ⟨rfl, rfl⟩ := h; exact k)
theorem x_Vv {b ci : Nat} {ss : List fv_Sp} {q : vw_C} (hk : fv_kV y.1.cls idx y' n) (hdg : decode y.2.1 pc = .ok (.invokevirtual idx, 3)) (htb : fv_tab[b]? = some (.inl (ci, ss))) (hci : vwCl[ci]? = some q) (hq : q.1 = y'.1.cls) (hC : fv_F E d y' (.ref b :: As) M none M0) (hst : st = As.reverse ++ .ref b :: rest) (hn : As.length = n) (hlen : ls.length = y.2.2.1) (hroom : (rest.map fun v => v.category).sum ≤ 8) (k : fv_X E y (d + 1) Φ (pc + 3) ls rest M0) : fv_X E y (d + 1) Φ pc ls st M :=
  x_callV hk hdg htb hci hq hC hst hn hlen hroom (fun _ _ h => by obtain ⟨rfl, rfl⟩ := h; exact k)
theorem x_ifb_eq {p : Prop} [Decidable p] {off : Int} {tgt : Nat} (hdg : decode y.2.1 pc = .ok (.ifCond .eq off, 3)) (ht : (pc : Int) + off = (tgt : Int)) (kt : ¬ p → fv_X E y d Φ tgt ls st M) (kf : p → fv_X E y d Φ (pc + 3) ls st M) : fv_X E y d Φ pc ls (.int (bI p) :: st) M :=
  x_if_eq hdg ht (fun h => kt (bI_0.mp h)) (fun h => kf (Decidable.not_not.mp (fun h1 => h (bI_0.mpr h1))))
theorem x_ifb_ne {p : Prop} [Decidable p] {off : Int} {tgt : Nat} (hdg : decode y.2.1 pc = .ok (.ifCond .ne off, 3)) (ht : (pc : Int) + off = (tgt : Int)) (kt : p → fv_X E y d Φ tgt ls st M) (kf : ¬ p → fv_X E y d Φ (pc + 3) ls st M) : fv_X E y d Φ pc ls (.int (bI p) :: st) M :=
  x_if_ne hdg ht (fun h => kt (Decidable.not_not.mp (fun h1 => h (bI_0.mpr h1)))) (fun h => kf (bI_0.mp h))
theorem x_swc {dflt lo hi : Int} {offs : Array Int} {len : Nat} {x : Int32} {off : Int} {tgt : Nat} (v : Int32) (hdg : decode y.2.1 pc = .ok (.tableswitch dflt lo hi offs, len)) (h1 : ¬ v.toInt < lo) (h2 : ¬ hi < v.toInt) (ho : offs[(v.toInt - lo).toNat]? = some off) (ht : (pc : Int) + off = (tgt : Int)) (kt : x = v → fv_X E y d Φ tgt ls st M) (kf : ¬ x = v → fv_X E y d Φ pc ls (.int x :: st) M) : fv_X E y d Φ pc ls (.int x :: st) M := by
  by_cases h : x = v
  · have k := kt h
    subst h
    exact x_tableIn hdg h1 h2 ho ht k
  · exact kf h
theorem x_swd {dflt lo hi : Int} {offs : Array Int} {len : Nat} {x : Int32} {tgt : Nat} (hdg : decode y.2.1 pc = .ok (.tableswitch dflt lo hi offs, len)) (h : ∀ c : Int, lo ≤ c → c ≤ hi → ¬ x = Int32.ofInt c) (ht : (pc : Int) + dflt = (tgt : Int)) (k : fv_X E y d Φ tgt ls st M) : fv_X E y d Φ pc ls (.int x :: st) M := by
  refine x_tableOut hdg ?_ ht k
  by_cases h1 : x.toInt < lo
  · exact Or.inl h1
  · by_cases h2 : hi < x.toInt
    · exact Or.inr h2
    · exact absurd (Int32.ofInt_toInt x).symm (h x.toInt (by omega) (by omega))
theorem x_geti {ty : FieldType} {fin : Bool} {ci k a r i : Nat} {ss : List fv_Sp} {v : Int32} (hf : fv_fl y.1.cls idx ci k ty fin) (hdg : decode y.2.1 pc = .ok (.getfield idx, 3)) (htb : fv_tab[a]? = some (.inl (ci, ss))) (hk : ss[k]? = some (0, r, i)) (hv : M r i = v) (kk : fv_X E y d Φ (pc + 3) ls (.int v :: st) M) : fv_X E y d Φ pc ls (.ref a :: st) M := x_get hf hdg htb hk (congrArg Value.int hv) kk
theorem x_geta {ty : FieldType} {fin : Bool} {ci k a r z : Nat} {ss : List fv_Sp} (hf : fv_fl y.1.cls idx ci k ty fin) (hdg : decode y.2.1 pc = .ok (.getfield idx, 3)) (htb : fv_tab[a]? = some (.inl (ci, ss))) (hk : ss[k]? = some (1, r, z)) (kk : fv_X E y d Φ (pc + 3) ls (.ref r :: st) M) : fv_X E y d Φ pc ls (.ref a :: st) M := x_get hf hdg htb hk rfl kk
theorem x_getl {ty : FieldType} {fin : Bool} {ci k a r i : Nat} {ss : List fv_Sp} (hf : fv_fl y.1.cls idx ci k ty fin) (hdg : decode y.2.1 pc = .ok (.getfield idx, 3)) (htb : fv_tab[a]? = some (.inl (ci, ss))) (hk : ss[k]? = some (2, r, i)) (kk : fv_X E y d Φ (pc + 3) ls (.long (fv_comb (M r i) (M r (i + 1))) :: st) M) : fv_X E y d Φ pc ls (.ref a :: st) M := x_get hf hdg htb hk rfl kk
theorem x_min {a b : Int32} (hk : fv_kS y.1.cls idx mJ9_min_7cf53 2) (hdg : decode y.2.1 pc = .ok (.invokestatic idx, 3)) (hlen : ls.length = y.2.2.1) (hroom : (st.map fun v => v.category).sum ≤ 8) (k : fv_X E y (d + 1) Φ (pc + 3) ls (.int (if b < a then b else a) :: st) M) : fv_X E y (d + 1) Φ pc ls (.int b :: .int a :: st) M := by
  intro p l e s m args below meth c H locs lsA F hP hS hL
  obtain ⟨k1, k2, k3, k4, -⟩ := hk
  exact va_mmin F.1 F.2.1 (F.2.2.1.trans (hlen.symm.trans hL.1.symm)) F.2.2.2.1 (F.2.2.2.2.1 _ k1) (F.2.2.2.2.1 _ k2) (F.2.2.2.2.1 _ k3) (F.2.2.2.2.1 _ k4) (by show 1 ≤ d + 1; omega) (by rw [fv_sum]; show _ ≤ 38 * (d + 1); omega) (Nat.le_refl _) (Nat.le_refl _) hdg (k p l e s m args below meth c H locs lsA F hP hS hL)
theorem x_max {a b : Int32} (hk : fv_kS y.1.cls idx mJ9_max_7cf53 2) (hdg : decode y.2.1 pc = .ok (.invokestatic idx, 3)) (hlen : ls.length = y.2.2.1) (hroom : (st.map fun v => v.category).sum ≤ 8) (k : fv_X E y (d + 1) Φ (pc + 3) ls (.int (if a < b then b else a) :: st) M) : fv_X E y (d + 1) Φ pc ls (.int b :: .int a :: st) M := by
  intro p l e s m args below meth c H locs lsA F hP hS hL
  obtain ⟨k1, k2, k3, k4, -⟩ := hk
  exact va_mmax F.1 F.2.1 (F.2.2.1.trans (hlen.symm.trans hL.1.symm)) F.2.2.2.1 (F.2.2.2.2.1 _ k1) (F.2.2.2.2.1 _ k2) (F.2.2.2.2.1 _ k3) (F.2.2.2.2.1 _ k4) (by show 1 ≤ d + 1; omega) (by rw [fv_sum]; show _ ≤ 38 * (d + 1); omega) (Nat.le_refl _) (Nat.le_refl _) hdg (k p l e s m args below meth c H locs lsA F hP hS hL)
theorem x_loop (ls : Nat → List (Option Value)) (M : Nat → fv_M) (n : Nat) {ls0 : List (Option Value)} {M0 : fv_M} (h0 : ls 0 = ls0) (hM : M 0 = M0) (hstep : ∀ i, i < n → fv_X E y d Φ pc (ls (i + 1)) st (M (i + 1)) → fv_X E y d Φ pc (ls i) st (M i)) (hend : fv_X E y d Φ pc (ls n) st (M n)) : fv_X E y d Φ pc ls0 st M0 := by
  subst h0; subst hM
  have key : ∀ k, k ≤ n → fv_X E y d Φ pc (ls (n - k)) st (M (n - k)) := by
    intro k
    induction k with
    | zero => intro _; exact hend
    | succ k ih =>
      intro hk
      have := ih (by omega)
      rw [show n - k = n - (k + 1) + 1 by omega] at this
      exact hstep _ (by omega) this
  have := key n (Nat.le_refl _)
  rwa [Nat.sub_self] at this
theorem fv_F.of {args : List Value} {r : Option Value} (hy : plainName y.1.cls = true) (hle : (fv_ent args).length ≤ y.2.2.1) (hls : fv_ent args ++ List.replicate (y.2.2.1 - (fv_ent args).length) none = ls) (h : fv_X E y d (fun r' M' => r' = r ∧ M' = M0) 0 ls [] M) : fv_F E d y args M r M0 := fv_C.of hy hle hls h
end FVT
