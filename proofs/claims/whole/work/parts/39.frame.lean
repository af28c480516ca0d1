/-! CONTRACTS with a frame, loops by an invariant -/
def fv_P (E : fv_E) (d : Nat) (y : fv_Y) (args : List Value) (M : fv_M) (r : Option Value) (P : fv_M → Prop) : Prop := fv_C E d y args M (fun r' M' => r' = r ∧ P M')
def pFr (L : List Nat) (M M' : fv_M) : Prop := ∀ q, q ∉ L → M' q = M q
theorem pFr.rfl' {L : List Nat} {M : fv_M} : pFr L M M := fun _ _ => rfl
theorem pFr.tr {L : List Nat} {M M1 M2 : fv_M} (h : pFr L M M1) (h2 : pFr L M1 M2) : pFr L M M2 := fun q hq => (h2 q hq).trans (h q hq)
theorem pFr.s {L : List Nat} {M M1 : fv_M} {r : Nat} {f : Nat → Int32} (h : pFr L M M1) (hr : r ∈ L) : pFr L M (fv_s M1 r f) := fun q hq => by
  rw [fv_s_ne _ _ (fun e => hq (by rw [e]; exact hr))]
  exact h q hq
theorem pFr.mono {L L' : List Nat} {M M1 : fv_M} (h : pFr L M M1) (hs : ∀ q, q ∈ L → q ∈ L') : pFr L' M M1 := fun q hq => h q (fun q2 => hq (hs q q2))
section FVP
variable {E : fv_E} {y y' : fv_Y} {d pc idx n : Nat} {Φ : Option Value → fv_M → Prop} {ls : List (Option Value)} {st As rest : List Value} {M : fv_M} {P : fv_M → Prop}
theorem x_Sip {r : Int32} (hk : fv_kS y.1.cls idx y' n) (hdg : decode y.2.1 pc = .ok (.invokestatic idx, 3)) (hC : fv_P E d y' As M (some (.int r)) P) (hst : st = As.reverse ++ rest) (hn : As.length = n) (hlen : ls.length = y.2.2.1) (hroom : (rest.map fun v => v.category).sum ≤ 8) (k : ∀ M', P M' → fv_X E y (d + 1) Φ (pc + 3) ls (.int r :: rest) M') : fv_X E y (d + 1) Φ pc ls st M :=
  x_callS hk hdg hC hst hn hlen hroom (fun _ M' h => by obtain ⟨rfl, h⟩ := h; exact k M' h)
theorem x_Vip {b ci : Nat} {ss : List fv_Sp} {q : vw_C} {r : Int32} (hk : fv_kV y.1.cls idx y' n) (hdg : decode y.2.1 pc = .ok (.invokevirtual idx, 3)) (htb : fv_tab[b]? = some (.inl (ci, ss))) (hci : vwCl[ci]? = some q) (hq : q.1 = y'.1.cls) (hC : fv_P E d y' (.ref b :: As) M (some (.int r)) P) (hst : st = As.reverse ++ .ref b :: rest) (hn : As.length = n) (hlen : ls.length = y.2.2.1) (hroom : (rest.map fun v => v.category).sum ≤ 8) (k : ∀ M', P M' → fv_X E y (d + 1) Φ (pc + 3) ls (.int r :: rest) M') : fv_X E y (d + 1) Φ pc ls st M :=
  x_callV hk hdg htb hci hq hC hst hn hlen hroom (fun _ M' h => by obtain ⟨rfl, h⟩ := h; exact k M' h)
theorem x_Vlp {b ci : Nat} {ss : List fv_Sp} {q : vw_C} {r : Int64} (hk : fv_kV y.1.cls idx y' n) (hdg : decode y.2.1 pc = .ok (.invokevirtual idx, 3)) (htb : fv_tab[b]? = some (.inl (ci, ss))) (hci : vwCl[ci]? = some q) (hq : q.1 = y'.1.cls) (hC : fv_P E d y' (.ref b :: As) M (some (.long r)) P) (hst : st = As.reverse ++ .ref b :: rest) (hn : As.length = n) (hlen : ls.length = y.2.2.1) (hroom : (rest.map fun v => v.category).sum ≤ 8) (k : ∀ M', P M' → fv_X E y (d + 1) Φ (pc + 3) ls (.long r :: rest) M') : fv_X E y (d + 1) Φ pc ls st M :=
  x_callV hk hdg htb hci hq hC hst hn hlen hroom (fun _ M' h => by obtain ⟨rfl, h⟩ := h; exact k M' h)
theorem x_Vvp {b ci : Nat} {ss : List fv_Sp} {q : vw_C} (hk : fv_kV y.1.cls idx y' n) (hdg : decode y.2.1 pc = .ok (.invokevirtual idx, 3)) (htb : fv_tab[b]? = some (.inl (ci, ss))) (hci : vwCl[ci]? = some q) (hq : q.1 = y'.1.cls) (hC : fv_P E d y' (.ref b :: As) M none P) (hst : st = As.reverse ++ .ref b :: rest) (hn : As.length = n) (hlen : ls.length = y.2.2.1) (hroom : (rest.map fun v => v.category).sum ≤ 8) (k : ∀ M', P M' → fv_X E y (d + 1) Φ (pc + 3) ls rest M') : fv_X E y (d + 1) Φ pc ls st M :=
  x_callV hk hdg htb hci hq hC hst hn hlen hroom (fun _ M' h => by obtain ⟨rfl, h⟩ := h; exact k M' h)
theorem x_loopI (ls : Nat → List (Option Value)) (I : Nat → fv_M → Prop) (n : Nat) {ls0 : List (Option Value)} {M0 : fv_M} (h0 : ls 0 = ls0) (hI : I 0 M0) (hstep : ∀ i M, i < n → I i M → (∀ M', I (i + 1) M' → fv_X E y d Φ pc (ls (i + 1)) st M') → fv_X E y d Φ pc (ls i) st M) (hend : ∀ M, I n M → fv_X E y d Φ pc (ls n) st M) : fv_X E y d Φ pc ls0 st M0 := by
  subst h0
  have key : ∀ k, k ≤ n → ∀ M, I (n - k) M → fv_X E y d Φ pc (ls (n - k)) st M := by
    intro k
    induction k with
    | zero => intro _ M h; exact hend M h
    | succ k ih =>
      intro hk M h
      refine hstep _ M (by omega) h (fun M' h' => ?_)
      have e : n - (k + 1) + 1 = n - k := by omega
      rw [e] at h' ⊢
      exact ih (by omega) M' h'
  have := key n (Nat.le_refl _)
  rw [Nat.sub_self] at this
  exact this M0 hI
end FVP
theorem fv_P.of {E : fv_E} {y : fv_Y} {d : Nat} {M : fv_M} {P : fv_M → Prop} {ls : List (Option Value)} {args : List Value} {r : Option Value} (hy : plainName y.1.cls = true) (hle : (fv_ent args).length ≤ y.2.2.1) (hls : fv_ent args ++ List.replicate (y.2.2.1 - (fv_ent args).length) none = ls) (h : fv_X E y d (fun r' M' => r' = r ∧ P M') 0 ls [] M) : fv_P E d y args M r P := fv_C.of hy hle hls h
