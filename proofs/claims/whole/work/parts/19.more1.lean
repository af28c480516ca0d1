theorem aB_at (s c : Nat) : aB s 0 + 2 * c = aB s c := by unfold aB; omega
theorem aM_at (s c : Nat) : aM s 0 + 1 * c = aM s c := by unfold aM; omega
/-- part of a row behind a copy -/
def fv_cp (g : Nat → Int32) (b : Nat) (f : Nat → Int32) (a n : Nat) : Nat → Int32 := fun j => if b ≤ j ∧ j < b + n then f (a + (j - b)) else g j
theorem fv_W_copy {E : fv_E} {M : fv_M} {q1 n0 n1 r0 r1 i0 i1 sp dp n : Nat} (ht : fv_tab[q1]? = some (.inr (0, n1, r1, i1))) (h0 : sp + n ≤ n0) (h1 : dp + n ≤ n1) :
    (fv_W E M).set q1 (E.2.1 q1, .inl (E.2.2.2 0, n1, .inl (va_cpy (fv_arr M n0 r0 i0) (fv_arr M n1 r1 i1) sp dp n))) = fv_W E (fv_s M r1 (fv_cp (M r1) (i1 + dp) (M r0) (i0 + sp) n)) := by
  refine fv_W_ext ht ?_ (fun r' i' h => ?_)
  · unfold fv_cell
    dsimp only
    rw [if_pos (by decide : 0 < 2)]
    congr 4
    refine congrArg Sum.inl (funext fun j => ?_)
    unfold va_cpy fv_arr
    by_cases h2 : j < n1
    · rw [if_pos h2, if_pos h2, fv_s_same]
      unfold fv_cp
      by_cases h3 : dp ≤ j ∧ j < dp + n
      · rw [if_pos h3, if_pos (by omega), if_pos (by omega)]
        congr 1; omega
      · rw [if_neg h3, if_neg (by omega)]
    · rw [if_neg h2, if_neg (by omega), if_neg h2]
  · unfold fv_s
    by_cases h2 : r' = r1
    · subst h2
      rw [if_pos rfl]
      unfold fv_cp
      by_cases h3 : i1 + dp ≤ i' ∧ i' < i1 + dp + n
      · exfalso
        apply h
        have := fv_chk_arr ht (by decide) (c := i' - i1) (by omega)
        rw [show i1 + (i' - i1) = i' by omega] at this
        rw [this]
      · rw [if_neg h3]
    · rw [if_neg h2]
section FVM
variable {E : fv_E} {y y' : fv_Y} {d pc idx n : Nat} {Φ : Option Value → fv_M → Prop} {ls : List (Option Value)} {st As rest : List Value} {M M0 : fv_M}
theorem x_bird {s c : Nat} {i : Int32} (hdg : decode y.2.1 pc = .ok (.aaload, 1)) (hs : s < 3) (hi : i = nI c) (hc : c < 8) (kk : fv_X E y d Φ (pc + 1) ls (.ref (aB s c) :: st) M) : fv_X E y d Φ pc ls (.int i :: .ref (aBs s) :: st) M :=
  x_aald hdg (tb_bs hs) (by decide) rfl hi hc (by decide) (by rw [aB_at]; exact kk)
theorem x_motion {s c : Nat} {i : Int32} (hdg : decode y.2.1 pc = .ok (.aaload, 1)) (hs : s < 3) (hi : i = nI c) (hc : c < 8) (kk : fv_X E y d Φ (pc + 1) ls (.ref (aM s c) :: st) M) : fv_X E y d Φ pc ls (.int i :: .ref (aMs s) :: st) M :=
  x_aald hdg (tb_ms hs) (by decide) rfl hi hc (by decide) (by rw [aM_at]; exact kk)
theorem x_sheet {c : Nat} {i : Int32} (hdg : decode y.2.1 pc = .ok (.aaload, 1)) (hi : i = nI c) (hc : c < 4) (kk : fv_X E y d Φ (pc + 1) ls (.ref (aSh c) :: st) M) : fv_X E y d Φ pc ls (.int i :: .ref 93 :: st) M :=
  x_aald hdg tb_93 (by decide) rfl hi hc (by decide) kk
theorem x_copy {q0 q1 n0 n1 r0 r1 i0 i1 sp dp n : Nat} {xs xd xn : Int32} (hk : fv_kA y.1.cls idx) (hdg : decode y.2.1 pc = .ok (.invokestatic idx, 3)) (ht0 : fv_tab[q0]? = some (.inr (0, n0, r0, i0))) (ht1 : fv_tab[q1]? = some (.inr (0, n1, r1, i1))) (hs : xs = nI sp) (hd : xd = nI dp) (hn : xn = nI n) (h0 : sp + n ≤ n0) (h1 : dp + n ≤ n1) (hn0 : n0 ≤ 1000) (hn1 : n1 ≤ 1000) (hlen : ls.length = y.2.2.1) (hroom : (st.map fun v => v.category).sum ≤ 8)
    (k : fv_X E y (d + 1) Φ (pc + 3) ls st (fv_s M r1 (fv_cp (M r1) (i1 + dp) (M r0) (i0 + sp) n))) : fv_X E y (d + 1) Φ pc ls (.int xn :: .int xd :: .ref q1 :: .int xs :: .ref q0 :: st) M := by
  intro p l e s m args below meth c H locs lsA F hP hS hL
  subst hs; subst hd; subst hn
  obtain ⟨k1, k2, k3, k4⟩ := hk
  have w0 := fv_W_at (E := E) (M := M) ht0
  have w1 := fv_W_at (E := E) (M := M) ht1
  rw [fv_cell_i (by decide)] at w0 w1
  have hsz : ∀ z : Nat, z ≤ 1000 → ¬ nI z < 0 ∧ (nI z).toNatClampNeg = z := fun z hz => ⟨nI_pos (by omega), nI_clamp (by omega)⟩
  obtain ⟨a1, a2⟩ := hsz sp (by omega)
  obtain ⟨b1, b2⟩ := hsz dp (by omega)
  obtain ⟨c1, c2⟩ := hsz n (by omega)
  refine va_copyi F.1 F.2.1 (F.2.2.1.trans (hlen.symm.trans hL.1.symm)) F.2.2.2.1 (F.2.2.2.2.1 _ k1) (F.2.2.2.2.1 _ k2) (F.2.2.2.2.1 _ k3) (F.2.2.2.2.1 _ k4) F.2.2.2.2.2.2.2.1 hP (fv_D_any F.2.2.2.2.2.2.2.2.1) hS q0 q1 0 0 w0 w1 rfl rfl rfl a1 b1 c1 (by rw [a2, c2]; exact h0) (by rw [b2, c2]; exact h1) (fun _ _ => rfl) (by show 1 ≤ d + 1; omega) ?_ hdg (fun H1 locs1 hP1 hD1 hS1 => ?_)
  · rw [fv_sum]
    have : nativeFrameWords "java/lang/System" "arraycopy" 5 ≤ 19 := by decide
    show _ ≤ 38 * (d + 1)
    omega
  · rw [a2, b2, c2, fv_W_copy ht1 h0 h1] at hP1
    exact k p l e s m args below meth c H1 locs1 lsA F hP1 hS1 hL
theorem x_above (hy : y.1.cls = RX0) (hdg : decode y.2.1 pc = .ok (.getstatic 49, 3)) (k : fv_X E y d Φ (pc + 3) ls (.ref 2000 :: st) M) : fv_X E y d Φ pc ls st M := by
  intro p l e s m args below meth c H locs lsA F hP hS hL
  obtain ⟨h1, h2, h3, -⟩ := F.2.2.2.2.2.2.2.2.2
  refine va_getsN F.1 F.2.1 h3 hS F.2.2.2.1 (va_Nw.use rfl (by rw [hy]; exact h2)) (fun _ h => h) hdg ?_
  exact k p l e s m args below meth c H locs lsA F hP hS hL
theorem x_abld {i : Int32} {c : Nat} (hdg : decode y.2.1 pc = .ok (.iaload, 1)) (hi : i = nI c) (hc : c < 7) (k : fv_X E y d Φ (pc + 1) ls (.int (fv_ab.getD c 0) :: st) M) : fv_X E y d Φ pc ls (.int i :: .ref 2000 :: st) M := by
  intro p l e s m args below meth c' H locs lsA F hP hS hL
  subst hi
  obtain ⟨h1, h2, h3, h4, -⟩ := F.2.2.2.2.2.2.2.2.2
  refine va_ti F.1 F.2.1 h4 hS (nI_in hc (by decide)) (v := .int (fv_ab.getD c 0)) ?_ hdg ?_
  · rw [fv_nIc hc (by decide)]
  · exact k p l e s m args below meth c' H locs lsA F hP hS hL
end FVM
theorem fv_rt {p : Prop} [Decidable p] (h : p) : some (Value.int 1) = some (Value.int (bI p)) := by rw [bI_t h]
theorem fv_rf {p : Prop} [Decidable p] (h : ¬ p) : some (Value.int 0) = some (Value.int (bI p)) := by rw [bI_f h]
theorem fv_m1 : Int32.ofInt (-1) = -1 := by decide +kernel
