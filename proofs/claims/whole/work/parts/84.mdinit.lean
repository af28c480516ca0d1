section VZ3
variable {D : vz_G} {y y' : fv_Y} {d mc ms : Nat} {w0 : va_W} {W1 : (Nat → Nat) → va_W} {pc n k : Nat} {ls : List (Option Value)} {st : List Value} {ws : va_W}
theorem vz_newcl {N : Nat} {z : Int32} (h1 : Cond.arrayClass .char ∈ fv_g) (hdg : decode y.2.1 pc = .ok (.newarray .char, 2)) (hz : z = nI N) (hN : N < 1000) (hc : n + 1 ≤ mc) (hs : k + N ≤ ms) (kk : ∀ q : Nat, vz_X D y d mc ms w0 W1 (pc + 2) ls (.ref q :: st) (ws ++ [(q, .inl (D.2 1, N, .inl (vz_l (List.replicate N 0))))]) (n + 1) (k + N)) : vz_X D y d mc ms w0 W1 pc ls (.int z :: st) ws n k :=
  vz_newc h1 hdg hz hN hc hs (fun q => by
    have h := kk q
    rw [← vz_l_0] at h
    exact h)
theorem vz_castl {a N c : Nat} {l l' : List Int32} {z : Nat × va_E} {i x : Int32} (hs : l.set c x = l') (hi : i = nI c) (hc : c < N) (hN : N ≤ 1000) (hl : l.length = N) (hx : vp_nar .char x = x) (hdg : decode y.2.1 pc = .ok (.castore, 1)) (kk : vz_X D y d mc ms w0 W1 (pc + 1) ls st (z :: (ws ++ [(a, .inl (D.2 1, N, .inl (vz_l l')))])) n k) : vz_X D y d mc ms w0 W1 pc ls (.int x :: .int i :: .ref a :: st) (z :: (ws ++ [(a, .inl (D.2 1, N, .inl (vz_l l)))])) n k := by
  subst hs
  exact vz_cast hi hc hN hl hx hdg kk
/-- a row of numbers as another function tells it -/
theorem vz_chi {r a N : Nat} {c : ClassId} {f f' : Nat → Int32} (ha : ws[r]? = some (a, .inl (c, N, .inl f))) (hf : ∀ j, j < N → f j = f' j) (kk : vz_X D y d mc ms w0 W1 pc ls st (ws.set r (a, .inl (c, N, .inl f'))) n k) : vz_X D y d mc ms w0 W1 pc ls st ws n k := by
  intro p l e s m args below meth c' H locs lsA F hP hD hS hL
  refine kk p l e s m args below meth c' H locs lsA F (fun j q hq => ?_) (hD.set ha) hS hL
  by_cases hj : j = r
  · subst hj
    rw [List.getElem?_set_self (List.getElem?_eq_some_iff.mp ha).1] at hq
    cases hq
    have := hP j _ ha
    show H[a]? = some (vp_cell c (N, .inl f'))
    rw [show H[a]? = some (vp_cell c (N, .inl f)) from this, vp_cell_i, vp_cell_i]
    exact congrArg some (vz_arrV (fun z hz => by rw [hf z hz]))
  · rw [List.getElem?_set_ne (Ne.symm hj)] at hq
    exact hP j q hq
end VZ3
def vz_s0 : Nat → Int32 := fun j => if j = 3 then 1 else if 104 ≤ j ∧ j < 114 then -1 else 0
def vz_t0 : List Int32 := [98, 105, 114, 100, 32, 32, 32, 32, 115, 119, 97, 110, 32, 32, 32, 32, 99, 114, 111, 119, 32, 32, 32, 32, 114, 97, 118, 101, 110, 32, 32, 32, 116, 101, 114, 110, 32, 32, 32, 32, 119, 114, 101, 110, 32, 32, 32, 32, 103, 117, 108, 108, 32, 32, 32, 32]
def vz_t1 : List Int32 := [104, 97, 115, 32, 32, 32, 32, 32, 107, 101, 101, 112, 115, 32, 32, 32, 103, 114, 111, 119, 115, 32, 32, 32]
def vz_t2 : List Int32 := [109, 111, 116, 105, 111, 110, 32, 32, 115, 101, 97, 115, 111, 110, 32, 32]
def vz_t3 : List Int32 := [113, 117, 111, 114, 117, 109, 32, 32, 119, 97, 110, 116, 115, 32, 32, 32, 101, 102, 102, 101, 99, 116, 32, 32]
def vz_Md (T : Nat → ClassId) (h : Nat) (q : Nat → Nat) : va_W := (h, .inr (7, [.ref (q 0), .ref (q 1), .ref (q 2), .int 0, .ref (q 3), .ref (q 4), .ref (q 5), .ref (q 6), .int 0, .int 0, .int 0, .ref (q 7), .int 0, .int 0, .int 0, .int 0, .long 0, .ref (q 8), .ref (q 9), .ref (q 10), .ref (q 11), .ref (q 12), .ref (q 13), .ref (q 14), .ref (q 15)])) :: [((q 0), .inl (T 0, 114, .inl (vz_s0))), ((q 1), .inl (T 0, 114, .inl (fun _ => 0))), ((q 2), .inl (T 0, 114, .inl (fun _ => 0))), ((q 3), .inl (T 0, 7, .inl (fun _ => 0))), ((q 4), .inl (T 0, 8, .inl (fun _ => 0))), ((q 5), .inl (T 0, 5, .inl (fun _ => 0))), ((q 6), .inl (T 0, 5, .inl (fun _ => 0))), ((q 7), .inl (T 0, 120, .inl (fun _ => 0))), ((q 8), .inl (T 1, 56, .inl (vz_l vz_t0))), ((q 9), .inl (T 1, 24, .inl (vz_l vz_t1))), ((q 10), .inl (T 1, 16, .inl (vz_l vz_t2))), ((q 11), .inl (T 1, 24, .inl (vz_l vz_t3))), ((q 12), .inl (T 0, 4, .inl (fun _ => 0))), ((q 13), .inl (T 0, 4, .inl (fun _ => 0))), ((q 14), .inl (T 0, 160, .inl (fun _ => 0))), ((q 15), .inl (T 0, 40, .inl (fun _ => 0)))]
theorem vz_X7_init {D : vz_G} {h : Nat} : vz_C D 1 16 815 mX7_init [.ref h] [(h, .inr (7, vz_d7))] (fun q => vz_Md D.2 h q) := by
  refine vz_C.of (ls := [some (.ref h), none]) (by decide) (Nat.le_of_ble_eq_true rfl) rfl ?_
  refine vz_aload_n (pc := 0) dX7_init_0 rfl rfl ?_
  refine vz_object (pc := 1) (fv_mem 925 (by decide +kernel) rfl) vz_o2 vz_o3 rfl dX7_init_1 ?_
  refine vz_aload_n (pc := 4) dX7_init_4 rfl rfl ?_
  refine vz_bipush (pc := 5) (v := 114) dX7_init_5 rfl ?_
  refine vz_newi (pc := 7) (N := 114) vz_o4 dX7_init_7 rfl (by decide) (Nat.le_of_ble_eq_true rfl) (Nat.le_of_ble_eq_true rfl) (fun q0 => ?_)
  refine vz_put (pc := 9) fl_X7_9 (fun _ h => by cases h; rfl) rfl dX7_init_9 rfl rfl (Nat.le_of_ble_eq_true rfl) rfl ?_
  show vz_X D mX7_init _ _ _ _ _ 12 [some (.ref h), none] [] ((h, .inr (7, [.ref q0, .null, .null, .int 0, .null, .null, .null, .null, .int 0, .int 0, .int 0, .null, .int 0, .int 0, .int 0, .int 0, .long 0, .null, .null, .null, .null, .null, .null, .null, .null])) :: [(q0, .inl (D.2 0, 114, .inl (fun _ => 0)))]) _ _
  refine vz_aload_n (pc := 12) dX7_init_12 rfl rfl ?_
  refine vz_bipush (pc := 13) (v := 114) dX7_init_13 rfl ?_
  refine vz_newi (pc := 15) (N := 114) vz_o4 dX7_init_15 rfl (by decide) (Nat.le_of_ble_eq_true rfl) (Nat.le_of_ble_eq_true rfl) (fun q1 => ?_)
  refine vz_put (pc := 17) fl_X7_13 (fun _ h => by cases h; rfl) rfl dX7_init_17 rfl rfl (Nat.le_of_ble_eq_true rfl) rfl ?_
  show vz_X D mX7_init _ _ _ _ _ 20 [some (.ref h), none] [] ((h, .inr (7, [.ref q0, .ref q1, .null, .int 0, .null, .null, .null, .null, .int 0, .int 0, .int 0, .null, .int 0, .int 0, .int 0, .int 0, .long 0, .null, .null, .null, .null, .null, .null, .null, .null])) :: [(q0, .inl (D.2 0, 114, .inl (fun _ => 0))), (q1, .inl (D.2 0, 114, .inl (fun _ => 0)))]) _ _
  refine vz_aload_n (pc := 20) dX7_init_20 rfl rfl ?_
  refine vz_bipush (pc := 21) (v := 114) dX7_init_21 rfl ?_
  refine vz_newi (pc := 23) (N := 114) vz_o4 dX7_init_23 rfl (by decide) (Nat.le_of_ble_eq_true rfl) (Nat.le_of_ble_eq_true rfl) (fun q2 => ?_)
  refine vz_put (pc := 25) fl_X7_16 (fun _ h => by cases h; rfl) rfl dX7_init_25 rfl rfl (Nat.le_of_ble_eq_true rfl) rfl ?_
  show vz_X D mX7_init _ _ _ _ _ 28 [some (.ref h), none] [] ((h, .inr (7, [.ref q0, .ref q1, .ref q2, .int 0, .null, .null, .null, .null, .int 0, .int 0, .int 0, .null, .int 0, .int 0, .int 0, .int 0, .long 0, .null, .null, .null, .null, .null, .null, .null, .null])) :: [(q0, .inl (D.2 0, 114, .inl (fun _ => 0))), (q1, .inl (D.2 0, 114, .inl (fun _ => 0))), (q2, .inl (D.2 0, 114, .inl (fun _ => 0)))]) _ _
  refine vz_aload_n (pc := 28) dX7_init_28 rfl rfl ?_
  refine vz_bipush (pc := 29) (v := 7) dX7_init_29 rfl ?_
  refine vz_newi (pc := 31) (N := 7) vz_o4 dX7_init_31 rfl (by decide) (Nat.le_of_ble_eq_true rfl) (Nat.le_of_ble_eq_true rfl) (fun q3 => ?_)
  refine vz_put (pc := 33) fl_X7_19 (fun _ h => by cases h; rfl) rfl dX7_init_33 rfl rfl (Nat.le_of_ble_eq_true rfl) rfl ?_
  show vz_X D mX7_init _ _ _ _ _ 36 [some (.ref h), none] [] ((h, .inr (7, [.ref q0, .ref q1, .ref q2, .int 0, .ref q3, .null, .null, .null, .int 0, .int 0, .int 0, .null, .int 0, .int 0, .int 0, .int 0, .long 0, .null, .null, .null, .null, .null, .null, .null, .null])) :: [(q0, .inl (D.2 0, 114, .inl (fun _ => 0))), (q1, .inl (D.2 0, 114, .inl (fun _ => 0))), (q2, .inl (D.2 0, 114, .inl (fun _ => 0))), (q3, .inl (D.2 0, 7, .inl (fun _ => 0)))]) _ _
  refine vz_aload_n (pc := 36) dX7_init_36 rfl rfl ?_
  refine vz_bipush (pc := 37) (v := 8) dX7_init_37 rfl ?_
  refine vz_newi (pc := 39) (N := 8) vz_o4 dX7_init_39 rfl (by decide) (Nat.le_of_ble_eq_true rfl) (Nat.le_of_ble_eq_true rfl) (fun q4 => ?_)
  refine vz_put (pc := 41) fl_X7_22 (fun _ h => by cases h; rfl) rfl dX7_init_41 rfl rfl (Nat.le_of_ble_eq_true rfl) rfl ?_
  show vz_X D mX7_init _ _ _ _ _ 44 [some (.ref h), none] [] ((h, .inr (7, [.ref q0, .ref q1, .ref q2, .int 0, .ref q3, .ref q4, .null, .null, .int 0, .int 0, .int 0, .null, .int 0, .int 0, .int 0, .int 0, .long 0, .null, .null, .null, .null, .null, .null, .null, .null])) :: [(q0, .inl (D.2 0, 114, .inl (fun _ => 0))), (q1, .inl (D.2 0, 114, .inl (fun _ => 0))), (q2, .inl (D.2 0, 114, .inl (fun _ => 0))), (q3, .inl (D.2 0, 7, .inl (fun _ => 0))), (q4, .inl (D.2 0, 8, .inl (fun _ => 0)))]) _ _
  refine vz_aload_n (pc := 44) dX7_init_44 rfl rfl ?_
  refine vz_iconst (pc := 45) (v := 5) dX7_init_45 rfl ?_
  refine vz_newi (pc := 46) (N := 5) vz_o4 dX7_init_46 rfl (by decide) (Nat.le_of_ble_eq_true rfl) (Nat.le_of_ble_eq_true rfl) (fun q5 => ?_)
  refine vz_put (pc := 48) fl_X7_25 (fun _ h => by cases h; rfl) rfl dX7_init_48 rfl rfl (Nat.le_of_ble_eq_true rfl) rfl ?_
  show vz_X D mX7_init _ _ _ _ _ 51 [some (.ref h), none] [] ((h, .inr (7, [.ref q0, .ref q1, .ref q2, .int 0, .ref q3, .ref q4, .ref q5, .null, .int 0, .int 0, .int 0, .null, .int 0, .int 0, .int 0, .int 0, .long 0, .null, .null, .null, .null, .null, .null, .null, .null])) :: [(q0, .inl (D.2 0, 114, .inl (fun _ => 0))), (q1, .inl (D.2 0, 114, .inl (fun _ => 0))), (q2, .inl (D.2 0, 114, .inl (fun _ => 0))), (q3, .inl (D.2 0, 7, .inl (fun _ => 0))), (q4, .inl (D.2 0, 8, .inl (fun _ => 0))), (q5, .inl (D.2 0, 5, .inl (fun _ => 0)))]) _ _
  refine vz_aload_n (pc := 51) dX7_init_51 rfl rfl ?_
  refine vz_iconst (pc := 52) (v := 5) dX7_init_52 rfl ?_
  refine vz_newi (pc := 53) (N := 5) vz_o4 dX7_init_53 rfl (by decide) (Nat.le_of_ble_eq_true rfl) (Nat.le_of_ble_eq_true rfl) (fun q6 => ?_)
  refine vz_put (pc := 55) fl_X7_28 (fun _ h => by cases h; rfl) rfl dX7_init_55 rfl rfl (Nat.le_of_ble_eq_true rfl) rfl ?_
  show vz_X D mX7_init _ _ _ _ _ 58 [some (.ref h), none] [] ((h, .inr (7, [.ref q0, .ref q1, .ref q2, .int 0, .ref q3, .ref q4, .ref q5, .ref q6, .int 0, .int 0, .int 0, .null, .int 0, .int 0, .int 0, .int 0, .long 0, .null, .null, .null, .null, .null, .null, .null, .null])) :: [(q0, .inl (D.2 0, 114, .inl (fun _ => 0))), (q1, .inl (D.2 0, 114, .inl (fun _ => 0))), (q2, .inl (D.2 0, 114, .inl (fun _ => 0))), (q3, .inl (D.2 0, 7, .inl (fun _ => 0))), (q4, .inl (D.2 0, 8, .inl (fun _ => 0))), (q5, .inl (D.2 0, 5, .inl (fun _ => 0))), (q6, .inl (D.2 0, 5, .inl (fun _ => 0)))]) _ _
  refine vz_aload_n (pc := 58) dX7_init_58 rfl rfl ?_
  refine vz_bipush (pc := 59) (v := 120) dX7_init_59 rfl ?_
  refine vz_newi (pc := 61) (N := 120) vz_o4 dX7_init_61 rfl (by decide) (Nat.le_of_ble_eq_true rfl) (Nat.le_of_ble_eq_true rfl) (fun q7 => ?_)
  refine vz_put (pc := 63) fl_X7_31 (fun _ h => by cases h; rfl) rfl dX7_init_63 rfl rfl (Nat.le_of_ble_eq_true rfl) rfl ?_
  show vz_X D mX7_init _ _ _ _ _ 66 [some (.ref h), none] [] ((h, .inr (7, [.ref q0, .ref q1, .ref q2, .int 0, .ref q3, .ref q4, .ref q5, .ref q6, .int 0, .int 0, .int 0, .ref q7, .int 0, .int 0, .int 0, .int 0, .long 0, .null, .null, .null, .null, .null, .null, .null, .null])) :: [(q0, .inl (D.2 0, 114, .inl (fun _ => 0))), (q1, .inl (D.2 0, 114, .inl (fun _ => 0))), (q2, .inl (D.2 0, 114, .inl (fun _ => 0))), (q3, .inl (D.2 0, 7, .inl (fun _ => 0))), (q4, .inl (D.2 0, 8, .inl (fun _ => 0))), (q5, .inl (D.2 0, 5, .inl (fun _ => 0))), (q6, .inl (D.2 0, 5, .inl (fun _ => 0))), (q7, .inl (D.2 0, 120, .inl (fun _ => 0)))]) _ _
  refine vz_aload_n (pc := 66) dX7_init_66 rfl rfl ?_
  refine vz_bipush (pc := 67) (v := 56) dX7_init_67 rfl ?_
  refine vz_newcl (pc := 69) (N := 56) vz_o5 dX7_init_69 rfl (by decide) (Nat.le_of_ble_eq_true rfl) (Nat.le_of_ble_eq_true rfl) (fun q8 => ?_)
  show vz_X D mX7_init _ _ _ _ _ 71 [some (.ref h), none] [.ref q8, .ref h] ((h, .inr (7, [.ref q0, .ref q1, .ref q2, .int 0, .ref q3, .ref q4, .ref q5, .ref q6, .int 0, .int 0, .int 0, .ref q7, .int 0, .int 0, .int 0, .int 0, .long 0, .null, .null, .null, .null, .null, .null, .null, .null])) :: ([(q0, .inl (D.2 0, 114, .inl (fun _ => 0))), (q1, .inl (D.2 0, 114, .inl (fun _ => 0))), (q2, .inl (D.2 0, 114, .inl (fun _ => 0))), (q3, .inl (D.2 0, 7, .inl (fun _ => 0))), (q4, .inl (D.2 0, 8, .inl (fun _ => 0))), (q5, .inl (D.2 0, 5, .inl (fun _ => 0))), (q6, .inl (D.2 0, 5, .inl (fun _ => 0))), (q7, .inl (D.2 0, 120, .inl (fun _ => 0)))] ++ [(q8, .inl (D.2 1, 56, .inl (vz_l [0, 0, 0, 0, 0, 0, 0, 0, 0, 0, 0, 0, 0, 0, 0, 0, 0, 0, 0, 0, 0, 0, 0, 0, 0, 0, 0, 0, 0, 0, 0, 0, 0, 0, 0, 0, 0, 0, 0, 0, 0, 0, 0, 0, 0, 0, 0, 0, 0, 0, 0, 0, 0, 0, 0, 0])))])) _ _
  refine vz_dup (pc := 71) dX7_init_71 ?_
  refine vz_iconst (pc := 72) (v := 0) dX7_init_72 rfl ?_
  refine vz_bipush (pc := 73) (v := 98) dX7_init_73 rfl ?_
  refine vz_castl (pc := 75) (c := 0) (N := 56) (l' := [98, 0, 0, 0, 0, 0, 0, 0, 0, 0, 0, 0, 0, 0, 0, 0, 0, 0, 0, 0, 0, 0, 0, 0, 0, 0, 0, 0, 0, 0, 0, 0, 0, 0, 0, 0, 0, 0, 0, 0, 0, 0, 0, 0, 0, 0, 0, 0, 0, 0, 0, 0, 0, 0, 0, 0]) rfl rfl (by decide) (by decide) rfl rfl dX7_init_75 ?_
  refine vz_dup (pc := 76) dX7_init_76 ?_
  refine vz_iconst (pc := 77) (v := 1) dX7_init_77 rfl ?_
  refine vz_bipush (pc := 78) (v := 105) dX7_init_78 rfl ?_
  refine vz_castl (pc := 80) (c := 1) (N := 56) (l' := [98, 105, 0, 0, 0, 0, 0, 0, 0, 0, 0, 0, 0, 0, 0, 0, 0, 0, 0, 0, 0, 0, 0, 0, 0, 0, 0, 0, 0, 0, 0, 0, 0, 0, 0, 0, 0, 0, 0, 0, 0, 0, 0, 0, 0, 0, 0, 0, 0, 0, 0, 0, 0, 0, 0, 0]) rfl rfl (by decide) (by decide) rfl rfl dX7_init_80 ?_
  refine vz_dup (pc := 81) dX7_init_81 ?_
  refine vz_iconst (pc := 82) (v := 2) dX7_init_82 rfl ?_
  refine vz_bipush (pc := 83) (v := 114) dX7_init_83 rfl ?_
  refine vz_castl (pc := 85) (c := 2) (N := 56) (l' := [98, 105, 114, 0, 0, 0, 0, 0, 0, 0, 0, 0, 0, 0, 0, 0, 0, 0, 0, 0, 0, 0, 0, 0, 0, 0, 0, 0, 0, 0, 0, 0, 0, 0, 0, 0, 0, 0, 0, 0, 0, 0, 0, 0, 0, 0, 0, 0, 0, 0, 0, 0, 0, 0, 0, 0]) rfl rfl (by decide) (by decide) rfl rfl dX7_init_85 ?_
  refine vz_dup (pc := 86) dX7_init_86 ?_
  refine vz_iconst (pc := 87) (v := 3) dX7_init_87 rfl ?_
  refine vz_bipush (pc := 88) (v := 100) dX7_init_88 rfl ?_
  refine vz_castl (pc := 90) (c := 3) (N := 56) (l' := [98, 105, 114, 100, 0, 0, 0, 0, 0, 0, 0, 0, 0, 0, 0, 0, 0, 0, 0, 0, 0, 0, 0, 0, 0, 0, 0, 0, 0, 0, 0, 0, 0, 0, 0, 0, 0, 0, 0, 0, 0, 0, 0, 0, 0, 0, 0, 0, 0, 0, 0, 0, 0, 0, 0, 0]) rfl rfl (by decide) (by decide) rfl rfl dX7_init_90 ?_
  refine vz_dup (pc := 91) dX7_init_91 ?_
  refine vz_iconst (pc := 92) (v := 4) dX7_init_92 rfl ?_
  refine vz_bipush (pc := 93) (v := 32) dX7_init_93 rfl ?_
  refine vz_castl (pc := 95) (c := 4) (N := 56) (l' := [98, 105, 114, 100, 32, 0, 0, 0, 0, 0, 0, 0, 0, 0, 0, 0, 0, 0, 0, 0, 0, 0, 0, 0, 0, 0, 0, 0, 0, 0, 0, 0, 0, 0, 0, 0, 0, 0, 0, 0, 0, 0, 0, 0, 0, 0, 0, 0, 0, 0, 0, 0, 0, 0, 0, 0]) rfl rfl (by decide) (by decide) rfl rfl dX7_init_95 ?_
  refine vz_dup (pc := 96) dX7_init_96 ?_
  refine vz_iconst (pc := 97) (v := 5) dX7_init_97 rfl ?_
  refine vz_bipush (pc := 98) (v := 32) dX7_init_98 rfl ?_
  refine vz_castl (pc := 100) (c := 5) (N := 56) (l' := [98, 105, 114, 100, 32, 32, 0, 0, 0, 0, 0, 0, 0, 0, 0, 0, 0, 0, 0, 0, 0, 0, 0, 0, 0, 0, 0, 0, 0, 0, 0, 0, 0, 0, 0, 0, 0, 0, 0, 0, 0, 0, 0, 0, 0, 0, 0, 0, 0, 0, 0, 0, 0, 0, 0, 0]) rfl rfl (by decide) (by decide) rfl rfl dX7_init_100 ?_
  refine vz_dup (pc := 101) dX7_init_101 ?_
  refine vz_bipush (pc := 102) (v := 6) dX7_init_102 rfl ?_
  refine vz_bipush (pc := 104) (v := 32) dX7_init_104 rfl ?_
  refine vz_castl (pc := 106) (c := 6) (N := 56) (l' := [98, 105, 114, 100, 32, 32, 32, 0, 0, 0, 0, 0, 0, 0, 0, 0, 0, 0, 0, 0, 0, 0, 0, 0, 0, 0, 0, 0, 0, 0, 0, 0, 0, 0, 0, 0, 0, 0, 0, 0, 0, 0, 0, 0, 0, 0, 0, 0, 0, 0, 0, 0, 0, 0, 0, 0]) rfl rfl (by decide) (by decide) rfl rfl dX7_init_106 ?_
  refine vz_dup (pc := 107) dX7_init_107 ?_
  refine vz_bipush (pc := 108) (v := 7) dX7_init_108 rfl ?_
  refine vz_bipush (pc := 110) (v := 32) dX7_init_110 rfl ?_
  refine vz_castl (pc := 112) (c := 7) (N := 56) (l' := [98, 105, 114, 100, 32, 32, 32, 32, 0, 0, 0, 0, 0, 0, 0, 0, 0, 0, 0, 0, 0, 0, 0, 0, 0, 0, 0, 0, 0, 0, 0, 0, 0, 0, 0, 0, 0, 0, 0, 0, 0, 0, 0, 0, 0, 0, 0, 0, 0, 0, 0, 0, 0, 0, 0, 0]) rfl rfl (by decide) (by decide) rfl rfl dX7_init_112 ?_
  refine vz_dup (pc := 113) dX7_init_113 ?_
  refine vz_bipush (pc := 114) (v := 8) dX7_init_114 rfl ?_
  refine vz_bipush (pc := 116) (v := 115) dX7_init_116 rfl ?_
  refine vz_castl (pc := 118) (c := 8) (N := 56) (l' := [98, 105, 114, 100, 32, 32, 32, 32, 115, 0, 0, 0, 0, 0, 0, 0, 0, 0, 0, 0, 0, 0, 0, 0, 0, 0, 0, 0, 0, 0, 0, 0, 0, 0, 0, 0, 0, 0, 0, 0, 0, 0, 0, 0, 0, 0, 0, 0, 0, 0, 0, 0, 0, 0, 0, 0]) rfl rfl (by decide) (by decide) rfl rfl dX7_init_118 ?_
  refine vz_dup (pc := 119) dX7_init_119 ?_
  refine vz_bipush (pc := 120) (v := 9) dX7_init_120 rfl ?_
  refine vz_bipush (pc := 122) (v := 119) dX7_init_122 rfl ?_
  refine vz_castl (pc := 124) (c := 9) (N := 56) (l' := [98, 105, 114, 100, 32, 32, 32, 32, 115, 119, 0, 0, 0, 0, 0, 0, 0, 0, 0, 0, 0, 0, 0, 0, 0, 0, 0, 0, 0, 0, 0, 0, 0, 0, 0, 0, 0, 0, 0, 0, 0, 0, 0, 0, 0, 0, 0, 0, 0, 0, 0, 0, 0, 0, 0, 0]) rfl rfl (by decide) (by decide) rfl rfl dX7_init_124 ?_
  refine vz_dup (pc := 125) dX7_init_125 ?_
  refine vz_bipush (pc := 126) (v := 10) dX7_init_126 rfl ?_
  refine vz_bipush (pc := 128) (v := 97) dX7_init_128 rfl ?_
  refine vz_castl (pc := 130) (c := 10) (N := 56) (l' := [98, 105, 114, 100, 32, 32, 32, 32, 115, 119, 97, 0, 0, 0, 0, 0, 0, 0, 0, 0, 0, 0, 0, 0, 0, 0, 0, 0, 0, 0, 0, 0, 0, 0, 0, 0, 0, 0, 0, 0, 0, 0, 0, 0, 0, 0, 0, 0, 0, 0, 0, 0, 0, 0, 0, 0]) rfl rfl (by decide) (by decide) rfl rfl dX7_init_130 ?_
  refine vz_dup (pc := 131) dX7_init_131 ?_
  refine vz_bipush (pc := 132) (v := 11) dX7_init_132 rfl ?_
  refine vz_bipush (pc := 134) (v := 110) dX7_init_134 rfl ?_
  refine vz_castl (pc := 136) (c := 11) (N := 56) (l' := [98, 105, 114, 100, 32, 32, 32, 32, 115, 119, 97, 110, 0, 0, 0, 0, 0, 0, 0, 0, 0, 0, 0, 0, 0, 0, 0, 0, 0, 0, 0, 0, 0, 0, 0, 0, 0, 0, 0, 0, 0, 0, 0, 0, 0, 0, 0, 0, 0, 0, 0, 0, 0, 0, 0, 0]) rfl rfl (by decide) (by decide) rfl rfl dX7_init_136 ?_
  refine vz_dup (pc := 137) dX7_init_137 ?_
  refine vz_bipush (pc := 138) (v := 12) dX7_init_138 rfl ?_
  refine vz_bipush (pc := 140) (v := 32) dX7_init_140 rfl ?_
  refine vz_castl (pc := 142) (c := 12) (N := 56) (l' := [98, 105, 114, 100, 32, 32, 32, 32, 115, 119, 97, 110, 32, 0, 0, 0, 0, 0, 0, 0, 0, 0, 0, 0, 0, 0, 0, 0, 0, 0, 0, 0, 0, 0, 0, 0, 0, 0, 0, 0, 0, 0, 0, 0, 0, 0, 0, 0, 0, 0, 0, 0, 0, 0, 0, 0]) rfl rfl (by decide) (by decide) rfl rfl dX7_init_142 ?_
  refine vz_dup (pc := 143) dX7_init_143 ?_
  refine vz_bipush (pc := 144) (v := 13) dX7_init_144 rfl ?_
  refine vz_bipush (pc := 146) (v := 32) dX7_init_146 rfl ?_
  refine vz_castl (pc := 148) (c := 13) (N := 56) (l' := [98, 105, 114, 100, 32, 32, 32, 32, 115, 119, 97, 110, 32, 32, 0, 0, 0, 0, 0, 0, 0, 0, 0, 0, 0, 0, 0, 0, 0, 0, 0, 0, 0, 0, 0, 0, 0, 0, 0, 0, 0, 0, 0, 0, 0, 0, 0, 0, 0, 0, 0, 0, 0, 0, 0, 0]) rfl rfl (by decide) (by decide) rfl rfl dX7_init_148 ?_
  refine vz_dup (pc := 149) dX7_init_149 ?_
  refine vz_bipush (pc := 150) (v := 14) dX7_init_150 rfl ?_
  refine vz_bipush (pc := 152) (v := 32) dX7_init_152 rfl ?_
  refine vz_castl (pc := 154) (c := 14) (N := 56) (l' := [98, 105, 114, 100, 32, 32, 32, 32, 115, 119, 97, 110, 32, 32, 32, 0, 0, 0, 0, 0, 0, 0, 0, 0, 0, 0, 0, 0, 0, 0, 0, 0, 0, 0, 0, 0, 0, 0, 0, 0, 0, 0, 0, 0, 0, 0, 0, 0, 0, 0, 0, 0, 0, 0, 0, 0]) rfl rfl (by decide) (by decide) rfl rfl dX7_init_154 ?_
  refine vz_dup (pc := 155) dX7_init_155 ?_
  refine vz_bipush (pc := 156) (v := 15) dX7_init_156 rfl ?_
  refine vz_bipush (pc := 158) (v := 32) dX7_init_158 rfl ?_
  refine vz_castl (pc := 160) (c := 15) (N := 56) (l' := [98, 105, 114, 100, 32, 32, 32, 32, 115, 119, 97, 110, 32, 32, 32, 32, 0, 0, 0, 0, 0, 0, 0, 0, 0, 0, 0, 0, 0, 0, 0, 0, 0, 0, 0, 0, 0, 0, 0, 0, 0, 0, 0, 0, 0, 0, 0, 0, 0, 0, 0, 0, 0, 0, 0, 0]) rfl rfl (by decide) (by decide) rfl rfl dX7_init_160 ?_
  refine vz_dup (pc := 161) dX7_init_161 ?_
  refine vz_bipush (pc := 162) (v := 16) dX7_init_162 rfl ?_
  refine vz_bipush (pc := 164) (v := 99) dX7_init_164 rfl ?_
  refine vz_castl (pc := 166) (c := 16) (N := 56) (l' := [98, 105, 114, 100, 32, 32, 32, 32, 115, 119, 97, 110, 32, 32, 32, 32, 99, 0, 0, 0, 0, 0, 0, 0, 0, 0, 0, 0, 0, 0, 0, 0, 0, 0, 0, 0, 0, 0, 0, 0, 0, 0, 0, 0, 0, 0, 0, 0, 0, 0, 0, 0, 0, 0, 0, 0]) rfl rfl (by decide) (by decide) rfl rfl dX7_init_166 ?_
  refine vz_dup (pc := 167) dX7_init_167 ?_
  refine vz_bipush (pc := 168) (v := 17) dX7_init_168 rfl ?_
  refine vz_bipush (pc := 170) (v := 114) dX7_init_170 rfl ?_
  refine vz_castl (pc := 172) (c := 17) (N := 56) (l' := [98, 105, 114, 100, 32, 32, 32, 32, 115, 119, 97, 110, 32, 32, 32, 32, 99, 114, 0, 0, 0, 0, 0, 0, 0, 0, 0, 0, 0, 0, 0, 0, 0, 0, 0, 0, 0, 0, 0, 0, 0, 0, 0, 0, 0, 0, 0, 0, 0, 0, 0, 0, 0, 0, 0, 0]) rfl rfl (by decide) (by decide) rfl rfl dX7_init_172 ?_
  refine vz_dup (pc := 173) dX7_init_173 ?_
  refine vz_bipush (pc := 174) (v := 18) dX7_init_174 rfl ?_
  refine vz_bipush (pc := 176) (v := 111) dX7_init_176 rfl ?_
  refine vz_castl (pc := 178) (c := 18) (N := 56) (l' := [98, 105, 114, 100, 32, 32, 32, 32, 115, 119, 97, 110, 32, 32, 32, 32, 99, 114, 111, 0, 0, 0, 0, 0, 0, 0, 0, 0, 0, 0, 0, 0, 0, 0, 0, 0, 0, 0, 0, 0, 0, 0, 0, 0, 0, 0, 0, 0, 0, 0, 0, 0, 0, 0, 0, 0]) rfl rfl (by decide) (by decide) rfl rfl dX7_init_178 ?_
  refine vz_dup (pc := 179) dX7_init_179 ?_
  refine vz_bipush (pc := 180) (v := 19) dX7_init_180 rfl ?_
  refine vz_bipush (pc := 182) (v := 119) dX7_init_182 rfl ?_
  refine vz_castl (pc := 184) (c := 19) (N := 56) (l' := [98, 105, 114, 100, 32, 32, 32, 32, 115, 119, 97, 110, 32, 32, 32, 32, 99, 114, 111, 119, 0, 0, 0, 0, 0, 0, 0, 0, 0, 0, 0, 0, 0, 0, 0, 0, 0, 0, 0, 0, 0, 0, 0, 0, 0, 0, 0, 0, 0, 0, 0, 0, 0, 0, 0, 0]) rfl rfl (by decide) (by decide) rfl rfl dX7_init_184 ?_
  refine vz_dup (pc := 185) dX7_init_185 ?_
  refine vz_bipush (pc := 186) (v := 20) dX7_init_186 rfl ?_
  refine vz_bipush (pc := 188) (v := 32) dX7_init_188 rfl ?_
  refine vz_castl (pc := 190) (c := 20) (N := 56) (l' := [98, 105, 114, 100, 32, 32, 32, 32, 115, 119, 97, 110, 32, 32, 32, 32, 99, 114, 111, 119, 32, 0, 0, 0, 0, 0, 0, 0, 0, 0, 0, 0, 0, 0, 0, 0, 0, 0, 0, 0, 0, 0, 0, 0, 0, 0, 0, 0, 0, 0, 0, 0, 0, 0, 0, 0]) rfl rfl (by decide) (by decide) rfl rfl dX7_init_190 ?_
  refine vz_dup (pc := 191) dX7_init_191 ?_
  refine vz_bipush (pc := 192) (v := 21) dX7_init_192 rfl ?_
  refine vz_bipush (pc := 194) (v := 32) dX7_init_194 rfl ?_
  refine vz_castl (pc := 196) (c := 21) (N := 56) (l' := [98, 105, 114, 100, 32, 32, 32, 32, 115, 119, 97, 110, 32, 32, 32, 32, 99, 114, 111, 119, 32, 32, 0, 0, 0, 0, 0, 0, 0, 0, 0, 0, 0, 0, 0, 0, 0, 0, 0, 0, 0, 0, 0, 0, 0, 0, 0, 0, 0, 0, 0, 0, 0, 0, 0, 0]) rfl rfl (by decide) (by decide) rfl rfl dX7_init_196 ?_
  refine vz_dup (pc := 197) dX7_init_197 ?_
  refine vz_bipush (pc := 198) (v := 22) dX7_init_198 rfl ?_
  refine vz_bipush (pc := 200) (v := 32) dX7_init_200 rfl ?_
  refine vz_castl (pc := 202) (c := 22) (N := 56) (l' := [98, 105, 114, 100, 32, 32, 32, 32, 115, 119, 97, 110, 32, 32, 32, 32, 99, 114, 111, 119, 32, 32, 32, 0, 0, 0, 0, 0, 0, 0, 0, 0, 0, 0, 0, 0, 0, 0, 0, 0, 0, 0, 0, 0, 0, 0, 0, 0, 0, 0, 0, 0, 0, 0, 0, 0]) rfl rfl (by decide) (by decide) rfl rfl dX7_init_202 ?_
  refine vz_dup (pc := 203) dX7_init_203 ?_
  refine vz_bipush (pc := 204) (v := 23) dX7_init_204 rfl ?_
  refine vz_bipush (pc := 206) (v := 32) dX7_init_206 rfl ?_
  refine vz_castl (pc := 208) (c := 23) (N := 56) (l' := [98, 105, 114, 100, 32, 32, 32, 32, 115, 119, 97, 110, 32, 32, 32, 32, 99, 114, 111, 119, 32, 32, 32, 32, 0, 0, 0, 0, 0, 0, 0, 0, 0, 0, 0, 0, 0, 0, 0, 0, 0, 0, 0, 0, 0, 0, 0, 0, 0, 0, 0, 0, 0, 0, 0, 0]) rfl rfl (by decide) (by decide) rfl rfl dX7_init_208 ?_
  refine vz_dup (pc := 209) dX7_init_209 ?_
  refine vz_bipush (pc := 210) (v := 24) dX7_init_210 rfl ?_
  refine vz_bipush (pc := 212) (v := 114) dX7_init_212 rfl ?_
  refine vz_castl (pc := 214) (c := 24) (N := 56) (l' := [98, 105, 114, 100, 32, 32, 32, 32, 115, 119, 97, 110, 32, 32, 32, 32, 99, 114, 111, 119, 32, 32, 32, 32, 114, 0, 0, 0, 0, 0, 0, 0, 0, 0, 0, 0, 0, 0, 0, 0, 0, 0, 0, 0, 0, 0, 0, 0, 0, 0, 0, 0, 0, 0, 0, 0]) rfl rfl (by decide) (by decide) rfl rfl dX7_init_214 ?_
  refine vz_dup (pc := 215) dX7_init_215 ?_
  refine vz_bipush (pc := 216) (v := 25) dX7_init_216 rfl ?_
  refine vz_bipush (pc := 218) (v := 97) dX7_init_218 rfl ?_
  refine vz_castl (pc := 220) (c := 25) (N := 56) (l' := [98, 105, 114, 100, 32, 32, 32, 32, 115, 119, 97, 110, 32, 32, 32, 32, 99, 114, 111, 119, 32, 32, 32, 32, 114, 97, 0, 0, 0, 0, 0, 0, 0, 0, 0, 0, 0, 0, 0, 0, 0, 0, 0, 0, 0, 0, 0, 0, 0, 0, 0, 0, 0, 0, 0, 0]) rfl rfl (by decide) (by decide) rfl rfl dX7_init_220 ?_
  refine vz_dup (pc := 221) dX7_init_221 ?_
  refine vz_bipush (pc := 222) (v := 26) dX7_init_222 rfl ?_
  refine vz_bipush (pc := 224) (v := 118) dX7_init_224 rfl ?_
  refine vz_castl (pc := 226) (c := 26) (N := 56) (l' := [98, 105, 114, 100, 32, 32, 32, 32, 115, 119, 97, 110, 32, 32, 32, 32, 99, 114, 111, 119, 32, 32, 32, 32, 114, 97, 118, 0, 0, 0, 0, 0, 0, 0, 0, 0, 0, 0, 0, 0, 0, 0, 0, 0, 0, 0, 0, 0, 0, 0, 0, 0, 0, 0, 0, 0]) rfl rfl (by decide) (by decide) rfl rfl dX7_init_226 ?_
  refine vz_dup (pc := 227) dX7_init_227 ?_
  refine vz_bipush (pc := 228) (v := 27) dX7_init_228 rfl ?_
  refine vz_bipush (pc := 230) (v := 101) dX7_init_230 rfl ?_
  refine vz_castl (pc := 232) (c := 27) (N := 56) (l' := [98, 105, 114, 100, 32, 32, 32, 32, 115, 119, 97, 110, 32, 32, 32, 32, 99, 114, 111, 119, 32, 32, 32, 32, 114, 97, 118, 101, 0, 0, 0, 0, 0, 0, 0, 0, 0, 0, 0, 0, 0, 0, 0, 0, 0, 0, 0, 0, 0, 0, 0, 0, 0, 0, 0, 0]) rfl rfl (by decide) (by decide) rfl rfl dX7_init_232 ?_
  refine vz_dup (pc := 233) dX7_init_233 ?_
  refine vz_bipush (pc := 234) (v := 28) dX7_init_234 rfl ?_
  refine vz_bipush (pc := 236) (v := 110) dX7_init_236 rfl ?_
  refine vz_castl (pc := 238) (c := 28) (N := 56) (l' := [98, 105, 114, 100, 32, 32, 32, 32, 115, 119, 97, 110, 32, 32, 32, 32, 99, 114, 111, 119, 32, 32, 32, 32, 114, 97, 118, 101, 110, 0, 0, 0, 0, 0, 0, 0, 0, 0, 0, 0, 0, 0, 0, 0, 0, 0, 0, 0, 0, 0, 0, 0, 0, 0, 0, 0]) rfl rfl (by decide) (by decide) rfl rfl dX7_init_238 ?_
  refine vz_dup (pc := 239) dX7_init_239 ?_
  refine vz_bipush (pc := 240) (v := 29) dX7_init_240 rfl ?_
  refine vz_bipush (pc := 242) (v := 32) dX7_init_242 rfl ?_
  refine vz_castl (pc := 244) (c := 29) (N := 56) (l' := [98, 105, 114, 100, 32, 32, 32, 32, 115, 119, 97, 110, 32, 32, 32, 32, 99, 114, 111, 119, 32, 32, 32, 32, 114, 97, 118, 101, 110, 32, 0, 0, 0, 0, 0, 0, 0, 0, 0, 0, 0, 0, 0, 0, 0, 0, 0, 0, 0, 0, 0, 0, 0, 0, 0, 0]) rfl rfl (by decide) (by decide) rfl rfl dX7_init_244 ?_
  refine vz_dup (pc := 245) dX7_init_245 ?_
  refine vz_bipush (pc := 246) (v := 30) dX7_init_246 rfl ?_
  refine vz_bipush (pc := 248) (v := 32) dX7_init_248 rfl ?_
  refine vz_castl (pc := 250) (c := 30) (N := 56) (l' := [98, 105, 114, 100, 32, 32, 32, 32, 115, 119, 97, 110, 32, 32, 32, 32, 99, 114, 111, 119, 32, 32, 32, 32, 114, 97, 118, 101, 110, 32, 32, 0, 0, 0, 0, 0, 0, 0, 0, 0, 0, 0, 0, 0, 0, 0, 0, 0, 0, 0, 0, 0, 0, 0, 0, 0]) rfl rfl (by decide) (by decide) rfl rfl dX7_init_250 ?_
  refine vz_dup (pc := 251) dX7_init_251 ?_
  refine vz_bipush (pc := 252) (v := 31) dX7_init_252 rfl ?_
  refine vz_bipush (pc := 254) (v := 32) dX7_init_254 rfl ?_
  refine vz_castl (pc := 256) (c := 31) (N := 56) (l' := [98, 105, 114, 100, 32, 32, 32, 32, 115, 119, 97, 110, 32, 32, 32, 32, 99, 114, 111, 119, 32, 32, 32, 32, 114, 97, 118, 101, 110, 32, 32, 32, 0, 0, 0, 0, 0, 0, 0, 0, 0, 0, 0, 0, 0, 0, 0, 0, 0, 0, 0, 0, 0, 0, 0, 0]) rfl rfl (by decide) (by decide) rfl rfl dX7_init_256 ?_
  refine vz_dup (pc := 257) dX7_init_257 ?_
  refine vz_bipush (pc := 258) (v := 32) dX7_init_258 rfl ?_
  refine vz_bipush (pc := 260) (v := 116) dX7_init_260 rfl ?_
  refine vz_castl (pc := 262) (c := 32) (N := 56) (l' := [98, 105, 114, 100, 32, 32, 32, 32, 115, 119, 97, 110, 32, 32, 32, 32, 99, 114, 111, 119, 32, 32, 32, 32, 114, 97, 118, 101, 110, 32, 32, 32, 116, 0, 0, 0, 0, 0, 0, 0, 0, 0, 0, 0, 0, 0, 0, 0, 0, 0, 0, 0, 0, 0, 0, 0]) rfl rfl (by decide) (by decide) rfl rfl dX7_init_262 ?_
  refine vz_dup (pc := 263) dX7_init_263 ?_
  refine vz_bipush (pc := 264) (v := 33) dX7_init_264 rfl ?_
  refine vz_bipush (pc := 266) (v := 101) dX7_init_266 rfl ?_
  refine vz_castl (pc := 268) (c := 33) (N := 56) (l' := [98, 105, 114, 100, 32, 32, 32, 32, 115, 119, 97, 110, 32, 32, 32, 32, 99, 114, 111, 119, 32, 32, 32, 32, 114, 97, 118, 101, 110, 32, 32, 32, 116, 101, 0, 0, 0, 0, 0, 0, 0, 0, 0, 0, 0, 0, 0, 0, 0, 0, 0, 0, 0, 0, 0, 0]) rfl rfl (by decide) (by decide) rfl rfl dX7_init_268 ?_
  refine vz_dup (pc := 269) dX7_init_269 ?_
  refine vz_bipush (pc := 270) (v := 34) dX7_init_270 rfl ?_
  refine vz_bipush (pc := 272) (v := 114) dX7_init_272 rfl ?_
  refine vz_castl (pc := 274) (c := 34) (N := 56) (l' := [98, 105, 114, 100, 32, 32, 32, 32, 115, 119, 97, 110, 32, 32, 32, 32, 99, 114, 111, 119, 32, 32, 32, 32, 114, 97, 118, 101, 110, 32, 32, 32, 116, 101, 114, 0, 0, 0, 0, 0, 0, 0, 0, 0, 0, 0, 0, 0, 0, 0, 0, 0, 0, 0, 0, 0]) rfl rfl (by decide) (by decide) rfl rfl dX7_init_274 ?_
  refine vz_dup (pc := 275) dX7_init_275 ?_
  refine vz_bipush (pc := 276) (v := 35) dX7_init_276 rfl ?_
  refine vz_bipush (pc := 278) (v := 110) dX7_init_278 rfl ?_
  refine vz_castl (pc := 280) (c := 35) (N := 56) (l' := [98, 105, 114, 100, 32, 32, 32, 32, 115, 119, 97, 110, 32, 32, 32, 32, 99, 114, 111, 119, 32, 32, 32, 32, 114, 97, 118, 101, 110, 32, 32, 32, 116, 101, 114, 110, 0, 0, 0, 0, 0, 0, 0, 0, 0, 0, 0, 0, 0, 0, 0, 0, 0, 0, 0, 0]) rfl rfl (by decide) (by decide) rfl rfl dX7_init_280 ?_
  refine vz_dup (pc := 281) dX7_init_281 ?_
  refine vz_bipush (pc := 282) (v := 36) dX7_init_282 rfl ?_
  refine vz_bipush (pc := 284) (v := 32) dX7_init_284 rfl ?_
  refine vz_castl (pc := 286) (c := 36) (N := 56) (l' := [98, 105, 114, 100, 32, 32, 32, 32, 115, 119, 97, 110, 32, 32, 32, 32, 99, 114, 111, 119, 32, 32, 32, 32, 114, 97, 118, 101, 110, 32, 32, 32, 116, 101, 114, 110, 32, 0, 0, 0, 0, 0, 0, 0, 0, 0, 0, 0, 0, 0, 0, 0, 0, 0, 0, 0]) rfl rfl (by decide) (by decide) rfl rfl dX7_init_286 ?_
  refine vz_dup (pc := 287) dX7_init_287 ?_
  refine vz_bipush (pc := 288) (v := 37) dX7_init_288 rfl ?_
  refine vz_bipush (pc := 290) (v := 32) dX7_init_290 rfl ?_
  refine vz_castl (pc := 292) (c := 37) (N := 56) (l' := [98, 105, 114, 100, 32, 32, 32, 32, 115, 119, 97, 110, 32, 32, 32, 32, 99, 114, 111, 119, 32, 32, 32, 32, 114, 97, 118, 101, 110, 32, 32, 32, 116, 101, 114, 110, 32, 32, 0, 0, 0, 0, 0, 0, 0, 0, 0, 0, 0, 0, 0, 0, 0, 0, 0, 0]) rfl rfl (by decide) (by decide) rfl rfl dX7_init_292 ?_
  refine vz_dup (pc := 293) dX7_init_293 ?_
  refine vz_bipush (pc := 294) (v := 38) dX7_init_294 rfl ?_
  refine vz_bipush (pc := 296) (v := 32) dX7_init_296 rfl ?_
  refine vz_castl (pc := 298) (c := 38) (N := 56) (l' := [98, 105, 114, 100, 32, 32, 32, 32, 115, 119, 97, 110, 32, 32, 32, 32, 99, 114, 111, 119, 32, 32, 32, 32, 114, 97, 118, 101, 110, 32, 32, 32, 116, 101, 114, 110, 32, 32, 32, 0, 0, 0, 0, 0, 0, 0, 0, 0, 0, 0, 0, 0, 0, 0, 0, 0]) rfl rfl (by decide) (by decide) rfl rfl dX7_init_298 ?_
  refine vz_dup (pc := 299) dX7_init_299 ?_
  refine vz_bipush (pc := 300) (v := 39) dX7_init_300 rfl ?_
  refine vz_bipush (pc := 302) (v := 32) dX7_init_302 rfl ?_
  refine vz_castl (pc := 304) (c := 39) (N := 56) (l' := [98, 105, 114, 100, 32, 32, 32, 32, 115, 119, 97, 110, 32, 32, 32, 32, 99, 114, 111, 119, 32, 32, 32, 32, 114, 97, 118, 101, 110, 32, 32, 32, 116, 101, 114, 110, 32, 32, 32, 32, 0, 0, 0, 0, 0, 0, 0, 0, 0, 0, 0, 0, 0, 0, 0, 0]) rfl rfl (by decide) (by decide) rfl rfl dX7_init_304 ?_
  refine vz_dup (pc := 305) dX7_init_305 ?_
  refine vz_bipush (pc := 306) (v := 40) dX7_init_306 rfl ?_
  refine vz_bipush (pc := 308) (v := 119) dX7_init_308 rfl ?_
  refine vz_castl (pc := 310) (c := 40) (N := 56) (l' := [98, 105, 114, 100, 32, 32, 32, 32, 115, 119, 97, 110, 32, 32, 32, 32, 99, 114, 111, 119, 32, 32, 32, 32, 114, 97, 118, 101, 110, 32, 32, 32, 116, 101, 114, 110, 32, 32, 32, 32, 119, 0, 0, 0, 0, 0, 0, 0, 0, 0, 0, 0, 0, 0, 0, 0]) rfl rfl (by decide) (by decide) rfl rfl dX7_init_310 ?_
  refine vz_dup (pc := 311) dX7_init_311 ?_
  refine vz_bipush (pc := 312) (v := 41) dX7_init_312 rfl ?_
  refine vz_bipush (pc := 314) (v := 114) dX7_init_314 rfl ?_
  refine vz_castl (pc := 316) (c := 41) (N := 56) (l' := [98, 105, 114, 100, 32, 32, 32, 32, 115, 119, 97, 110, 32, 32, 32, 32, 99, 114, 111, 119, 32, 32, 32, 32, 114, 97, 118, 101, 110, 32, 32, 32, 116, 101, 114, 110, 32, 32, 32, 32, 119, 114, 0, 0, 0, 0, 0, 0, 0, 0, 0, 0, 0, 0, 0, 0]) rfl rfl (by decide) (by decide) rfl rfl dX7_init_316 ?_
  refine vz_dup (pc := 317) dX7_init_317 ?_
  refine vz_bipush (pc := 318) (v := 42) dX7_init_318 rfl ?_
  refine vz_bipush (pc := 320) (v := 101) dX7_init_320 rfl ?_
  refine vz_castl (pc := 322) (c := 42) (N := 56) (l' := [98, 105, 114, 100, 32, 32, 32, 32, 115, 119, 97, 110, 32, 32, 32, 32, 99, 114, 111, 119, 32, 32, 32, 32, 114, 97, 118, 101, 110, 32, 32, 32, 116, 101, 114, 110, 32, 32, 32, 32, 119, 114, 101, 0, 0, 0, 0, 0, 0, 0, 0, 0, 0, 0, 0, 0]) rfl rfl (by decide) (by decide) rfl rfl dX7_init_322 ?_
  refine vz_dup (pc := 323) dX7_init_323 ?_
  refine vz_bipush (pc := 324) (v := 43) dX7_init_324 rfl ?_
  refine vz_bipush (pc := 326) (v := 110) dX7_init_326 rfl ?_
  refine vz_castl (pc := 328) (c := 43) (N := 56) (l' := [98, 105, 114, 100, 32, 32, 32, 32, 115, 119, 97, 110, 32, 32, 32, 32, 99, 114, 111, 119, 32, 32, 32, 32, 114, 97, 118, 101, 110, 32, 32, 32, 116, 101, 114, 110, 32, 32, 32, 32, 119, 114, 101, 110, 0, 0, 0, 0, 0, 0, 0, 0, 0, 0, 0, 0]) rfl rfl (by decide) (by decide) rfl rfl dX7_init_328 ?_
  refine vz_dup (pc := 329) dX7_init_329 ?_
  refine vz_bipush (pc := 330) (v := 44) dX7_init_330 rfl ?_
  refine vz_bipush (pc := 332) (v := 32) dX7_init_332 rfl ?_
  refine vz_castl (pc := 334) (c := 44) (N := 56) (l' := [98, 105, 114, 100, 32, 32, 32, 32, 115, 119, 97, 110, 32, 32, 32, 32, 99, 114, 111, 119, 32, 32, 32, 32, 114, 97, 118, 101, 110, 32, 32, 32, 116, 101, 114, 110, 32, 32, 32, 32, 119, 114, 101, 110, 32, 0, 0, 0, 0, 0, 0, 0, 0, 0, 0, 0]) rfl rfl (by decide) (by decide) rfl rfl dX7_init_334 ?_
  refine vz_dup (pc := 335) dX7_init_335 ?_
  refine vz_bipush (pc := 336) (v := 45) dX7_init_336 rfl ?_
  refine vz_bipush (pc := 338) (v := 32) dX7_init_338 rfl ?_
  refine vz_castl (pc := 340) (c := 45) (N := 56) (l' := [98, 105, 114, 100, 32, 32, 32, 32, 115, 119, 97, 110, 32, 32, 32, 32, 99, 114, 111, 119, 32, 32, 32, 32, 114, 97, 118, 101, 110, 32, 32, 32, 116, 101, 114, 110, 32, 32, 32, 32, 119, 114, 101, 110, 32, 32, 0, 0, 0, 0, 0, 0, 0, 0, 0, 0]) rfl rfl (by decide) (by decide) rfl rfl dX7_init_340 ?_
  refine vz_dup (pc := 341) dX7_init_341 ?_
  refine vz_bipush (pc := 342) (v := 46) dX7_init_342 rfl ?_
  refine vz_bipush (pc := 344) (v := 32) dX7_init_344 rfl ?_
  refine vz_castl (pc := 346) (c := 46) (N := 56) (l' := [98, 105, 114, 100, 32, 32, 32, 32, 115, 119, 97, 110, 32, 32, 32, 32, 99, 114, 111, 119, 32, 32, 32, 32, 114, 97, 118, 101, 110, 32, 32, 32, 116, 101, 114, 110, 32, 32, 32, 32, 119, 114, 101, 110, 32, 32, 32, 0, 0, 0, 0, 0, 0, 0, 0, 0]) rfl rfl (by decide) (by decide) rfl rfl dX7_init_346 ?_
  refine vz_dup (pc := 347) dX7_init_347 ?_
  refine vz_bipush (pc := 348) (v := 47) dX7_init_348 rfl ?_
  refine vz_bipush (pc := 350) (v := 32) dX7_init_350 rfl ?_
  refine vz_castl (pc := 352) (c := 47) (N := 56) (l' := [98, 105, 114, 100, 32, 32, 32, 32, 115, 119, 97, 110, 32, 32, 32, 32, 99, 114, 111, 119, 32, 32, 32, 32, 114, 97, 118, 101, 110, 32, 32, 32, 116, 101, 114, 110, 32, 32, 32, 32, 119, 114, 101, 110, 32, 32, 32, 32, 0, 0, 0, 0, 0, 0, 0, 0]) rfl rfl (by decide) (by decide) rfl rfl dX7_init_352 ?_
  refine vz_dup (pc := 353) dX7_init_353 ?_
  refine vz_bipush (pc := 354) (v := 48) dX7_init_354 rfl ?_
  refine vz_bipush (pc := 356) (v := 103) dX7_init_356 rfl ?_
  refine vz_castl (pc := 358) (c := 48) (N := 56) (l' := [98, 105, 114, 100, 32, 32, 32, 32, 115, 119, 97, 110, 32, 32, 32, 32, 99, 114, 111, 119, 32, 32, 32, 32, 114, 97, 118, 101, 110, 32, 32, 32, 116, 101, 114, 110, 32, 32, 32, 32, 119, 114, 101, 110, 32, 32, 32, 32, 103, 0, 0, 0, 0, 0, 0, 0]) rfl rfl (by decide) (by decide) rfl rfl dX7_init_358 ?_
  refine vz_dup (pc := 359) dX7_init_359 ?_
  refine vz_bipush (pc := 360) (v := 49) dX7_init_360 rfl ?_
  refine vz_bipush (pc := 362) (v := 117) dX7_init_362 rfl ?_
  refine vz_castl (pc := 364) (c := 49) (N := 56) (l' := [98, 105, 114, 100, 32, 32, 32, 32, 115, 119, 97, 110, 32, 32, 32, 32, 99, 114, 111, 119, 32, 32, 32, 32, 114, 97, 118, 101, 110, 32, 32, 32, 116, 101, 114, 110, 32, 32, 32, 32, 119, 114, 101, 110, 32, 32, 32, 32, 103, 117, 0, 0, 0, 0, 0, 0]) rfl rfl (by decide) (by decide) rfl rfl dX7_init_364 ?_
  refine vz_dup (pc := 365) dX7_init_365 ?_
  refine vz_bipush (pc := 366) (v := 50) dX7_init_366 rfl ?_
  refine vz_bipush (pc := 368) (v := 108) dX7_init_368 rfl ?_
  refine vz_castl (pc := 370) (c := 50) (N := 56) (l' := [98, 105, 114, 100, 32, 32, 32, 32, 115, 119, 97, 110, 32, 32, 32, 32, 99, 114, 111, 119, 32, 32, 32, 32, 114, 97, 118, 101, 110, 32, 32, 32, 116, 101, 114, 110, 32, 32, 32, 32, 119, 114, 101, 110, 32, 32, 32, 32, 103, 117, 108, 0, 0, 0, 0, 0]) rfl rfl (by decide) (by decide) rfl rfl dX7_init_370 ?_
  refine vz_dup (pc := 371) dX7_init_371 ?_
  refine vz_bipush (pc := 372) (v := 51) dX7_init_372 rfl ?_
  refine vz_bipush (pc := 374) (v := 108) dX7_init_374 rfl ?_
  refine vz_castl (pc := 376) (c := 51) (N := 56) (l' := [98, 105, 114, 100, 32, 32, 32, 32, 115, 119, 97, 110, 32, 32, 32, 32, 99, 114, 111, 119, 32, 32, 32, 32, 114, 97, 118, 101, 110, 32, 32, 32, 116, 101, 114, 110, 32, 32, 32, 32, 119, 114, 101, 110, 32, 32, 32, 32, 103, 117, 108, 108, 0, 0, 0, 0]) rfl rfl (by decide) (by decide) rfl rfl dX7_init_376 ?_
  refine vz_dup (pc := 377) dX7_init_377 ?_
  refine vz_bipush (pc := 378) (v := 52) dX7_init_378 rfl ?_
  refine vz_bipush (pc := 380) (v := 32) dX7_init_380 rfl ?_
  refine vz_castl (pc := 382) (c := 52) (N := 56) (l' := [98, 105, 114, 100, 32, 32, 32, 32, 115, 119, 97, 110, 32, 32, 32, 32, 99, 114, 111, 119, 32, 32, 32, 32, 114, 97, 118, 101, 110, 32, 32, 32, 116, 101, 114, 110, 32, 32, 32, 32, 119, 114, 101, 110, 32, 32, 32, 32, 103, 117, 108, 108, 32, 0, 0, 0]) rfl rfl (by decide) (by decide) rfl rfl dX7_init_382 ?_
  refine vz_dup (pc := 383) dX7_init_383 ?_
  refine vz_bipush (pc := 384) (v := 53) dX7_init_384 rfl ?_
  refine vz_bipush (pc := 386) (v := 32) dX7_init_386 rfl ?_
  refine vz_castl (pc := 388) (c := 53) (N := 56) (l' := [98, 105, 114, 100, 32, 32, 32, 32, 115, 119, 97, 110, 32, 32, 32, 32, 99, 114, 111, 119, 32, 32, 32, 32, 114, 97, 118, 101, 110, 32, 32, 32, 116, 101, 114, 110, 32, 32, 32, 32, 119, 114, 101, 110, 32, 32, 32, 32, 103, 117, 108, 108, 32, 32, 0, 0]) rfl rfl (by decide) (by decide) rfl rfl dX7_init_388 ?_
  refine vz_dup (pc := 389) dX7_init_389 ?_
  refine vz_bipush (pc := 390) (v := 54) dX7_init_390 rfl ?_
  refine vz_bipush (pc := 392) (v := 32) dX7_init_392 rfl ?_
  refine vz_castl (pc := 394) (c := 54) (N := 56) (l' := [98, 105, 114, 100, 32, 32, 32, 32, 115, 119, 97, 110, 32, 32, 32, 32, 99, 114, 111, 119, 32, 32, 32, 32, 114, 97, 118, 101, 110, 32, 32, 32, 116, 101, 114, 110, 32, 32, 32, 32, 119, 114, 101, 110, 32, 32, 32, 32, 103, 117, 108, 108, 32, 32, 32, 0]) rfl rfl (by decide) (by decide) rfl rfl dX7_init_394 ?_
  refine vz_dup (pc := 395) dX7_init_395 ?_
  refine vz_bipush (pc := 396) (v := 55) dX7_init_396 rfl ?_
  refine vz_bipush (pc := 398) (v := 32) dX7_init_398 rfl ?_
  refine vz_castl (pc := 400) (c := 55) (N := 56) (l' := [98, 105, 114, 100, 32, 32, 32, 32, 115, 119, 97, 110, 32, 32, 32, 32, 99, 114, 111, 119, 32, 32, 32, 32, 114, 97, 118, 101, 110, 32, 32, 32, 116, 101, 114, 110, 32, 32, 32, 32, 119, 114, 101, 110, 32, 32, 32, 32, 103, 117, 108, 108, 32, 32, 32, 32]) rfl rfl (by decide) (by decide) rfl rfl dX7_init_400 ?_
  refine vz_put (pc := 401) fl_X7_34 (fun _ h => by cases h; rfl) rfl dX7_init_401 rfl rfl (Nat.le_of_ble_eq_true rfl) rfl ?_
  show vz_X D mX7_init _ _ _ _ _ 404 [some (.ref h), none] [] ((h, .inr (7, [.ref q0, .ref q1, .ref q2, .int 0, .ref q3, .ref q4, .ref q5, .ref q6, .int 0, .int 0, .int 0, .ref q7, .int 0, .int 0, .int 0, .int 0, .long 0, .ref q8, .null, .null, .null, .null, .null, .null, .null])) :: [(q0, .inl (D.2 0, 114, .inl (fun _ => 0))), (q1, .inl (D.2 0, 114, .inl (fun _ => 0))), (q2, .inl (D.2 0, 114, .inl (fun _ => 0))), (q3, .inl (D.2 0, 7, .inl (fun _ => 0))), (q4, .inl (D.2 0, 8, .inl (fun _ => 0))), (q5, .inl (D.2 0, 5, .inl (fun _ => 0))), (q6, .inl (D.2 0, 5, .inl (fun _ => 0))), (q7, .inl (D.2 0, 120, .inl (fun _ => 0))), (q8, .inl (D.2 1, 56, .inl (vz_l vz_t0)))]) _ _
  refine vz_aload_n (pc := 404) dX7_init_404 rfl rfl ?_
  refine vz_bipush (pc := 405) (v := 24) dX7_init_405 rfl ?_
  refine vz_newcl (pc := 407) (N := 24) vz_o5 dX7_init_407 rfl (by decide) (Nat.le_of_ble_eq_true rfl) (Nat.le_of_ble_eq_true rfl) (fun q9 => ?_)
  show vz_X D mX7_init _ _ _ _ _ 409 [some (.ref h), none] [.ref q9, .ref h] ((h, .inr (7, [.ref q0, .ref q1, .ref q2, .int 0, .ref q3, .ref q4, .ref q5, .ref q6, .int 0, .int 0, .int 0, .ref q7, .int 0, .int 0, .int 0, .int 0, .long 0, .ref q8, .null, .null, .null, .null, .null, .null, .null])) :: ([(q0, .inl (D.2 0, 114, .inl (fun _ => 0))), (q1, .inl (D.2 0, 114, .inl (fun _ => 0))), (q2, .inl (D.2 0, 114, .inl (fun _ => 0))), (q3, .inl (D.2 0, 7, .inl (fun _ => 0))), (q4, .inl (D.2 0, 8, .inl (fun _ => 0))), (q5, .inl (D.2 0, 5, .inl (fun _ => 0))), (q6, .inl (D.2 0, 5, .inl (fun _ => 0))), (q7, .inl (D.2 0, 120, .inl (fun _ => 0))), (q8, .inl (D.2 1, 56, .inl (vz_l vz_t0)))] ++ [(q9, .inl (D.2 1, 24, .inl (vz_l [0, 0, 0, 0, 0, 0, 0, 0, 0, 0, 0, 0, 0, 0, 0, 0, 0, 0, 0, 0, 0, 0, 0, 0])))])) _ _
  refine vz_dup (pc := 409) dX7_init_409 ?_
  refine vz_iconst (pc := 410) (v := 0) dX7_init_410 rfl ?_
  refine vz_bipush (pc := 411) (v := 104) dX7_init_411 rfl ?_
  refine vz_castl (pc := 413) (c := 0) (N := 24) (l' := [104, 0, 0, 0, 0, 0, 0, 0, 0, 0, 0, 0, 0, 0, 0, 0, 0, 0, 0, 0, 0, 0, 0, 0]) rfl rfl (by decide) (by decide) rfl rfl dX7_init_413 ?_
  refine vz_dup (pc := 414) dX7_init_414 ?_
  refine vz_iconst (pc := 415) (v := 1) dX7_init_415 rfl ?_
  refine vz_bipush (pc := 416) (v := 97) dX7_init_416 rfl ?_
  refine vz_castl (pc := 418) (c := 1) (N := 24) (l' := [104, 97, 0, 0, 0, 0, 0, 0, 0, 0, 0, 0, 0, 0, 0, 0, 0, 0, 0, 0, 0, 0, 0, 0]) rfl rfl (by decide) (by decide) rfl rfl dX7_init_418 ?_
  refine vz_dup (pc := 419) dX7_init_419 ?_
  refine vz_iconst (pc := 420) (v := 2) dX7_init_420 rfl ?_
  refine vz_bipush (pc := 421) (v := 115) dX7_init_421 rfl ?_
  refine vz_castl (pc := 423) (c := 2) (N := 24) (l' := [104, 97, 115, 0, 0, 0, 0, 0, 0, 0, 0, 0, 0, 0, 0, 0, 0, 0, 0, 0, 0, 0, 0, 0]) rfl rfl (by decide) (by decide) rfl rfl dX7_init_423 ?_
  refine vz_dup (pc := 424) dX7_init_424 ?_
  refine vz_iconst (pc := 425) (v := 3) dX7_init_425 rfl ?_
  refine vz_bipush (pc := 426) (v := 32) dX7_init_426 rfl ?_
  refine vz_castl (pc := 428) (c := 3) (N := 24) (l' := [104, 97, 115, 32, 0, 0, 0, 0, 0, 0, 0, 0, 0, 0, 0, 0, 0, 0, 0, 0, 0, 0, 0, 0]) rfl rfl (by decide) (by decide) rfl rfl dX7_init_428 ?_
  refine vz_dup (pc := 429) dX7_init_429 ?_
  refine vz_iconst (pc := 430) (v := 4) dX7_init_430 rfl ?_
  refine vz_bipush (pc := 431) (v := 32) dX7_init_431 rfl ?_
  refine vz_castl (pc := 433) (c := 4) (N := 24) (l' := [104, 97, 115, 32, 32, 0, 0, 0, 0, 0, 0, 0, 0, 0, 0, 0, 0, 0, 0, 0, 0, 0, 0, 0]) rfl rfl (by decide) (by decide) rfl rfl dX7_init_433 ?_
  refine vz_dup (pc := 434) dX7_init_434 ?_
  refine vz_iconst (pc := 435) (v := 5) dX7_init_435 rfl ?_
  refine vz_bipush (pc := 436) (v := 32) dX7_init_436 rfl ?_
  refine vz_castl (pc := 438) (c := 5) (N := 24) (l' := [104, 97, 115, 32, 32, 32, 0, 0, 0, 0, 0, 0, 0, 0, 0, 0, 0, 0, 0, 0, 0, 0, 0, 0]) rfl rfl (by decide) (by decide) rfl rfl dX7_init_438 ?_
  refine vz_dup (pc := 439) dX7_init_439 ?_
  refine vz_bipush (pc := 440) (v := 6) dX7_init_440 rfl ?_
  refine vz_bipush (pc := 442) (v := 32) dX7_init_442 rfl ?_
  refine vz_castl (pc := 444) (c := 6) (N := 24) (l' := [104, 97, 115, 32, 32, 32, 32, 0, 0, 0, 0, 0, 0, 0, 0, 0, 0, 0, 0, 0, 0, 0, 0, 0]) rfl rfl (by decide) (by decide) rfl rfl dX7_init_444 ?_
  refine vz_dup (pc := 445) dX7_init_445 ?_
  refine vz_bipush (pc := 446) (v := 7) dX7_init_446 rfl ?_
  refine vz_bipush (pc := 448) (v := 32) dX7_init_448 rfl ?_
  refine vz_castl (pc := 450) (c := 7) (N := 24) (l' := [104, 97, 115, 32, 32, 32, 32, 32, 0, 0, 0, 0, 0, 0, 0, 0, 0, 0, 0, 0, 0, 0, 0, 0]) rfl rfl (by decide) (by decide) rfl rfl dX7_init_450 ?_
  refine vz_dup (pc := 451) dX7_init_451 ?_
  refine vz_bipush (pc := 452) (v := 8) dX7_init_452 rfl ?_
  refine vz_bipush (pc := 454) (v := 107) dX7_init_454 rfl ?_
  refine vz_castl (pc := 456) (c := 8) (N := 24) (l' := [104, 97, 115, 32, 32, 32, 32, 32, 107, 0, 0, 0, 0, 0, 0, 0, 0, 0, 0, 0, 0, 0, 0, 0]) rfl rfl (by decide) (by decide) rfl rfl dX7_init_456 ?_
  refine vz_dup (pc := 457) dX7_init_457 ?_
  refine vz_bipush (pc := 458) (v := 9) dX7_init_458 rfl ?_
  refine vz_bipush (pc := 460) (v := 101) dX7_init_460 rfl ?_
  refine vz_castl (pc := 462) (c := 9) (N := 24) (l' := [104, 97, 115, 32, 32, 32, 32, 32, 107, 101, 0, 0, 0, 0, 0, 0, 0, 0, 0, 0, 0, 0, 0, 0]) rfl rfl (by decide) (by decide) rfl rfl dX7_init_462 ?_
  refine vz_dup (pc := 463) dX7_init_463 ?_
  refine vz_bipush (pc := 464) (v := 10) dX7_init_464 rfl ?_
  refine vz_bipush (pc := 466) (v := 101) dX7_init_466 rfl ?_
  refine vz_castl (pc := 468) (c := 10) (N := 24) (l' := [104, 97, 115, 32, 32, 32, 32, 32, 107, 101, 101, 0, 0, 0, 0, 0, 0, 0, 0, 0, 0, 0, 0, 0]) rfl rfl (by decide) (by decide) rfl rfl dX7_init_468 ?_
  refine vz_dup (pc := 469) dX7_init_469 ?_
  refine vz_bipush (pc := 470) (v := 11) dX7_init_470 rfl ?_
  refine vz_bipush (pc := 472) (v := 112) dX7_init_472 rfl ?_
  refine vz_castl (pc := 474) (c := 11) (N := 24) (l' := [104, 97, 115, 32, 32, 32, 32, 32, 107, 101, 101, 112, 0, 0, 0, 0, 0, 0, 0, 0, 0, 0, 0, 0]) rfl rfl (by decide) (by decide) rfl rfl dX7_init_474 ?_
  refine vz_dup (pc := 475) dX7_init_475 ?_
  refine vz_bipush (pc := 476) (v := 12) dX7_init_476 rfl ?_
  refine vz_bipush (pc := 478) (v := 115) dX7_init_478 rfl ?_
  refine vz_castl (pc := 480) (c := 12) (N := 24) (l' := [104, 97, 115, 32, 32, 32, 32, 32, 107, 101, 101, 112, 115, 0, 0, 0, 0, 0, 0, 0, 0, 0, 0, 0]) rfl rfl (by decide) (by decide) rfl rfl dX7_init_480 ?_
  refine vz_dup (pc := 481) dX7_init_481 ?_
  refine vz_bipush (pc := 482) (v := 13) dX7_init_482 rfl ?_
  refine vz_bipush (pc := 484) (v := 32) dX7_init_484 rfl ?_
  refine vz_castl (pc := 486) (c := 13) (N := 24) (l' := [104, 97, 115, 32, 32, 32, 32, 32, 107, 101, 101, 112, 115, 32, 0, 0, 0, 0, 0, 0, 0, 0, 0, 0]) rfl rfl (by decide) (by decide) rfl rfl dX7_init_486 ?_
  refine vz_dup (pc := 487) dX7_init_487 ?_
  refine vz_bipush (pc := 488) (v := 14) dX7_init_488 rfl ?_
  refine vz_bipush (pc := 490) (v := 32) dX7_init_490 rfl ?_
  refine vz_castl (pc := 492) (c := 14) (N := 24) (l' := [104, 97, 115, 32, 32, 32, 32, 32, 107, 101, 101, 112, 115, 32, 32, 0, 0, 0, 0, 0, 0, 0, 0, 0]) rfl rfl (by decide) (by decide) rfl rfl dX7_init_492 ?_
  refine vz_dup (pc := 493) dX7_init_493 ?_
  refine vz_bipush (pc := 494) (v := 15) dX7_init_494 rfl ?_
  refine vz_bipush (pc := 496) (v := 32) dX7_init_496 rfl ?_
  refine vz_castl (pc := 498) (c := 15) (N := 24) (l' := [104, 97, 115, 32, 32, 32, 32, 32, 107, 101, 101, 112, 115, 32, 32, 32, 0, 0, 0, 0, 0, 0, 0, 0]) rfl rfl (by decide) (by decide) rfl rfl dX7_init_498 ?_
  refine vz_dup (pc := 499) dX7_init_499 ?_
  refine vz_bipush (pc := 500) (v := 16) dX7_init_500 rfl ?_
  refine vz_bipush (pc := 502) (v := 103) dX7_init_502 rfl ?_
  refine vz_castl (pc := 504) (c := 16) (N := 24) (l' := [104, 97, 115, 32, 32, 32, 32, 32, 107, 101, 101, 112, 115, 32, 32, 32, 103, 0, 0, 0, 0, 0, 0, 0]) rfl rfl (by decide) (by decide) rfl rfl dX7_init_504 ?_
  refine vz_dup (pc := 505) dX7_init_505 ?_
  refine vz_bipush (pc := 506) (v := 17) dX7_init_506 rfl ?_
  refine vz_bipush (pc := 508) (v := 114) dX7_init_508 rfl ?_
  refine vz_castl (pc := 510) (c := 17) (N := 24) (l' := [104, 97, 115, 32, 32, 32, 32, 32, 107, 101, 101, 112, 115, 32, 32, 32, 103, 114, 0, 0, 0, 0, 0, 0]) rfl rfl (by decide) (by decide) rfl rfl dX7_init_510 ?_
  refine vz_dup (pc := 511) dX7_init_511 ?_
  refine vz_bipush (pc := 512) (v := 18) dX7_init_512 rfl ?_
  refine vz_bipush (pc := 514) (v := 111) dX7_init_514 rfl ?_
  refine vz_castl (pc := 516) (c := 18) (N := 24) (l' := [104, 97, 115, 32, 32, 32, 32, 32, 107, 101, 101, 112, 115, 32, 32, 32, 103, 114, 111, 0, 0, 0, 0, 0]) rfl rfl (by decide) (by decide) rfl rfl dX7_init_516 ?_
  refine vz_dup (pc := 517) dX7_init_517 ?_
  refine vz_bipush (pc := 518) (v := 19) dX7_init_518 rfl ?_
  refine vz_bipush (pc := 520) (v := 119) dX7_init_520 rfl ?_
  refine vz_castl (pc := 522) (c := 19) (N := 24) (l' := [104, 97, 115, 32, 32, 32, 32, 32, 107, 101, 101, 112, 115, 32, 32, 32, 103, 114, 111, 119, 0, 0, 0, 0]) rfl rfl (by decide) (by decide) rfl rfl dX7_init_522 ?_
  refine vz_dup (pc := 523) dX7_init_523 ?_
  refine vz_bipush (pc := 524) (v := 20) dX7_init_524 rfl ?_
  refine vz_bipush (pc := 526) (v := 115) dX7_init_526 rfl ?_
  refine vz_castl (pc := 528) (c := 20) (N := 24) (l' := [104, 97, 115, 32, 32, 32, 32, 32, 107, 101, 101, 112, 115, 32, 32, 32, 103, 114, 111, 119, 115, 0, 0, 0]) rfl rfl (by decide) (by decide) rfl rfl dX7_init_528 ?_
  refine vz_dup (pc := 529) dX7_init_529 ?_
  refine vz_bipush (pc := 530) (v := 21) dX7_init_530 rfl ?_
  refine vz_bipush (pc := 532) (v := 32) dX7_init_532 rfl ?_
  refine vz_castl (pc := 534) (c := 21) (N := 24) (l' := [104, 97, 115, 32, 32, 32, 32, 32, 107, 101, 101, 112, 115, 32, 32, 32, 103, 114, 111, 119, 115, 32, 0, 0]) rfl rfl (by decide) (by decide) rfl rfl dX7_init_534 ?_
  refine vz_dup (pc := 535) dX7_init_535 ?_
  refine vz_bipush (pc := 536) (v := 22) dX7_init_536 rfl ?_
  refine vz_bipush (pc := 538) (v := 32) dX7_init_538 rfl ?_
  refine vz_castl (pc := 540) (c := 22) (N := 24) (l' := [104, 97, 115, 32, 32, 32, 32, 32, 107, 101, 101, 112, 115, 32, 32, 32, 103, 114, 111, 119, 115, 32, 32, 0]) rfl rfl (by decide) (by decide) rfl rfl dX7_init_540 ?_
  refine vz_dup (pc := 541) dX7_init_541 ?_
  refine vz_bipush (pc := 542) (v := 23) dX7_init_542 rfl ?_
  refine vz_bipush (pc := 544) (v := 32) dX7_init_544 rfl ?_
  refine vz_castl (pc := 546) (c := 23) (N := 24) (l' := [104, 97, 115, 32, 32, 32, 32, 32, 107, 101, 101, 112, 115, 32, 32, 32, 103, 114, 111, 119, 115, 32, 32, 32]) rfl rfl (by decide) (by decide) rfl rfl dX7_init_546 ?_
  refine vz_put (pc := 547) fl_X7_38 (fun _ h => by cases h; rfl) rfl dX7_init_547 rfl rfl (Nat.le_of_ble_eq_true rfl) rfl ?_
  show vz_X D mX7_init _ _ _ _ _ 550 [some (.ref h), none] [] ((h, .inr (7, [.ref q0, .ref q1, .ref q2, .int 0, .ref q3, .ref q4, .ref q5, .ref q6, .int 0, .int 0, .int 0, .ref q7, .int 0, .int 0, .int 0, .int 0, .long 0, .ref q8, .ref q9, .null, .null, .null, .null, .null, .null])) :: [(q0, .inl (D.2 0, 114, .inl (fun _ => 0))), (q1, .inl (D.2 0, 114, .inl (fun _ => 0))), (q2, .inl (D.2 0, 114, .inl (fun _ => 0))), (q3, .inl (D.2 0, 7, .inl (fun _ => 0))), (q4, .inl (D.2 0, 8, .inl (fun _ => 0))), (q5, .inl (D.2 0, 5, .inl (fun _ => 0))), (q6, .inl (D.2 0, 5, .inl (fun _ => 0))), (q7, .inl (D.2 0, 120, .inl (fun _ => 0))), (q8, .inl (D.2 1, 56, .inl (vz_l vz_t0))), (q9, .inl (D.2 1, 24, .inl (vz_l vz_t1)))]) _ _
  refine vz_aload_n (pc := 550) dX7_init_550 rfl rfl ?_
  refine vz_bipush (pc := 551) (v := 16) dX7_init_551 rfl ?_
  refine vz_newcl (pc := 553) (N := 16) vz_o5 dX7_init_553 rfl (by decide) (Nat.le_of_ble_eq_true rfl) (Nat.le_of_ble_eq_true rfl) (fun q10 => ?_)
  show vz_X D mX7_init _ _ _ _ _ 555 [some (.ref h), none] [.ref q10, .ref h] ((h, .inr (7, [.ref q0, .ref q1, .ref q2, .int 0, .ref q3, .ref q4, .ref q5, .ref q6, .int 0, .int 0, .int 0, .ref q7, .int 0, .int 0, .int 0, .int 0, .long 0, .ref q8, .ref q9, .null, .null, .null, .null, .null, .null])) :: ([(q0, .inl (D.2 0, 114, .inl (fun _ => 0))), (q1, .inl (D.2 0, 114, .inl (fun _ => 0))), (q2, .inl (D.2 0, 114, .inl (fun _ => 0))), (q3, .inl (D.2 0, 7, .inl (fun _ => 0))), (q4, .inl (D.2 0, 8, .inl (fun _ => 0))), (q5, .inl (D.2 0, 5, .inl (fun _ => 0))), (q6, .inl (D.2 0, 5, .inl (fun _ => 0))), (q7, .inl (D.2 0, 120, .inl (fun _ => 0))), (q8, .inl (D.2 1, 56, .inl (vz_l vz_t0))), (q9, .inl (D.2 1, 24, .inl (vz_l vz_t1)))] ++ [(q10, .inl (D.2 1, 16, .inl (vz_l [0, 0, 0, 0, 0, 0, 0, 0, 0, 0, 0, 0, 0, 0, 0, 0])))])) _ _
  refine vz_dup (pc := 555) dX7_init_555 ?_
  refine vz_iconst (pc := 556) (v := 0) dX7_init_556 rfl ?_
  refine vz_bipush (pc := 557) (v := 109) dX7_init_557 rfl ?_
  refine vz_castl (pc := 559) (c := 0) (N := 16) (l' := [109, 0, 0, 0, 0, 0, 0, 0, 0, 0, 0, 0, 0, 0, 0, 0]) rfl rfl (by decide) (by decide) rfl rfl dX7_init_559 ?_
  refine vz_dup (pc := 560) dX7_init_560 ?_
  refine vz_iconst (pc := 561) (v := 1) dX7_init_561 rfl ?_
  refine vz_bipush (pc := 562) (v := 111) dX7_init_562 rfl ?_
  refine vz_castl (pc := 564) (c := 1) (N := 16) (l' := [109, 111, 0, 0, 0, 0, 0, 0, 0, 0, 0, 0, 0, 0, 0, 0]) rfl rfl (by decide) (by decide) rfl rfl dX7_init_564 ?_
  refine vz_dup (pc := 565) dX7_init_565 ?_
  refine vz_iconst (pc := 566) (v := 2) dX7_init_566 rfl ?_
  refine vz_bipush (pc := 567) (v := 116) dX7_init_567 rfl ?_
  refine vz_castl (pc := 569) (c := 2) (N := 16) (l' := [109, 111, 116, 0, 0, 0, 0, 0, 0, 0, 0, 0, 0, 0, 0, 0]) rfl rfl (by decide) (by decide) rfl rfl dX7_init_569 ?_
  refine vz_dup (pc := 570) dX7_init_570 ?_
  refine vz_iconst (pc := 571) (v := 3) dX7_init_571 rfl ?_
  refine vz_bipush (pc := 572) (v := 105) dX7_init_572 rfl ?_
  refine vz_castl (pc := 574) (c := 3) (N := 16) (l' := [109, 111, 116, 105, 0, 0, 0, 0, 0, 0, 0, 0, 0, 0, 0, 0]) rfl rfl (by decide) (by decide) rfl rfl dX7_init_574 ?_
  refine vz_dup (pc := 575) dX7_init_575 ?_
  refine vz_iconst (pc := 576) (v := 4) dX7_init_576 rfl ?_
  refine vz_bipush (pc := 577) (v := 111) dX7_init_577 rfl ?_
  refine vz_castl (pc := 579) (c := 4) (N := 16) (l' := [109, 111, 116, 105, 111, 0, 0, 0, 0, 0, 0, 0, 0, 0, 0, 0]) rfl rfl (by decide) (by decide) rfl rfl dX7_init_579 ?_
  refine vz_dup (pc := 580) dX7_init_580 ?_
  refine vz_iconst (pc := 581) (v := 5) dX7_init_581 rfl ?_
  refine vz_bipush (pc := 582) (v := 110) dX7_init_582 rfl ?_
  refine vz_castl (pc := 584) (c := 5) (N := 16) (l' := [109, 111, 116, 105, 111, 110, 0, 0, 0, 0, 0, 0, 0, 0, 0, 0]) rfl rfl (by decide) (by decide) rfl rfl dX7_init_584 ?_
  refine vz_dup (pc := 585) dX7_init_585 ?_
  refine vz_bipush (pc := 586) (v := 6) dX7_init_586 rfl ?_
  refine vz_bipush (pc := 588) (v := 32) dX7_init_588 rfl ?_
  refine vz_castl (pc := 590) (c := 6) (N := 16) (l' := [109, 111, 116, 105, 111, 110, 32, 0, 0, 0, 0, 0, 0, 0, 0, 0]) rfl rfl (by decide) (by decide) rfl rfl dX7_init_590 ?_
  refine vz_dup (pc := 591) dX7_init_591 ?_
  refine vz_bipush (pc := 592) (v := 7) dX7_init_592 rfl ?_
  refine vz_bipush (pc := 594) (v := 32) dX7_init_594 rfl ?_
  refine vz_castl (pc := 596) (c := 7) (N := 16) (l' := [109, 111, 116, 105, 111, 110, 32, 32, 0, 0, 0, 0, 0, 0, 0, 0]) rfl rfl (by decide) (by decide) rfl rfl dX7_init_596 ?_
  refine vz_dup (pc := 597) dX7_init_597 ?_
  refine vz_bipush (pc := 598) (v := 8) dX7_init_598 rfl ?_
  refine vz_bipush (pc := 600) (v := 115) dX7_init_600 rfl ?_
  refine vz_castl (pc := 602) (c := 8) (N := 16) (l' := [109, 111, 116, 105, 111, 110, 32, 32, 115, 0, 0, 0, 0, 0, 0, 0]) rfl rfl (by decide) (by decide) rfl rfl dX7_init_602 ?_
  refine vz_dup (pc := 603) dX7_init_603 ?_
  refine vz_bipush (pc := 604) (v := 9) dX7_init_604 rfl ?_
  refine vz_bipush (pc := 606) (v := 101) dX7_init_606 rfl ?_
  refine vz_castl (pc := 608) (c := 9) (N := 16) (l' := [109, 111, 116, 105, 111, 110, 32, 32, 115, 101, 0, 0, 0, 0, 0, 0]) rfl rfl (by decide) (by decide) rfl rfl dX7_init_608 ?_
  refine vz_dup (pc := 609) dX7_init_609 ?_
  refine vz_bipush (pc := 610) (v := 10) dX7_init_610 rfl ?_
  refine vz_bipush (pc := 612) (v := 97) dX7_init_612 rfl ?_
  refine vz_castl (pc := 614) (c := 10) (N := 16) (l' := [109, 111, 116, 105, 111, 110, 32, 32, 115, 101, 97, 0, 0, 0, 0, 0]) rfl rfl (by decide) (by decide) rfl rfl dX7_init_614 ?_
  refine vz_dup (pc := 615) dX7_init_615 ?_
  refine vz_bipush (pc := 616) (v := 11) dX7_init_616 rfl ?_
  refine vz_bipush (pc := 618) (v := 115) dX7_init_618 rfl ?_
  refine vz_castl (pc := 620) (c := 11) (N := 16) (l' := [109, 111, 116, 105, 111, 110, 32, 32, 115, 101, 97, 115, 0, 0, 0, 0]) rfl rfl (by decide) (by decide) rfl rfl dX7_init_620 ?_
  refine vz_dup (pc := 621) dX7_init_621 ?_
  refine vz_bipush (pc := 622) (v := 12) dX7_init_622 rfl ?_
  refine vz_bipush (pc := 624) (v := 111) dX7_init_624 rfl ?_
  refine vz_castl (pc := 626) (c := 12) (N := 16) (l' := [109, 111, 116, 105, 111, 110, 32, 32, 115, 101, 97, 115, 111, 0, 0, 0]) rfl rfl (by decide) (by decide) rfl rfl dX7_init_626 ?_
  refine vz_dup (pc := 627) dX7_init_627 ?_
  refine vz_bipush (pc := 628) (v := 13) dX7_init_628 rfl ?_
  refine vz_bipush (pc := 630) (v := 110) dX7_init_630 rfl ?_
  refine vz_castl (pc := 632) (c := 13) (N := 16) (l' := [109, 111, 116, 105, 111, 110, 32, 32, 115, 101, 97, 115, 111, 110, 0, 0]) rfl rfl (by decide) (by decide) rfl rfl dX7_init_632 ?_
  refine vz_dup (pc := 633) dX7_init_633 ?_
  refine vz_bipush (pc := 634) (v := 14) dX7_init_634 rfl ?_
  refine vz_bipush (pc := 636) (v := 32) dX7_init_636 rfl ?_
  refine vz_castl (pc := 638) (c := 14) (N := 16) (l' := [109, 111, 116, 105, 111, 110, 32, 32, 115, 101, 97, 115, 111, 110, 32, 0]) rfl rfl (by decide) (by decide) rfl rfl dX7_init_638 ?_
  refine vz_dup (pc := 639) dX7_init_639 ?_
  refine vz_bipush (pc := 640) (v := 15) dX7_init_640 rfl ?_
  refine vz_bipush (pc := 642) (v := 32) dX7_init_642 rfl ?_
  refine vz_castl (pc := 644) (c := 15) (N := 16) (l' := [109, 111, 116, 105, 111, 110, 32, 32, 115, 101, 97, 115, 111, 110, 32, 32]) rfl rfl (by decide) (by decide) rfl rfl dX7_init_644 ?_
  refine vz_put (pc := 645) fl_X7_41 (fun _ h => by cases h; rfl) rfl dX7_init_645 rfl rfl (Nat.le_of_ble_eq_true rfl) rfl ?_
  show vz_X D mX7_init _ _ _ _ _ 648 [some (.ref h), none] [] ((h, .inr (7, [.ref q0, .ref q1, .ref q2, .int 0, .ref q3, .ref q4, .ref q5, .ref q6, .int 0, .int 0, .int 0, .ref q7, .int 0, .int 0, .int 0, .int 0, .long 0, .ref q8, .ref q9, .ref q10, .null, .null, .null, .null, .null])) :: [(q0, .inl (D.2 0, 114, .inl (fun _ => 0))), (q1, .inl (D.2 0, 114, .inl (fun _ => 0))), (q2, .inl (D.2 0, 114, .inl (fun _ => 0))), (q3, .inl (D.2 0, 7, .inl (fun _ => 0))), (q4, .inl (D.2 0, 8, .inl (fun _ => 0))), (q5, .inl (D.2 0, 5, .inl (fun _ => 0))), (q6, .inl (D.2 0, 5, .inl (fun _ => 0))), (q7, .inl (D.2 0, 120, .inl (fun _ => 0))), (q8, .inl (D.2 1, 56, .inl (vz_l vz_t0))), (q9, .inl (D.2 1, 24, .inl (vz_l vz_t1))), (q10, .inl (D.2 1, 16, .inl (vz_l vz_t2)))]) _ _
  refine vz_aload_n (pc := 648) dX7_init_648 rfl rfl ?_
  refine vz_bipush (pc := 649) (v := 24) dX7_init_649 rfl ?_
  refine vz_newcl (pc := 651) (N := 24) vz_o5 dX7_init_651 rfl (by decide) (Nat.le_of_ble_eq_true rfl) (Nat.le_of_ble_eq_true rfl) (fun q11 => ?_)
  show vz_X D mX7_init _ _ _ _ _ 653 [some (.ref h), none] [.ref q11, .ref h] ((h, .inr (7, [.ref q0, .ref q1, .ref q2, .int 0, .ref q3, .ref q4, .ref q5, .ref q6, .int 0, .int 0, .int 0, .ref q7, .int 0, .int 0, .int 0, .int 0, .long 0, .ref q8, .ref q9, .ref q10, .null, .null, .null, .null, .null])) :: ([(q0, .inl (D.2 0, 114, .inl (fun _ => 0))), (q1, .inl (D.2 0, 114, .inl (fun _ => 0))), (q2, .inl (D.2 0, 114, .inl (fun _ => 0))), (q3, .inl (D.2 0, 7, .inl (fun _ => 0))), (q4, .inl (D.2 0, 8, .inl (fun _ => 0))), (q5, .inl (D.2 0, 5, .inl (fun _ => 0))), (q6, .inl (D.2 0, 5, .inl (fun _ => 0))), (q7, .inl (D.2 0, 120, .inl (fun _ => 0))), (q8, .inl (D.2 1, 56, .inl (vz_l vz_t0))), (q9, .inl (D.2 1, 24, .inl (vz_l vz_t1))), (q10, .inl (D.2 1, 16, .inl (vz_l vz_t2)))] ++ [(q11, .inl (D.2 1, 24, .inl (vz_l [0, 0, 0, 0, 0, 0, 0, 0, 0, 0, 0, 0, 0, 0, 0, 0, 0, 0, 0, 0, 0, 0, 0, 0])))])) _ _
  refine vz_dup (pc := 653) dX7_init_653 ?_
  refine vz_iconst (pc := 654) (v := 0) dX7_init_654 rfl ?_
  refine vz_bipush (pc := 655) (v := 113) dX7_init_655 rfl ?_
  refine vz_castl (pc := 657) (c := 0) (N := 24) (l' := [113, 0, 0, 0, 0, 0, 0, 0, 0, 0, 0, 0, 0, 0, 0, 0, 0, 0, 0, 0, 0, 0, 0, 0]) rfl rfl (by decide) (by decide) rfl rfl dX7_init_657 ?_
  refine vz_dup (pc := 658) dX7_init_658 ?_
  refine vz_iconst (pc := 659) (v := 1) dX7_init_659 rfl ?_
  refine vz_bipush (pc := 660) (v := 117) dX7_init_660 rfl ?_
  refine vz_castl (pc := 662) (c := 1) (N := 24) (l' := [113, 117, 0, 0, 0, 0, 0, 0, 0, 0, 0, 0, 0, 0, 0, 0, 0, 0, 0, 0, 0, 0, 0, 0]) rfl rfl (by decide) (by decide) rfl rfl dX7_init_662 ?_
  refine vz_dup (pc := 663) dX7_init_663 ?_
  refine vz_iconst (pc := 664) (v := 2) dX7_init_664 rfl ?_
  refine vz_bipush (pc := 665) (v := 111) dX7_init_665 rfl ?_
  refine vz_castl (pc := 667) (c := 2) (N := 24) (l' := [113, 117, 111, 0, 0, 0, 0, 0, 0, 0, 0, 0, 0, 0, 0, 0, 0, 0, 0, 0, 0, 0, 0, 0]) rfl rfl (by decide) (by decide) rfl rfl dX7_init_667 ?_
  refine vz_dup (pc := 668) dX7_init_668 ?_
  refine vz_iconst (pc := 669) (v := 3) dX7_init_669 rfl ?_
  refine vz_bipush (pc := 670) (v := 114) dX7_init_670 rfl ?_
  refine vz_castl (pc := 672) (c := 3) (N := 24) (l' := [113, 117, 111, 114, 0, 0, 0, 0, 0, 0, 0, 0, 0, 0, 0, 0, 0, 0, 0, 0, 0, 0, 0, 0]) rfl rfl (by decide) (by decide) rfl rfl dX7_init_672 ?_
  refine vz_dup (pc := 673) dX7_init_673 ?_
  refine vz_iconst (pc := 674) (v := 4) dX7_init_674 rfl ?_
  refine vz_bipush (pc := 675) (v := 117) dX7_init_675 rfl ?_
  refine vz_castl (pc := 677) (c := 4) (N := 24) (l' := [113, 117, 111, 114, 117, 0, 0, 0, 0, 0, 0, 0, 0, 0, 0, 0, 0, 0, 0, 0, 0, 0, 0, 0]) rfl rfl (by decide) (by decide) rfl rfl dX7_init_677 ?_
  refine vz_dup (pc := 678) dX7_init_678 ?_
  refine vz_iconst (pc := 679) (v := 5) dX7_init_679 rfl ?_
  refine vz_bipush (pc := 680) (v := 109) dX7_init_680 rfl ?_
  refine vz_castl (pc := 682) (c := 5) (N := 24) (l' := [113, 117, 111, 114, 117, 109, 0, 0, 0, 0, 0, 0, 0, 0, 0, 0, 0, 0, 0, 0, 0, 0, 0, 0]) rfl rfl (by decide) (by decide) rfl rfl dX7_init_682 ?_
  refine vz_dup (pc := 683) dX7_init_683 ?_
  refine vz_bipush (pc := 684) (v := 6) dX7_init_684 rfl ?_
  refine vz_bipush (pc := 686) (v := 32) dX7_init_686 rfl ?_
  refine vz_castl (pc := 688) (c := 6) (N := 24) (l' := [113, 117, 111, 114, 117, 109, 32, 0, 0, 0, 0, 0, 0, 0, 0, 0, 0, 0, 0, 0, 0, 0, 0, 0]) rfl rfl (by decide) (by decide) rfl rfl dX7_init_688 ?_
  refine vz_dup (pc := 689) dX7_init_689 ?_
  refine vz_bipush (pc := 690) (v := 7) dX7_init_690 rfl ?_
  refine vz_bipush (pc := 692) (v := 32) dX7_init_692 rfl ?_
  refine vz_castl (pc := 694) (c := 7) (N := 24) (l' := [113, 117, 111, 114, 117, 109, 32, 32, 0, 0, 0, 0, 0, 0, 0, 0, 0, 0, 0, 0, 0, 0, 0, 0]) rfl rfl (by decide) (by decide) rfl rfl dX7_init_694 ?_
  refine vz_dup (pc := 695) dX7_init_695 ?_
  refine vz_bipush (pc := 696) (v := 8) dX7_init_696 rfl ?_
  refine vz_bipush (pc := 698) (v := 119) dX7_init_698 rfl ?_
  refine vz_castl (pc := 700) (c := 8) (N := 24) (l' := [113, 117, 111, 114, 117, 109, 32, 32, 119, 0, 0, 0, 0, 0, 0, 0, 0, 0, 0, 0, 0, 0, 0, 0]) rfl rfl (by decide) (by decide) rfl rfl dX7_init_700 ?_
  refine vz_dup (pc := 701) dX7_init_701 ?_
  refine vz_bipush (pc := 702) (v := 9) dX7_init_702 rfl ?_
  refine vz_bipush (pc := 704) (v := 97) dX7_init_704 rfl ?_
  refine vz_castl (pc := 706) (c := 9) (N := 24) (l' := [113, 117, 111, 114, 117, 109, 32, 32, 119, 97, 0, 0, 0, 0, 0, 0, 0, 0, 0, 0, 0, 0, 0, 0]) rfl rfl (by decide) (by decide) rfl rfl dX7_init_706 ?_
  refine vz_dup (pc := 707) dX7_init_707 ?_
  refine vz_bipush (pc := 708) (v := 10) dX7_init_708 rfl ?_
  refine vz_bipush (pc := 710) (v := 110) dX7_init_710 rfl ?_
  refine vz_castl (pc := 712) (c := 10) (N := 24) (l' := [113, 117, 111, 114, 117, 109, 32, 32, 119, 97, 110, 0, 0, 0, 0, 0, 0, 0, 0, 0, 0, 0, 0, 0]) rfl rfl (by decide) (by decide) rfl rfl dX7_init_712 ?_
  refine vz_dup (pc := 713) dX7_init_713 ?_
  refine vz_bipush (pc := 714) (v := 11) dX7_init_714 rfl ?_
  refine vz_bipush (pc := 716) (v := 116) dX7_init_716 rfl ?_
  refine vz_castl (pc := 718) (c := 11) (N := 24) (l' := [113, 117, 111, 114, 117, 109, 32, 32, 119, 97, 110, 116, 0, 0, 0, 0, 0, 0, 0, 0, 0, 0, 0, 0]) rfl rfl (by decide) (by decide) rfl rfl dX7_init_718 ?_
  refine vz_dup (pc := 719) dX7_init_719 ?_
  refine vz_bipush (pc := 720) (v := 12) dX7_init_720 rfl ?_
  refine vz_bipush (pc := 722) (v := 115) dX7_init_722 rfl ?_
  refine vz_castl (pc := 724) (c := 12) (N := 24) (l' := [113, 117, 111, 114, 117, 109, 32, 32, 119, 97, 110, 116, 115, 0, 0, 0, 0, 0, 0, 0, 0, 0, 0, 0]) rfl rfl (by decide) (by decide) rfl rfl dX7_init_724 ?_
  refine vz_dup (pc := 725) dX7_init_725 ?_
  refine vz_bipush (pc := 726) (v := 13) dX7_init_726 rfl ?_
  refine vz_bipush (pc := 728) (v := 32) dX7_init_728 rfl ?_
  refine vz_castl (pc := 730) (c := 13) (N := 24) (l' := [113, 117, 111, 114, 117, 109, 32, 32, 119, 97, 110, 116, 115, 32, 0, 0, 0, 0, 0, 0, 0, 0, 0, 0]) rfl rfl (by decide) (by decide) rfl rfl dX7_init_730 ?_
  refine vz_dup (pc := 731) dX7_init_731 ?_
  refine vz_bipush (pc := 732) (v := 14) dX7_init_732 rfl ?_
  refine vz_bipush (pc := 734) (v := 32) dX7_init_734 rfl ?_
  refine vz_castl (pc := 736) (c := 14) (N := 24) (l' := [113, 117, 111, 114, 117, 109, 32, 32, 119, 97, 110, 116, 115, 32, 32, 0, 0, 0, 0, 0, 0, 0, 0, 0]) rfl rfl (by decide) (by decide) rfl rfl dX7_init_736 ?_
  refine vz_dup (pc := 737) dX7_init_737 ?_
  refine vz_bipush (pc := 738) (v := 15) dX7_init_738 rfl ?_
  refine vz_bipush (pc := 740) (v := 32) dX7_init_740 rfl ?_
  refine vz_castl (pc := 742) (c := 15) (N := 24) (l' := [113, 117, 111, 114, 117, 109, 32, 32, 119, 97, 110, 116, 115, 32, 32, 32, 0, 0, 0, 0, 0, 0, 0, 0]) rfl rfl (by decide) (by decide) rfl rfl dX7_init_742 ?_
  refine vz_dup (pc := 743) dX7_init_743 ?_
  refine vz_bipush (pc := 744) (v := 16) dX7_init_744 rfl ?_
  refine vz_bipush (pc := 746) (v := 101) dX7_init_746 rfl ?_
  refine vz_castl (pc := 748) (c := 16) (N := 24) (l' := [113, 117, 111, 114, 117, 109, 32, 32, 119, 97, 110, 116, 115, 32, 32, 32, 101, 0, 0, 0, 0, 0, 0, 0]) rfl rfl (by decide) (by decide) rfl rfl dX7_init_748 ?_
  refine vz_dup (pc := 749) dX7_init_749 ?_
  refine vz_bipush (pc := 750) (v := 17) dX7_init_750 rfl ?_
  refine vz_bipush (pc := 752) (v := 102) dX7_init_752 rfl ?_
  refine vz_castl (pc := 754) (c := 17) (N := 24) (l' := [113, 117, 111, 114, 117, 109, 32, 32, 119, 97, 110, 116, 115, 32, 32, 32, 101, 102, 0, 0, 0, 0, 0, 0]) rfl rfl (by decide) (by decide) rfl rfl dX7_init_754 ?_
  refine vz_dup (pc := 755) dX7_init_755 ?_
  refine vz_bipush (pc := 756) (v := 18) dX7_init_756 rfl ?_
  refine vz_bipush (pc := 758) (v := 102) dX7_init_758 rfl ?_
  refine vz_castl (pc := 760) (c := 18) (N := 24) (l' := [113, 117, 111, 114, 117, 109, 32, 32, 119, 97, 110, 116, 115, 32, 32, 32, 101, 102, 102, 0, 0, 0, 0, 0]) rfl rfl (by decide) (by decide) rfl rfl dX7_init_760 ?_
  refine vz_dup (pc := 761) dX7_init_761 ?_
  refine vz_bipush (pc := 762) (v := 19) dX7_init_762 rfl ?_
  refine vz_bipush (pc := 764) (v := 101) dX7_init_764 rfl ?_
  refine vz_castl (pc := 766) (c := 19) (N := 24) (l' := [113, 117, 111, 114, 117, 109, 32, 32, 119, 97, 110, 116, 115, 32, 32, 32, 101, 102, 102, 101, 0, 0, 0, 0]) rfl rfl (by decide) (by decide) rfl rfl dX7_init_766 ?_
  refine vz_dup (pc := 767) dX7_init_767 ?_
  refine vz_bipush (pc := 768) (v := 20) dX7_init_768 rfl ?_
  refine vz_bipush (pc := 770) (v := 99) dX7_init_770 rfl ?_
  refine vz_castl (pc := 772) (c := 20) (N := 24) (l' := [113, 117, 111, 114, 117, 109, 32, 32, 119, 97, 110, 116, 115, 32, 32, 32, 101, 102, 102, 101, 99, 0, 0, 0]) rfl rfl (by decide) (by decide) rfl rfl dX7_init_772 ?_
  refine vz_dup (pc := 773) dX7_init_773 ?_
  refine vz_bipush (pc := 774) (v := 21) dX7_init_774 rfl ?_
  refine vz_bipush (pc := 776) (v := 116) dX7_init_776 rfl ?_
  refine vz_castl (pc := 778) (c := 21) (N := 24) (l' := [113, 117, 111, 114, 117, 109, 32, 32, 119, 97, 110, 116, 115, 32, 32, 32, 101, 102, 102, 101, 99, 116, 0, 0]) rfl rfl (by decide) (by decide) rfl rfl dX7_init_778 ?_
  refine vz_dup (pc := 779) dX7_init_779 ?_
  refine vz_bipush (pc := 780) (v := 22) dX7_init_780 rfl ?_
  refine vz_bipush (pc := 782) (v := 32) dX7_init_782 rfl ?_
  refine vz_castl (pc := 784) (c := 22) (N := 24) (l' := [113, 117, 111, 114, 117, 109, 32, 32, 119, 97, 110, 116, 115, 32, 32, 32, 101, 102, 102, 101, 99, 116, 32, 0]) rfl rfl (by decide) (by decide) rfl rfl dX7_init_784 ?_
  refine vz_dup (pc := 785) dX7_init_785 ?_
  refine vz_bipush (pc := 786) (v := 23) dX7_init_786 rfl ?_
  refine vz_bipush (pc := 788) (v := 32) dX7_init_788 rfl ?_
  refine vz_castl (pc := 790) (c := 23) (N := 24) (l' := [113, 117, 111, 114, 117, 109, 32, 32, 119, 97, 110, 116, 115, 32, 32, 32, 101, 102, 102, 101, 99, 116, 32, 32]) rfl rfl (by decide) (by decide) rfl rfl dX7_init_790 ?_
  refine vz_put (pc := 791) fl_X7_44 (fun _ h => by cases h; rfl) rfl dX7_init_791 rfl rfl (Nat.le_of_ble_eq_true rfl) rfl ?_
  show vz_X D mX7_init _ _ _ _ _ 794 [some (.ref h), none] [] ((h, .inr (7, [.ref q0, .ref q1, .ref q2, .int 0, .ref q3, .ref q4, .ref q5, .ref q6, .int 0, .int 0, .int 0, .ref q7, .int 0, .int 0, .int 0, .int 0, .long 0, .ref q8, .ref q9, .ref q10, .ref q11, .null, .null, .null, .null])) :: [(q0, .inl (D.2 0, 114, .inl (fun _ => 0))), (q1, .inl (D.2 0, 114, .inl (fun _ => 0))), (q2, .inl (D.2 0, 114, .inl (fun _ => 0))), (q3, .inl (D.2 0, 7, .inl (fun _ => 0))), (q4, .inl (D.2 0, 8, .inl (fun _ => 0))), (q5, .inl (D.2 0, 5, .inl (fun _ => 0))), (q6, .inl (D.2 0, 5, .inl (fun _ => 0))), (q7, .inl (D.2 0, 120, .inl (fun _ => 0))), (q8, .inl (D.2 1, 56, .inl (vz_l vz_t0))), (q9, .inl (D.2 1, 24, .inl (vz_l vz_t1))), (q10, .inl (D.2 1, 16, .inl (vz_l vz_t2))), (q11, .inl (D.2 1, 24, .inl (vz_l vz_t3)))]) _ _
  refine vz_aload_n (pc := 794) dX7_init_794 rfl rfl ?_
  refine vz_iconst (pc := 795) (v := 4) dX7_init_795 rfl ?_
  refine vz_newi (pc := 796) (N := 4) vz_o4 dX7_init_796 rfl (by decide) (Nat.le_of_ble_eq_true rfl) (Nat.le_of_ble_eq_true rfl) (fun q12 => ?_)
  refine vz_put (pc := 798) fl_X7_47 (fun _ h => by cases h; rfl) rfl dX7_init_798 rfl rfl (Nat.le_of_ble_eq_true rfl) rfl ?_
  show vz_X D mX7_init _ _ _ _ _ 801 [some (.ref h), none] [] ((h, .inr (7, [.ref q0, .ref q1, .ref q2, .int 0, .ref q3, .ref q4, .ref q5, .ref q6, .int 0, .int 0, .int 0, .ref q7, .int 0, .int 0, .int 0, .int 0, .long 0, .ref q8, .ref q9, .ref q10, .ref q11, .ref q12, .null, .null, .null])) :: [(q0, .inl (D.2 0, 114, .inl (fun _ => 0))), (q1, .inl (D.2 0, 114, .inl (fun _ => 0))), (q2, .inl (D.2 0, 114, .inl (fun _ => 0))), (q3, .inl (D.2 0, 7, .inl (fun _ => 0))), (q4, .inl (D.2 0, 8, .inl (fun _ => 0))), (q5, .inl (D.2 0, 5, .inl (fun _ => 0))), (q6, .inl (D.2 0, 5, .inl (fun _ => 0))), (q7, .inl (D.2 0, 120, .inl (fun _ => 0))), (q8, .inl (D.2 1, 56, .inl (vz_l vz_t0))), (q9, .inl (D.2 1, 24, .inl (vz_l vz_t1))), (q10, .inl (D.2 1, 16, .inl (vz_l vz_t2))), (q11, .inl (D.2 1, 24, .inl (vz_l vz_t3))), (q12, .inl (D.2 0, 4, .inl (fun _ => 0)))]) _ _
  refine vz_aload_n (pc := 801) dX7_init_801 rfl rfl ?_
  refine vz_iconst (pc := 802) (v := 4) dX7_init_802 rfl ?_
  refine vz_newi (pc := 803) (N := 4) vz_o4 dX7_init_803 rfl (by decide) (Nat.le_of_ble_eq_true rfl) (Nat.le_of_ble_eq_true rfl) (fun q13 => ?_)
  refine vz_put (pc := 805) fl_X7_50 (fun _ h => by cases h; rfl) rfl dX7_init_805 rfl rfl (Nat.le_of_ble_eq_true rfl) rfl ?_
  show vz_X D mX7_init _ _ _ _ _ 808 [some (.ref h), none] [] ((h, .inr (7, [.ref q0, .ref q1, .ref q2, .int 0, .ref q3, .ref q4, .ref q5, .ref q6, .int 0, .int 0, .int 0, .ref q7, .int 0, .int 0, .int 0, .int 0, .long 0, .ref q8, .ref q9, .ref q10, .ref q11, .ref q12, .ref q13, .null, .null])) :: [(q0, .inl (D.2 0, 114, .inl (fun _ => 0))), (q1, .inl (D.2 0, 114, .inl (fun _ => 0))), (q2, .inl (D.2 0, 114, .inl (fun _ => 0))), (q3, .inl (D.2 0, 7, .inl (fun _ => 0))), (q4, .inl (D.2 0, 8, .inl (fun _ => 0))), (q5, .inl (D.2 0, 5, .inl (fun _ => 0))), (q6, .inl (D.2 0, 5, .inl (fun _ => 0))), (q7, .inl (D.2 0, 120, .inl (fun _ => 0))), (q8, .inl (D.2 1, 56, .inl (vz_l vz_t0))), (q9, .inl (D.2 1, 24, .inl (vz_l vz_t1))), (q10, .inl (D.2 1, 16, .inl (vz_l vz_t2))), (q11, .inl (D.2 1, 24, .inl (vz_l vz_t3))), (q12, .inl (D.2 0, 4, .inl (fun _ => 0))), (q13, .inl (D.2 0, 4, .inl (fun _ => 0)))]) _ _
  refine vz_aload_n (pc := 808) dX7_init_808 rfl rfl ?_
  refine vz_sipush (pc := 809) (v := 160) dX7_init_809 rfl ?_
  refine vz_newi (pc := 812) (N := 160) vz_o4 dX7_init_812 rfl (by decide) (Nat.le_of_ble_eq_true rfl) (Nat.le_of_ble_eq_true rfl) (fun q14 => ?_)
  refine vz_put (pc := 814) fl_X7_53 (fun _ h => by cases h; rfl) rfl dX7_init_814 rfl rfl (Nat.le_of_ble_eq_true rfl) rfl ?_
  show vz_X D mX7_init _ _ _ _ _ 817 [some (.ref h), none] [] ((h, .inr (7, [.ref q0, .ref q1, .ref q2, .int 0, .ref q3, .ref q4, .ref q5, .ref q6, .int 0, .int 0, .int 0, .ref q7, .int 0, .int 0, .int 0, .int 0, .long 0, .ref q8, .ref q9, .ref q10, .ref q11, .ref q12, .ref q13, .ref q14, .null])) :: [(q0, .inl (D.2 0, 114, .inl (fun _ => 0))), (q1, .inl (D.2 0, 114, .inl (fun _ => 0))), (q2, .inl (D.2 0, 114, .inl (fun _ => 0))), (q3, .inl (D.2 0, 7, .inl (fun _ => 0))), (q4, .inl (D.2 0, 8, .inl (fun _ => 0))), (q5, .inl (D.2 0, 5, .inl (fun _ => 0))), (q6, .inl (D.2 0, 5, .inl (fun _ => 0))), (q7, .inl (D.2 0, 120, .inl (fun _ => 0))), (q8, .inl (D.2 1, 56, .inl (vz_l vz_t0))), (q9, .inl (D.2 1, 24, .inl (vz_l vz_t1))), (q10, .inl (D.2 1, 16, .inl (vz_l vz_t2))), (q11, .inl (D.2 1, 24, .inl (vz_l vz_t3))), (q12, .inl (D.2 0, 4, .inl (fun _ => 0))), (q13, .inl (D.2 0, 4, .inl (fun _ => 0))), (q14, .inl (D.2 0, 160, .inl (fun _ => 0)))]) _ _
  refine vz_aload_n (pc := 817) dX7_init_817 rfl rfl ?_
  refine vz_bipush (pc := 818) (v := 40) dX7_init_818 rfl ?_
  refine vz_newi (pc := 820) (N := 40) vz_o4 dX7_init_820 rfl (by decide) (Nat.le_of_ble_eq_true rfl) (Nat.le_of_ble_eq_true rfl) (fun q15 => ?_)
  refine vz_put (pc := 822) fl_X7_56 (fun _ h => by cases h; rfl) rfl dX7_init_822 rfl rfl (Nat.le_of_ble_eq_true rfl) rfl ?_
  show vz_X D mX7_init _ _ _ _ _ 825 [some (.ref h), none] [] ((h, .inr (7, [.ref q0, .ref q1, .ref q2, .int 0, .ref q3, .ref q4, .ref q5, .ref q6, .int 0, .int 0, .int 0, .ref q7, .int 0, .int 0, .int 0, .int 0, .long 0, .ref q8, .ref q9, .ref q10, .ref q11, .ref q12, .ref q13, .ref q14, .ref q15])) :: [(q0, .inl (D.2 0, 114, .inl (fun _ => 0))), (q1, .inl (D.2 0, 114, .inl (fun _ => 0))), (q2, .inl (D.2 0, 114, .inl (fun _ => 0))), (q3, .inl (D.2 0, 7, .inl (fun _ => 0))), (q4, .inl (D.2 0, 8, .inl (fun _ => 0))), (q5, .inl (D.2 0, 5, .inl (fun _ => 0))), (q6, .inl (D.2 0, 5, .inl (fun _ => 0))), (q7, .inl (D.2 0, 120, .inl (fun _ => 0))), (q8, .inl (D.2 1, 56, .inl (vz_l vz_t0))), (q9, .inl (D.2 1, 24, .inl (vz_l vz_t1))), (q10, .inl (D.2 1, 16, .inl (vz_l vz_t2))), (q11, .inl (D.2 1, 24, .inl (vz_l vz_t3))), (q12, .inl (D.2 0, 4, .inl (fun _ => 0))), (q13, .inl (D.2 0, 4, .inl (fun _ => 0))), (q14, .inl (D.2 0, 160, .inl (fun _ => 0))), (q15, .inl (D.2 0, 40, .inl (fun _ => 0)))]) _ _
  refine vz_aload_n (pc := 825) dX7_init_825 rfl rfl ?_
  refine vz_geta (pc := 826) fl_X7_9 dX7_init_826 rfl ?_
  refine vz_iconst (pc := 829) (v := 3) dX7_init_829 rfl ?_
  refine vz_iconst (pc := 830) (v := 1) dX7_init_830 rfl ?_
  refine vz_ast (pc := 831) (r := 1) (t0 := 0) (c := 3) rfl rfl rfl (by decide) (by decide) dX7_init_831 ?_
  refine vz_iconst (pc := 832) (v := 0) dX7_init_832 rfl ?_
  refine vz_istore1 (pc := 833) dX7_init_833 rfl ?_
  show vz_X D mX7_init _ _ _ _ _ 834 [some (.ref h), some (.int (nI 0))] [] ((h, .inr (7, [.ref q0, .ref q1, .ref q2, .int 0, .ref q3, .ref q4, .ref q5, .ref q6, .int 0, .int 0, .int 0, .ref q7, .int 0, .int 0, .int 0, .int 0, .long 0, .ref q8, .ref q9, .ref q10, .ref q11, .ref q12, .ref q13, .ref q14, .ref q15])) :: [(q0, .inl (D.2 0, 114, .inl (upd (fun _ => 0) 3 1))), (q1, .inl (D.2 0, 114, .inl (fun _ => 0))), (q2, .inl (D.2 0, 114, .inl (fun _ => 0))), (q3, .inl (D.2 0, 7, .inl (fun _ => 0))), (q4, .inl (D.2 0, 8, .inl (fun _ => 0))), (q5, .inl (D.2 0, 5, .inl (fun _ => 0))), (q6, .inl (D.2 0, 5, .inl (fun _ => 0))), (q7, .inl (D.2 0, 120, .inl (fun _ => 0))), (q8, .inl (D.2 1, 56, .inl (vz_l vz_t0))), (q9, .inl (D.2 1, 24, .inl (vz_l vz_t1))), (q10, .inl (D.2 1, 16, .inl (vz_l vz_t2))), (q11, .inl (D.2 1, 24, .inl (vz_l vz_t3))), (q12, .inl (D.2 0, 4, .inl (fun _ => 0))), (q13, .inl (D.2 0, 4, .inl (fun _ => 0))), (q14, .inl (D.2 0, 160, .inl (fun _ => 0))), (q15, .inl (D.2 0, 40, .inl (fun _ => 0)))]) _ _
  refine vz_iload_n (pc := 834) dX7_init_834 rfl rfl ?_
  refine vz_bipush (pc := 835) (v := 10) dX7_init_835 rfl ?_
  refine vz_icmp_ge (pc := 837) dX7_init_837 (tgt := 856) rfl (fun h => absurd h (by decide +kernel)) (fun _ => ?_)
  refine vz_aload_n (pc := 840) dX7_init_840 rfl rfl ?_
  refine vz_geta (pc := 841) fl_X7_9 dX7_init_841 rfl ?_
  refine vz_bipush (pc := 844) (v := 104) dX7_init_844 rfl ?_
  refine vz_iload_n (pc := 846) dX7_init_846 rfl rfl ?_
  refine vz_iadd (pc := 847) dX7_init_847 ?_
  refine vz_iconst (pc := 848) (v := (-1)) dX7_init_848 fv_m1 ?_
  refine vz_ast (pc := 849) (r := 1) (t0 := 0) (c := 104) rfl rfl (nI_add 104 0) (by decide) (by decide) dX7_init_849 ?_
  refine vz_iinc1 (pc := 850) dX7_init_850 (fv_inc _) rfl ?_
  refine vz_goto (pc := 853) dX7_init_853 (tgt := 834) rfl ?_
  show vz_X D mX7_init _ _ _ _ _ 834 [some (.ref h), some (.int (nI 1))] [] ((h, .inr (7, [.ref q0, .ref q1, .ref q2, .int 0, .ref q3, .ref q4, .ref q5, .ref q6, .int 0, .int 0, .int 0, .ref q7, .int 0, .int 0, .int 0, .int 0, .long 0, .ref q8, .ref q9, .ref q10, .ref q11, .ref q12, .ref q13, .ref q14, .ref q15])) :: [(q0, .inl (D.2 0, 114, .inl (upd (upd (fun _ => 0) 3 1) 104 (-1)))), (q1, .inl (D.2 0, 114, .inl (fun _ => 0))), (q2, .inl (D.2 0, 114, .inl (fun _ => 0))), (q3, .inl (D.2 0, 7, .inl (fun _ => 0))), (q4, .inl (D.2 0, 8, .inl (fun _ => 0))), (q5, .inl (D.2 0, 5, .inl (fun _ => 0))), (q6, .inl (D.2 0, 5, .inl (fun _ => 0))), (q7, .inl (D.2 0, 120, .inl (fun _ => 0))), (q8, .inl (D.2 1, 56, .inl (vz_l vz_t0))), (q9, .inl (D.2 1, 24, .inl (vz_l vz_t1))), (q10, .inl (D.2 1, 16, .inl (vz_l vz_t2))), (q11, .inl (D.2 1, 24, .inl (vz_l vz_t3))), (q12, .inl (D.2 0, 4, .inl (fun _ => 0))), (q13, .inl (D.2 0, 4, .inl (fun _ => 0))), (q14, .inl (D.2 0, 160, .inl (fun _ => 0))), (q15, .inl (D.2 0, 40, .inl (fun _ => 0)))]) _ _
  refine vz_iload_n (pc := 834) dX7_init_834 rfl rfl ?_
  refine vz_bipush (pc := 835) (v := 10) dX7_init_835 rfl ?_
  refine vz_icmp_ge (pc := 837) dX7_init_837 (tgt := 856) rfl (fun h => absurd h (by decide +kernel)) (fun _ => ?_)
  refine vz_aload_n (pc := 840) dX7_init_840 rfl rfl ?_
  refine vz_geta (pc := 841) fl_X7_9 dX7_init_841 rfl ?_
  refine vz_bipush (pc := 844) (v := 104) dX7_init_844 rfl ?_
  refine vz_iload_n (pc := 846) dX7_init_846 rfl rfl ?_
  refine vz_iadd (pc := 847) dX7_init_847 ?_
  refine vz_iconst (pc := 848) (v := (-1)) dX7_init_848 fv_m1 ?_
  refine vz_ast (pc := 849) (r := 1) (t0 := 0) (c := 105) rfl rfl (nI_add 104 1) (by decide) (by decide) dX7_init_849 ?_
  refine vz_iinc1 (pc := 850) dX7_init_850 (fv_inc _) rfl ?_
  refine vz_goto (pc := 853) dX7_init_853 (tgt := 834) rfl ?_
  show vz_X D mX7_init _ _ _ _ _ 834 [some (.ref h), some (.int (nI 2))] [] ((h, .inr (7, [.ref q0, .ref q1, .ref q2, .int 0, .ref q3, .ref q4, .ref q5, .ref q6, .int 0, .int 0, .int 0, .ref q7, .int 0, .int 0, .int 0, .int 0, .long 0, .ref q8, .ref q9, .ref q10, .ref q11, .ref q12, .ref q13, .ref q14, .ref q15])) :: [(q0, .inl (D.2 0, 114, .inl (upd (upd (upd (fun _ => 0) 3 1) 104 (-1)) 105 (-1)))), (q1, .inl (D.2 0, 114, .inl (fun _ => 0))), (q2, .inl (D.2 0, 114, .inl (fun _ => 0))), (q3, .inl (D.2 0, 7, .inl (fun _ => 0))), (q4, .inl (D.2 0, 8, .inl (fun _ => 0))), (q5, .inl (D.2 0, 5, .inl (fun _ => 0))), (q6, .inl (D.2 0, 5, .inl (fun _ => 0))), (q7, .inl (D.2 0, 120, .inl (fun _ => 0))), (q8, .inl (D.2 1, 56, .inl (vz_l vz_t0))), (q9, .inl (D.2 1, 24, .inl (vz_l vz_t1))), (q10, .inl (D.2 1, 16, .inl (vz_l vz_t2))), (q11, .inl (D.2 1, 24, .inl (vz_l vz_t3))), (q12, .inl (D.2 0, 4, .inl (fun _ => 0))), (q13, .inl (D.2 0, 4, .inl (fun _ => 0))), (q14, .inl (D.2 0, 160, .inl (fun _ => 0))), (q15, .inl (D.2 0, 40, .inl (fun _ => 0)))]) _ _
  refine vz_iload_n (pc := 834) dX7_init_834 rfl rfl ?_
  refine vz_bipush (pc := 835) (v := 10) dX7_init_835 rfl ?_
  refine vz_icmp_ge (pc := 837) dX7_init_837 (tgt := 856) rfl (fun h => absurd h (by decide +kernel)) (fun _ => ?_)
  refine vz_aload_n (pc := 840) dX7_init_840 rfl rfl ?_
  refine vz_geta (pc := 841) fl_X7_9 dX7_init_841 rfl ?_
  refine vz_bipush (pc := 844) (v := 104) dX7_init_844 rfl ?_
  refine vz_iload_n (pc := 846) dX7_init_846 rfl rfl ?_
  refine vz_iadd (pc := 847) dX7_init_847 ?_
  refine vz_iconst (pc := 848) (v := (-1)) dX7_init_848 fv_m1 ?_
  refine vz_ast (pc := 849) (r := 1) (t0 := 0) (c := 106) rfl rfl (nI_add 104 2) (by decide) (by decide) dX7_init_849 ?_
  refine vz_iinc1 (pc := 850) dX7_init_850 (fv_inc _) rfl ?_
  refine vz_goto (pc := 853) dX7_init_853 (tgt := 834) rfl ?_
  show vz_X D mX7_init _ _ _ _ _ 834 [some (.ref h), some (.int (nI 3))] [] ((h, .inr (7, [.ref q0, .ref q1, .ref q2, .int 0, .ref q3, .ref q4, .ref q5, .ref q6, .int 0, .int 0, .int 0, .ref q7, .int 0, .int 0, .int 0, .int 0, .long 0, .ref q8, .ref q9, .ref q10, .ref q11, .ref q12, .ref q13, .ref q14, .ref q15])) :: [(q0, .inl (D.2 0, 114, .inl (upd (upd (upd (upd (fun _ => 0) 3 1) 104 (-1)) 105 (-1)) 106 (-1)))), (q1, .inl (D.2 0, 114, .inl (fun _ => 0))), (q2, .inl (D.2 0, 114, .inl (fun _ => 0))), (q3, .inl (D.2 0, 7, .inl (fun _ => 0))), (q4, .inl (D.2 0, 8, .inl (fun _ => 0))), (q5, .inl (D.2 0, 5, .inl (fun _ => 0))), (q6, .inl (D.2 0, 5, .inl (fun _ => 0))), (q7, .inl (D.2 0, 120, .inl (fun _ => 0))), (q8, .inl (D.2 1, 56, .inl (vz_l vz_t0))), (q9, .inl (D.2 1, 24, .inl (vz_l vz_t1))), (q10, .inl (D.2 1, 16, .inl (vz_l vz_t2))), (q11, .inl (D.2 1, 24, .inl (vz_l vz_t3))), (q12, .inl (D.2 0, 4, .inl (fun _ => 0))), (q13, .inl (D.2 0, 4, .inl (fun _ => 0))), (q14, .inl (D.2 0, 160, .inl (fun _ => 0))), (q15, .inl (D.2 0, 40, .inl (fun _ => 0)))]) _ _
  refine vz_iload_n (pc := 834) dX7_init_834 rfl rfl ?_
  refine vz_bipush (pc := 835) (v := 10) dX7_init_835 rfl ?_
  refine vz_icmp_ge (pc := 837) dX7_init_837 (tgt := 856) rfl (fun h => absurd h (by decide +kernel)) (fun _ => ?_)
  refine vz_aload_n (pc := 840) dX7_init_840 rfl rfl ?_
  refine vz_geta (pc := 841) fl_X7_9 dX7_init_841 rfl ?_
  refine vz_bipush (pc := 844) (v := 104) dX7_init_844 rfl ?_
  refine vz_iload_n (pc := 846) dX7_init_846 rfl rfl ?_
  refine vz_iadd (pc := 847) dX7_init_847 ?_
  refine vz_iconst (pc := 848) (v := (-1)) dX7_init_848 fv_m1 ?_
  refine vz_ast (pc := 849) (r := 1) (t0 := 0) (c := 107) rfl rfl (nI_add 104 3) (by decide) (by decide) dX7_init_849 ?_
  refine vz_iinc1 (pc := 850) dX7_init_850 (fv_inc _) rfl ?_
  refine vz_goto (pc := 853) dX7_init_853 (tgt := 834) rfl ?_
  show vz_X D mX7_init _ _ _ _ _ 834 [some (.ref h), some (.int (nI 4))] [] ((h, .inr (7, [.ref q0, .ref q1, .ref q2, .int 0, .ref q3, .ref q4, .ref q5, .ref q6, .int 0, .int 0, .int 0, .ref q7, .int 0, .int 0, .int 0, .int 0, .long 0, .ref q8, .ref q9, .ref q10, .ref q11, .ref q12, .ref q13, .ref q14, .ref q15])) :: [(q0, .inl (D.2 0, 114, .inl (upd (upd (upd (upd (upd (fun _ => 0) 3 1) 104 (-1)) 105 (-1)) 106 (-1)) 107 (-1)))), (q1, .inl (D.2 0, 114, .inl (fun _ => 0))), (q2, .inl (D.2 0, 114, .inl (fun _ => 0))), (q3, .inl (D.2 0, 7, .inl (fun _ => 0))), (q4, .inl (D.2 0, 8, .inl (fun _ => 0))), (q5, .inl (D.2 0, 5, .inl (fun _ => 0))), (q6, .inl (D.2 0, 5, .inl (fun _ => 0))), (q7, .inl (D.2 0, 120, .inl (fun _ => 0))), (q8, .inl (D.2 1, 56, .inl (vz_l vz_t0))), (q9, .inl (D.2 1, 24, .inl (vz_l vz_t1))), (q10, .inl (D.2 1, 16, .inl (vz_l vz_t2))), (q11, .inl (D.2 1, 24, .inl (vz_l vz_t3))), (q12, .inl (D.2 0, 4, .inl (fun _ => 0))), (q13, .inl (D.2 0, 4, .inl (fun _ => 0))), (q14, .inl (D.2 0, 160, .inl (fun _ => 0))), (q15, .inl (D.2 0, 40, .inl (fun _ => 0)))]) _ _
  refine vz_iload_n (pc := 834) dX7_init_834 rfl rfl ?_
  refine vz_bipush (pc := 835) (v := 10) dX7_init_835 rfl ?_
  refine vz_icmp_ge (pc := 837) dX7_init_837 (tgt := 856) rfl (fun h => absurd h (by decide +kernel)) (fun _ => ?_)
  refine vz_aload_n (pc := 840) dX7_init_840 rfl rfl ?_
  refine vz_geta (pc := 841) fl_X7_9 dX7_init_841 rfl ?_
  refine vz_bipush (pc := 844) (v := 104) dX7_init_844 rfl ?_
  refine vz_iload_n (pc := 846) dX7_init_846 rfl rfl ?_
  refine vz_iadd (pc := 847) dX7_init_847 ?_
  refine vz_iconst (pc := 848) (v := (-1)) dX7_init_848 fv_m1 ?_
  refine vz_ast (pc := 849) (r := 1) (t0 := 0) (c := 108) rfl rfl (nI_add 104 4) (by decide) (by decide) dX7_init_849 ?_
  refine vz_iinc1 (pc := 850) dX7_init_850 (fv_inc _) rfl ?_
  refine vz_goto (pc := 853) dX7_init_853 (tgt := 834) rfl ?_
  show vz_X D mX7_init _ _ _ _ _ 834 [some (.ref h), some (.int (nI 5))] [] ((h, .inr (7, [.ref q0, .ref q1, .ref q2, .int 0, .ref q3, .ref q4, .ref q5, .ref q6, .int 0, .int 0, .int 0, .ref q7, .int 0, .int 0, .int 0, .int 0, .long 0, .ref q8, .ref q9, .ref q10, .ref q11, .ref q12, .ref q13, .ref q14, .ref q15])) :: [(q0, .inl (D.2 0, 114, .inl (upd (upd (upd (upd (upd (upd (fun _ => 0) 3 1) 104 (-1)) 105 (-1)) 106 (-1)) 107 (-1)) 108 (-1)))), (q1, .inl (D.2 0, 114, .inl (fun _ => 0))), (q2, .inl (D.2 0, 114, .inl (fun _ => 0))), (q3, .inl (D.2 0, 7, .inl (fun _ => 0))), (q4, .inl (D.2 0, 8, .inl (fun _ => 0))), (q5, .inl (D.2 0, 5, .inl (fun _ => 0))), (q6, .inl (D.2 0, 5, .inl (fun _ => 0))), (q7, .inl (D.2 0, 120, .inl (fun _ => 0))), (q8, .inl (D.2 1, 56, .inl (vz_l vz_t0))), (q9, .inl (D.2 1, 24, .inl (vz_l vz_t1))), (q10, .inl (D.2 1, 16, .inl (vz_l vz_t2))), (q11, .inl (D.2 1, 24, .inl (vz_l vz_t3))), (q12, .inl (D.2 0, 4, .inl (fun _ => 0))), (q13, .inl (D.2 0, 4, .inl (fun _ => 0))), (q14, .inl (D.2 0, 160, .inl (fun _ => 0))), (q15, .inl (D.2 0, 40, .inl (fun _ => 0)))]) _ _
  refine vz_iload_n (pc := 834) dX7_init_834 rfl rfl ?_
  refine vz_bipush (pc := 835) (v := 10) dX7_init_835 rfl ?_
  refine vz_icmp_ge (pc := 837) dX7_init_837 (tgt := 856) rfl (fun h => absurd h (by decide +kernel)) (fun _ => ?_)
  refine vz_aload_n (pc := 840) dX7_init_840 rfl rfl ?_
  refine vz_geta (pc := 841) fl_X7_9 dX7_init_841 rfl ?_
  refine vz_bipush (pc := 844) (v := 104) dX7_init_844 rfl ?_
  refine vz_iload_n (pc := 846) dX7_init_846 rfl rfl ?_
  refine vz_iadd (pc := 847) dX7_init_847 ?_
  refine vz_iconst (pc := 848) (v := (-1)) dX7_init_848 fv_m1 ?_
  refine vz_ast (pc := 849) (r := 1) (t0 := 0) (c := 109) rfl rfl (nI_add 104 5) (by decide) (by decide) dX7_init_849 ?_
  refine vz_iinc1 (pc := 850) dX7_init_850 (fv_inc _) rfl ?_
  refine vz_goto (pc := 853) dX7_init_853 (tgt := 834) rfl ?_
  show vz_X D mX7_init _ _ _ _ _ 834 [some (.ref h), some (.int (nI 6))] [] ((h, .inr (7, [.ref q0, .ref q1, .ref q2, .int 0, .ref q3, .ref q4, .ref q5, .ref q6, .int 0, .int 0, .int 0, .ref q7, .int 0, .int 0, .int 0, .int 0, .long 0, .ref q8, .ref q9, .ref q10, .ref q11, .ref q12, .ref q13, .ref q14, .ref q15])) :: [(q0, .inl (D.2 0, 114, .inl (upd (upd (upd (upd (upd (upd (upd (fun _ => 0) 3 1) 104 (-1)) 105 (-1)) 106 (-1)) 107 (-1)) 108 (-1)) 109 (-1)))), (q1, .inl (D.2 0, 114, .inl (fun _ => 0))), (q2, .inl (D.2 0, 114, .inl (fun _ => 0))), (q3, .inl (D.2 0, 7, .inl (fun _ => 0))), (q4, .inl (D.2 0, 8, .inl (fun _ => 0))), (q5, .inl (D.2 0, 5, .inl (fun _ => 0))), (q6, .inl (D.2 0, 5, .inl (fun _ => 0))), (q7, .inl (D.2 0, 120, .inl (fun _ => 0))), (q8, .inl (D.2 1, 56, .inl (vz_l vz_t0))), (q9, .inl (D.2 1, 24, .inl (vz_l vz_t1))), (q10, .inl (D.2 1, 16, .inl (vz_l vz_t2))), (q11, .inl (D.2 1, 24, .inl (vz_l vz_t3))), (q12, .inl (D.2 0, 4, .inl (fun _ => 0))), (q13, .inl (D.2 0, 4, .inl (fun _ => 0))), (q14, .inl (D.2 0, 160, .inl (fun _ => 0))), (q15, .inl (D.2 0, 40, .inl (fun _ => 0)))]) _ _
  refine vz_iload_n (pc := 834) dX7_init_834 rfl rfl ?_
  refine vz_bipush (pc := 835) (v := 10) dX7_init_835 rfl ?_
  refine vz_icmp_ge (pc := 837) dX7_init_837 (tgt := 856) rfl (fun h => absurd h (by decide +kernel)) (fun _ => ?_)
  refine vz_aload_n (pc := 840) dX7_init_840 rfl rfl ?_
  refine vz_geta (pc := 841) fl_X7_9 dX7_init_841 rfl ?_
  refine vz_bipush (pc := 844) (v := 104) dX7_init_844 rfl ?_
  refine vz_iload_n (pc := 846) dX7_init_846 rfl rfl ?_
  refine vz_iadd (pc := 847) dX7_init_847 ?_
  refine vz_iconst (pc := 848) (v := (-1)) dX7_init_848 fv_m1 ?_
  refine vz_ast (pc := 849) (r := 1) (t0 := 0) (c := 110) rfl rfl (nI_add 104 6) (by decide) (by decide) dX7_init_849 ?_
  refine vz_iinc1 (pc := 850) dX7_init_850 (fv_inc _) rfl ?_
  refine vz_goto (pc := 853) dX7_init_853 (tgt := 834) rfl ?_
  show vz_X D mX7_init _ _ _ _ _ 834 [some (.ref h), some (.int (nI 7))] [] ((h, .inr (7, [.ref q0, .ref q1, .ref q2, .int 0, .ref q3, .ref q4, .ref q5, .ref q6, .int 0, .int 0, .int 0, .ref q7, .int 0, .int 0, .int 0, .int 0, .long 0, .ref q8, .ref q9, .ref q10, .ref q11, .ref q12, .ref q13, .ref q14, .ref q15])) :: [(q0, .inl (D.2 0, 114, .inl (upd (upd (upd (upd (upd (upd (upd (upd (fun _ => 0) 3 1) 104 (-1)) 105 (-1)) 106 (-1)) 107 (-1)) 108 (-1)) 109 (-1)) 110 (-1)))), (q1, .inl (D.2 0, 114, .inl (fun _ => 0))), (q2, .inl (D.2 0, 114, .inl (fun _ => 0))), (q3, .inl (D.2 0, 7, .inl (fun _ => 0))), (q4, .inl (D.2 0, 8, .inl (fun _ => 0))), (q5, .inl (D.2 0, 5, .inl (fun _ => 0))), (q6, .inl (D.2 0, 5, .inl (fun _ => 0))), (q7, .inl (D.2 0, 120, .inl (fun _ => 0))), (q8, .inl (D.2 1, 56, .inl (vz_l vz_t0))), (q9, .inl (D.2 1, 24, .inl (vz_l vz_t1))), (q10, .inl (D.2 1, 16, .inl (vz_l vz_t2))), (q11, .inl (D.2 1, 24, .inl (vz_l vz_t3))), (q12, .inl (D.2 0, 4, .inl (fun _ => 0))), (q13, .inl (D.2 0, 4, .inl (fun _ => 0))), (q14, .inl (D.2 0, 160, .inl (fun _ => 0))), (q15, .inl (D.2 0, 40, .inl (fun _ => 0)))]) _ _
  refine vz_iload_n (pc := 834) dX7_init_834 rfl rfl ?_
  refine vz_bipush (pc := 835) (v := 10) dX7_init_835 rfl ?_
  refine vz_icmp_ge (pc := 837) dX7_init_837 (tgt := 856) rfl (fun h => absurd h (by decide +kernel)) (fun _ => ?_)
  refine vz_aload_n (pc := 840) dX7_init_840 rfl rfl ?_
  refine vz_geta (pc := 841) fl_X7_9 dX7_init_841 rfl ?_
  refine vz_bipush (pc := 844) (v := 104) dX7_init_844 rfl ?_
  refine vz_iload_n (pc := 846) dX7_init_846 rfl rfl ?_
  refine vz_iadd (pc := 847) dX7_init_847 ?_
  refine vz_iconst (pc := 848) (v := (-1)) dX7_init_848 fv_m1 ?_
  refine vz_ast (pc := 849) (r := 1) (t0 := 0) (c := 111) rfl rfl (nI_add 104 7) (by decide) (by decide) dX7_init_849 ?_
  refine vz_iinc1 (pc := 850) dX7_init_850 (fv_inc _) rfl ?_
  refine vz_goto (pc := 853) dX7_init_853 (tgt := 834) rfl ?_
  show vz_X D mX7_init _ _ _ _ _ 834 [some (.ref h), some (.int (nI 8))] [] ((h, .inr (7, [.ref q0, .ref q1, .ref q2, .int 0, .ref q3, .ref q4, .ref q5, .ref q6, .int 0, .int 0, .int 0, .ref q7, .int 0, .int 0, .int 0, .int 0, .long 0, .ref q8, .ref q9, .ref q10, .ref q11, .ref q12, .ref q13, .ref q14, .ref q15])) :: [(q0, .inl (D.2 0, 114, .inl (upd (upd (upd (upd (upd (upd (upd (upd (upd (fun _ => 0) 3 1) 104 (-1)) 105 (-1)) 106 (-1)) 107 (-1)) 108 (-1)) 109 (-1)) 110 (-1)) 111 (-1)))), (q1, .inl (D.2 0, 114, .inl (fun _ => 0))), (q2, .inl (D.2 0, 114, .inl (fun _ => 0))), (q3, .inl (D.2 0, 7, .inl (fun _ => 0))), (q4, .inl (D.2 0, 8, .inl (fun _ => 0))), (q5, .inl (D.2 0, 5, .inl (fun _ => 0))), (q6, .inl (D.2 0, 5, .inl (fun _ => 0))), (q7, .inl (D.2 0, 120, .inl (fun _ => 0))), (q8, .inl (D.2 1, 56, .inl (vz_l vz_t0))), (q9, .inl (D.2 1, 24, .inl (vz_l vz_t1))), (q10, .inl (D.2 1, 16, .inl (vz_l vz_t2))), (q11, .inl (D.2 1, 24, .inl (vz_l vz_t3))), (q12, .inl (D.2 0, 4, .inl (fun _ => 0))), (q13, .inl (D.2 0, 4, .inl (fun _ => 0))), (q14, .inl (D.2 0, 160, .inl (fun _ => 0))), (q15, .inl (D.2 0, 40, .inl (fun _ => 0)))]) _ _
  refine vz_iload_n (pc := 834) dX7_init_834 rfl rfl ?_
  refine vz_bipush (pc := 835) (v := 10) dX7_init_835 rfl ?_
  refine vz_icmp_ge (pc := 837) dX7_init_837 (tgt := 856) rfl (fun h => absurd h (by decide +kernel)) (fun _ => ?_)
  refine vz_aload_n (pc := 840) dX7_init_840 rfl rfl ?_
  refine vz_geta (pc := 841) fl_X7_9 dX7_init_841 rfl ?_
  refine vz_bipush (pc := 844) (v := 104) dX7_init_844 rfl ?_
  refine vz_iload_n (pc := 846) dX7_init_846 rfl rfl ?_
  refine vz_iadd (pc := 847) dX7_init_847 ?_
  refine vz_iconst (pc := 848) (v := (-1)) dX7_init_848 fv_m1 ?_
  refine vz_ast (pc := 849) (r := 1) (t0 := 0) (c := 112) rfl rfl (nI_add 104 8) (by decide) (by decide) dX7_init_849 ?_
  refine vz_iinc1 (pc := 850) dX7_init_850 (fv_inc _) rfl ?_
  refine vz_goto (pc := 853) dX7_init_853 (tgt := 834) rfl ?_
  show vz_X D mX7_init _ _ _ _ _ 834 [some (.ref h), some (.int (nI 9))] [] ((h, .inr (7, [.ref q0, .ref q1, .ref q2, .int 0, .ref q3, .ref q4, .ref q5, .ref q6, .int 0, .int 0, .int 0, .ref q7, .int 0, .int 0, .int 0, .int 0, .long 0, .ref q8, .ref q9, .ref q10, .ref q11, .ref q12, .ref q13, .ref q14, .ref q15])) :: [(q0, .inl (D.2 0, 114, .inl (upd (upd (upd (upd (upd (upd (upd (upd (upd (upd (fun _ => 0) 3 1) 104 (-1)) 105 (-1)) 106 (-1)) 107 (-1)) 108 (-1)) 109 (-1)) 110 (-1)) 111 (-1)) 112 (-1)))), (q1, .inl (D.2 0, 114, .inl (fun _ => 0))), (q2, .inl (D.2 0, 114, .inl (fun _ => 0))), (q3, .inl (D.2 0, 7, .inl (fun _ => 0))), (q4, .inl (D.2 0, 8, .inl (fun _ => 0))), (q5, .inl (D.2 0, 5, .inl (fun _ => 0))), (q6, .inl (D.2 0, 5, .inl (fun _ => 0))), (q7, .inl (D.2 0, 120, .inl (fun _ => 0))), (q8, .inl (D.2 1, 56, .inl (vz_l vz_t0))), (q9, .inl (D.2 1, 24, .inl (vz_l vz_t1))), (q10, .inl (D.2 1, 16, .inl (vz_l vz_t2))), (q11, .inl (D.2 1, 24, .inl (vz_l vz_t3))), (q12, .inl (D.2 0, 4, .inl (fun _ => 0))), (q13, .inl (D.2 0, 4, .inl (fun _ => 0))), (q14, .inl (D.2 0, 160, .inl (fun _ => 0))), (q15, .inl (D.2 0, 40, .inl (fun _ => 0)))]) _ _
  refine vz_iload_n (pc := 834) dX7_init_834 rfl rfl ?_
  refine vz_bipush (pc := 835) (v := 10) dX7_init_835 rfl ?_
  refine vz_icmp_ge (pc := 837) dX7_init_837 (tgt := 856) rfl (fun h => absurd h (by decide +kernel)) (fun _ => ?_)
  refine vz_aload_n (pc := 840) dX7_init_840 rfl rfl ?_
  refine vz_geta (pc := 841) fl_X7_9 dX7_init_841 rfl ?_
  refine vz_bipush (pc := 844) (v := 104) dX7_init_844 rfl ?_
  refine vz_iload_n (pc := 846) dX7_init_846 rfl rfl ?_
  refine vz_iadd (pc := 847) dX7_init_847 ?_
  refine vz_iconst (pc := 848) (v := (-1)) dX7_init_848 fv_m1 ?_
  refine vz_ast (pc := 849) (r := 1) (t0 := 0) (c := 113) rfl rfl (nI_add 104 9) (by decide) (by decide) dX7_init_849 ?_
  refine vz_iinc1 (pc := 850) dX7_init_850 (fv_inc _) rfl ?_
  refine vz_goto (pc := 853) dX7_init_853 (tgt := 834) rfl ?_
  show vz_X D mX7_init _ _ _ _ _ 834 [some (.ref h), some (.int (nI 10))] [] ((h, .inr (7, [.ref q0, .ref q1, .ref q2, .int 0, .ref q3, .ref q4, .ref q5, .ref q6, .int 0, .int 0, .int 0, .ref q7, .int 0, .int 0, .int 0, .int 0, .long 0, .ref q8, .ref q9, .ref q10, .ref q11, .ref q12, .ref q13, .ref q14, .ref q15])) :: [(q0, .inl (D.2 0, 114, .inl (upd (upd (upd (upd (upd (upd (upd (upd (upd (upd (upd (fun _ => 0) 3 1) 104 (-1)) 105 (-1)) 106 (-1)) 107 (-1)) 108 (-1)) 109 (-1)) 110 (-1)) 111 (-1)) 112 (-1)) 113 (-1)))), (q1, .inl (D.2 0, 114, .inl (fun _ => 0))), (q2, .inl (D.2 0, 114, .inl (fun _ => 0))), (q3, .inl (D.2 0, 7, .inl (fun _ => 0))), (q4, .inl (D.2 0, 8, .inl (fun _ => 0))), (q5, .inl (D.2 0, 5, .inl (fun _ => 0))), (q6, .inl (D.2 0, 5, .inl (fun _ => 0))), (q7, .inl (D.2 0, 120, .inl (fun _ => 0))), (q8, .inl (D.2 1, 56, .inl (vz_l vz_t0))), (q9, .inl (D.2 1, 24, .inl (vz_l vz_t1))), (q10, .inl (D.2 1, 16, .inl (vz_l vz_t2))), (q11, .inl (D.2 1, 24, .inl (vz_l vz_t3))), (q12, .inl (D.2 0, 4, .inl (fun _ => 0))), (q13, .inl (D.2 0, 4, .inl (fun _ => 0))), (q14, .inl (D.2 0, 160, .inl (fun _ => 0))), (q15, .inl (D.2 0, 40, .inl (fun _ => 0)))]) _ _
  refine vz_iload_n (pc := 834) dX7_init_834 rfl rfl ?_
  refine vz_bipush (pc := 835) (v := 10) dX7_init_835 rfl ?_
  refine vz_icmp_ge (pc := 837) dX7_init_837 (tgt := 856) rfl (fun _ => ?_) (fun h => absurd (by decide +kernel) h)
  refine vz_chi (r := 1) (f' := vz_s0) rfl (fun j hj => of_decide_eq_true (fv_all1 (p := fun j => decide ((upd (upd (upd (upd (upd (upd (upd (upd (upd (upd (upd (fun _ => 0) 3 1) 104 (-1)) 105 (-1)) 106 (-1)) 107 (-1)) 108 (-1)) 109 (-1)) 110 (-1)) 111 (-1)) 112 (-1)) 113 (-1)) j = vz_s0 j)) (n := 114) (by decide +kernel) hj)) ?_
  exact vz_ret (fun i => [q0, q1, q2, q3, q4, q5, q6, q7, q8, q9, q10, q11, q12, q13, q14, q15].getD i 0) (pc := 856) dX7_init_856 rfl (Nat.le_of_ble_eq_true rfl) (Nat.le_of_ble_eq_true rfl) rfl
