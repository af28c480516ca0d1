def vz_Fv (T : Nat → ClassId) (h : Nat) (q : Nat → Nat) : va_W := (h, .inr (6, [.ref (q 0), .ref (q 29), .ref (q 58), .int 0, .ref (q 87), .ref (q 92), .ref (q 93), .ref (q 96)])) :: (((vz_St T (q 0) (fun i => q (1 + i)) ++ vz_St T (q 29) (fun i => q (30 + i))) ++ vz_St T (q 58) (fun i => q (59 + i))) ++ [((q 87), .inr (5, [.int 0, .ref (q 88), .ref (q 89), .ref (q 90), .ref (q 91), .int 0, .int 0])), ((q 88), .inl (T 0, 120, .inl (fun _ => 0))), ((q 89), .inl (T 0, 121, .inl (fun _ => 0))), ((q 90), .inl (T 0, 121, .inl (fun _ => 0))), ((q 91), .inl (T 0, 121, .inl (fun _ => 0))), ((q 92), .inl (T 4, 4, .inr (.inr (.inr (.inr (fun k => some (q (97 + 2 * k)))))))), ((q 93), .inr (2, [.ref (q 94), .int 0, .int 0, .int 0, .ref (q 95), .int 0])), ((q 94), .inl (T 0, 5, .inl (fun _ => 0))), ((q 95), .inl (T 0, 5, .inl (fun _ => 0))), ((q 96), .inl (T 0, 7, .inl (fun _ => 0))), ((q 97), .inr (3, [.int 0, .int 0, .ref (q 98)])), ((q 98), .inl (T 0, 40, .inl (fun _ => 0))), ((q 99), .inr (3, [.int 0, .int 0, .ref (q 100)])), ((q 100), .inl (T 0, 40, .inl (fun _ => 0))), ((q 101), .inr (3, [.int 0, .int 0, .ref (q 102)])), ((q 102), .inl (T 0, 40, .inl (fun _ => 0))), ((q 103), .inr (3, [.int 0, .int 0, .ref (q 104)])), ((q 104), .inl (T 0, 40, .inl (fun _ => 0)))])
theorem vz_X6_init {D : vz_G} {h : Nat} : vz_C D 3 105 1115 mX6_init [.ref h] [(h, .inr (6, vz_d6))] (fun q => vz_Fv D.2 h q) := by
  refine vz_C.of (ls := [some (.ref h), none]) (by decide) (Nat.le_of_ble_eq_true rfl) rfl ?_
  refine vz_aload_n (pc := 0) dX6_init_0 rfl rfl ?_
  refine vz_object (pc := 1) (fv_mem 90 (by decide +kernel) rfl) vz_o2 vz_o3 rfl dX6_init_1 ?_
  refine vz_aload_n (pc := 4) dX6_init_4 rfl rfl ?_
  refine vz_new (pc := 5) (ci := 4) (fs := vz_d4) rfl vz_df4 (fv_mem 93 (by decide +kernel) rfl) (fv_mem 94 (by decide +kernel) rfl) (fv_mem 70 (by decide +kernel) rfl) dX6_init_5 (Nat.le_of_ble_eq_true rfl) (Nat.le_of_ble_eq_true rfl) (fun a1 => ?_)
  refine vz_dup (pc := 8) dX6_init_8 ?_
  refine vz_init (pc := 9) vz_X4_init (fv_mem 95 (by decide +kernel) rfl) (fv_mem 96 (by decide +kernel) rfl) wi_X4_init cw_X4_init rfl rfl ⟨by decide +kernel, by decide +kernel, by decide +kernel⟩ (by decide) (by decide) rfl (Nat.le_of_ble_eq_true rfl) dX6_init_9 (Nat.le_of_ble_eq_true rfl) (Nat.le_of_ble_eq_true rfl) (fun s1 => ?_)
  refine vz_put (pc := 12) fl_X6_12 (fun _ h => by cases h; rfl) rfl dX6_init_12 rfl rfl (Nat.le_of_ble_eq_true rfl) rfl ?_
  show vz_X D mX6_init _ _ _ _ _ 15 [some (.ref h), none] [] ((h, .inr (6, [.ref a1, .null, .null, .int 0, .null, .null, .null, .null])) :: vz_St D.2 a1 s1) _ _
  refine vz_aload_n (pc := 15) dX6_init_15 rfl rfl ?_
  refine vz_new (pc := 16) (ci := 4) (fs := vz_d4) rfl vz_df4 (fv_mem 93 (by decide +kernel) rfl) (fv_mem 94 (by decide +kernel) rfl) (fv_mem 70 (by decide +kernel) rfl) dX6_init_16 (Nat.le_of_ble_eq_true rfl) (Nat.le_of_ble_eq_true rfl) (fun a2 => ?_)
  refine vz_dup (pc := 19) dX6_init_19 ?_
  refine vz_init (pc := 20) vz_X4_init (fv_mem 95 (by decide +kernel) rfl) (fv_mem 96 (by decide +kernel) rfl) wi_X4_init cw_X4_init rfl rfl ⟨by decide +kernel, by decide +kernel, by decide +kernel⟩ (by decide) (by decide) rfl (Nat.le_of_ble_eq_true rfl) dX6_init_20 (Nat.le_of_ble_eq_true rfl) (Nat.le_of_ble_eq_true rfl) (fun s2 => ?_)
  refine vz_put (pc := 23) fl_X6_16 (fun _ h => by cases h; rfl) rfl dX6_init_23 rfl rfl (Nat.le_of_ble_eq_true rfl) rfl ?_
  show vz_X D mX6_init _ _ _ _ _ 26 [some (.ref h), none] [] ((h, .inr (6, [.ref a1, .ref a2, .null, .int 0, .null, .null, .null, .null])) :: (vz_St D.2 a1 s1 ++ vz_St D.2 a2 s2)) _ _
  refine vz_aload_n (pc := 26) dX6_init_26 rfl rfl ?_
  refine vz_new (pc := 27) (ci := 4) (fs := vz_d4) rfl vz_df4 (fv_mem 93 (by decide +kernel) rfl) (fv_mem 94 (by decide +kernel) rfl) (fv_mem 70 (by decide +kernel) rfl) dX6_init_27 (Nat.le_of_ble_eq_true rfl) (Nat.le_of_ble_eq_true rfl) (fun a3 => ?_)
  refine vz_dup (pc := 30) dX6_init_30 ?_
  refine vz_init (pc := 31) vz_X4_init (fv_mem 95 (by decide +kernel) rfl) (fv_mem 96 (by decide +kernel) rfl) wi_X4_init cw_X4_init rfl rfl ⟨by decide +kernel, by decide +kernel, by decide +kernel⟩ (by decide) (by decide) rfl (Nat.le_of_ble_eq_true rfl) dX6_init_31 (Nat.le_of_ble_eq_true rfl) (Nat.le_of_ble_eq_true rfl) (fun s3 => ?_)
  refine vz_put (pc := 34) fl_X6_19 (fun _ h => by cases h; rfl) rfl dX6_init_34 rfl rfl (Nat.le_of_ble_eq_true rfl) rfl ?_
  show vz_X D mX6_init _ _ _ _ _ 37 [some (.ref h), none] [] ((h, .inr (6, [.ref a1, .ref a2, .ref a3, .int 0, .null, .null, .null, .null])) :: ((vz_St D.2 a1 s1 ++ vz_St D.2 a2 s2) ++ vz_St D.2 a3 s3)) _ _
  refine vz_aload_n (pc := 37) dX6_init_37 rfl rfl ?_
  refine vz_iconst (pc := 38) (v := 0) dX6_init_38 rfl ?_
  refine vz_put (pc := 39) fl_X6_22 (fun _ h => by cases h; rfl) rfl dX6_init_39 rfl rfl (Nat.le_of_ble_eq_true rfl) rfl ?_
  refine vz_aload_n (pc := 42) dX6_init_42 rfl rfl ?_
  refine vz_new (pc := 43) (ci := 5) (fs := vz_d5) rfl vz_df5 (fv_mem 197 (by decide +kernel) rfl) (fv_mem 198 (by decide +kernel) rfl) (fv_mem 74 (by decide +kernel) rfl) dX6_init_43 (Nat.le_of_ble_eq_true rfl) (Nat.le_of_ble_eq_true rfl) (fun tp => ?_)
  refine vz_dup (pc := 46) dX6_init_46 ?_
  refine vz_initN (pc := 47) vz_X5_init (by decide) (fv_mem 200 (by decide +kernel) rfl) wi_X5_init cw_X5_init rfl rfl ⟨by decide +kernel, by decide +kernel, by decide +kernel⟩ (by decide) (by decide) rfl (Nat.le_of_ble_eq_true rfl) dX6_init_47 (Nat.le_of_ble_eq_true rfl) (Nat.le_of_ble_eq_true rfl) (fun tq => ?_)
  refine vz_put (pc := 50) fl_X6_29 (fun _ h => by cases h; rfl) rfl dX6_init_50 rfl rfl (Nat.le_of_ble_eq_true rfl) rfl ?_
  show vz_X D mX6_init _ _ _ _ _ 53 [some (.ref h), none] [] ((h, .inr (6, [.ref a1, .ref a2, .ref a3, .int 0, .ref tp, .null, .null, .null])) :: (((vz_St D.2 a1 s1 ++ vz_St D.2 a2 s2) ++ vz_St D.2 a3 s3) ++ [(tp, .inr (5, [.int 0, .ref (tq 0), .ref (tq 1), .ref (tq 2), .ref (tq 3), .int 0, .int 0])), ((tq 0), .inl (D.2 0, 120, .inl (fun _ => 0))), ((tq 1), .inl (D.2 0, 121, .inl (fun _ => 0))), ((tq 2), .inl (D.2 0, 121, .inl (fun _ => 0))), ((tq 3), .inl (D.2 0, 121, .inl (fun _ => 0)))])) _ _
  refine vz_aload_n (pc := 53) dX6_init_53 rfl rfl ?_
  refine vz_iconst (pc := 54) (v := 4) dX6_init_54 rfl ?_
  refine vz_newq (pc := 55) (N := 4) (t0 := 4) (C := RX3) rfl (fv_mem 226 (by decide +kernel) rfl) (fun _ h => h.2.2.2) dX6_init_55 rfl (by decide) (Nat.le_of_ble_eq_true rfl) (Nat.le_of_ble_eq_true rfl) (fun sa => ?_)
  refine vz_put (pc := 58) fl_X6_35 (fun _ h => by cases h; rfl) rfl dX6_init_58 rfl rfl (Nat.le_of_ble_eq_true rfl) rfl ?_
  show vz_X D mX6_init _ _ _ _ _ 61 [some (.ref h), none] [] ((h, .inr (6, [.ref a1, .ref a2, .ref a3, .int 0, .ref tp, .ref sa, .null, .null])) :: (((vz_St D.2 a1 s1 ++ vz_St D.2 a2 s2) ++ vz_St D.2 a3 s3) ++ [(tp, .inr (5, [.int 0, .ref (tq 0), .ref (tq 1), .ref (tq 2), .ref (tq 3), .int 0, .int 0])), ((tq 0), .inl (D.2 0, 120, .inl (fun _ => 0))), ((tq 1), .inl (D.2 0, 121, .inl (fun _ => 0))), ((tq 2), .inl (D.2 0, 121, .inl (fun _ => 0))), ((tq 3), .inl (D.2 0, 121, .inl (fun _ => 0))), (sa, .inl (D.2 4, 4, .inr (.inr (.inr (.inr (fun _ => none))))))])) _ _
  refine vz_aload_n (pc := 61) dX6_init_61 rfl rfl ?_
  refine vz_new (pc := 62) (ci := 2) (fs := vz_d2) rfl vz_df2 (fv_mem 228 (by decide +kernel) rfl) (fv_mem 229 (by decide +kernel) rfl) (fv_mem 75 (by decide +kernel) rfl) dX6_init_62 (Nat.le_of_ble_eq_true rfl) (Nat.le_of_ble_eq_true rfl) (fun oo => ?_)
  refine vz_dup (pc := 65) dX6_init_65 ?_
  refine vz_initN (pc := 66) vz_X2_init (by decide) (fv_mem 231 (by decide +kernel) rfl) wi_X2_init cw_X2_init rfl rfl ⟨by decide +kernel, by decide +kernel, by decide +kernel⟩ (by decide) (by decide) rfl (Nat.le_of_ble_eq_true rfl) dX6_init_66 (Nat.le_of_ble_eq_true rfl) (Nat.le_of_ble_eq_true rfl) (fun oq => ?_)
  refine vz_put (pc := 69) fl_X6_42 (fun _ h => by cases h; rfl) rfl dX6_init_69 rfl rfl (Nat.le_of_ble_eq_true rfl) rfl ?_
  show vz_X D mX6_init _ _ _ _ _ 72 [some (.ref h), none] [] ((h, .inr (6, [.ref a1, .ref a2, .ref a3, .int 0, .ref tp, .ref sa, .ref oo, .null])) :: (((vz_St D.2 a1 s1 ++ vz_St D.2 a2 s2) ++ vz_St D.2 a3 s3) ++ [(tp, .inr (5, [.int 0, .ref (tq 0), .ref (tq 1), .ref (tq 2), .ref (tq 3), .int 0, .int 0])), ((tq 0), .inl (D.2 0, 120, .inl (fun _ => 0))), ((tq 1), .inl (D.2 0, 121, .inl (fun _ => 0))), ((tq 2), .inl (D.2 0, 121, .inl (fun _ => 0))), ((tq 3), .inl (D.2 0, 121, .inl (fun _ => 0))), (sa, .inl (D.2 4, 4, .inr (.inr (.inr (.inr (fun _ => none)))))), (oo, .inr (2, [.ref (oq 0), .int 0, .int 0, .int 0, .ref (oq 1), .int 0])), ((oq 0), .inl (D.2 0, 5, .inl (fun _ => 0))), ((oq 1), .inl (D.2 0, 5, .inl (fun _ => 0)))])) _ _
  refine vz_aload_n (pc := 72) dX6_init_72 rfl rfl ?_
  refine vz_bipush (pc := 73) (v := 7) dX6_init_73 rfl ?_
  refine vz_newi (pc := 75) (N := 7) vz_o4 dX6_init_75 rfl (by decide) (Nat.le_of_ble_eq_true rfl) (Nat.le_of_ble_eq_true rfl) (fun fi => ?_)
  refine vz_put (pc := 77) fl_X6_46 (fun _ h => by cases h; rfl) rfl dX6_init_77 rfl rfl (Nat.le_of_ble_eq_true rfl) rfl ?_
  show vz_X D mX6_init _ _ _ _ _ 80 [some (.ref h), none] [] ((h, .inr (6, [.ref a1, .ref a2, .ref a3, .int 0, .ref tp, .ref sa, .ref oo, .ref fi])) :: (((vz_St D.2 a1 s1 ++ vz_St D.2 a2 s2) ++ vz_St D.2 a3 s3) ++ [(tp, .inr (5, [.int 0, .ref (tq 0), .ref (tq 1), .ref (tq 2), .ref (tq 3), .int 0, .int 0])), ((tq 0), .inl (D.2 0, 120, .inl (fun _ => 0))), ((tq 1), .inl (D.2 0, 121, .inl (fun _ => 0))), ((tq 2), .inl (D.2 0, 121, .inl (fun _ => 0))), ((tq 3), .inl (D.2 0, 121, .inl (fun _ => 0))), (sa, .inl (D.2 4, 4, .inr (.inr (.inr (.inr (fun _ => none)))))), (oo, .inr (2, [.ref (oq 0), .int 0, .int 0, .int 0, .ref (oq 1), .int 0])), ((oq 0), .inl (D.2 0, 5, .inl (fun _ => 0))), ((oq 1), .inl (D.2 0, 5, .inl (fun _ => 0))), (fi, .inl (D.2 0, 7, .inl (fun _ => 0)))])) _ _
  refine vz_iconst (pc := 80) (v := 0) dX6_init_80 rfl ?_
  refine vz_istore1 (pc := 81) dX6_init_81 rfl ?_
  show vz_X D mX6_init _ _ _ _ _ 82 [some (.ref h), some (.int (nI 0))] [] ((h, .inr (6, [.ref a1, .ref a2, .ref a3, .int 0, .ref tp, .ref sa, .ref oo, .ref fi])) :: (((vz_St D.2 a1 s1 ++ vz_St D.2 a2 s2) ++ vz_St D.2 a3 s3) ++ [(tp, .inr (5, [.int 0, .ref (tq 0), .ref (tq 1), .ref (tq 2), .ref (tq 3), .int 0, .int 0])), ((tq 0), .inl (D.2 0, 120, .inl (fun _ => 0))), ((tq 1), .inl (D.2 0, 121, .inl (fun _ => 0))), ((tq 2), .inl (D.2 0, 121, .inl (fun _ => 0))), ((tq 3), .inl (D.2 0, 121, .inl (fun _ => 0))), (sa, .inl (D.2 4, 4, .inr (.inr (.inr (.inr (fun _ => none)))))), (oo, .inr (2, [.ref (oq 0), .int 0, .int 0, .int 0, .ref (oq 1), .int 0])), ((oq 0), .inl (D.2 0, 5, .inl (fun _ => 0))), ((oq 1), .inl (D.2 0, 5, .inl (fun _ => 0))), (fi, .inl (D.2 0, 7, .inl (fun _ => 0)))])) _ _
  refine vz_iload_n (pc := 82) dX6_init_82 rfl rfl ?_
  refine vz_iconst (pc := 83) (v := 4) dX6_init_83 rfl ?_
  refine vz_icmp_ge (pc := 84) dX6_init_84 (tgt := 106) rfl (fun h => absurd h (by decide +kernel)) (fun _ => ?_)
  refine vz_aload_n (pc := 87) dX6_init_87 rfl rfl ?_
  refine vz_geta (pc := 88) fl_X6_35 dX6_init_88 rfl ?_
  refine vz_iload_n (pc := 91) dX6_init_91 rfl rfl ?_
  refine vz_new (pc := 92) (ci := 3) (fs := vz_d3) rfl vz_df3 (fv_mem 226 (by decide +kernel) rfl) (fv_mem 257 (by decide +kernel) rfl) (fv_mem 76 (by decide +kernel) rfl) dX6_init_92 (Nat.le_of_ble_eq_true rfl) (Nat.le_of_ble_eq_true rfl) (fun h0 => ?_)
  refine vz_dup (pc := 95) dX6_init_95 ?_
  refine vz_initN (pc := 96) vz_X3_init (by decide) (fv_mem 259 (by decide +kernel) rfl) wi_X3_init cw_X3_init rfl rfl ⟨by decide +kernel, by decide +kernel, by decide +kernel⟩ (by decide) (by decide) rfl (Nat.le_of_ble_eq_true rfl) dX6_init_96 (Nat.le_of_ble_eq_true rfl) (Nat.le_of_ble_eq_true rfl) (fun g0 => ?_)
  refine vz_astq (pc := 99) (r := 93) (qk := 98) (t0 := 4) (ci := 3) (c := 0) rfl rfl rfl rfl rfl (by decide) (by decide) dX6_init_99 ?_
  refine vz_iinc1 (pc := 100) dX6_init_100 (fv_inc _) rfl ?_
  refine vz_goto (pc := 103) dX6_init_103 (tgt := 82) rfl ?_
  show vz_X D mX6_init _ _ _ _ _ 82 [some (.ref h), some (.int (nI 1))] [] ((h, .inr (6, [.ref a1, .ref a2, .ref a3, .int 0, .ref tp, .ref sa, .ref oo, .ref fi])) :: (((vz_St D.2 a1 s1 ++ vz_St D.2 a2 s2) ++ vz_St D.2 a3 s3) ++ [(tp, .inr (5, [.int 0, .ref (tq 0), .ref (tq 1), .ref (tq 2), .ref (tq 3), .int 0, .int 0])), ((tq 0), .inl (D.2 0, 120, .inl (fun _ => 0))), ((tq 1), .inl (D.2 0, 121, .inl (fun _ => 0))), ((tq 2), .inl (D.2 0, 121, .inl (fun _ => 0))), ((tq 3), .inl (D.2 0, 121, .inl (fun _ => 0))), (sa, .inl (D.2 4, 4, .inr (.inr (.inr (.inr (va_up (fun _ => none) 0 (some h0))))))), (oo, .inr (2, [.ref (oq 0), .int 0, .int 0, .int 0, .ref (oq 1), .int 0])), ((oq 0), .inl (D.2 0, 5, .inl (fun _ => 0))), ((oq 1), .inl (D.2 0, 5, .inl (fun _ => 0))), (fi, .inl (D.2 0, 7, .inl (fun _ => 0))), (h0, .inr (3, [.int 0, .int 0, .ref (g0 0)])), ((g0 0), .inl (D.2 0, 40, .inl (fun _ => 0)))])) _ _
  refine vz_iload_n (pc := 82) dX6_init_82 rfl rfl ?_
  refine vz_iconst (pc := 83) (v := 4) dX6_init_83 rfl ?_
  refine vz_icmp_ge (pc := 84) dX6_init_84 (tgt := 106) rfl (fun h => absurd h (by decide +kernel)) (fun _ => ?_)
  refine vz_aload_n (pc := 87) dX6_init_87 rfl rfl ?_
  refine vz_geta (pc := 88) fl_X6_35 dX6_init_88 rfl ?_
  refine vz_iload_n (pc := 91) dX6_init_91 rfl rfl ?_
  refine vz_new (pc := 92) (ci := 3) (fs := vz_d3) rfl vz_df3 (fv_mem 226 (by decide +kernel) rfl) (fv_mem 257 (by decide +kernel) rfl) (fv_mem 76 (by decide +kernel) rfl) dX6_init_92 (Nat.le_of_ble_eq_true rfl) (Nat.le_of_ble_eq_true rfl) (fun h1 => ?_)
  refine vz_dup (pc := 95) dX6_init_95 ?_
  refine vz_initN (pc := 96) vz_X3_init (by decide) (fv_mem 259 (by decide +kernel) rfl) wi_X3_init cw_X3_init rfl rfl ⟨by decide +kernel, by decide +kernel, by decide +kernel⟩ (by decide) (by decide) rfl (Nat.le_of_ble_eq_true rfl) dX6_init_96 (Nat.le_of_ble_eq_true rfl) (Nat.le_of_ble_eq_true rfl) (fun g1 => ?_)
  refine vz_astq (pc := 99) (r := 93) (qk := 100) (t0 := 4) (ci := 3) (c := 1) rfl rfl rfl rfl rfl (by decide) (by decide) dX6_init_99 ?_
  refine vz_iinc1 (pc := 100) dX6_init_100 (fv_inc _) rfl ?_
  refine vz_goto (pc := 103) dX6_init_103 (tgt := 82) rfl ?_
  show vz_X D mX6_init _ _ _ _ _ 82 [some (.ref h), some (.int (nI 2))] [] ((h, .inr (6, [.ref a1, .ref a2, .ref a3, .int 0, .ref tp, .ref sa, .ref oo, .ref fi])) :: (((vz_St D.2 a1 s1 ++ vz_St D.2 a2 s2) ++ vz_St D.2 a3 s3) ++ [(tp, .inr (5, [.int 0, .ref (tq 0), .ref (tq 1), .ref (tq 2), .ref (tq 3), .int 0, .int 0])), ((tq 0), .inl (D.2 0, 120, .inl (fun _ => 0))), ((tq 1), .inl (D.2 0, 121, .inl (fun _ => 0))), ((tq 2), .inl (D.2 0, 121, .inl (fun _ => 0))), ((tq 3), .inl (D.2 0, 121, .inl (fun _ => 0))), (sa, .inl (D.2 4, 4, .inr (.inr (.inr (.inr (va_up (va_up (fun _ => none) 0 (some h0)) 1 (some h1))))))), (oo, .inr (2, [.ref (oq 0), .int 0, .int 0, .int 0, .ref (oq 1), .int 0])), ((oq 0), .inl (D.2 0, 5, .inl (fun _ => 0))), ((oq 1), .inl (D.2 0, 5, .inl (fun _ => 0))), (fi, .inl (D.2 0, 7, .inl (fun _ => 0))), (h0, .inr (3, [.int 0, .int 0, .ref (g0 0)])), ((g0 0), .inl (D.2 0, 40, .inl (fun _ => 0))), (h1, .inr (3, [.int 0, .int 0, .ref (g1 0)])), ((g1 0), .inl (D.2 0, 40, .inl (fun _ => 0)))])) _ _
  refine vz_iload_n (pc := 82) dX6_init_82 rfl rfl ?_
  refine vz_iconst (pc := 83) (v := 4) dX6_init_83 rfl ?_
  refine vz_icmp_ge (pc := 84) dX6_init_84 (tgt := 106) rfl (fun h => absurd h (by decide +kernel)) (fun _ => ?_)
  refine vz_aload_n (pc := 87) dX6_init_87 rfl rfl ?_
  refine vz_geta (pc := 88) fl_X6_35 dX6_init_88 rfl ?_
  refine vz_iload_n (pc := 91) dX6_init_91 rfl rfl ?_
  refine vz_new (pc := 92) (ci := 3) (fs := vz_d3) rfl vz_df3 (fv_mem 226 (by decide +kernel) rfl) (fv_mem 257 (by decide +kernel) rfl) (fv_mem 76 (by decide +kernel) rfl) dX6_init_92 (Nat.le_of_ble_eq_true rfl) (Nat.le_of_ble_eq_true rfl) (fun h2 => ?_)
  refine vz_dup (pc := 95) dX6_init_95 ?_
  refine vz_initN (pc := 96) vz_X3_init (by decide) (fv_mem 259 (by decide +kernel) rfl) wi_X3_init cw_X3_init rfl rfl ⟨by decide +kernel, by decide +kernel, by decide +kernel⟩ (by decide) (by decide) rfl (Nat.le_of_ble_eq_true rfl) dX6_init_96 (Nat.le_of_ble_eq_true rfl) (Nat.le_of_ble_eq_true rfl) (fun g2 => ?_)
  refine vz_astq (pc := 99) (r := 93) (qk := 102) (t0 := 4) (ci := 3) (c := 2) rfl rfl rfl rfl rfl (by decide) (by decide) dX6_init_99 ?_
  refine vz_iinc1 (pc := 100) dX6_init_100 (fv_inc _) rfl ?_
  refine vz_goto (pc := 103) dX6_init_103 (tgt := 82) rfl ?_
  show vz_X D mX6_init _ _ _ _ _ 82 [some (.ref h), some (.int (nI 3))] [] ((h, .inr (6, [.ref a1, .ref a2, .ref a3, .int 0, .ref tp, .ref sa, .ref oo, .ref fi])) :: (((vz_St D.2 a1 s1 ++ vz_St D.2 a2 s2) ++ vz_St D.2 a3 s3) ++ [(tp, .inr (5, [.int 0, .ref (tq 0), .ref (tq 1), .ref (tq 2), .ref (tq 3), .int 0, .int 0])), ((tq 0), .inl (D.2 0, 120, .inl (fun _ => 0))), ((tq 1), .inl (D.2 0, 121, .inl (fun _ => 0))), ((tq 2), .inl (D.2 0, 121, .inl (fun _ => 0))), ((tq 3), .inl (D.2 0, 121, .inl (fun _ => 0))), (sa, .inl (D.2 4, 4, .inr (.inr (.inr (.inr (va_up (va_up (va_up (fun _ => none) 0 (some h0)) 1 (some h1)) 2 (some h2))))))), (oo, .inr (2, [.ref (oq 0), .int 0, .int 0, .int 0, .ref (oq 1), .int 0])), ((oq 0), .inl (D.2 0, 5, .inl (fun _ => 0))), ((oq 1), .inl (D.2 0, 5, .inl (fun _ => 0))), (fi, .inl (D.2 0, 7, .inl (fun _ => 0))), (h0, .inr (3, [.int 0, .int 0, .ref (g0 0)])), ((g0 0), .inl (D.2 0, 40, .inl (fun _ => 0))), (h1, .inr (3, [.int 0, .int 0, .ref (g1 0)])), ((g1 0), .inl (D.2 0, 40, .inl (fun _ => 0))), (h2, .inr (3, [.int 0, .int 0, .ref (g2 0)])), ((g2 0), .inl (D.2 0, 40, .inl (fun _ => 0)))])) _ _
  refine vz_iload_n (pc := 82) dX6_init_82 rfl rfl ?_
  refine vz_iconst (pc := 83) (v := 4) dX6_init_83 rfl ?_
  refine vz_icmp_ge (pc := 84) dX6_init_84 (tgt := 106) rfl (fun h => absurd h (by decide +kernel)) (fun _ => ?_)
  refine vz_aload_n (pc := 87) dX6_init_87 rfl rfl ?_
  refine vz_geta (pc := 88) fl_X6_35 dX6_init_88 rfl ?_
  refine vz_iload_n (pc := 91) dX6_init_91 rfl rfl ?_
  refine vz_new (pc := 92) (ci := 3) (fs := vz_d3) rfl vz_df3 (fv_mem 226 (by decide +kernel) rfl) (fv_mem 257 (by decide +kernel) rfl) (fv_mem 76 (by decide +kernel) rfl) dX6_init_92 (Nat.le_of_ble_eq_true rfl) (Nat.le_of_ble_eq_true rfl) (fun h3 => ?_)
  refine vz_dup (pc := 95) dX6_init_95 ?_
  refine vz_initN (pc := 96) vz_X3_init (by decide) (fv_mem 259 (by decide +kernel) rfl) wi_X3_init cw_X3_init rfl rfl ⟨by decide +kernel, by decide +kernel, by decide +kernel⟩ (by decide) (by decide) rfl (Nat.le_of_ble_eq_true rfl) dX6_init_96 (Nat.le_of_ble_eq_true rfl) (Nat.le_of_ble_eq_true rfl) (fun g3 => ?_)
  refine vz_astq (pc := 99) (r := 93) (qk := 104) (t0 := 4) (ci := 3) (c := 3) rfl rfl rfl rfl rfl (by decide) (by decide) dX6_init_99 ?_
  refine vz_iinc1 (pc := 100) dX6_init_100 (fv_inc _) rfl ?_
  refine vz_goto (pc := 103) dX6_init_103 (tgt := 82) rfl ?_
  show vz_X D mX6_init _ _ _ _ _ 82 [some (.ref h), some (.int (nI 4))] [] ((h, .inr (6, [.ref a1, .ref a2, .ref a3, .int 0, .ref tp, .ref sa, .ref oo, .ref fi])) :: (((vz_St D.2 a1 s1 ++ vz_St D.2 a2 s2) ++ vz_St D.2 a3 s3) ++ [(tp, .inr (5, [.int 0, .ref (tq 0), .ref (tq 1), .ref (tq 2), .ref (tq 3), .int 0, .int 0])), ((tq 0), .inl (D.2 0, 120, .inl (fun _ => 0))), ((tq 1), .inl (D.2 0, 121, .inl (fun _ => 0))), ((tq 2), .inl (D.2 0, 121, .inl (fun _ => 0))), ((tq 3), .inl (D.2 0, 121, .inl (fun _ => 0))), (sa, .inl (D.2 4, 4, .inr (.inr (.inr (.inr (va_up (va_up (va_up (va_up (fun _ => none) 0 (some h0)) 1 (some h1)) 2 (some h2)) 3 (some h3))))))), (oo, .inr (2, [.ref (oq 0), .int 0, .int 0, .int 0, .ref (oq 1), .int 0])), ((oq 0), .inl (D.2 0, 5, .inl (fun _ => 0))), ((oq 1), .inl (D.2 0, 5, .inl (fun _ => 0))), (fi, .inl (D.2 0, 7, .inl (fun _ => 0))), (h0, .inr (3, [.int 0, .int 0, .ref (g0 0)])), ((g0 0), .inl (D.2 0, 40, .inl (fun _ => 0))), (h1, .inr (3, [.int 0, .int 0, .ref (g1 0)])), ((g1 0), .inl (D.2 0, 40, .inl (fun _ => 0))), (h2, .inr (3, [.int 0, .int 0, .ref (g2 0)])), ((g2 0), .inl (D.2 0, 40, .inl (fun _ => 0))), (h3, .inr (3, [.int 0, .int 0, .ref (g3 0)])), ((g3 0), .inl (D.2 0, 40, .inl (fun _ => 0)))])) _ _
  refine vz_iload_n (pc := 82) dX6_init_82 rfl rfl ?_
  refine vz_iconst (pc := 83) (v := 4) dX6_init_83 rfl ?_
  refine vz_icmp_ge (pc := 84) dX6_init_84 (tgt := 106) rfl (fun _ => ?_) (fun h => absurd (by decide +kernel) h)
  obtain ⟨Q, hQ⟩ : ∃ Q : Nat → Nat, Q = fun i => if i = 0 then a1 else if i < 29 then s1 (i - 1) else if i = 29 then a2 else if i < 58 then s2 (i - 30) else if i = 58 then a3 else if i < 87 then s3 (i - 59) else [tp, tq 0, tq 1, tq 2, tq 3, sa, oo, oq 0, oq 1, fi, h0, g0 0, h1, g1 0, h2, g2 0, h3, g3 0].getD (i - 87) 0 := ⟨_, rfl⟩
  refine vz_chg (r := 2) (f' := fun k => some (Q (1 + (4 + 2 * k)))) rfl (fun j hj => by subst hQ; rcases (show j = 0 ∨ j = 1 ∨ j = 2 ∨ j = 3 ∨ j = 4 ∨ j = 5 ∨ j = 6 ∨ j = 7 by omega) with rfl | rfl | rfl | rfl | rfl | rfl | rfl | rfl <;> rfl) ?_
  refine vz_chg (r := 3) (f' := fun k => some (Q (1 + (20 + k)))) rfl (fun j hj => by subst hQ; rcases (show j = 0 ∨ j = 1 ∨ j = 2 ∨ j = 3 ∨ j = 4 ∨ j = 5 ∨ j = 6 ∨ j = 7 by omega) with rfl | rfl | rfl | rfl | rfl | rfl | rfl | rfl <;> rfl) ?_
  refine vz_chg (r := 31) (f' := fun k => some (Q (30 + (4 + 2 * k)))) rfl (fun j hj => by subst hQ; rcases (show j = 0 ∨ j = 1 ∨ j = 2 ∨ j = 3 ∨ j = 4 ∨ j = 5 ∨ j = 6 ∨ j = 7 by omega) with rfl | rfl | rfl | rfl | rfl | rfl | rfl | rfl <;> rfl) ?_
  refine vz_chg (r := 32) (f' := fun k => some (Q (30 + (20 + k)))) rfl (fun j hj => by subst hQ; rcases (show j = 0 ∨ j = 1 ∨ j = 2 ∨ j = 3 ∨ j = 4 ∨ j = 5 ∨ j = 6 ∨ j = 7 by omega) with rfl | rfl | rfl | rfl | rfl | rfl | rfl | rfl <;> rfl) ?_
  refine vz_chg (r := 60) (f' := fun k => some (Q (59 + (4 + 2 * k)))) rfl (fun j hj => by subst hQ; rcases (show j = 0 ∨ j = 1 ∨ j = 2 ∨ j = 3 ∨ j = 4 ∨ j = 5 ∨ j = 6 ∨ j = 7 by omega) with rfl | rfl | rfl | rfl | rfl | rfl | rfl | rfl <;> rfl) ?_
  refine vz_chg (r := 61) (f' := fun k => some (Q (59 + (20 + k)))) rfl (fun j hj => by subst hQ; rcases (show j = 0 ∨ j = 1 ∨ j = 2 ∨ j = 3 ∨ j = 4 ∨ j = 5 ∨ j = 6 ∨ j = 7 by omega) with rfl | rfl | rfl | rfl | rfl | rfl | rfl | rfl <;> rfl) ?_
  refine vz_chg (r := 93) (f' := fun k => some (Q (97 + 2 * k))) rfl (fun j hj => by subst hQ; rcases (show j = 0 ∨ j = 1 ∨ j = 2 ∨ j = 3 by omega) with rfl | rfl | rfl | rfl <;> rfl) ?_
  refine vz_ret Q (pc := 106) dX6_init_106 rfl (Nat.le_of_ble_eq_true rfl) (Nat.le_of_ble_eq_true rfl) ?_
  subst hQ
  rfl
