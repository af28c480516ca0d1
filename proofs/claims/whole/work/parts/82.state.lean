def vz_St (T : Nat → ClassId) (h : Nat) (q : Nat → Nat) : va_W := [(h, .inr (4, [.ref (q 0), .ref (q 1), .ref (q 2), .ref (q 3), .int 0, .int 0, .int 0, .int 1])), ((q 0), .inl (T 2, 8, .inr (.inr (.inr (.inr (fun k => some (q (4 + 2 * k)))))))), ((q 1), .inl (T 3, 8, .inr (.inr (.inr (.inr (fun k => some (q (20 + k)))))))), ((q 2), .inl (T 0, 4, .inl (fun _ => 0))), ((q 3), .inl (T 0, 10, .inl (fun c => if c < 10 then -1 else 0))), (q 4, .inr (0, [.int 0, .int 0, .int 0, .ref (q 5)])), (q 5, .inl (T 0, 4, .inl (fun _ => 0))), (q 6, .inr (0, [.int 0, .int 0, .int 0, .ref (q 7)])), (q 7, .inl (T 0, 4, .inl (fun _ => 0))), (q 8, .inr (0, [.int 0, .int 0, .int 0, .ref (q 9)])), (q 9, .inl (T 0, 4, .inl (fun _ => 0))), (q 10, .inr (0, [.int 0, .int 0, .int 0, .ref (q 11)])), (q 11, .inl (T 0, 4, .inl (fun _ => 0))), (q 12, .inr (0, [.int 0, .int 0, .int 0, .ref (q 13)])), (q 13, .inl (T 0, 4, .inl (fun _ => 0))), (q 14, .inr (0, [.int 0, .int 0, .int 0, .ref (q 15)])), (q 15, .inl (T 0, 4, .inl (fun _ => 0))), (q 16, .inr (0, [.int 0, .int 0, .int 0, .ref (q 17)])), (q 17, .inl (T 0, 4, .inl (fun _ => 0))), (q 18, .inr (0, [.int 0, .int 0, .int 0, .ref (q 19)])), (q 19, .inl (T 0, 4, .inl (fun _ => 0))), (q 20, .inr (1, [.int 0, .int 0, .int 0, .int 0, .int 0])), (q 21, .inr (1, [.int 0, .int 0, .int 0, .int 0, .int 0])), (q 22, .inr (1, [.int 0, .int 0, .int 0, .int 0, .int 0])), (q 23, .inr (1, [.int 0, .int 0, .int 0, .int 0, .int 0])), (q 24, .inr (1, [.int 0, .int 0, .int 0, .int 0, .int 0])), (q 25, .inr (1, [.int 0, .int 0, .int 0, .int 0, .int 0])), (q 26, .inr (1, [.int 0, .int 0, .int 0, .int 0, .int 0])), (q 27, .inr (1, [.int 0, .int 0, .int 0, .int 0, .int 0]))]
theorem vz_X4_init {D : vz_G} {h : Nat} : vz_C D 2 28 134 mX4_init [.ref h] [(h, .inr (4, vz_d4))] (fun q => vz_St D.2 h q) := by
  refine vz_C.of (ls := [some (.ref h), none]) (by decide) (Nat.le_of_ble_eq_true rfl) rfl ?_
  refine vz_aload_n (pc := 0) dX4_init_0 rfl rfl ?_
  refine vz_object (pc := 1) (fv_mem 98 (by decide +kernel) rfl) vz_o2 vz_o3 rfl dX4_init_1 ?_
  refine vz_aload_n (pc := 4) dX4_init_4 rfl rfl ?_
  refine vz_bipush (pc := 5) (v := 8) dX4_init_5 rfl ?_
  refine vz_newq (pc := 7) (N := 8) (t0 := 2) (C := RX0) rfl (fv_mem 99 (by decide +kernel) rfl) (fun _ h => h.2.1) dX4_init_7 rfl (by decide) (Nat.le_of_ble_eq_true rfl) (Nat.le_of_ble_eq_true rfl) (fun q0 => ?_)
  refine vz_put (pc := 10) fl_X4_11 (fun _ h => by cases h; rfl) rfl dX4_init_10 rfl rfl (Nat.le_of_ble_eq_true rfl) rfl ?_
  refine vz_aload_n (pc := 13) dX4_init_13 rfl rfl ?_
  refine vz_bipush (pc := 14) (v := 8) dX4_init_14 rfl ?_
  refine vz_newq (pc := 16) (N := 8) (t0 := 3) (C := RX1) rfl (fv_mem 101 (by decide +kernel) rfl) (fun _ h => h.2.2.1) dX4_init_16 rfl (by decide) (Nat.le_of_ble_eq_true rfl) (Nat.le_of_ble_eq_true rfl) (fun q1 => ?_)
  refine vz_put (pc := 19) fl_X4_19 (fun _ h => by cases h; rfl) rfl dX4_init_19 rfl rfl (Nat.le_of_ble_eq_true rfl) rfl ?_
  refine vz_aload_n (pc := 22) dX4_init_22 rfl rfl ?_
  refine vz_iconst (pc := 23) (v := 4) dX4_init_23 rfl ?_
  refine vz_newi (pc := 24) (N := 4) vz_o4 dX4_init_24 rfl (by decide) (Nat.le_of_ble_eq_true rfl) (Nat.le_of_ble_eq_true rfl) (fun q2 => ?_)
  refine vz_put (pc := 26) fl_X4_23 (fun _ h => by cases h; rfl) rfl dX4_init_26 rfl rfl (Nat.le_of_ble_eq_true rfl) rfl ?_
  refine vz_aload_n (pc := 29) dX4_init_29 rfl rfl ?_
  refine vz_bipush (pc := 30) (v := 10) dX4_init_30 rfl ?_
  refine vz_newi (pc := 32) (N := 10) vz_o4 dX4_init_32 rfl (by decide) (Nat.le_of_ble_eq_true rfl) (Nat.le_of_ble_eq_true rfl) (fun q3 => ?_)
  refine vz_put (pc := 34) fl_X4_27 (fun _ h => by cases h; rfl) rfl dX4_init_34 rfl rfl (Nat.le_of_ble_eq_true rfl) rfl ?_
  refine vz_aload_n (pc := 37) dX4_init_37 rfl rfl ?_
  refine vz_iconst (pc := 38) (v := 0) dX4_init_38 rfl ?_
  refine vz_put (pc := 39) fl_X4_30 (fun _ h => by cases h; rfl) rfl dX4_init_39 rfl rfl (Nat.le_of_ble_eq_true rfl) rfl ?_
  refine vz_aload_n (pc := 42) dX4_init_42 rfl rfl ?_
  refine vz_iconst (pc := 43) (v := 0) dX4_init_43 rfl ?_
  refine vz_put (pc := 44) fl_X4_34 (fun _ h => by cases h; rfl) rfl dX4_init_44 rfl rfl (Nat.le_of_ble_eq_true rfl) rfl ?_
  refine vz_aload_n (pc := 47) dX4_init_47 rfl rfl ?_
  refine vz_iconst (pc := 48) (v := 0) dX4_init_48 rfl ?_
  refine vz_put (pc := 49) fl_X4_37 (fun _ h => by cases h; rfl) rfl dX4_init_49 rfl rfl (Nat.le_of_ble_eq_true rfl) rfl ?_
  refine vz_aload_n (pc := 52) dX4_init_52 rfl rfl ?_
  refine vz_iconst (pc := 53) (v := 1) dX4_init_53 rfl ?_
  refine vz_put (pc := 54) fl_X4_40 (fun _ h => by cases h; rfl) rfl dX4_init_54 rfl rfl (Nat.le_of_ble_eq_true rfl) rfl ?_
  refine vz_iconst (pc := 57) (v := 0) dX4_init_57 rfl ?_
  refine vz_istore1 (pc := 58) dX4_init_58 rfl ?_
  show vz_X D mX4_init _ _ _ _ _ 59 [some (.ref h), some (.int (nI 0))] [] [(h, .inr (4, [.ref q0, .ref q1, .ref q2, .ref q3, .int 0, .int 0, .int 0, .int 1])), (q0, .inl (D.2 2, 8, .inr (.inr (.inr (.inr (fun _ => none)))))), (q1, .inl (D.2 3, 8, .inr (.inr (.inr (.inr (fun _ => none)))))), (q2, .inl (D.2 0, 4, .inl (fun _ => 0))), (q3, .inl (D.2 0, 10, .inl (fun _ => 0)))] _ _
  refine vz_iload_n (pc := 59) dX4_init_59 rfl rfl ?_
  refine vz_bipush (pc := 60) (v := 8) dX4_init_60 rfl ?_
  refine vz_icmp_ge (pc := 62) dX4_init_62 (tgt := 84) rfl (fun h => absurd h (by decide +kernel)) (fun _ => ?_)
  refine vz_aload_n (pc := 65) dX4_init_65 rfl rfl ?_
  refine vz_geta (pc := 66) fl_X4_11 dX4_init_66 rfl ?_
  refine vz_iload_n (pc := 69) dX4_init_69 rfl rfl ?_
  refine vz_new (pc := 70) (ci := 0) (fs := vz_d0) rfl vz_df0 (fv_mem 99 (by decide +kernel) rfl) (fv_mem 103 (by decide +kernel) rfl) (fv_mem 71 (by decide +kernel) rfl) dX4_init_70 (Nat.le_of_ble_eq_true rfl) (Nat.le_of_ble_eq_true rfl) (fun b0 => ?_)
  refine vz_dup (pc := 73) dX4_init_73 ?_
  refine vz_initN (pc := 74) vz_X0_init (by decide) (fv_mem 105 (by decide +kernel) rfl) wi_X0_init cw_X0_init rfl rfl ⟨by decide +kernel, by decide +kernel, by decide +kernel⟩ (by decide) (by decide) rfl (Nat.le_of_ble_eq_true rfl) dX4_init_74 (Nat.le_of_ble_eq_true rfl) (Nat.le_of_ble_eq_true rfl) (fun u0 => ?_)
  refine vz_astq (pc := 77) (r := 1) (qk := 5) (t0 := 2) (ci := 0) (c := 0) rfl rfl rfl rfl rfl (by decide) (by decide) dX4_init_77 ?_
  refine vz_iinc1 (pc := 78) dX4_init_78 (fv_inc _) rfl ?_
  refine vz_goto (pc := 81) dX4_init_81 (tgt := 59) rfl ?_
  show vz_X D mX4_init _ _ _ _ _ 59 [some (.ref h), some (.int (nI 1))] [] [(h, .inr (4, [.ref q0, .ref q1, .ref q2, .ref q3, .int 0, .int 0, .int 0, .int 1])), (q0, .inl (D.2 2, 8, .inr (.inr (.inr (.inr (va_up (fun _ => none) 0 (some b0))))))), (q1, .inl (D.2 3, 8, .inr (.inr (.inr (.inr (fun _ => none)))))), (q2, .inl (D.2 0, 4, .inl (fun _ => 0))), (q3, .inl (D.2 0, 10, .inl (fun _ => 0))), (b0, .inr (0, [.int 0, .int 0, .int 0, .ref (u0 0)])), (u0 0, .inl (D.2 0, 4, .inl (fun _ => 0)))] _ _
  refine vz_iload_n (pc := 59) dX4_init_59 rfl rfl ?_
  refine vz_bipush (pc := 60) (v := 8) dX4_init_60 rfl ?_
  refine vz_icmp_ge (pc := 62) dX4_init_62 (tgt := 84) rfl (fun h => absurd h (by decide +kernel)) (fun _ => ?_)
  refine vz_aload_n (pc := 65) dX4_init_65 rfl rfl ?_
  refine vz_geta (pc := 66) fl_X4_11 dX4_init_66 rfl ?_
  refine vz_iload_n (pc := 69) dX4_init_69 rfl rfl ?_
  refine vz_new (pc := 70) (ci := 0) (fs := vz_d0) rfl vz_df0 (fv_mem 99 (by decide +kernel) rfl) (fv_mem 103 (by decide +kernel) rfl) (fv_mem 71 (by decide +kernel) rfl) dX4_init_70 (Nat.le_of_ble_eq_true rfl) (Nat.le_of_ble_eq_true rfl) (fun b1 => ?_)
  refine vz_dup (pc := 73) dX4_init_73 ?_
  refine vz_initN (pc := 74) vz_X0_init (by decide) (fv_mem 105 (by decide +kernel) rfl) wi_X0_init cw_X0_init rfl rfl ⟨by decide +kernel, by decide +kernel, by decide +kernel⟩ (by decide) (by decide) rfl (Nat.le_of_ble_eq_true rfl) dX4_init_74 (Nat.le_of_ble_eq_true rfl) (Nat.le_of_ble_eq_true rfl) (fun u1 => ?_)
  refine vz_astq (pc := 77) (r := 1) (qk := 7) (t0 := 2) (ci := 0) (c := 1) rfl rfl rfl rfl rfl (by decide) (by decide) dX4_init_77 ?_
  refine vz_iinc1 (pc := 78) dX4_init_78 (fv_inc _) rfl ?_
  refine vz_goto (pc := 81) dX4_init_81 (tgt := 59) rfl ?_
  show vz_X D mX4_init _ _ _ _ _ 59 [some (.ref h), some (.int (nI 2))] [] [(h, .inr (4, [.ref q0, .ref q1, .ref q2, .ref q3, .int 0, .int 0, .int 0, .int 1])), (q0, .inl (D.2 2, 8, .inr (.inr (.inr (.inr (va_up (va_up (fun _ => none) 0 (some b0)) 1 (some b1))))))), (q1, .inl (D.2 3, 8, .inr (.inr (.inr (.inr (fun _ => none)))))), (q2, .inl (D.2 0, 4, .inl (fun _ => 0))), (q3, .inl (D.2 0, 10, .inl (fun _ => 0))), (b0, .inr (0, [.int 0, .int 0, .int 0, .ref (u0 0)])), (u0 0, .inl (D.2 0, 4, .inl (fun _ => 0))), (b1, .inr (0, [.int 0, .int 0, .int 0, .ref (u1 0)])), (u1 0, .inl (D.2 0, 4, .inl (fun _ => 0)))] _ _
  refine vz_iload_n (pc := 59) dX4_init_59 rfl rfl ?_
  refine vz_bipush (pc := 60) (v := 8) dX4_init_60 rfl ?_
  refine vz_icmp_ge (pc := 62) dX4_init_62 (tgt := 84) rfl (fun h => absurd h (by decide +kernel)) (fun _ => ?_)
  refine vz_aload_n (pc := 65) dX4_init_65 rfl rfl ?_
  refine vz_geta (pc := 66) fl_X4_11 dX4_init_66 rfl ?_
  refine vz_iload_n (pc := 69) dX4_init_69 rfl rfl ?_
  refine vz_new (pc := 70) (ci := 0) (fs := vz_d0) rfl vz_df0 (fv_mem 99 (by decide +kernel) rfl) (fv_mem 103 (by decide +kernel) rfl) (fv_mem 71 (by decide +kernel) rfl) dX4_init_70 (Nat.le_of_ble_eq_true rfl) (Nat.le_of_ble_eq_true rfl) (fun b2 => ?_)
  refine vz_dup (pc := 73) dX4_init_73 ?_
  refine vz_initN (pc := 74) vz_X0_init (by decide) (fv_mem 105 (by decide +kernel) rfl) wi_X0_init cw_X0_init rfl rfl ⟨by decide +kernel, by decide +kernel, by decide +kernel⟩ (by decide) (by decide) rfl (Nat.le_of_ble_eq_true rfl) dX4_init_74 (Nat.le_of_ble_eq_true rfl) (Nat.le_of_ble_eq_true rfl) (fun u2 => ?_)
  refine vz_astq (pc := 77) (r := 1) (qk := 9) (t0 := 2) (ci := 0) (c := 2) rfl rfl rfl rfl rfl (by decide) (by decide) dX4_init_77 ?_
  refine vz_iinc1 (pc := 78) dX4_init_78 (fv_inc _) rfl ?_
  refine vz_goto (pc := 81) dX4_init_81 (tgt := 59) rfl ?_
  show vz_X D mX4_init _ _ _ _ _ 59 [some (.ref h), some (.int (nI 3))] [] [(h, .inr (4, [.ref q0, .ref q1, .ref q2, .ref q3, .int 0, .int 0, .int 0, .int 1])), (q0, .inl (D.2 2, 8, .inr (.inr (.inr (.inr (va_up (va_up (va_up (fun _ => none) 0 (some b0)) 1 (some b1)) 2 (some b2))))))), (q1, .inl (D.2 3, 8, .inr (.inr (.inr (.inr (fun _ => none)))))), (q2, .inl (D.2 0, 4, .inl (fun _ => 0))), (q3, .inl (D.2 0, 10, .inl (fun _ => 0))), (b0, .inr (0, [.int 0, .int 0, .int 0, .ref (u0 0)])), (u0 0, .inl (D.2 0, 4, .inl (fun _ => 0))), (b1, .inr (0, [.int 0, .int 0, .int 0, .ref (u1 0)])), (u1 0, .inl (D.2 0, 4, .inl (fun _ => 0))), (b2, .inr (0, [.int 0, .int 0, .int 0, .ref (u2 0)])), (u2 0, .inl (D.2 0, 4, .inl (fun _ => 0)))] _ _
  refine vz_iload_n (pc := 59) dX4_init_59 rfl rfl ?_
  refine vz_bipush (pc := 60) (v := 8) dX4_init_60 rfl ?_
  refine vz_icmp_ge (pc := 62) dX4_init_62 (tgt := 84) rfl (fun h => absurd h (by decide +kernel)) (fun _ => ?_)
  refine vz_aload_n (pc := 65) dX4_init_65 rfl rfl ?_
  refine vz_geta (pc := 66) fl_X4_11 dX4_init_66 rfl ?_
  refine vz_iload_n (pc := 69) dX4_init_69 rfl rfl ?_
  refine vz_new (pc := 70) (ci := 0) (fs := vz_d0) rfl vz_df0 (fv_mem 99 (by decide +kernel) rfl) (fv_mem 103 (by decide +kernel) rfl) (fv_mem 71 (by decide +kernel) rfl) dX4_init_70 (Nat.le_of_ble_eq_true rfl) (Nat.le_of_ble_eq_true rfl) (fun b3 => ?_)
  refine vz_dup (pc := 73) dX4_init_73 ?_
  refine vz_initN (pc := 74) vz_X0_init (by decide) (fv_mem 105 (by decide +kernel) rfl) wi_X0_init cw_X0_init rfl rfl ⟨by decide +kernel, by decide +kernel, by decide +kernel⟩ (by decide) (by decide) rfl (Nat.le_of_ble_eq_true rfl) dX4_init_74 (Nat.le_of_ble_eq_true rfl) (Nat.le_of_ble_eq_true rfl) (fun u3 => ?_)
  refine vz_astq (pc := 77) (r := 1) (qk := 11) (t0 := 2) (ci := 0) (c := 3) rfl rfl rfl rfl rfl (by decide) (by decide) dX4_init_77 ?_
  refine vz_iinc1 (pc := 78) dX4_init_78 (fv_inc _) rfl ?_
  refine vz_goto (pc := 81) dX4_init_81 (tgt := 59) rfl ?_
  show vz_X D mX4_init _ _ _ _ _ 59 [some (.ref h), some (.int (nI 4))] [] [(h, .inr (4, [.ref q0, .ref q1, .ref q2, .ref q3, .int 0, .int 0, .int 0, .int 1])), (q0, .inl (D.2 2, 8, .inr (.inr (.inr (.inr (va_up (va_up (va_up (va_up (fun _ => none) 0 (some b0)) 1 (some b1)) 2 (some b2)) 3 (some b3))))))), (q1, .inl (D.2 3, 8, .inr (.inr (.inr (.inr (fun _ => none)))))), (q2, .inl (D.2 0, 4, .inl (fun _ => 0))), (q3, .inl (D.2 0, 10, .inl (fun _ => 0))), (b0, .inr (0, [.int 0, .int 0, .int 0, .ref (u0 0)])), (u0 0, .inl (D.2 0, 4, .inl (fun _ => 0))), (b1, .inr (0, [.int 0, .int 0, .int 0, .ref (u1 0)])), (u1 0, .inl (D.2 0, 4, .inl (fun _ => 0))), (b2, .inr (0, [.int 0, .int 0, .int 0, .ref (u2 0)])), (u2 0, .inl (D.2 0, 4, .inl (fun _ => 0))), (b3, .inr (0, [.int 0, .int 0, .int 0, .ref (u3 0)])), (u3 0, .inl (D.2 0, 4, .inl (fun _ => 0)))] _ _
  refine vz_iload_n (pc := 59) dX4_init_59 rfl rfl ?_
  refine vz_bipush (pc := 60) (v := 8) dX4_init_60 rfl ?_
  refine vz_icmp_ge (pc := 62) dX4_init_62 (tgt := 84) rfl (fun h => absurd h (by decide +kernel)) (fun _ => ?_)
  refine vz_aload_n (pc := 65) dX4_init_65 rfl rfl ?_
  refine vz_geta (pc := 66) fl_X4_11 dX4_init_66 rfl ?_
  refine vz_iload_n (pc := 69) dX4_init_69 rfl rfl ?_
  refine vz_new (pc := 70) (ci := 0) (fs := vz_d0) rfl vz_df0 (fv_mem 99 (by decide +kernel) rfl) (fv_mem 103 (by decide +kernel) rfl) (fv_mem 71 (by decide +kernel) rfl) dX4_init_70 (Nat.le_of_ble_eq_true rfl) (Nat.le_of_ble_eq_true rfl) (fun b4 => ?_)
  refine vz_dup (pc := 73) dX4_init_73 ?_
  refine vz_initN (pc := 74) vz_X0_init (by decide) (fv_mem 105 (by decide +kernel) rfl) wi_X0_init cw_X0_init rfl rfl ⟨by decide +kernel, by decide +kernel, by decide +kernel⟩ (by decide) (by decide) rfl (Nat.le_of_ble_eq_true rfl) dX4_init_74 (Nat.le_of_ble_eq_true rfl) (Nat.le_of_ble_eq_true rfl) (fun u4 => ?_)
  refine vz_astq (pc := 77) (r := 1) (qk := 13) (t0 := 2) (ci := 0) (c := 4) rfl rfl rfl rfl rfl (by decide) (by decide) dX4_init_77 ?_
  refine vz_iinc1 (pc := 78) dX4_init_78 (fv_inc _) rfl ?_
  refine vz_goto (pc := 81) dX4_init_81 (tgt := 59) rfl ?_
  show vz_X D mX4_init _ _ _ _ _ 59 [some (.ref h), some (.int (nI 5))] [] [(h, .inr (4, [.ref q0, .ref q1, .ref q2, .ref q3, .int 0, .int 0, .int 0, .int 1])), (q0, .inl (D.2 2, 8, .inr (.inr (.inr (.inr (va_up (va_up (va_up (va_up (va_up (fun _ => none) 0 (some b0)) 1 (some b1)) 2 (some b2)) 3 (some b3)) 4 (some b4))))))), (q1, .inl (D.2 3, 8, .inr (.inr (.inr (.inr (fun _ => none)))))), (q2, .inl (D.2 0, 4, .inl (fun _ => 0))), (q3, .inl (D.2 0, 10, .inl (fun _ => 0))), (b0, .inr (0, [.int 0, .int 0, .int 0, .ref (u0 0)])), (u0 0, .inl (D.2 0, 4, .inl (fun _ => 0))), (b1, .inr (0, [.int 0, .int 0, .int 0, .ref (u1 0)])), (u1 0, .inl (D.2 0, 4, .inl (fun _ => 0))), (b2, .inr (0, [.int 0, .int 0, .int 0, .ref (u2 0)])), (u2 0, .inl (D.2 0, 4, .inl (fun _ => 0))), (b3, .inr (0, [.int 0, .int 0, .int 0, .ref (u3 0)])), (u3 0, .inl (D.2 0, 4, .inl (fun _ => 0))), (b4, .inr (0, [.int 0, .int 0, .int 0, .ref (u4 0)])), (u4 0, .inl (D.2 0, 4, .inl (fun _ => 0)))] _ _
  refine vz_iload_n (pc := 59) dX4_init_59 rfl rfl ?_
  refine vz_bipush (pc := 60) (v := 8) dX4_init_60 rfl ?_
  refine vz_icmp_ge (pc := 62) dX4_init_62 (tgt := 84) rfl (fun h => absurd h (by decide +kernel)) (fun _ => ?_)
  refine vz_aload_n (pc := 65) dX4_init_65 rfl rfl ?_
  refine vz_geta (pc := 66) fl_X4_11 dX4_init_66 rfl ?_
  refine vz_iload_n (pc := 69) dX4_init_69 rfl rfl ?_
  refine vz_new (pc := 70) (ci := 0) (fs := vz_d0) rfl vz_df0 (fv_mem 99 (by decide +kernel) rfl) (fv_mem 103 (by decide +kernel) rfl) (fv_mem 71 (by decide +kernel) rfl) dX4_init_70 (Nat.le_of_ble_eq_true rfl) (Nat.le_of_ble_eq_true rfl) (fun b5 => ?_)
  refine vz_dup (pc := 73) dX4_init_73 ?_
  refine vz_initN (pc := 74) vz_X0_init (by decide) (fv_mem 105 (by decide +kernel) rfl) wi_X0_init cw_X0_init rfl rfl ⟨by decide +kernel, by decide +kernel, by decide +kernel⟩ (by decide) (by decide) rfl (Nat.le_of_ble_eq_true rfl) dX4_init_74 (Nat.le_of_ble_eq_true rfl) (Nat.le_of_ble_eq_true rfl) (fun u5 => ?_)
  refine vz_astq (pc := 77) (r := 1) (qk := 15) (t0 := 2) (ci := 0) (c := 5) rfl rfl rfl rfl rfl (by decide) (by decide) dX4_init_77 ?_
  refine vz_iinc1 (pc := 78) dX4_init_78 (fv_inc _) rfl ?_
  refine vz_goto (pc := 81) dX4_init_81 (tgt := 59) rfl ?_
  show vz_X D mX4_init _ _ _ _ _ 59 [some (.ref h), some (.int (nI 6))] [] [(h, .inr (4, [.ref q0, .ref q1, .ref q2, .ref q3, .int 0, .int 0, .int 0, .int 1])), (q0, .inl (D.2 2, 8, .inr (.inr (.inr (.inr (va_up (va_up (va_up (va_up (va_up (va_up (fun _ => none) 0 (some b0)) 1 (some b1)) 2 (some b2)) 3 (some b3)) 4 (some b4)) 5 (some b5))))))), (q1, .inl (D.2 3, 8, .inr (.inr (.inr (.inr (fun _ => none)))))), (q2, .inl (D.2 0, 4, .inl (fun _ => 0))), (q3, .inl (D.2 0, 10, .inl (fun _ => 0))), (b0, .inr (0, [.int 0, .int 0, .int 0, .ref (u0 0)])), (u0 0, .inl (D.2 0, 4, .inl (fun _ => 0))), (b1, .inr (0, [.int 0, .int 0, .int 0, .ref (u1 0)])), (u1 0, .inl (D.2 0, 4, .inl (fun _ => 0))), (b2, .inr (0, [.int 0, .int 0, .int 0, .ref (u2 0)])), (u2 0, .inl (D.2 0, 4, .inl (fun _ => 0))), (b3, .inr (0, [.int 0, .int 0, .int 0, .ref (u3 0)])), (u3 0, .inl (D.2 0, 4, .inl (fun _ => 0))), (b4, .inr (0, [.int 0, .int 0, .int 0, .ref (u4 0)])), (u4 0, .inl (D.2 0, 4, .inl (fun _ => 0))), (b5, .inr (0, [.int 0, .int 0, .int 0, .ref (u5 0)])), (u5 0, .inl (D.2 0, 4, .inl (fun _ => 0)))] _ _
  refine vz_iload_n (pc := 59) dX4_init_59 rfl rfl ?_
  refine vz_bipush (pc := 60) (v := 8) dX4_init_60 rfl ?_
  refine vz_icmp_ge (pc := 62) dX4_init_62 (tgt := 84) rfl (fun h => absurd h (by decide +kernel)) (fun _ => ?_)
  refine vz_aload_n (pc := 65) dX4_init_65 rfl rfl ?_
  refine vz_geta (pc := 66) fl_X4_11 dX4_init_66 rfl ?_
  refine vz_iload_n (pc := 69) dX4_init_69 rfl rfl ?_
  refine vz_new (pc := 70) (ci := 0) (fs := vz_d0) rfl vz_df0 (fv_mem 99 (by decide +kernel) rfl) (fv_mem 103 (by decide +kernel) rfl) (fv_mem 71 (by decide +kernel) rfl) dX4_init_70 (Nat.le_of_ble_eq_true rfl) (Nat.le_of_ble_eq_true rfl) (fun b6 => ?_)
  refine vz_dup (pc := 73) dX4_init_73 ?_
  refine vz_initN (pc := 74) vz_X0_init (by decide) (fv_mem 105 (by decide +kernel) rfl) wi_X0_init cw_X0_init rfl rfl ⟨by decide +kernel, by decide +kernel, by decide +kernel⟩ (by decide) (by decide) rfl (Nat.le_of_ble_eq_true rfl) dX4_init_74 (Nat.le_of_ble_eq_true rfl) (Nat.le_of_ble_eq_true rfl) (fun u6 => ?_)
  refine vz_astq (pc := 77) (r := 1) (qk := 17) (t0 := 2) (ci := 0) (c := 6) rfl rfl rfl rfl rfl (by decide) (by decide) dX4_init_77 ?_
  refine vz_iinc1 (pc := 78) dX4_init_78 (fv_inc _) rfl ?_
  refine vz_goto (pc := 81) dX4_init_81 (tgt := 59) rfl ?_
  show vz_X D mX4_init _ _ _ _ _ 59 [some (.ref h), some (.int (nI 7))] [] [(h, .inr (4, [.ref q0, .ref q1, .ref q2, .ref q3, .int 0, .int 0, .int 0, .int 1])), (q0, .inl (D.2 2, 8, .inr (.inr (.inr (.inr (va_up (va_up (va_up (va_up (va_up (va_up (va_up (fun _ => none) 0 (some b0)) 1 (some b1)) 2 (some b2)) 3 (some b3)) 4 (some b4)) 5 (some b5)) 6 (some b6))))))), (q1, .inl (D.2 3, 8, .inr (.inr (.inr (.inr (fun _ => none)))))), (q2, .inl (D.2 0, 4, .inl (fun _ => 0))), (q3, .inl (D.2 0, 10, .inl (fun _ => 0))), (b0, .inr (0, [.int 0, .int 0, .int 0, .ref (u0 0)])), (u0 0, .inl (D.2 0, 4, .inl (fun _ => 0))), (b1, .inr (0, [.int 0, .int 0, .int 0, .ref (u1 0)])), (u1 0, .inl (D.2 0, 4, .inl (fun _ => 0))), (b2, .inr (0, [.int 0, .int 0, .int 0, .ref (u2 0)])), (u2 0, .inl (D.2 0, 4, .inl (fun _ => 0))), (b3, .inr (0, [.int 0, .int 0, .int 0, .ref (u3 0)])), (u3 0, .inl (D.2 0, 4, .inl (fun _ => 0))), (b4, .inr (0, [.int 0, .int 0, .int 0, .ref (u4 0)])), (u4 0, .inl (D.2 0, 4, .inl (fun _ => 0))), (b5, .inr (0, [.int 0, .int 0, .int 0, .ref (u5 0)])), (u5 0, .inl (D.2 0, 4, .inl (fun _ => 0))), (b6, .inr (0, [.int 0, .int 0, .int 0, .ref (u6 0)])), (u6 0, .inl (D.2 0, 4, .inl (fun _ => 0)))] _ _
  refine vz_iload_n (pc := 59) dX4_init_59 rfl rfl ?_
  refine vz_bipush (pc := 60) (v := 8) dX4_init_60 rfl ?_
  refine vz_icmp_ge (pc := 62) dX4_init_62 (tgt := 84) rfl (fun h => absurd h (by decide +kernel)) (fun _ => ?_)
  refine vz_aload_n (pc := 65) dX4_init_65 rfl rfl ?_
  refine vz_geta (pc := 66) fl_X4_11 dX4_init_66 rfl ?_
  refine vz_iload_n (pc := 69) dX4_init_69 rfl rfl ?_
  refine vz_new (pc := 70) (ci := 0) (fs := vz_d0) rfl vz_df0 (fv_mem 99 (by decide +kernel) rfl) (fv_mem 103 (by decide +kernel) rfl) (fv_mem 71 (by decide +kernel) rfl) dX4_init_70 (Nat.le_of_ble_eq_true rfl) (Nat.le_of_ble_eq_true rfl) (fun b7 => ?_)
  refine vz_dup (pc := 73) dX4_init_73 ?_
  refine vz_initN (pc := 74) vz_X0_init (by decide) (fv_mem 105 (by decide +kernel) rfl) wi_X0_init cw_X0_init rfl rfl ⟨by decide +kernel, by decide +kernel, by decide +kernel⟩ (by decide) (by decide) rfl (Nat.le_of_ble_eq_true rfl) dX4_init_74 (Nat.le_of_ble_eq_true rfl) (Nat.le_of_ble_eq_true rfl) (fun u7 => ?_)
  refine vz_astq (pc := 77) (r := 1) (qk := 19) (t0 := 2) (ci := 0) (c := 7) rfl rfl rfl rfl rfl (by decide) (by decide) dX4_init_77 ?_
  refine vz_iinc1 (pc := 78) dX4_init_78 (fv_inc _) rfl ?_
  refine vz_goto (pc := 81) dX4_init_81 (tgt := 59) rfl ?_
  show vz_X D mX4_init _ _ _ _ _ 59 [some (.ref h), some (.int (nI 8))] [] [(h, .inr (4, [.ref q0, .ref q1, .ref q2, .ref q3, .int 0, .int 0, .int 0, .int 1])), (q0, .inl (D.2 2, 8, .inr (.inr (.inr (.inr (va_up (va_up (va_up (va_up (va_up (va_up (va_up (va_up (fun _ => none) 0 (some b0)) 1 (some b1)) 2 (some b2)) 3 (some b3)) 4 (some b4)) 5 (some b5)) 6 (some b6)) 7 (some b7))))))), (q1, .inl (D.2 3, 8, .inr (.inr (.inr (.inr (fun _ => none)))))), (q2, .inl (D.2 0, 4, .inl (fun _ => 0))), (q3, .inl (D.2 0, 10, .inl (fun _ => 0))), (b0, .inr (0, [.int 0, .int 0, .int 0, .ref (u0 0)])), (u0 0, .inl (D.2 0, 4, .inl (fun _ => 0))), (b1, .inr (0, [.int 0, .int 0, .int 0, .ref (u1 0)])), (u1 0, .inl (D.2 0, 4, .inl (fun _ => 0))), (b2, .inr (0, [.int 0, .int 0, .int 0, .ref (u2 0)])), (u2 0, .inl (D.2 0, 4, .inl (fun _ => 0))), (b3, .inr (0, [.int 0, .int 0, .int 0, .ref (u3 0)])), (u3 0, .inl (D.2 0, 4, .inl (fun _ => 0))), (b4, .inr (0, [.int 0, .int 0, .int 0, .ref (u4 0)])), (u4 0, .inl (D.2 0, 4, .inl (fun _ => 0))), (b5, .inr (0, [.int 0, .int 0, .int 0, .ref (u5 0)])), (u5 0, .inl (D.2 0, 4, .inl (fun _ => 0))), (b6, .inr (0, [.int 0, .int 0, .int 0, .ref (u6 0)])), (u6 0, .inl (D.2 0, 4, .inl (fun _ => 0))), (b7, .inr (0, [.int 0, .int 0, .int 0, .ref (u7 0)])), (u7 0, .inl (D.2 0, 4, .inl (fun _ => 0)))] _ _
  refine vz_iload_n (pc := 59) dX4_init_59 rfl rfl ?_
  refine vz_bipush (pc := 60) (v := 8) dX4_init_60 rfl ?_
  refine vz_icmp_ge (pc := 62) dX4_init_62 (tgt := 84) rfl (fun _ => ?_) (fun h => absurd (by decide +kernel) h)
  refine vz_iconst (pc := 84) (v := 0) dX4_init_84 rfl ?_
  refine vz_istore1 (pc := 85) dX4_init_85 rfl ?_
  show vz_X D mX4_init _ _ _ _ _ 86 [some (.ref h), some (.int (nI 0))] [] [(h, .inr (4, [.ref q0, .ref q1, .ref q2, .ref q3, .int 0, .int 0, .int 0, .int 1])), (q0, .inl (D.2 2, 8, .inr (.inr (.inr (.inr (va_up (va_up (va_up (va_up (va_up (va_up (va_up (va_up (fun _ => none) 0 (some b0)) 1 (some b1)) 2 (some b2)) 3 (some b3)) 4 (some b4)) 5 (some b5)) 6 (some b6)) 7 (some b7))))))), (q1, .inl (D.2 3, 8, .inr (.inr (.inr (.inr (fun _ => none)))))), (q2, .inl (D.2 0, 4, .inl (fun _ => 0))), (q3, .inl (D.2 0, 10, .inl (fun _ => 0))), (b0, .inr (0, [.int 0, .int 0, .int 0, .ref (u0 0)])), (u0 0, .inl (D.2 0, 4, .inl (fun _ => 0))), (b1, .inr (0, [.int 0, .int 0, .int 0, .ref (u1 0)])), (u1 0, .inl (D.2 0, 4, .inl (fun _ => 0))), (b2, .inr (0, [.int 0, .int 0, .int 0, .ref (u2 0)])), (u2 0, .inl (D.2 0, 4, .inl (fun _ => 0))), (b3, .inr (0, [.int 0, .int 0, .int 0, .ref (u3 0)])), (u3 0, .inl (D.2 0, 4, .inl (fun _ => 0))), (b4, .inr (0, [.int 0, .int 0, .int 0, .ref (u4 0)])), (u4 0, .inl (D.2 0, 4, .inl (fun _ => 0))), (b5, .inr (0, [.int 0, .int 0, .int 0, .ref (u5 0)])), (u5 0, .inl (D.2 0, 4, .inl (fun _ => 0))), (b6, .inr (0, [.int 0, .int 0, .int 0, .ref (u6 0)])), (u6 0, .inl (D.2 0, 4, .inl (fun _ => 0))), (b7, .inr (0, [.int 0, .int 0, .int 0, .ref (u7 0)])), (u7 0, .inl (D.2 0, 4, .inl (fun _ => 0)))] _ _
  refine vz_iload_n (pc := 86) dX4_init_86 rfl rfl ?_
  refine vz_bipush (pc := 87) (v := 8) dX4_init_87 rfl ?_
  refine vz_icmp_ge (pc := 89) dX4_init_89 (tgt := 111) rfl (fun h => absurd h (by decide +kernel)) (fun _ => ?_)
  refine vz_aload_n (pc := 92) dX4_init_92 rfl rfl ?_
  refine vz_geta (pc := 93) fl_X4_19 dX4_init_93 rfl ?_
  refine vz_iload_n (pc := 96) dX4_init_96 rfl rfl ?_
  refine vz_new (pc := 97) (ci := 1) (fs := vz_d1) rfl vz_df1 (fv_mem 101 (by decide +kernel) rfl) (fv_mem 128 (by decide +kernel) rfl) (fv_mem 72 (by decide +kernel) rfl) dX4_init_97 (Nat.le_of_ble_eq_true rfl) (Nat.le_of_ble_eq_true rfl) (fun m0 => ?_)
  refine vz_dup (pc := 100) dX4_init_100 ?_
  refine vz_initN (pc := 101) vz_X1_init (by decide) (fv_mem 130 (by decide +kernel) rfl) wi_X1_init cw_X1_init rfl rfl ⟨by decide +kernel, by decide +kernel, by decide +kernel⟩ (by decide) (by decide) rfl (Nat.le_of_ble_eq_true rfl) dX4_init_101 (Nat.le_of_ble_eq_true rfl) (Nat.le_of_ble_eq_true rfl) (fun v0 => ?_)
  refine vz_astq (pc := 104) (r := 2) (qk := 21) (t0 := 3) (ci := 1) (c := 0) rfl rfl rfl rfl rfl (by decide) (by decide) dX4_init_104 ?_
  refine vz_iinc1 (pc := 105) dX4_init_105 (fv_inc _) rfl ?_
  refine vz_goto (pc := 108) dX4_init_108 (tgt := 86) rfl ?_
  show vz_X D mX4_init _ _ _ _ _ 86 [some (.ref h), some (.int (nI 1))] [] [(h, .inr (4, [.ref q0, .ref q1, .ref q2, .ref q3, .int 0, .int 0, .int 0, .int 1])), (q0, .inl (D.2 2, 8, .inr (.inr (.inr (.inr (va_up (va_up (va_up (va_up (va_up (va_up (va_up (va_up (fun _ => none) 0 (some b0)) 1 (some b1)) 2 (some b2)) 3 (some b3)) 4 (some b4)) 5 (some b5)) 6 (some b6)) 7 (some b7))))))), (q1, .inl (D.2 3, 8, .inr (.inr (.inr (.inr (va_up (fun _ => none) 0 (some m0))))))), (q2, .inl (D.2 0, 4, .inl (fun _ => 0))), (q3, .inl (D.2 0, 10, .inl (fun _ => 0))), (b0, .inr (0, [.int 0, .int 0, .int 0, .ref (u0 0)])), (u0 0, .inl (D.2 0, 4, .inl (fun _ => 0))), (b1, .inr (0, [.int 0, .int 0, .int 0, .ref (u1 0)])), (u1 0, .inl (D.2 0, 4, .inl (fun _ => 0))), (b2, .inr (0, [.int 0, .int 0, .int 0, .ref (u2 0)])), (u2 0, .inl (D.2 0, 4, .inl (fun _ => 0))), (b3, .inr (0, [.int 0, .int 0, .int 0, .ref (u3 0)])), (u3 0, .inl (D.2 0, 4, .inl (fun _ => 0))), (b4, .inr (0, [.int 0, .int 0, .int 0, .ref (u4 0)])), (u4 0, .inl (D.2 0, 4, .inl (fun _ => 0))), (b5, .inr (0, [.int 0, .int 0, .int 0, .ref (u5 0)])), (u5 0, .inl (D.2 0, 4, .inl (fun _ => 0))), (b6, .inr (0, [.int 0, .int 0, .int 0, .ref (u6 0)])), (u6 0, .inl (D.2 0, 4, .inl (fun _ => 0))), (b7, .inr (0, [.int 0, .int 0, .int 0, .ref (u7 0)])), (u7 0, .inl (D.2 0, 4, .inl (fun _ => 0))), (m0, .inr (1, [.int 0, .int 0, .int 0, .int 0, .int 0]))] _ _
  refine vz_iload_n (pc := 86) dX4_init_86 rfl rfl ?_
  refine vz_bipush (pc := 87) (v := 8) dX4_init_87 rfl ?_
  refine vz_icmp_ge (pc := 89) dX4_init_89 (tgt := 111) rfl (fun h => absurd h (by decide +kernel)) (fun _ => ?_)
  refine vz_aload_n (pc := 92) dX4_init_92 rfl rfl ?_
  refine vz_geta (pc := 93) fl_X4_19 dX4_init_93 rfl ?_
  refine vz_iload_n (pc := 96) dX4_init_96 rfl rfl ?_
  refine vz_new (pc := 97) (ci := 1) (fs := vz_d1) rfl vz_df1 (fv_mem 101 (by decide +kernel) rfl) (fv_mem 128 (by decide +kernel) rfl) (fv_mem 72 (by decide +kernel) rfl) dX4_init_97 (Nat.le_of_ble_eq_true rfl) (Nat.le_of_ble_eq_true rfl) (fun m1 => ?_)
  refine vz_dup (pc := 100) dX4_init_100 ?_
  refine vz_initN (pc := 101) vz_X1_init (by decide) (fv_mem 130 (by decide +kernel) rfl) wi_X1_init cw_X1_init rfl rfl ⟨by decide +kernel, by decide +kernel, by decide +kernel⟩ (by decide) (by decide) rfl (Nat.le_of_ble_eq_true rfl) dX4_init_101 (Nat.le_of_ble_eq_true rfl) (Nat.le_of_ble_eq_true rfl) (fun v1 => ?_)
  refine vz_astq (pc := 104) (r := 2) (qk := 22) (t0 := 3) (ci := 1) (c := 1) rfl rfl rfl rfl rfl (by decide) (by decide) dX4_init_104 ?_
  refine vz_iinc1 (pc := 105) dX4_init_105 (fv_inc _) rfl ?_
  refine vz_goto (pc := 108) dX4_init_108 (tgt := 86) rfl ?_
  show vz_X D mX4_init _ _ _ _ _ 86 [some (.ref h), some (.int (nI 2))] [] [(h, .inr (4, [.ref q0, .ref q1, .ref q2, .ref q3, .int 0, .int 0, .int 0, .int 1])), (q0, .inl (D.2 2, 8, .inr (.inr (.inr (.inr (va_up (va_up (va_up (va_up (va_up (va_up (va_up (va_up (fun _ => none) 0 (some b0)) 1 (some b1)) 2 (some b2)) 3 (some b3)) 4 (some b4)) 5 (some b5)) 6 (some b6)) 7 (some b7))))))), (q1, .inl (D.2 3, 8, .inr (.inr (.inr (.inr (va_up (va_up (fun _ => none) 0 (some m0)) 1 (some m1))))))), (q2, .inl (D.2 0, 4, .inl (fun _ => 0))), (q3, .inl (D.2 0, 10, .inl (fun _ => 0))), (b0, .inr (0, [.int 0, .int 0, .int 0, .ref (u0 0)])), (u0 0, .inl (D.2 0, 4, .inl (fun _ => 0))), (b1, .inr (0, [.int 0, .int 0, .int 0, .ref (u1 0)])), (u1 0, .inl (D.2 0, 4, .inl (fun _ => 0))), (b2, .inr (0, [.int 0, .int 0, .int 0, .ref (u2 0)])), (u2 0, .inl (D.2 0, 4, .inl (fun _ => 0))), (b3, .inr (0, [.int 0, .int 0, .int 0, .ref (u3 0)])), (u3 0, .inl (D.2 0, 4, .inl (fun _ => 0))), (b4, .inr (0, [.int 0, .int 0, .int 0, .ref (u4 0)])), (u4 0, .inl (D.2 0, 4, .inl (fun _ => 0))), (b5, .inr (0, [.int 0, .int 0, .int 0, .ref (u5 0)])), (u5 0, .inl (D.2 0, 4, .inl (fun _ => 0))), (b6, .inr (0, [.int 0, .int 0, .int 0, .ref (u6 0)])), (u6 0, .inl (D.2 0, 4, .inl (fun _ => 0))), (b7, .inr (0, [.int 0, .int 0, .int 0, .ref (u7 0)])), (u7 0, .inl (D.2 0, 4, .inl (fun _ => 0))), (m0, .inr (1, [.int 0, .int 0, .int 0, .int 0, .int 0])), (m1, .inr (1, [.int 0, .int 0, .int 0, .int 0, .int 0]))] _ _
  refine vz_iload_n (pc := 86) dX4_init_86 rfl rfl ?_
  refine vz_bipush (pc := 87) (v := 8) dX4_init_87 rfl ?_
  refine vz_icmp_ge (pc := 89) dX4_init_89 (tgt := 111) rfl (fun h => absurd h (by decide +kernel)) (fun _ => ?_)
  refine vz_aload_n (pc := 92) dX4_init_92 rfl rfl ?_
  refine vz_geta (pc := 93) fl_X4_19 dX4_init_93 rfl ?_
  refine vz_iload_n (pc := 96) dX4_init_96 rfl rfl ?_
  refine vz_new (pc := 97) (ci := 1) (fs := vz_d1) rfl vz_df1 (fv_mem 101 (by decide +kernel) rfl) (fv_mem 128 (by decide +kernel) rfl) (fv_mem 72 (by decide +kernel) rfl) dX4_init_97 (Nat.le_of_ble_eq_true rfl) (Nat.le_of_ble_eq_true rfl) (fun m2 => ?_)
  refine vz_dup (pc := 100) dX4_init_100 ?_
  refine vz_initN (pc := 101) vz_X1_init (by decide) (fv_mem 130 (by decide +kernel) rfl) wi_X1_init cw_X1_init rfl rfl ⟨by decide +kernel, by decide +kernel, by decide +kernel⟩ (by decide) (by decide) rfl (Nat.le_of_ble_eq_true rfl) dX4_init_101 (Nat.le_of_ble_eq_true rfl) (Nat.le_of_ble_eq_true rfl) (fun v2 => ?_)
  refine vz_astq (pc := 104) (r := 2) (qk := 23) (t0 := 3) (ci := 1) (c := 2) rfl rfl rfl rfl rfl (by decide) (by decide) dX4_init_104 ?_
  refine vz_iinc1 (pc := 105) dX4_init_105 (fv_inc _) rfl ?_
  refine vz_goto (pc := 108) dX4_init_108 (tgt := 86) rfl ?_
  show vz_X D mX4_init _ _ _ _ _ 86 [some (.ref h), some (.int (nI 3))] [] [(h, .inr (4, [.ref q0, .ref q1, .ref q2, .ref q3, .int 0, .int 0, .int 0, .int 1])), (q0, .inl (D.2 2, 8, .inr (.inr (.inr (.inr (va_up (va_up (va_up (va_up (va_up (va_up (va_up (va_up (fun _ => none) 0 (some b0)) 1 (some b1)) 2 (some b2)) 3 (some b3)) 4 (some b4)) 5 (some b5)) 6 (some b6)) 7 (some b7))))))), (q1, .inl (D.2 3, 8, .inr (.inr (.inr (.inr (va_up (va_up (va_up (fun _ => none) 0 (some m0)) 1 (some m1)) 2 (some m2))))))), (q2, .inl (D.2 0, 4, .inl (fun _ => 0))), (q3, .inl (D.2 0, 10, .inl (fun _ => 0))), (b0, .inr (0, [.int 0, .int 0, .int 0, .ref (u0 0)])), (u0 0, .inl (D.2 0, 4, .inl (fun _ => 0))), (b1, .inr (0, [.int 0, .int 0, .int 0, .ref (u1 0)])), (u1 0, .inl (D.2 0, 4, .inl (fun _ => 0))), (b2, .inr (0, [.int 0, .int 0, .int 0, .ref (u2 0)])), (u2 0, .inl (D.2 0, 4, .inl (fun _ => 0))), (b3, .inr (0, [.int 0, .int 0, .int 0, .ref (u3 0)])), (u3 0, .inl (D.2 0, 4, .inl (fun _ => 0))), (b4, .inr (0, [.int 0, .int 0, .int 0, .ref (u4 0)])), (u4 0, .inl (D.2 0, 4, .inl (fun _ => 0))), (b5, .inr (0, [.int 0, .int 0, .int 0, .ref (u5 0)])), (u5 0, .inl (D.2 0, 4, .inl (fun _ => 0))), (b6, .inr (0, [.int 0, .int 0, .int 0, .ref (u6 0)])), (u6 0, .inl (D.2 0, 4, .inl (fun _ => 0))), (b7, .inr (0, [.int 0, .int 0, .int 0, .ref (u7 0)])), (u7 0, .inl (D.2 0, 4, .inl (fun _ => 0))), (m0, .inr (1, [.int 0, .int 0, .int 0, .int 0, .int 0])), (m1, .inr (1, [.int 0, .int 0, .int 0, .int 0, .int 0])), (m2, .inr (1, [.int 0, .int 0, .int 0, .int 0, .int 0]))] _ _
  refine vz_iload_n (pc := 86) dX4_init_86 rfl rfl ?_
  refine vz_bipush (pc := 87) (v := 8) dX4_init_87 rfl ?_
  refine vz_icmp_ge (pc := 89) dX4_init_89 (tgt := 111) rfl (fun h => absurd h (by decide +kernel)) (fun _ => ?_)
  refine vz_aload_n (pc := 92) dX4_init_92 rfl rfl ?_
  refine vz_geta (pc := 93) fl_X4_19 dX4_init_93 rfl ?_
  refine vz_iload_n (pc := 96) dX4_init_96 rfl rfl ?_
  refine vz_new (pc := 97) (ci := 1) (fs := vz_d1) rfl vz_df1 (fv_mem 101 (by decide +kernel) rfl) (fv_mem 128 (by decide +kernel) rfl) (fv_mem 72 (by decide +kernel) rfl) dX4_init_97 (Nat.le_of_ble_eq_true rfl) (Nat.le_of_ble_eq_true rfl) (fun m3 => ?_)
  refine vz_dup (pc := 100) dX4_init_100 ?_
  refine vz_initN (pc := 101) vz_X1_init (by decide) (fv_mem 130 (by decide +kernel) rfl) wi_X1_init cw_X1_init rfl rfl ⟨by decide +kernel, by decide +kernel, by decide +kernel⟩ (by decide) (by decide) rfl (Nat.le_of_ble_eq_true rfl) dX4_init_101 (Nat.le_of_ble_eq_true rfl) (Nat.le_of_ble_eq_true rfl) (fun v3 => ?_)
  refine vz_astq (pc := 104) (r := 2) (qk := 24) (t0 := 3) (ci := 1) (c := 3) rfl rfl rfl rfl rfl (by decide) (by decide) dX4_init_104 ?_
  refine vz_iinc1 (pc := 105) dX4_init_105 (fv_inc _) rfl ?_
  refine vz_goto (pc := 108) dX4_init_108 (tgt := 86) rfl ?_
  show vz_X D mX4_init _ _ _ _ _ 86 [some (.ref h), some (.int (nI 4))] [] [(h, .inr (4, [.ref q0, .ref q1, .ref q2, .ref q3, .int 0, .int 0, .int 0, .int 1])), (q0, .inl (D.2 2, 8, .inr (.inr (.inr (.inr (va_up (va_up (va_up (va_up (va_up (va_up (va_up (va_up (fun _ => none) 0 (some b0)) 1 (some b1)) 2 (some b2)) 3 (some b3)) 4 (some b4)) 5 (some b5)) 6 (some b6)) 7 (some b7))))))), (q1, .inl (D.2 3, 8, .inr (.inr (.inr (.inr (va_up (va_up (va_up (va_up (fun _ => none) 0 (some m0)) 1 (some m1)) 2 (some m2)) 3 (some m3))))))), (q2, .inl (D.2 0, 4, .inl (fun _ => 0))), (q3, .inl (D.2 0, 10, .inl (fun _ => 0))), (b0, .inr (0, [.int 0, .int 0, .int 0, .ref (u0 0)])), (u0 0, .inl (D.2 0, 4, .inl (fun _ => 0))), (b1, .inr (0, [.int 0, .int 0, .int 0, .ref (u1 0)])), (u1 0, .inl (D.2 0, 4, .inl (fun _ => 0))), (b2, .inr (0, [.int 0, .int 0, .int 0, .ref (u2 0)])), (u2 0, .inl (D.2 0, 4, .inl (fun _ => 0))), (b3, .inr (0, [.int 0, .int 0, .int 0, .ref (u3 0)])), (u3 0, .inl (D.2 0, 4, .inl (fun _ => 0))), (b4, .inr (0, [.int 0, .int 0, .int 0, .ref (u4 0)])), (u4 0, .inl (D.2 0, 4, .inl (fun _ => 0))), (b5, .inr (0, [.int 0, .int 0, .int 0, .ref (u5 0)])), (u5 0, .inl (D.2 0, 4, .inl (fun _ => 0))), (b6, .inr (0, [.int 0, .int 0, .int 0, .ref (u6 0)])), (u6 0, .inl (D.2 0, 4, .inl (fun _ => 0))), (b7, .inr (0, [.int 0, .int 0, .int 0, .ref (u7 0)])), (u7 0, .inl (D.2 0, 4, .inl (fun _ => 0))), (m0, .inr (1, [.int 0, .int 0, .int 0, .int 0, .int 0])), (m1, .inr (1, [.int 0, .int 0, .int 0, .int 0, .int 0])), (m2, .inr (1, [.int 0, .int 0, .int 0, .int 0, .int 0])), (m3, .inr (1, [.int 0, .int 0, .int 0, .int 0, .int 0]))] _ _
  refine vz_iload_n (pc := 86) dX4_init_86 rfl rfl ?_
  refine vz_bipush (pc := 87) (v := 8) dX4_init_87 rfl ?_
  refine vz_icmp_ge (pc := 89) dX4_init_89 (tgt := 111) rfl (fun h => absurd h (by decide +kernel)) (fun _ => ?_)
  refine vz_aload_n (pc := 92) dX4_init_92 rfl rfl ?_
  refine vz_geta (pc := 93) fl_X4_19 dX4_init_93 rfl ?_
  refine vz_iload_n (pc := 96) dX4_init_96 rfl rfl ?_
  refine vz_new (pc := 97) (ci := 1) (fs := vz_d1) rfl vz_df1 (fv_mem 101 (by decide +kernel) rfl) (fv_mem 128 (by decide +kernel) rfl) (fv_mem 72 (by decide +kernel) rfl) dX4_init_97 (Nat.le_of_ble_eq_true rfl) (Nat.le_of_ble_eq_true rfl) (fun m4 => ?_)
  refine vz_dup (pc := 100) dX4_init_100 ?_
  refine vz_initN (pc := 101) vz_X1_init (by decide) (fv_mem 130 (by decide +kernel) rfl) wi_X1_init cw_X1_init rfl rfl ⟨by decide +kernel, by decide +kernel, by decide +kernel⟩ (by decide) (by decide) rfl (Nat.le_of_ble_eq_true rfl) dX4_init_101 (Nat.le_of_ble_eq_true rfl) (Nat.le_of_ble_eq_true rfl) (fun v4 => ?_)
  refine vz_astq (pc := 104) (r := 2) (qk := 25) (t0 := 3) (ci := 1) (c := 4) rfl rfl rfl rfl rfl (by decide) (by decide) dX4_init_104 ?_
  refine vz_iinc1 (pc := 105) dX4_init_105 (fv_inc _) rfl ?_
  refine vz_goto (pc := 108) dX4_init_108 (tgt := 86) rfl ?_
  show vz_X D mX4_init _ _ _ _ _ 86 [some (.ref h), some (.int (nI 5))] [] [(h, .inr (4, [.ref q0, .ref q1, .ref q2, .ref q3, .int 0, .int 0, .int 0, .int 1])), (q0, .inl (D.2 2, 8, .inr (.inr (.inr (.inr (va_up (va_up (va_up (va_up (va_up (va_up (va_up (va_up (fun _ => none) 0 (some b0)) 1 (some b1)) 2 (some b2)) 3 (some b3)) 4 (some b4)) 5 (some b5)) 6 (some b6)) 7 (some b7))))))), (q1, .inl (D.2 3, 8, .inr (.inr (.inr (.inr (va_up (va_up (va_up (va_up (va_up (fun _ => none) 0 (some m0)) 1 (some m1)) 2 (some m2)) 3 (some m3)) 4 (some m4))))))), (q2, .inl (D.2 0, 4, .inl (fun _ => 0))), (q3, .inl (D.2 0, 10, .inl (fun _ => 0))), (b0, .inr (0, [.int 0, .int 0, .int 0, .ref (u0 0)])), (u0 0, .inl (D.2 0, 4, .inl (fun _ => 0))), (b1, .inr (0, [.int 0, .int 0, .int 0, .ref (u1 0)])), (u1 0, .inl (D.2 0, 4, .inl (fun _ => 0))), (b2, .inr (0, [.int 0, .int 0, .int 0, .ref (u2 0)])), (u2 0, .inl (D.2 0, 4, .inl (fun _ => 0))), (b3, .inr (0, [.int 0, .int 0, .int 0, .ref (u3 0)])), (u3 0, .inl (D.2 0, 4, .inl (fun _ => 0))), (b4, .inr (0, [.int 0, .int 0, .int 0, .ref (u4 0)])), (u4 0, .inl (D.2 0, 4, .inl (fun _ => 0))), (b5, .inr (0, [.int 0, .int 0, .int 0, .ref (u5 0)])), (u5 0, .inl (D.2 0, 4, .inl (fun _ => 0))), (b6, .inr (0, [.int 0, .int 0, .int 0, .ref (u6 0)])), (u6 0, .inl (D.2 0, 4, .inl (fun _ => 0))), (b7, .inr (0, [.int 0, .int 0, .int 0, .ref (u7 0)])), (u7 0, .inl (D.2 0, 4, .inl (fun _ => 0))), (m0, .inr (1, [.int 0, .int 0, .int 0, .int 0, .int 0])), (m1, .inr (1, [.int 0, .int 0, .int 0, .int 0, .int 0])), (m2, .inr (1, [.int 0, .int 0, .int 0, .int 0, .int 0])), (m3, .inr (1, [.int 0, .int 0, .int 0, .int 0, .int 0])), (m4, .inr (1, [.int 0, .int 0, .int 0, .int 0, .int 0]))] _ _
  refine vz_iload_n (pc := 86) dX4_init_86 rfl rfl ?_
  refine vz_bipush (pc := 87) (v := 8) dX4_init_87 rfl ?_
  refine vz_icmp_ge (pc := 89) dX4_init_89 (tgt := 111) rfl (fun h => absurd h (by decide +kernel)) (fun _ => ?_)
  refine vz_aload_n (pc := 92) dX4_init_92 rfl rfl ?_
  refine vz_geta (pc := 93) fl_X4_19 dX4_init_93 rfl ?_
  refine vz_iload_n (pc := 96) dX4_init_96 rfl rfl ?_
  refine vz_new (pc := 97) (ci := 1) (fs := vz_d1) rfl vz_df1 (fv_mem 101 (by decide +kernel) rfl) (fv_mem 128 (by decide +kernel) rfl) (fv_mem 72 (by decide +kernel) rfl) dX4_init_97 (Nat.le_of_ble_eq_true rfl) (Nat.le_of_ble_eq_true rfl) (fun m5 => ?_)
  refine vz_dup (pc := 100) dX4_init_100 ?_
  refine vz_initN (pc := 101) vz_X1_init (by decide) (fv_mem 130 (by decide +kernel) rfl) wi_X1_init cw_X1_init rfl rfl ⟨by decide +kernel, by decide +kernel, by decide +kernel⟩ (by decide) (by decide) rfl (Nat.le_of_ble_eq_true rfl) dX4_init_101 (Nat.le_of_ble_eq_true rfl) (Nat.le_of_ble_eq_true rfl) (fun v5 => ?_)
  refine vz_astq (pc := 104) (r := 2) (qk := 26) (t0 := 3) (ci := 1) (c := 5) rfl rfl rfl rfl rfl (by decide) (by decide) dX4_init_104 ?_
  refine vz_iinc1 (pc := 105) dX4_init_105 (fv_inc _) rfl ?_
  refine vz_goto (pc := 108) dX4_init_108 (tgt := 86) rfl ?_
  show vz_X D mX4_init _ _ _ _ _ 86 [some (.ref h), some (.int (nI 6))] [] [(h, .inr (4, [.ref q0, .ref q1, .ref q2, .ref q3, .int 0, .int 0, .int 0, .int 1])), (q0, .inl (D.2 2, 8, .inr (.inr (.inr (.inr (va_up (va_up (va_up (va_up (va_up (va_up (va_up (va_up (fun _ => none) 0 (some b0)) 1 (some b1)) 2 (some b2)) 3 (some b3)) 4 (some b4)) 5 (some b5)) 6 (some b6)) 7 (some b7))))))), (q1, .inl (D.2 3, 8, .inr (.inr (.inr (.inr (va_up (va_up (va_up (va_up (va_up (va_up (fun _ => none) 0 (some m0)) 1 (some m1)) 2 (some m2)) 3 (some m3)) 4 (some m4)) 5 (some m5))))))), (q2, .inl (D.2 0, 4, .inl (fun _ => 0))), (q3, .inl (D.2 0, 10, .inl (fun _ => 0))), (b0, .inr (0, [.int 0, .int 0, .int 0, .ref (u0 0)])), (u0 0, .inl (D.2 0, 4, .inl (fun _ => 0))), (b1, .inr (0, [.int 0, .int 0, .int 0, .ref (u1 0)])), (u1 0, .inl (D.2 0, 4, .inl (fun _ => 0))), (b2, .inr (0, [.int 0, .int 0, .int 0, .ref (u2 0)])), (u2 0, .inl (D.2 0, 4, .inl (fun _ => 0))), (b3, .inr (0, [.int 0, .int 0, .int 0, .ref (u3 0)])), (u3 0, .inl (D.2 0, 4, .inl (fun _ => 0))), (b4, .inr (0, [.int 0, .int 0, .int 0, .ref (u4 0)])), (u4 0, .inl (D.2 0, 4, .inl (fun _ => 0))), (b5, .inr (0, [.int 0, .int 0, .int 0, .ref (u5 0)])), (u5 0, .inl (D.2 0, 4, .inl (fun _ => 0))), (b6, .inr (0, [.int 0, .int 0, .int 0, .ref (u6 0)])), (u6 0, .inl (D.2 0, 4, .inl (fun _ => 0))), (b7, .inr (0, [.int 0, .int 0, .int 0, .ref (u7 0)])), (u7 0, .inl (D.2 0, 4, .inl (fun _ => 0))), (m0, .inr (1, [.int 0, .int 0, .int 0, .int 0, .int 0])), (m1, .inr (1, [.int 0, .int 0, .int 0, .int 0, .int 0])), (m2, .inr (1, [.int 0, .int 0, .int 0, .int 0, .int 0])), (m3, .inr (1, [.int 0, .int 0, .int 0, .int 0, .int 0])), (m4, .inr (1, [.int 0, .int 0, .int 0, .int 0, .int 0])), (m5, .inr (1, [.int 0, .int 0, .int 0, .int 0, .int 0]))] _ _
  refine vz_iload_n (pc := 86) dX4_init_86 rfl rfl ?_
  refine vz_bipush (pc := 87) (v := 8) dX4_init_87 rfl ?_
  refine vz_icmp_ge (pc := 89) dX4_init_89 (tgt := 111) rfl (fun h => absurd h (by decide +kernel)) (fun _ => ?_)
  refine vz_aload_n (pc := 92) dX4_init_92 rfl rfl ?_
  refine vz_geta (pc := 93) fl_X4_19 dX4_init_93 rfl ?_
  refine vz_iload_n (pc := 96) dX4_init_96 rfl rfl ?_
  refine vz_new (pc := 97) (ci := 1) (fs := vz_d1) rfl vz_df1 (fv_mem 101 (by decide +kernel) rfl) (fv_mem 128 (by decide +kernel) rfl) (fv_mem 72 (by decide +kernel) rfl) dX4_init_97 (Nat.le_of_ble_eq_true rfl) (Nat.le_of_ble_eq_true rfl) (fun m6 => ?_)
  refine vz_dup (pc := 100) dX4_init_100 ?_
  refine vz_initN (pc := 101) vz_X1_init (by decide) (fv_mem 130 (by decide +kernel) rfl) wi_X1_init cw_X1_init rfl rfl ⟨by decide +kernel, by decide +kernel, by decide +kernel⟩ (by decide) (by decide) rfl (Nat.le_of_ble_eq_true rfl) dX4_init_101 (Nat.le_of_ble_eq_true rfl) (Nat.le_of_ble_eq_true rfl) (fun v6 => ?_)
  refine vz_astq (pc := 104) (r := 2) (qk := 27) (t0 := 3) (ci := 1) (c := 6) rfl rfl rfl rfl rfl (by decide) (by decide) dX4_init_104 ?_
  refine vz_iinc1 (pc := 105) dX4_init_105 (fv_inc _) rfl ?_
  refine vz_goto (pc := 108) dX4_init_108 (tgt := 86) rfl ?_
  show vz_X D mX4_init _ _ _ _ _ 86 [some (.ref h), some (.int (nI 7))] [] [(h, .inr (4, [.ref q0, .ref q1, .ref q2, .ref q3, .int 0, .int 0, .int 0, .int 1])), (q0, .inl (D.2 2, 8, .inr (.inr (.inr (.inr (va_up (va_up (va_up (va_up (va_up (va_up (va_up (va_up (fun _ => none) 0 (some b0)) 1 (some b1)) 2 (some b2)) 3 (some b3)) 4 (some b4)) 5 (some b5)) 6 (some b6)) 7 (some b7))))))), (q1, .inl (D.2 3, 8, .inr (.inr (.inr (.inr (va_up (va_up (va_up (va_up (va_up (va_up (va_up (fun _ => none) 0 (some m0)) 1 (some m1)) 2 (some m2)) 3 (some m3)) 4 (some m4)) 5 (some m5)) 6 (some m6))))))), (q2, .inl (D.2 0, 4, .inl (fun _ => 0))), (q3, .inl (D.2 0, 10, .inl (fun _ => 0))), (b0, .inr (0, [.int 0, .int 0, .int 0, .ref (u0 0)])), (u0 0, .inl (D.2 0, 4, .inl (fun _ => 0))), (b1, .inr (0, [.int 0, .int 0, .int 0, .ref (u1 0)])), (u1 0, .inl (D.2 0, 4, .inl (fun _ => 0))), (b2, .inr (0, [.int 0, .int 0, .int 0, .ref (u2 0)])), (u2 0, .inl (D.2 0, 4, .inl (fun _ => 0))), (b3, .inr (0, [.int 0, .int 0, .int 0, .ref (u3 0)])), (u3 0, .inl (D.2 0, 4, .inl (fun _ => 0))), (b4, .inr (0, [.int 0, .int 0, .int 0, .ref (u4 0)])), (u4 0, .inl (D.2 0, 4, .inl (fun _ => 0))), (b5, .inr (0, [.int 0, .int 0, .int 0, .ref (u5 0)])), (u5 0, .inl (D.2 0, 4, .inl (fun _ => 0))), (b6, .inr (0, [.int 0, .int 0, .int 0, .ref (u6 0)])), (u6 0, .inl (D.2 0, 4, .inl (fun _ => 0))), (b7, .inr (0, [.int 0, .int 0, .int 0, .ref (u7 0)])), (u7 0, .inl (D.2 0, 4, .inl (fun _ => 0))), (m0, .inr (1, [.int 0, .int 0, .int 0, .int 0, .int 0])), (m1, .inr (1, [.int 0, .int 0, .int 0, .int 0, .int 0])), (m2, .inr (1, [.int 0, .int 0, .int 0, .int 0, .int 0])), (m3, .inr (1, [.int 0, .int 0, .int 0, .int 0, .int 0])), (m4, .inr (1, [.int 0, .int 0, .int 0, .int 0, .int 0])), (m5, .inr (1, [.int 0, .int 0, .int 0, .int 0, .int 0])), (m6, .inr (1, [.int 0, .int 0, .int 0, .int 0, .int 0]))] _ _
  refine vz_iload_n (pc := 86) dX4_init_86 rfl rfl ?_
  refine vz_bipush (pc := 87) (v := 8) dX4_init_87 rfl ?_
  refine vz_icmp_ge (pc := 89) dX4_init_89 (tgt := 111) rfl (fun h => absurd h (by decide +kernel)) (fun _ => ?_)
  refine vz_aload_n (pc := 92) dX4_init_92 rfl rfl ?_
  refine vz_geta (pc := 93) fl_X4_19 dX4_init_93 rfl ?_
  refine vz_iload_n (pc := 96) dX4_init_96 rfl rfl ?_
  refine vz_new (pc := 97) (ci := 1) (fs := vz_d1) rfl vz_df1 (fv_mem 101 (by decide +kernel) rfl) (fv_mem 128 (by decide +kernel) rfl) (fv_mem 72 (by decide +kernel) rfl) dX4_init_97 (Nat.le_of_ble_eq_true rfl) (Nat.le_of_ble_eq_true rfl) (fun m7 => ?_)
  refine vz_dup (pc := 100) dX4_init_100 ?_
  refine vz_initN (pc := 101) vz_X1_init (by decide) (fv_mem 130 (by decide +kernel) rfl) wi_X1_init cw_X1_init rfl rfl ⟨by decide +kernel, by decide +kernel, by decide +kernel⟩ (by decide) (by decide) rfl (Nat.le_of_ble_eq_true rfl) dX4_init_101 (Nat.le_of_ble_eq_true rfl) (Nat.le_of_ble_eq_true rfl) (fun v7 => ?_)
  refine vz_astq (pc := 104) (r := 2) (qk := 28) (t0 := 3) (ci := 1) (c := 7) rfl rfl rfl rfl rfl (by decide) (by decide) dX4_init_104 ?_
  refine vz_iinc1 (pc := 105) dX4_init_105 (fv_inc _) rfl ?_
  refine vz_goto (pc := 108) dX4_init_108 (tgt := 86) rfl ?_
  show vz_X D mX4_init _ _ _ _ _ 86 [some (.ref h), some (.int (nI 8))] [] [(h, .inr (4, [.ref q0, .ref q1, .ref q2, .ref q3, .int 0, .int 0, .int 0, .int 1])), (q0, .inl (D.2 2, 8, .inr (.inr (.inr (.inr (va_up (va_up (va_up (va_up (va_up (va_up (va_up (va_up (fun _ => none) 0 (some b0)) 1 (some b1)) 2 (some b2)) 3 (some b3)) 4 (some b4)) 5 (some b5)) 6 (some b6)) 7 (some b7))))))), (q1, .inl (D.2 3, 8, .inr (.inr (.inr (.inr (va_up (va_up (va_up (va_up (va_up (va_up (va_up (va_up (fun _ => none) 0 (some m0)) 1 (some m1)) 2 (some m2)) 3 (some m3)) 4 (some m4)) 5 (some m5)) 6 (some m6)) 7 (some m7))))))), (q2, .inl (D.2 0, 4, .inl (fun _ => 0))), (q3, .inl (D.2 0, 10, .inl (fun _ => 0))), (b0, .inr (0, [.int 0, .int 0, .int 0, .ref (u0 0)])), (u0 0, .inl (D.2 0, 4, .inl (fun _ => 0))), (b1, .inr (0, [.int 0, .int 0, .int 0, .ref (u1 0)])), (u1 0, .inl (D.2 0, 4, .inl (fun _ => 0))), (b2, .inr (0, [.int 0, .int 0, .int 0, .ref (u2 0)])), (u2 0, .inl (D.2 0, 4, .inl (fun _ => 0))), (b3, .inr (0, [.int 0, .int 0, .int 0, .ref (u3 0)])), (u3 0, .inl (D.2 0, 4, .inl (fun _ => 0))), (b4, .inr (0, [.int 0, .int 0, .int 0, .ref (u4 0)])), (u4 0, .inl (D.2 0, 4, .inl (fun _ => 0))), (b5, .inr (0, [.int 0, .int 0, .int 0, .ref (u5 0)])), (u5 0, .inl (D.2 0, 4, .inl (fun _ => 0))), (b6, .inr (0, [.int 0, .int 0, .int 0, .ref (u6 0)])), (u6 0, .inl (D.2 0, 4, .inl (fun _ => 0))), (b7, .inr (0, [.int 0, .int 0, .int 0, .ref (u7 0)])), (u7 0, .inl (D.2 0, 4, .inl (fun _ => 0))), (m0, .inr (1, [.int 0, .int 0, .int 0, .int 0, .int 0])), (m1, .inr (1, [.int 0, .int 0, .int 0, .int 0, .int 0])), (m2, .inr (1, [.int 0, .int 0, .int 0, .int 0, .int 0])), (m3, .inr (1, [.int 0, .int 0, .int 0, .int 0, .int 0])), (m4, .inr (1, [.int 0, .int 0, .int 0, .int 0, .int 0])), (m5, .inr (1, [.int 0, .int 0, .int 0, .int 0, .int 0])), (m6, .inr (1, [.int 0, .int 0, .int 0, .int 0, .int 0])), (m7, .inr (1, [.int 0, .int 0, .int 0, .int 0, .int 0]))] _ _
  refine vz_iload_n (pc := 86) dX4_init_86 rfl rfl ?_
  refine vz_bipush (pc := 87) (v := 8) dX4_init_87 rfl ?_
  refine vz_icmp_ge (pc := 89) dX4_init_89 (tgt := 111) rfl (fun _ => ?_) (fun h => absurd (by decide +kernel) h)
  refine vz_aload_n (pc := 111) dX4_init_111 rfl rfl ?_
  refine vz_geta (pc := 112) fl_X4_27 dX4_init_112 rfl ?_
  refine vz_iconst (pc := 115) (v := (-1)) dX4_init_115 fv_m1 ?_
  refine vz_fillC (pc := 116) (r := 4) rfl (vz_J7_fill (by decide)) ks_X4_45 rfl dX4_init_116 (Nat.le_of_ble_eq_true rfl) (Nat.le_of_ble_eq_true rfl) ?_
  refine vz_chg (r := 1) (f' := fun k => some ([q0, q1, q2, q3, b0, u0 0, b1, u1 0, b2, u2 0, b3, u3 0, b4, u4 0, b5, u5 0, b6, u6 0, b7, u7 0, m0, m1, m2, m3, m4, m5, m6, m7].getD (4 + 2 * k) 0)) rfl (fun j hj => by rcases (show j = 0 ∨ j = 1 ∨ j = 2 ∨ j = 3 ∨ j = 4 ∨ j = 5 ∨ j = 6 ∨ j = 7 by omega) with rfl | rfl | rfl | rfl | rfl | rfl | rfl | rfl <;> rfl) ?_
  refine vz_chg (r := 2) (f' := fun k => some ([q0, q1, q2, q3, b0, u0 0, b1, u1 0, b2, u2 0, b3, u3 0, b4, u4 0, b5, u5 0, b6, u6 0, b7, u7 0, m0, m1, m2, m3, m4, m5, m6, m7].getD (20 + k) 0)) rfl (fun j hj => by rcases (show j = 0 ∨ j = 1 ∨ j = 2 ∨ j = 3 ∨ j = 4 ∨ j = 5 ∨ j = 6 ∨ j = 7 by omega) with rfl | rfl | rfl | rfl | rfl | rfl | rfl | rfl <;> rfl) ?_
  exact vz_ret (fun i => [q0, q1, q2, q3, b0, u0 0, b1, u1 0, b2, u2 0, b3, u3 0, b4, u4 0, b5, u5 0, b6, u6 0, b7, u7 0, m0, m1, m2, m3, m4, m5, m6, m7].getD i 0) (pc := 119) dX4_init_119 rfl (Nat.le_of_ble_eq_true rfl) (Nat.le_of_ble_eq_true rfl) rfl
