theorem pSo_i_all : ((List.range 256).all fun v => decide ((nI v < 97 ↔ v < 97) ∧ (122 < nI v ↔ 122 < v) ∧ (nI v < 48 ↔ v < 48) ∧ (57 < nI v ↔ 57 < v) ∧ (nI v = 59 ↔ v = 59) ∧ (nI v = 32 ↔ v = 32))) = true := by decide +kernel
theorem pSo_i {v : Nat} (h : v < 256) : (nI v < 97 ↔ v < 97) ∧ (122 < nI v ↔ 122 < v) ∧ (nI v < 48 ↔ v < 48) ∧ (57 < nI v ↔ 57 < v) ∧ (nI v = 59 ↔ v = 59) ∧ (nI v = 32 ↔ v = 32) := of_decide_eq_true (fv_all1 pSo_i_all h)
theorem pSo_le (v : Nat) : 1 ≤ pSo v ∧ pSo v ≤ 5 := by
  unfold pSo
  by_cases h1 : 97 ≤ v ∧ v ≤ 122
  · rw [if_pos h1]; omega
  · rw [if_neg h1]
    by_cases h2 : 48 ≤ v ∧ v ≤ 57
    · rw [if_pos h2]; omega
    · rw [if_neg h2]
      by_cases h3 : v = 59
      · rw [if_pos h3]; omega
      · rw [if_neg h3]
        by_cases h4 : v = 32
        · rw [if_pos h4]; omega
        · rw [if_neg h4]; omega
theorem pSo_c {v : Nat} : (97 ≤ v ∧ v ≤ 122 → 1 = pSo v) ∧ (¬ (97 ≤ v ∧ v ≤ 122) → (48 ≤ v ∧ v ≤ 57 → 2 = pSo v) ∧ (¬ (48 ≤ v ∧ v ≤ 57) → (v = 59 → 3 = pSo v) ∧ (v ≠ 59 → (v = 32 → 4 = pSo v) ∧ (v ≠ 32 → 5 = pSo v)))) := by
  unfold pSo
  refine ⟨fun h => (if_pos h).symm, fun h1 => ?_⟩
  rw [if_neg h1]
  refine ⟨fun h => (if_pos h).symm, fun h2 => ?_⟩
  rw [if_neg h2]
  refine ⟨fun h => (if_pos h).symm, fun h3 => ?_⟩
  rw [if_neg h3]
  exact ⟨fun h => (if_pos h).symm, fun h4 => (if_neg h4).symm⟩
theorem hX5_sortAt {E : fv_E} {d p v : Nat} {M : fv_M} (hp : p < 120) (hv : M 5 p = nI v) (h256 : v < 256) : fv_F E d mX5_sortAt [.ref 88, .int (nI p)] M (some (.int (nI (pSo v)))) M := by
  have q := pSo_i h256
  have qc := pSo_c (v := v)
  refine fv_F.of (ls := [some (.ref 88), some (.int (nI p)), none]) (by decide) (Nat.le_of_ble_eq_true rfl) rfl ?_
  refine x_aload_n (pc := 0) dX5_sortAt_0 rfl rfl ?_
  refine x_geta (pc := 1) fl_X5_15 dX5_sortAt_1 (tb_88) rfl ?_
  refine x_iload_n (pc := 4) dX5_sortAt_4 rfl rfl ?_
  refine x_iale (pc := 5) dX5_sortAt_5 (tb_89) (rfl) (by omega) (by first | decide | assumption) (show _ = nI v from by rw [Nat.zero_add]; exact hv) ?_
  refine x_istore_n2 (pc := 6) dX5_sortAt_6 rfl ?_
  refine x_iload_n (pc := 7) dX5_sortAt_7 rfl rfl ?_
  refine x_bipush (pc := 8) (v := 97) dX5_sortAt_8 rfl ?_
  refine x_icmp_lt (pc := 10) dX5_sortAt_10 (tgt := 21) rfl (fun h10 => ?_) (fun h10 => ?_)
  ·
    have g := q.1.mp h10
    refine x_iload_n (pc := 21) dX5_sortAt_21 rfl rfl ?_
    refine x_bipush (pc := 22) (v := 48) dX5_sortAt_22 rfl ?_
    refine x_icmp_lt (pc := 24) dX5_sortAt_24 (tgt := 35) rfl (fun h24 => ?_) (fun h24 => ?_)
    ·
      have g2 := q.2.2.1.mp h24
      refine x_iload_n (pc := 35) dX5_sortAt_35 rfl rfl ?_
      refine x_bipush (pc := 36) (v := 59) dX5_sortAt_36 rfl ?_
      refine x_icmp_ne (pc := 38) dX5_sortAt_38 (tgt := 45) rfl (fun h38 => ?_) (fun h38 => ?_)
      ·
        have g4 : v ≠ 59 := fun z => h38 (q.2.2.2.2.1.mpr z)
        refine x_iload_n (pc := 45) dX5_sortAt_45 rfl rfl ?_
        refine x_bipush (pc := 46) (v := 32) dX5_sortAt_46 rfl ?_
        refine x_icmp_ne (pc := 48) dX5_sortAt_48 (tgt := 55) rfl (fun h48 => ?_) (fun h48 => ?_)
        ·
          have g5 : v ≠ 32 := fun z => h48 (q.2.2.2.2.2.mpr z)
          refine x_iconst (pc := 55) (v := 5) dX5_sortAt_55 rfl ?_
          refine x_iret (pc := 56) dX5_sortAt_56 rfl (by first | rfl | exact fv_nz _) ?_
          first | exact ⟨congrArg (fun z => some (Value.int (nI z))) (((qc.2 (by omega)).2 (by omega)).1 g4), rfl⟩ | exact ⟨congrArg (fun z => some (Value.int (nI z))) ((((qc.2 (by omega)).2 (by omega)).2 g4).1 g5), rfl⟩ | exact ⟨congrArg (fun z => some (Value.int (nI z))) ((((qc.2 (by omega)).2 (by omega)).2 g4).2 g5), rfl⟩
        ·
          have g5 := q.2.2.2.2.2.mp h48
          refine x_iconst (pc := 51) (v := 4) dX5_sortAt_51 rfl ?_
          refine x_goto (pc := 52) dX5_sortAt_52 (tgt := 56) rfl ?_
          refine x_iret (pc := 56) dX5_sortAt_56 rfl (by first | rfl | exact fv_nz _) ?_
          first | exact ⟨congrArg (fun z => some (Value.int (nI z))) (((qc.2 (by omega)).2 (by omega)).1 g4), rfl⟩ | exact ⟨congrArg (fun z => some (Value.int (nI z))) ((((qc.2 (by omega)).2 (by omega)).2 g4).1 g5), rfl⟩ | exact ⟨congrArg (fun z => some (Value.int (nI z))) ((((qc.2 (by omega)).2 (by omega)).2 g4).2 g5), rfl⟩
      ·
        have g4 := q.2.2.2.2.1.mp h38
        refine x_iconst (pc := 41) (v := 3) dX5_sortAt_41 rfl ?_
        refine x_goto (pc := 42) dX5_sortAt_42 (tgt := 56) rfl ?_
        refine x_iret (pc := 56) dX5_sortAt_56 rfl (by first | rfl | exact fv_nz _) ?_
        first | exact ⟨congrArg (fun z => some (Value.int (nI z))) (((qc.2 (by omega)).2 (by omega)).1 g4), rfl⟩ | exact ⟨congrArg (fun z => some (Value.int (nI z))) ((((qc.2 (by omega)).2 (by omega)).2 g4).1 g5), rfl⟩ | exact ⟨congrArg (fun z => some (Value.int (nI z))) ((((qc.2 (by omega)).2 (by omega)).2 g4).2 g5), rfl⟩
    ·
      have g2 : ¬ v < 48 := fun z => h24 (q.2.2.1.mpr z)
      refine x_iload_n (pc := 27) dX5_sortAt_27 rfl rfl ?_
      refine x_bipush (pc := 28) (v := 57) dX5_sortAt_28 rfl ?_
      refine x_icmp_gt (pc := 30) dX5_sortAt_30 (tgt := 35) rfl (fun h30 => ?_) (fun h30 => ?_)
      ·
        have g3 := q.2.2.2.1.mp h30
        refine x_iload_n (pc := 35) dX5_sortAt_35 rfl rfl ?_
        refine x_bipush (pc := 36) (v := 59) dX5_sortAt_36 rfl ?_
        refine x_icmp_ne (pc := 38) dX5_sortAt_38 (tgt := 45) rfl (fun h38 => ?_) (fun h38 => ?_)
        ·
          have g4 : v ≠ 59 := fun z => h38 (q.2.2.2.2.1.mpr z)
          refine x_iload_n (pc := 45) dX5_sortAt_45 rfl rfl ?_
          refine x_bipush (pc := 46) (v := 32) dX5_sortAt_46 rfl ?_
          refine x_icmp_ne (pc := 48) dX5_sortAt_48 (tgt := 55) rfl (fun h48 => ?_) (fun h48 => ?_)
          ·
            have g5 : v ≠ 32 := fun z => h48 (q.2.2.2.2.2.mpr z)
            refine x_iconst (pc := 55) (v := 5) dX5_sortAt_55 rfl ?_
            refine x_iret (pc := 56) dX5_sortAt_56 rfl (by first | rfl | exact fv_nz _) ?_
            first | exact ⟨congrArg (fun z => some (Value.int (nI z))) (((qc.2 (by omega)).2 (by omega)).1 g4), rfl⟩ | exact ⟨congrArg (fun z => some (Value.int (nI z))) ((((qc.2 (by omega)).2 (by omega)).2 g4).1 g5), rfl⟩ | exact ⟨congrArg (fun z => some (Value.int (nI z))) ((((qc.2 (by omega)).2 (by omega)).2 g4).2 g5), rfl⟩
          ·
            have g5 := q.2.2.2.2.2.mp h48
            refine x_iconst (pc := 51) (v := 4) dX5_sortAt_51 rfl ?_
            refine x_goto (pc := 52) dX5_sortAt_52 (tgt := 56) rfl ?_
            refine x_iret (pc := 56) dX5_sortAt_56 rfl (by first | rfl | exact fv_nz _) ?_
            first | exact ⟨congrArg (fun z => some (Value.int (nI z))) (((qc.2 (by omega)).2 (by omega)).1 g4), rfl⟩ | exact ⟨congrArg (fun z => some (Value.int (nI z))) ((((qc.2 (by omega)).2 (by omega)).2 g4).1 g5), rfl⟩ | exact ⟨congrArg (fun z => some (Value.int (nI z))) ((((qc.2 (by omega)).2 (by omega)).2 g4).2 g5), rfl⟩
        ·
          have g4 := q.2.2.2.2.1.mp h38
          refine x_iconst (pc := 41) (v := 3) dX5_sortAt_41 rfl ?_
          refine x_goto (pc := 42) dX5_sortAt_42 (tgt := 56) rfl ?_
          refine x_iret (pc := 56) dX5_sortAt_56 rfl (by first | rfl | exact fv_nz _) ?_
          first | exact ⟨congrArg (fun z => some (Value.int (nI z))) (((qc.2 (by omega)).2 (by omega)).1 g4), rfl⟩ | exact ⟨congrArg (fun z => some (Value.int (nI z))) ((((qc.2 (by omega)).2 (by omega)).2 g4).1 g5), rfl⟩ | exact ⟨congrArg (fun z => some (Value.int (nI z))) ((((qc.2 (by omega)).2 (by omega)).2 g4).2 g5), rfl⟩
      ·
        have g3 : ¬ 57 < v := fun z => h30 (q.2.2.2.1.mpr z)
        refine x_iconst (pc := 33) (v := 2) dX5_sortAt_33 rfl ?_
        refine x_iret (pc := 34) dX5_sortAt_34 rfl (by first | rfl | exact fv_nz _) ?_
        exact ⟨congrArg (fun z => some (Value.int (nI z))) ((qc.2 (by omega)).1 (by omega)), rfl⟩
  ·
    have g : ¬ v < 97 := fun z => h10 (q.1.mpr z)
    refine x_iload_n (pc := 13) dX5_sortAt_13 rfl rfl ?_
    refine x_bipush (pc := 14) (v := 122) dX5_sortAt_14 rfl ?_
    refine x_icmp_gt (pc := 16) dX5_sortAt_16 (tgt := 21) rfl (fun h16 => ?_) (fun h16 => ?_)
    ·
      have g1 := q.2.1.mp h16
      refine x_iload_n (pc := 21) dX5_sortAt_21 rfl rfl ?_
      refine x_bipush (pc := 22) (v := 48) dX5_sortAt_22 rfl ?_
      refine x_icmp_lt (pc := 24) dX5_sortAt_24 (tgt := 35) rfl (fun h24 => ?_) (fun h24 => ?_)
      ·
        have g2 := q.2.2.1.mp h24
        refine x_iload_n (pc := 35) dX5_sortAt_35 rfl rfl ?_
        refine x_bipush (pc := 36) (v := 59) dX5_sortAt_36 rfl ?_
        refine x_icmp_ne (pc := 38) dX5_sortAt_38 (tgt := 45) rfl (fun h38 => ?_) (fun h38 => ?_)
        ·
          have g4 : v ≠ 59 := fun z => h38 (q.2.2.2.2.1.mpr z)
          refine x_iload_n (pc := 45) dX5_sortAt_45 rfl rfl ?_
          refine x_bipush (pc := 46) (v := 32) dX5_sortAt_46 rfl ?_
          refine x_icmp_ne (pc := 48) dX5_sortAt_48 (tgt := 55) rfl (fun h48 => ?_) (fun h48 => ?_)
          ·
            have g5 : v ≠ 32 := fun z => h48 (q.2.2.2.2.2.mpr z)
            refine x_iconst (pc := 55) (v := 5) dX5_sortAt_55 rfl ?_
            refine x_iret (pc := 56) dX5_sortAt_56 rfl (by first | rfl | exact fv_nz _) ?_
            first | exact ⟨congrArg (fun z => some (Value.int (nI z))) (((qc.2 (by omega)).2 (by omega)).1 g4), rfl⟩ | exact ⟨congrArg (fun z => some (Value.int (nI z))) ((((qc.2 (by omega)).2 (by omega)).2 g4).1 g5), rfl⟩ | exact ⟨congrArg (fun z => some (Value.int (nI z))) ((((qc.2 (by omega)).2 (by omega)).2 g4).2 g5), rfl⟩
          ·
            have g5 := q.2.2.2.2.2.mp h48
            refine x_iconst (pc := 51) (v := 4) dX5_sortAt_51 rfl ?_
            refine x_goto (pc := 52) dX5_sortAt_52 (tgt := 56) rfl ?_
            refine x_iret (pc := 56) dX5_sortAt_56 rfl (by first | rfl | exact fv_nz _) ?_
            first | exact ⟨congrArg (fun z => some (Value.int (nI z))) (((qc.2 (by omega)).2 (by omega)).1 g4), rfl⟩ | exact ⟨congrArg (fun z => some (Value.int (nI z))) ((((qc.2 (by omega)).2 (by omega)).2 g4).1 g5), rfl⟩ | exact ⟨congrArg (fun z => some (Value.int (nI z))) ((((qc.2 (by omega)).2 (by omega)).2 g4).2 g5), rfl⟩
        ·
          have g4 := q.2.2.2.2.1.mp h38
          refine x_iconst (pc := 41) (v := 3) dX5_sortAt_41 rfl ?_
          refine x_goto (pc := 42) dX5_sortAt_42 (tgt := 56) rfl ?_
          refine x_iret (pc := 56) dX5_sortAt_56 rfl (by first | rfl | exact fv_nz _) ?_
          first | exact ⟨congrArg (fun z => some (Value.int (nI z))) (((qc.2 (by omega)).2 (by omega)).1 g4), rfl⟩ | exact ⟨congrArg (fun z => some (Value.int (nI z))) ((((qc.2 (by omega)).2 (by omega)).2 g4).1 g5), rfl⟩ | exact ⟨congrArg (fun z => some (Value.int (nI z))) ((((qc.2 (by omega)).2 (by omega)).2 g4).2 g5), rfl⟩
      ·
        have g2 : ¬ v < 48 := fun z => h24 (q.2.2.1.mpr z)
        refine x_iload_n (pc := 27) dX5_sortAt_27 rfl rfl ?_
        refine x_bipush (pc := 28) (v := 57) dX5_sortAt_28 rfl ?_
        refine x_icmp_gt (pc := 30) dX5_sortAt_30 (tgt := 35) rfl (fun h30 => ?_) (fun h30 => ?_)
        ·
          have g3 := q.2.2.2.1.mp h30
          refine x_iload_n (pc := 35) dX5_sortAt_35 rfl rfl ?_
          refine x_bipush (pc := 36) (v := 59) dX5_sortAt_36 rfl ?_
          refine x_icmp_ne (pc := 38) dX5_sortAt_38 (tgt := 45) rfl (fun h38 => ?_) (fun h38 => ?_)
          ·
            have g4 : v ≠ 59 := fun z => h38 (q.2.2.2.2.1.mpr z)
            refine x_iload_n (pc := 45) dX5_sortAt_45 rfl rfl ?_
            refine x_bipush (pc := 46) (v := 32) dX5_sortAt_46 rfl ?_
            refine x_icmp_ne (pc := 48) dX5_sortAt_48 (tgt := 55) rfl (fun h48 => ?_) (fun h48 => ?_)
            ·
              have g5 : v ≠ 32 := fun z => h48 (q.2.2.2.2.2.mpr z)
              refine x_iconst (pc := 55) (v := 5) dX5_sortAt_55 rfl ?_
              refine x_iret (pc := 56) dX5_sortAt_56 rfl (by first | rfl | exact fv_nz _) ?_
              first | exact ⟨congrArg (fun z => some (Value.int (nI z))) (((qc.2 (by omega)).2 (by omega)).1 g4), rfl⟩ | exact ⟨congrArg (fun z => some (Value.int (nI z))) ((((qc.2 (by omega)).2 (by omega)).2 g4).1 g5), rfl⟩ | exact ⟨congrArg (fun z => some (Value.int (nI z))) ((((qc.2 (by omega)).2 (by omega)).2 g4).2 g5), rfl⟩
            ·
              have g5 := q.2.2.2.2.2.mp h48
              refine x_iconst (pc := 51) (v := 4) dX5_sortAt_51 rfl ?_
              refine x_goto (pc := 52) dX5_sortAt_52 (tgt := 56) rfl ?_
              refine x_iret (pc := 56) dX5_sortAt_56 rfl (by first | rfl | exact fv_nz _) ?_
              first | exact ⟨congrArg (fun z => some (Value.int (nI z))) (((qc.2 (by omega)).2 (by omega)).1 g4), rfl⟩ | exact ⟨congrArg (fun z => some (Value.int (nI z))) ((((qc.2 (by omega)).2 (by omega)).2 g4).1 g5), rfl⟩ | exact ⟨congrArg (fun z => some (Value.int (nI z))) ((((qc.2 (by omega)).2 (by omega)).2 g4).2 g5), rfl⟩
          ·
            have g4 := q.2.2.2.2.1.mp h38
            refine x_iconst (pc := 41) (v := 3) dX5_sortAt_41 rfl ?_
            refine x_goto (pc := 42) dX5_sortAt_42 (tgt := 56) rfl ?_
            refine x_iret (pc := 56) dX5_sortAt_56 rfl (by first | rfl | exact fv_nz _) ?_
            first | exact ⟨congrArg (fun z => some (Value.int (nI z))) (((qc.2 (by omega)).2 (by omega)).1 g4), rfl⟩ | exact ⟨congrArg (fun z => some (Value.int (nI z))) ((((qc.2 (by omega)).2 (by omega)).2 g4).1 g5), rfl⟩ | exact ⟨congrArg (fun z => some (Value.int (nI z))) ((((qc.2 (by omega)).2 (by omega)).2 g4).2 g5), rfl⟩
        ·
          have g3 : ¬ 57 < v := fun z => h30 (q.2.2.2.1.mpr z)
          refine x_iconst (pc := 33) (v := 2) dX5_sortAt_33 rfl ?_
          refine x_iret (pc := 34) dX5_sortAt_34 rfl (by first | rfl | exact fv_nz _) ?_
          exact ⟨congrArg (fun z => some (Value.int (nI z))) ((qc.2 (by omega)).1 (by omega)), rfl⟩
    ·
      have g1 : ¬ 122 < v := fun z => h16 (q.2.1.mpr z)
      refine x_iconst (pc := 19) (v := 1) dX5_sortAt_19 rfl ?_
      refine x_iret (pc := 20) dX5_sortAt_20 rfl (by first | rfl | exact fv_nz _) ?_
      exact ⟨congrArg (fun z => some (Value.int (nI z))) (qc.1 (by omega)), rfl⟩
theorem hX5_isLong {E : fv_E} {d k : Nat} {M : fv_M} (hk : k ≤ 5) : fv_F E d mX5_isLong [.int (nI k)] M (some (.int (bI (k = 1 ∨ k = 2)))) M := by
  have q1 : nI k = 1 ↔ k = 1 := nI_eq (b := 1) (by omega) (by decide)
  have q2 : nI k = 2 ↔ k = 2 := nI_eq (b := 2) (by omega) (by decide)
  refine fv_F.of (ls := [some (.int (nI k))]) (by decide) (Nat.le_of_ble_eq_true rfl) rfl ?_
  refine x_iload_n (pc := 0) dX5_isLong_0 rfl rfl ?_
  refine x_iconst (pc := 1) (v := 1) dX5_isLong_1 rfl ?_
  refine x_icmp_eq (pc := 2) dX5_isLong_2 (tgt := 10) rfl (fun h2 => ?_) (fun h2 => ?_)
  ·
    have e := bI_t (p := k = 1 ∨ k = 2) (Or.inl (q1.mp h2))
    refine x_iconst (pc := 10) (v := 1) dX5_isLong_10 rfl ?_
    refine x_goto (pc := 11) dX5_isLong_11 (tgt := 15) rfl ?_
    refine x_iret (pc := 15) dX5_isLong_15 rfl (by first | rfl | exact fv_nz _) ?_
    exact ⟨congrArg (fun z => some (Value.int z)) e.symm, rfl⟩
  ·
    refine x_iload_n (pc := 5) dX5_isLong_5 rfl rfl ?_
    refine x_iconst (pc := 6) (v := 2) dX5_isLong_6 rfl ?_
    refine x_icmp_ne (pc := 7) dX5_isLong_7 (tgt := 14) rfl (fun h7 => ?_) (fun h7 => ?_)
    ·
      have e := bI_f (p := k = 1 ∨ k = 2) (fun z => z.elim (fun z => h2 (q1.mpr z)) (fun z => h7 (q2.mpr z)))
      refine x_iconst (pc := 14) (v := 0) dX5_isLong_14 rfl ?_
      refine x_iret (pc := 15) dX5_isLong_15 rfl (by first | rfl | exact fv_nz _) ?_
      exact ⟨congrArg (fun z => some (Value.int z)) e.symm, rfl⟩
    ·
      have e := bI_t (p := k = 1 ∨ k = 2) (Or.inr (q2.mp h7))
      refine x_iconst (pc := 10) (v := 1) dX5_isLong_10 rfl ?_
      refine x_goto (pc := 11) dX5_isLong_11 (tgt := 15) rfl ?_
      refine x_iret (pc := 15) dX5_isLong_15 rfl (by first | rfl | exact fv_nz _) ?_
      exact ⟨congrArg (fun z => some (Value.int z)) e.symm, rfl⟩
abbrev pAT (M : fv_M) (t : Nat) (a b c : Int32) : fv_M := fv_s (fv_s (fv_s (fv_s M 6 (fv_u (M 6) t a)) 7 (fv_u (M 7) t b)) 8 (fv_u (M 8) t c)) 4 (fv_u (M 4) 5 (nI (t + 1)))
theorem hX5_addToken {E : fv_E} {d t : Nat} {a b c : Int32} {M : fv_M} (ht : M 4 5 = nI t) (h : t < 121) : fv_F E d mX5_addToken [.ref 88, .int a, .int b, .int c] M none (pAT M t a b c) := by
  have e : nI (t + 1) = nI t + 1 := (nI_add t 1).symm
  have h0 : 0 + t = t := Nat.zero_add t
  unfold pAT
  rw [e]
  refine fv_F.of (ls := [some (.ref 88), some (.int a), some (.int b), some (.int c)]) (by decide) (Nat.le_of_ble_eq_true rfl) rfl ?_
  refine x_aload_n (pc := 0) dX5_addToken_0 rfl rfl ?_
  refine x_geti (pc := 1) fl_X5_41 dX5_addToken_1 (tb_88) rfl (ht) ?_
  refine x_bipush (pc := 4) (v := 120) dX5_addToken_4 rfl ?_
  refine x_icmp_gt (pc := 6) dX5_addToken_6 (tgt := 49) rfl (fun h6 => ?_) (fun h6 => ?_)
  ·
    exact absurd h6 (fun z => absurd ((nI_ltI (a := 120) (b := t) (by decide) (by omega)).mp z) (by omega))
  ·
    refine x_aload_n (pc := 9) dX5_addToken_9 rfl rfl ?_
    refine x_geta (pc := 10) fl_X5_19 dX5_addToken_10 (tb_88) rfl ?_
    refine x_aload_n (pc := 13) dX5_addToken_13 rfl rfl ?_
    refine x_geti (pc := 14) fl_X5_41 dX5_addToken_14 (tb_88) rfl (ht) ?_
    refine x_iload_n (pc := 17) dX5_addToken_17 rfl rfl ?_
    refine x_iast (pc := 18) dX5_addToken_18 (tb_90) (rfl) (by omega) (by first | decide | assumption) ?_
    rw [h0]
    refine x_aload_n (pc := 19) dX5_addToken_19 rfl rfl ?_
    refine x_geta (pc := 20) fl_X5_22 dX5_addToken_20 (tb_88) rfl ?_
    refine x_aload_n (pc := 23) dX5_addToken_23 rfl rfl ?_
    refine x_geti (pc := 24) fl_X5_41 dX5_addToken_24 (tb_88) rfl (ht) ?_
    refine x_iload_n (pc := 27) dX5_addToken_27 rfl rfl ?_
    refine x_iast (pc := 28) dX5_addToken_28 (tb_91) (rfl) (by omega) (by first | decide | assumption) ?_
    rw [h0]
    refine x_aload_n (pc := 29) dX5_addToken_29 rfl rfl ?_
    refine x_geta (pc := 30) fl_X5_25 dX5_addToken_30 (tb_88) rfl ?_
    refine x_aload_n (pc := 33) dX5_addToken_33 rfl rfl ?_
    refine x_geti (pc := 34) fl_X5_41 dX5_addToken_34 (tb_88) rfl (ht) ?_
    refine x_iload_n (pc := 37) dX5_addToken_37 rfl rfl ?_
    refine x_iast (pc := 38) dX5_addToken_38 (tb_92) (rfl) (by omega) (by first | decide | assumption) ?_
    rw [h0]
    refine x_aload_n (pc := 39) dX5_addToken_39 rfl rfl ?_
    first | refine x_dupa (pc := 40) dX5_addToken_40 ?_ | refine x_dupi (pc := 40) dX5_addToken_40 ?_
    refine x_geti (pc := 41) fl_X5_41 dX5_addToken_41 (tb_88) rfl (ht) ?_
    refine x_iconst (pc := 44) (v := 1) dX5_addToken_44 rfl ?_
    refine x_iadd (pc := 45) dX5_addToken_45 ?_
    refine x_put (pc := 46) fl_X5_41 dX5_addToken_46 (tb_88) rfl rfl rfl ?_
    refine x_ret (pc := 49) dX5_addToken_49 rfl ?_
    exact ⟨rfl, rfl⟩
theorem hX5_advance {E : fv_E} {d j n : Nat} {M : fv_M} (ht : M 4 5 = nI (n + 1)) (hj : M 4 6 = nI j) (h : j ≤ n) (hn : n < 1000) : fv_F E d mX5_advance [.ref 88] M none (fv_s M 4 (fv_u (M 4) 6 (nI (if j < n then j + 1 else j)))) := by
  have e1 : nI (n + 1) - 1 = nI n := nI_sub' (a := n + 1) (b := 1) (by omega)
  by_cases hjn : j < n
  · rw [if_pos hjn, show nI (j + 1) = nI j + 1 from (nI_add j 1).symm]
    refine fv_F.of (ls := [some (.ref 88)]) (by decide) (Nat.le_of_ble_eq_true rfl) rfl ?_
    refine x_aload_n (pc := 0) dX5_advance_0 rfl rfl ?_
    refine x_geti (pc := 1) fl_X5_31 dX5_advance_1 (tb_88) rfl (hj) ?_
    refine x_aload_n (pc := 4) dX5_advance_4 rfl rfl ?_
    refine x_geti (pc := 5) fl_X5_41 dX5_advance_5 (tb_88) rfl (ht) ?_
    refine x_iconst (pc := 8) (v := 1) dX5_advance_8 rfl ?_
    refine x_isub (pc := 9) dX5_advance_9 ?_
    rw [e1]
    refine x_icmp_ge (pc := 10) dX5_advance_10 (tgt := 23) rfl (fun h10 => ?_) (fun h10 => ?_)
    ·
      exact absurd h10 (nI_ge hjn (by omega))
    ·
      refine x_aload_n (pc := 13) dX5_advance_13 rfl rfl ?_
      first | refine x_dupa (pc := 14) dX5_advance_14 ?_ | refine x_dupi (pc := 14) dX5_advance_14 ?_
      refine x_geti (pc := 15) fl_X5_31 dX5_advance_15 (tb_88) rfl (hj) ?_
      refine x_iconst (pc := 18) (v := 1) dX5_advance_18 rfl ?_
      refine x_iadd (pc := 19) dX5_advance_19 ?_
      refine x_put (pc := 20) fl_X5_31 dX5_advance_20 (tb_88) rfl rfl rfl ?_
      refine x_ret (pc := 23) dX5_advance_23 rfl ?_
      exact ⟨rfl, rfl⟩
  · rw [if_neg hjn, show fv_s M 4 (fv_u (M 4) 6 (nI j)) = M from by rw [← hj, fv_u_id, fv_s_id]]
    refine fv_F.of (ls := [some (.ref 88)]) (by decide) (Nat.le_of_ble_eq_true rfl) rfl ?_
    refine x_aload_n (pc := 0) dX5_advance_0 rfl rfl ?_
    refine x_geti (pc := 1) fl_X5_31 dX5_advance_1 (tb_88) rfl (hj) ?_
    refine x_aload_n (pc := 4) dX5_advance_4 rfl rfl ?_
    refine x_geti (pc := 5) fl_X5_41 dX5_advance_5 (tb_88) rfl (ht) ?_
    refine x_iconst (pc := 8) (v := 1) dX5_advance_8 rfl ?_
    refine x_isub (pc := 9) dX5_advance_9 ?_
    rw [e1]
    refine x_icmp_ge (pc := 10) dX5_advance_10 (tgt := 23) rfl (fun h10 => ?_) (fun h10 => ?_)
    ·
      refine x_ret (pc := 23) dX5_advance_23 rfl ?_
      exact ⟨rfl, rfl⟩
    ·
      exact absurd (nI_le (by omega) (by omega)) h10
/-- a loop by a measure -/
theorem x_loopM {E : fv_E} {y : fv_Y} {d pc : Nat} {Φ : Option Value → fv_M → Prop} {st : List Value} {α : Type} (ls : α → List (Option Value)) (I : α → fv_M → Prop) (μ : α → Nat) (a0 : α) {ls0 : List (Option Value)} {M0 : fv_M} (h0 : ls a0 = ls0) (hI : I a0 M0) (hstep : ∀ a M, I a M → (∀ a' M', μ a' < μ a → I a' M' → fv_X E y d Φ pc (ls a') st M') → fv_X E y d Φ pc (ls a) st M) : fv_X E y d Φ pc ls0 st M0 := by
  subst h0
  have key : ∀ k a M, μ a < k → I a M → fv_X E y d Φ pc (ls a) st M := by
    intro k
    induction k with
    | zero => intro a M h; exact absurd h (Nat.not_lt_zero _)
    | succ k ih =>
      intro a M h hIa
      exact hstep a M hIa (fun a' M' hm hI' => ih a' M' (by omega) hI')
  exact key _ a0 M0 (Nat.lt_succ_self _) hI
