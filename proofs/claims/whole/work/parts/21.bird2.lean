def pHat (σ : Nat → Int32) (i : Nat) (k : Int32) : Nat → Int32 := pFill (fv_u (fv_u (fv_u σ (fB i 0) k) (fB i 1) 2) (fB i 2) 1) (fB i 3) 4 0
theorem hX0_hatch {E : fv_E} {d s i : Nat} {k : Int32} {M : fv_M} (hs : s < 3) (hi : i < 8) : fv_F E (d + 1) mX0_hatch [.ref (aB s i), .int k] M none (fv_s M s (pHat (M s) i k)) := by
  refine fv_F.of (ls := [some (.ref (aB s i)), some (.int k)]) (by decide) (Nat.le_of_ble_eq_true rfl) rfl ?_
  refine x_aload_n (pc := 0) dX0_hatch_0 rfl rfl ?_
  refine x_iload_n (pc := 1) dX0_hatch_1 rfl rfl ?_
  refine x_put (pc := 2) fl_X0_15 dX0_hatch_2 (tb_b (by assumption) (by assumption)) rfl rfl rfl ?_
  refine x_aload_n (pc := 5) dX0_hatch_5 rfl rfl ?_
  refine x_iconst (pc := 6) (v := 2) dX0_hatch_6 rfl ?_
  refine x_put (pc := 7) fl_X0_19 dX0_hatch_7 (tb_b (by assumption) (by assumption)) rfl rfl rfl ?_
  refine x_aload_n (pc := 10) dX0_hatch_10 rfl rfl ?_
  refine x_iconst (pc := 11) (v := 1) dX0_hatch_11 rfl ?_
  refine x_put (pc := 12) fl_X0_22 dX0_hatch_12 (tb_b (by assumption) (by assumption)) rfl rfl rfl ?_
  refine x_aload_n (pc := 15) dX0_hatch_15 rfl rfl ?_
  refine x_geta (pc := 16) fl_X0_9 dX0_hatch_16 (tb_b (by assumption) (by assumption)) rfl ?_
  refine x_iconst (pc := 19) (v := 0) dX0_hatch_19 rfl ?_
  refine x_Sv (pc := 20) ks_X0_25 dX0_hatch_20 (hJ7_fill_53178 (tb_f hs hi) (by decide)) rfl rfl rfl (Nat.le_of_ble_eq_true rfl) ?_
  refine x_ret (pc := 23) dX0_hatch_23 rfl ?_
  exact ⟨rfl, by simp only [fv_s_same, fv_s_s]; rfl⟩
def pBec (σ τ : Nat → Int32) (i : Nat) : Nat → Int32 := fv_cp (fv_u (fv_u (fv_u σ (fB i 0) (τ (fB i 0))) (fB i 1) (τ (fB i 1))) (fB i 2) (τ (fB i 2))) (fB i 3 + 0) τ (fB i 3 + 0) 4
theorem hX0_become {E : fv_E} {d s t i : Nat} {M : fv_M} (hs : s < 3) (ht : t < 3) (hst : t ≠ s) (hi : i < 8) : fv_F E (d + 1) mX0_become [.ref (aB s i), .ref (aB t i)] M none (fv_s M s (pBec (M s) (M t) i)) := by
  refine fv_F.of (ls := [some (.ref (aB s i)), some (.ref (aB t i))]) (by decide) (Nat.le_of_ble_eq_true rfl) rfl ?_
  refine x_aload_n (pc := 0) dX0_become_0 rfl rfl ?_
  refine x_aload_n (pc := 1) dX0_become_1 rfl rfl ?_
  refine x_geti (pc := 2) fl_X0_15 dX0_become_2 (tb_b (by assumption) (by assumption)) rfl (rfl) ?_
  refine x_put (pc := 5) fl_X0_15 dX0_become_5 (tb_b (by assumption) (by assumption)) rfl rfl rfl ?_
  refine x_aload_n (pc := 8) dX0_become_8 rfl rfl ?_
  refine x_aload_n (pc := 9) dX0_become_9 rfl rfl ?_
  refine x_geti (pc := 10) fl_X0_19 dX0_become_10 (tb_b (by assumption) (by assumption)) rfl (rfl) ?_
  refine x_put (pc := 13) fl_X0_19 dX0_become_13 (tb_b (by assumption) (by assumption)) rfl rfl rfl ?_
  refine x_aload_n (pc := 16) dX0_become_16 rfl rfl ?_
  refine x_aload_n (pc := 17) dX0_become_17 rfl rfl ?_
  refine x_geti (pc := 18) fl_X0_22 dX0_become_18 (tb_b (by assumption) (by assumption)) rfl (rfl) ?_
  refine x_put (pc := 21) fl_X0_22 dX0_become_21 (tb_b (by assumption) (by assumption)) rfl rfl rfl ?_
  refine x_aload_n (pc := 24) dX0_become_24 rfl rfl ?_
  refine x_geta (pc := 25) fl_X0_9 dX0_become_25 (tb_b (by assumption) (by assumption)) rfl ?_
  refine x_iconst (pc := 28) (v := 0) dX0_become_28 rfl ?_
  refine x_aload_n (pc := 29) dX0_become_29 rfl rfl ?_
  refine x_geta (pc := 30) fl_X0_9 dX0_become_30 (tb_b (by assumption) (by assumption)) rfl ?_
  refine x_iconst (pc := 33) (v := 0) dX0_become_33 rfl ?_
  refine x_iconst (pc := 34) (v := 4) dX0_become_34 rfl ?_
  refine x_copy (pc := 35) ks_X0_31 dX0_become_35 (tb_f (by assumption) (by assumption)) (tb_f (by assumption) (by assumption)) (rfl) (rfl) (rfl) (by decide) (by decide) (by decide) (by decide) rfl (Nat.le_of_ble_eq_true rfl) ?_
  refine x_ret (pc := 38) dX0_become_38 rfl ?_
  exact ⟨rfl, by simp only [fv_s_same, fv_s_s, fv_s_ne _ _ hst]; rfl⟩
def pFeat (σ : Nat → Int32) (i w : Nat) : Int32 := if w < 7 then σ (fB i w) else if w = 7 then pFe σ i else bI (σ (fB i 1) ≤ pFe σ i)
theorem hX0_feature0 {E : fv_E} {d s i : Nat} {M : fv_M} (hs : s < 3) (hi : i < 8) : fv_F E (d + 2) mX0_feature [.ref (aB s i), .int (nI 0)] M (some (.int (M s (fB i 0)))) M := by
  refine fv_F.of (ls := [some (.ref (aB s i)), some (.int (nI 0)), none]) (by decide) (Nat.le_of_ble_eq_true rfl) rfl ?_
  refine x_iload_n (pc := 0) dX0_feature_0 rfl rfl ?_
  refine x_tableIn (pc := 1) dX0_feature_1 (by decide) (by decide) rfl (tgt := 52) rfl ?_
  refine x_aload_n (pc := 52) dX0_feature_52 rfl rfl ?_
  refine x_geti (pc := 53) fl_X0_15 dX0_feature_53 (tb_b (by assumption) (by assumption)) rfl (rfl) ?_
  refine x_iret (pc := 56) dX0_feature_56 rfl (by first | rfl | exact fv_nz _) ?_
  exact ⟨rfl, rfl⟩
theorem hX0_feature1 {E : fv_E} {d s i : Nat} {M : fv_M} (hs : s < 3) (hi : i < 8) : fv_F E (d + 2) mX0_feature [.ref (aB s i), .int (nI 1)] M (some (.int (M s (fB i 1)))) M := by
  refine fv_F.of (ls := [some (.ref (aB s i)), some (.int (nI 1)), none]) (by decide) (Nat.le_of_ble_eq_true rfl) rfl ?_
  refine x_iload_n (pc := 0) dX0_feature_0 rfl rfl ?_
  refine x_tableIn (pc := 1) dX0_feature_1 (by decide) (by decide) rfl (tgt := 57) rfl ?_
  refine x_aload_n (pc := 57) dX0_feature_57 rfl rfl ?_
  refine x_geti (pc := 58) fl_X0_19 dX0_feature_58 (tb_b (by assumption) (by assumption)) rfl (rfl) ?_
  refine x_iret (pc := 61) dX0_feature_61 rfl (by first | rfl | exact fv_nz _) ?_
  exact ⟨rfl, rfl⟩
theorem hX0_feature2 {E : fv_E} {d s i : Nat} {M : fv_M} (hs : s < 3) (hi : i < 8) : fv_F E (d + 2) mX0_feature [.ref (aB s i), .int (nI 2)] M (some (.int (M s (fB i 2)))) M := by
  refine fv_F.of (ls := [some (.ref (aB s i)), some (.int (nI 2)), none]) (by decide) (Nat.le_of_ble_eq_true rfl) rfl ?_
  refine x_iload_n (pc := 0) dX0_feature_0 rfl rfl ?_
  refine x_tableIn (pc := 1) dX0_feature_1 (by decide) (by decide) rfl (tgt := 62) rfl ?_
  refine x_aload_n (pc := 62) dX0_feature_62 rfl rfl ?_
  refine x_geti (pc := 63) fl_X0_22 dX0_feature_63 (tb_b (by assumption) (by assumption)) rfl (rfl) ?_
  refine x_iret (pc := 66) dX0_feature_66 rfl (by first | rfl | exact fv_nz _) ?_
  exact ⟨rfl, rfl⟩
theorem hX0_feature3 {E : fv_E} {d s i : Nat} {M : fv_M} (hs : s < 3) (hi : i < 8) : fv_F E (d + 2) mX0_feature [.ref (aB s i), .int (nI 3)] M (some (.int (M s (fB i 3 + 0)))) M := by
  refine fv_F.of (ls := [some (.ref (aB s i)), some (.int (nI 3)), none]) (by decide) (Nat.le_of_ble_eq_true rfl) rfl ?_
  refine x_iload_n (pc := 0) dX0_feature_0 rfl rfl ?_
  refine x_tableIn (pc := 1) dX0_feature_1 (by decide) (by decide) rfl (tgt := 85) rfl ?_
  refine x_iload_n (pc := 85) dX0_feature_85 rfl rfl ?_
  refine x_iconst (pc := 86) (v := 3) dX0_feature_86 rfl ?_
  refine x_isub (pc := 87) dX0_feature_87 ?_
  refine x_istore_n2 (pc := 88) dX0_feature_88 rfl ?_
  refine x_iload_n (pc := 89) dX0_feature_89 rfl rfl ?_
  refine x_iconst (pc := 90) (v := 3) dX0_feature_90 rfl ?_
  refine x_Ni (pc := 91) ks_X0_45 dX0_feature_91 (hX6_isUpTo) rfl rfl rfl (Nat.le_of_ble_eq_true rfl) ?_
  refine x_ifb_eq (pc := 94) dX0_feature_94 (tgt := 106) rfl (fun h94 => ?_) (fun h94 => ?_)
  ·
    exact absurd (by decide) h94
  ·
    refine x_aload_n (pc := 97) dX0_feature_97 rfl rfl ?_
    refine x_geta (pc := 98) fl_X0_9 dX0_feature_98 (tb_b (by assumption) (by assumption)) rfl ?_
    refine x_iload_n (pc := 101) dX0_feature_101 rfl rfl ?_
    refine x_iald (pc := 102) dX0_feature_102 (tb_f (by assumption) (by assumption)) ((by decide : nI 3 - 3 = nI 0)) (by decide) (by decide) ?_
    refine x_goto (pc := 103) dX0_feature_103 (tgt := 107) rfl ?_
    refine x_iret (pc := 107) dX0_feature_107 rfl (by first | rfl | exact fv_nz _) ?_
    exact ⟨rfl, rfl⟩
theorem hX0_feature4 {E : fv_E} {d s i : Nat} {M : fv_M} (hs : s < 3) (hi : i < 8) : fv_F E (d + 2) mX0_feature [.ref (aB s i), .int (nI 4)] M (some (.int (M s (fB i 3 + 1)))) M := by
  refine fv_F.of (ls := [some (.ref (aB s i)), some (.int (nI 4)), none]) (by decide) (Nat.le_of_ble_eq_true rfl) rfl ?_
  refine x_iload_n (pc := 0) dX0_feature_0 rfl rfl ?_
  refine x_tableIn (pc := 1) dX0_feature_1 (by decide) (by decide) rfl (tgt := 85) rfl ?_
  refine x_iload_n (pc := 85) dX0_feature_85 rfl rfl ?_
  refine x_iconst (pc := 86) (v := 3) dX0_feature_86 rfl ?_
  refine x_isub (pc := 87) dX0_feature_87 ?_
  refine x_istore_n2 (pc := 88) dX0_feature_88 rfl ?_
  refine x_iload_n (pc := 89) dX0_feature_89 rfl rfl ?_
  refine x_iconst (pc := 90) (v := 3) dX0_feature_90 rfl ?_
  refine x_Ni (pc := 91) ks_X0_45 dX0_feature_91 (hX6_isUpTo) rfl rfl rfl (Nat.le_of_ble_eq_true rfl) ?_
  refine x_ifb_eq (pc := 94) dX0_feature_94 (tgt := 106) rfl (fun h94 => ?_) (fun h94 => ?_)
  ·
    exact absurd (by decide) h94
  ·
    refine x_aload_n (pc := 97) dX0_feature_97 rfl rfl ?_
    refine x_geta (pc := 98) fl_X0_9 dX0_feature_98 (tb_b (by assumption) (by assumption)) rfl ?_
    refine x_iload_n (pc := 101) dX0_feature_101 rfl rfl ?_
    refine x_iald (pc := 102) dX0_feature_102 (tb_f (by assumption) (by assumption)) ((by decide : nI 4 - 3 = nI 1)) (by decide) (by decide) ?_
    refine x_goto (pc := 103) dX0_feature_103 (tgt := 107) rfl ?_
    refine x_iret (pc := 107) dX0_feature_107 rfl (by first | rfl | exact fv_nz _) ?_
    exact ⟨rfl, rfl⟩
theorem hX0_feature5 {E : fv_E} {d s i : Nat} {M : fv_M} (hs : s < 3) (hi : i < 8) : fv_F E (d + 2) mX0_feature [.ref (aB s i), .int (nI 5)] M (some (.int (M s (fB i 3 + 2)))) M := by
  refine fv_F.of (ls := [some (.ref (aB s i)), some (.int (nI 5)), none]) (by decide) (Nat.le_of_ble_eq_true rfl) rfl ?_
  refine x_iload_n (pc := 0) dX0_feature_0 rfl rfl ?_
  refine x_tableIn (pc := 1) dX0_feature_1 (by decide) (by decide) rfl (tgt := 85) rfl ?_
  refine x_iload_n (pc := 85) dX0_feature_85 rfl rfl ?_
  refine x_iconst (pc := 86) (v := 3) dX0_feature_86 rfl ?_
  refine x_isub (pc := 87) dX0_feature_87 ?_
  refine x_istore_n2 (pc := 88) dX0_feature_88 rfl ?_
  refine x_iload_n (pc := 89) dX0_feature_89 rfl rfl ?_
  refine x_iconst (pc := 90) (v := 3) dX0_feature_90 rfl ?_
  refine x_Ni (pc := 91) ks_X0_45 dX0_feature_91 (hX6_isUpTo) rfl rfl rfl (Nat.le_of_ble_eq_true rfl) ?_
  refine x_ifb_eq (pc := 94) dX0_feature_94 (tgt := 106) rfl (fun h94 => ?_) (fun h94 => ?_)
  ·
    exact absurd (by decide) h94
  ·
    refine x_aload_n (pc := 97) dX0_feature_97 rfl rfl ?_
    refine x_geta (pc := 98) fl_X0_9 dX0_feature_98 (tb_b (by assumption) (by assumption)) rfl ?_
    refine x_iload_n (pc := 101) dX0_feature_101 rfl rfl ?_
    refine x_iald (pc := 102) dX0_feature_102 (tb_f (by assumption) (by assumption)) ((by decide : nI 5 - 3 = nI 2)) (by decide) (by decide) ?_
    refine x_goto (pc := 103) dX0_feature_103 (tgt := 107) rfl ?_
    refine x_iret (pc := 107) dX0_feature_107 rfl (by first | rfl | exact fv_nz _) ?_
    exact ⟨rfl, rfl⟩
theorem hX0_feature6 {E : fv_E} {d s i : Nat} {M : fv_M} (hs : s < 3) (hi : i < 8) : fv_F E (d + 2) mX0_feature [.ref (aB s i), .int (nI 6)] M (some (.int (M s (fB i 3 + 3)))) M := by
  refine fv_F.of (ls := [some (.ref (aB s i)), some (.int (nI 6)), none]) (by decide) (Nat.le_of_ble_eq_true rfl) rfl ?_
  refine x_iload_n (pc := 0) dX0_feature_0 rfl rfl ?_
  refine x_tableIn (pc := 1) dX0_feature_1 (by decide) (by decide) rfl (tgt := 85) rfl ?_
  refine x_iload_n (pc := 85) dX0_feature_85 rfl rfl ?_
  refine x_iconst (pc := 86) (v := 3) dX0_feature_86 rfl ?_
  refine x_isub (pc := 87) dX0_feature_87 ?_
  refine x_istore_n2 (pc := 88) dX0_feature_88 rfl ?_
  refine x_iload_n (pc := 89) dX0_feature_89 rfl rfl ?_
  refine x_iconst (pc := 90) (v := 3) dX0_feature_90 rfl ?_
  refine x_Ni (pc := 91) ks_X0_45 dX0_feature_91 (hX6_isUpTo) rfl rfl rfl (Nat.le_of_ble_eq_true rfl) ?_
  refine x_ifb_eq (pc := 94) dX0_feature_94 (tgt := 106) rfl (fun h94 => ?_) (fun h94 => ?_)
  ·
    exact absurd (by decide) h94
  ·
    refine x_aload_n (pc := 97) dX0_feature_97 rfl rfl ?_
    refine x_geta (pc := 98) fl_X0_9 dX0_feature_98 (tb_b (by assumption) (by assumption)) rfl ?_
    refine x_iload_n (pc := 101) dX0_feature_101 rfl rfl ?_
    refine x_iald (pc := 102) dX0_feature_102 (tb_f (by assumption) (by assumption)) ((by decide : nI 6 - 3 = nI 3)) (by decide) (by decide) ?_
    refine x_goto (pc := 103) dX0_feature_103 (tgt := 107) rfl ?_
    refine x_iret (pc := 107) dX0_feature_107 rfl (by first | rfl | exact fv_nz _) ?_
    exact ⟨rfl, rfl⟩
theorem hX0_feature7 {E : fv_E} {d s i : Nat} {M : fv_M} (hs : s < 3) (hi : i < 8) : fv_F E (d + 2) mX0_feature [.ref (aB s i), .int (nI 7)] M (some (.int (pFe (M s) i))) M := by
  refine fv_F.of (ls := [some (.ref (aB s i)), some (.int (nI 7)), none]) (by decide) (Nat.le_of_ble_eq_true rfl) rfl ?_
  refine x_iload_n (pc := 0) dX0_feature_0 rfl rfl ?_
  refine x_tableIn (pc := 1) dX0_feature_1 (by decide) (by decide) rfl (tgt := 67) rfl ?_
  refine x_aload_n (pc := 67) dX0_feature_67 rfl rfl ?_
  refine x_Vi (pc := 68) ks_X0_37 dX0_feature_68 (tb_b (by assumption) (by assumption)) rfl rfl (hX0_allFeathers hs hi) rfl rfl rfl (Nat.le_of_ble_eq_true rfl) ?_
  refine x_iret (pc := 71) dX0_feature_71 rfl (by first | rfl | exact fv_nz _) ?_
  exact ⟨rfl, rfl⟩
theorem hX0_feature8 {E : fv_E} {d s i : Nat} {M : fv_M} (hs : s < 3) (hi : i < 8) : fv_F E (d + 2) mX0_feature [.ref (aB s i), .int (nI 8)] M (some (.int (bI (M s (fB i 1) ≤ pFe (M s) i)))) M := by
  refine fv_F.of (ls := [some (.ref (aB s i)), some (.int (nI 8)), none]) (by decide) (Nat.le_of_ble_eq_true rfl) rfl ?_
  refine x_iload_n (pc := 0) dX0_feature_0 rfl rfl ?_
  refine x_tableIn (pc := 1) dX0_feature_1 (by decide) (by decide) rfl (tgt := 72) rfl ?_
  refine x_aload_n (pc := 72) dX0_feature_72 rfl rfl ?_
  refine x_Vi (pc := 73) ks_X0_41 dX0_feature_73 (tb_b (by assumption) (by assumption)) rfl rfl (hX0_canFly hs hi) rfl rfl rfl (Nat.le_of_ble_eq_true rfl) ?_
  refine x_ifb_eq (pc := 76) dX0_feature_76 (tgt := 83) rfl (fun h76 => ?_) (fun h76 => ?_)
  ·
    refine x_iconst (pc := 83) (v := 0) dX0_feature_83 rfl ?_
    refine x_iret (pc := 84) dX0_feature_84 rfl (by first | rfl | exact fv_nz _) ?_
    first | exact ⟨by rw [bI_t (by assumption)], rfl⟩ | exact ⟨by rw [bI_f (by assumption)], rfl⟩
  ·
    refine x_iconst (pc := 79) (v := 1) dX0_feature_79 rfl ?_
    refine x_goto (pc := 80) dX0_feature_80 (tgt := 84) rfl ?_
    refine x_iret (pc := 84) dX0_feature_84 rfl (by first | rfl | exact fv_nz _) ?_
    first | exact ⟨by rw [bI_t (by assumption)], rfl⟩ | exact ⟨by rw [bI_f (by assumption)], rfl⟩
theorem hX0_feature {E : fv_E} {d s i w : Nat} {M : fv_M} (hs : s < 3) (hi : i < 8) (hw : w < 9) : fv_F E (d + 2) mX0_feature [.ref (aB s i), .int (nI w)] M (some (.int (pFeat (M s) i w))) M := by
  match w, hw with
  | 0, _ => exact hX0_feature0 hs hi
  | 1, _ => exact hX0_feature1 hs hi
  | 2, _ => exact hX0_feature2 hs hi
  | 3, _ => exact hX0_feature3 hs hi
  | 4, _ => exact hX0_feature4 hs hi
  | 5, _ => exact hX0_feature5 hs hi
  | 6, _ => exact hX0_feature6 hs hi
  | 7, _ => exact hX0_feature7 hs hi
  | 8, _ => exact hX0_feature8 hs hi
  | n + 9, h => omega
theorem hX0_setFeature0 {E : fv_E} {d s i : Nat} {v : Int32} {M : fv_M} (hs : s < 3) (hi : i < 8) : fv_F E (d + 1) mX0_setFeature [.ref (aB s i), .int (nI 0), .int v] M none (fv_s M s (fv_u (M s) (fB i 0) v)) := by
  refine fv_F.of (ls := [some (.ref (aB s i)), some (.int (nI 0)), some (.int v), none]) (by decide) (Nat.le_of_ble_eq_true rfl) rfl ?_
  refine x_iload_n (pc := 0) dX0_setFeature_0 rfl rfl ?_
  refine x_iconst (pc := 1) (v := 3) dX0_setFeature_1 rfl ?_
  refine x_isub (pc := 2) dX0_setFeature_2 ?_
  refine x_istore_n3 (pc := 3) dX0_setFeature_3 rfl ?_
  refine x_iload_n (pc := 4) dX0_setFeature_4 rfl rfl ?_
  refine x_if_ne (pc := 5) dX0_setFeature_5 (tgt := 16) rfl (fun h5 => ?_) (fun h5 => ?_)
  ·
    exact absurd rfl h5
  ·
    refine x_aload_n (pc := 8) dX0_setFeature_8 rfl rfl ?_
    refine x_iload_n (pc := 9) dX0_setFeature_9 rfl rfl ?_
    refine x_put (pc := 10) fl_X0_15 dX0_setFeature_10 (tb_b (by assumption) (by assumption)) rfl rfl rfl ?_
    refine x_goto (pc := 13) dX0_setFeature_13 (tgt := 57) rfl ?_
    refine x_ret (pc := 57) dX0_setFeature_57 rfl ?_
    exact ⟨rfl, rfl⟩
theorem hX0_setFeature1 {E : fv_E} {d s i : Nat} {v : Int32} {M : fv_M} (hs : s < 3) (hi : i < 8) : fv_F E (d + 1) mX0_setFeature [.ref (aB s i), .int (nI 1), .int v] M none (fv_s M s (fv_u (M s) (fB i 1) v)) := by
  refine fv_F.of (ls := [some (.ref (aB s i)), some (.int (nI 1)), some (.int v), none]) (by decide) (Nat.le_of_ble_eq_true rfl) rfl ?_
  refine x_iload_n (pc := 0) dX0_setFeature_0 rfl rfl ?_
  refine x_iconst (pc := 1) (v := 3) dX0_setFeature_1 rfl ?_
  refine x_isub (pc := 2) dX0_setFeature_2 ?_
  refine x_istore_n3 (pc := 3) dX0_setFeature_3 rfl ?_
  refine x_iload_n (pc := 4) dX0_setFeature_4 rfl rfl ?_
  refine x_if_ne (pc := 5) dX0_setFeature_5 (tgt := 16) rfl (fun h5 => ?_) (fun h5 => ?_)
  ·
    refine x_iload_n (pc := 16) dX0_setFeature_16 rfl rfl ?_
    refine x_iconst (pc := 17) (v := 1) dX0_setFeature_17 rfl ?_
    refine x_icmp_ne (pc := 18) dX0_setFeature_18 (tgt := 29) rfl (fun h18 => ?_) (fun h18 => ?_)
    ·
      exact absurd rfl h18
    ·
      refine x_aload_n (pc := 21) dX0_setFeature_21 rfl rfl ?_
      refine x_iload_n (pc := 22) dX0_setFeature_22 rfl rfl ?_
      refine x_put (pc := 23) fl_X0_19 dX0_setFeature_23 (tb_b (by assumption) (by assumption)) rfl rfl rfl ?_
      refine x_goto (pc := 26) dX0_setFeature_26 (tgt := 57) rfl ?_
      refine x_ret (pc := 57) dX0_setFeature_57 rfl ?_
      exact ⟨rfl, rfl⟩
  ·
    exact absurd h5 (by decide)
theorem hX0_setFeature2 {E : fv_E} {d s i : Nat} {v : Int32} {M : fv_M} (hs : s < 3) (hi : i < 8) : fv_F E (d + 1) mX0_setFeature [.ref (aB s i), .int (nI 2), .int v] M none (fv_s M s (fv_u (M s) (fB i 2) v)) := by
  refine fv_F.of (ls := [some (.ref (aB s i)), some (.int (nI 2)), some (.int v), none]) (by decide) (Nat.le_of_ble_eq_true rfl) rfl ?_
  refine x_iload_n (pc := 0) dX0_setFeature_0 rfl rfl ?_
  refine x_iconst (pc := 1) (v := 3) dX0_setFeature_1 rfl ?_
  refine x_isub (pc := 2) dX0_setFeature_2 ?_
  refine x_istore_n3 (pc := 3) dX0_setFeature_3 rfl ?_
  refine x_iload_n (pc := 4) dX0_setFeature_4 rfl rfl ?_
  refine x_if_ne (pc := 5) dX0_setFeature_5 (tgt := 16) rfl (fun h5 => ?_) (fun h5 => ?_)
  ·
    refine x_iload_n (pc := 16) dX0_setFeature_16 rfl rfl ?_
    refine x_iconst (pc := 17) (v := 1) dX0_setFeature_17 rfl ?_
    refine x_icmp_ne (pc := 18) dX0_setFeature_18 (tgt := 29) rfl (fun h18 => ?_) (fun h18 => ?_)
    ·
      refine x_iload_n (pc := 29) dX0_setFeature_29 rfl rfl ?_
      refine x_iconst (pc := 30) (v := 2) dX0_setFeature_30 rfl ?_
      refine x_icmp_ne (pc := 31) dX0_setFeature_31 (tgt := 42) rfl (fun h31 => ?_) (fun h31 => ?_)
      ·
        exact absurd rfl h31
      ·
        refine x_aload_n (pc := 34) dX0_setFeature_34 rfl rfl ?_
        refine x_iload_n (pc := 35) dX0_setFeature_35 rfl rfl ?_
        refine x_put (pc := 36) fl_X0_22 dX0_setFeature_36 (tb_b (by assumption) (by assumption)) rfl rfl rfl ?_
        refine x_goto (pc := 39) dX0_setFeature_39 (tgt := 57) rfl ?_
        refine x_ret (pc := 57) dX0_setFeature_57 rfl ?_
        exact ⟨rfl, rfl⟩
    ·
      exact absurd h18 (by decide)
  ·
    exact absurd h5 (by decide)
theorem hX0_setFeature3 {E : fv_E} {d s i : Nat} {v : Int32} {M : fv_M} (hs : s < 3) (hi : i < 8) : fv_F E (d + 1) mX0_setFeature [.ref (aB s i), .int (nI 3), .int v] M none (fv_s M s (fv_u (M s) (fB i 3) v)) := by
  refine fv_F.of (ls := [some (.ref (aB s i)), some (.int (nI 3)), some (.int v), none]) (by decide) (Nat.le_of_ble_eq_true rfl) rfl ?_
  refine x_iload_n (pc := 0) dX0_setFeature_0 rfl rfl ?_
  refine x_iconst (pc := 1) (v := 3) dX0_setFeature_1 rfl ?_
  refine x_isub (pc := 2) dX0_setFeature_2 ?_
  refine x_istore_n3 (pc := 3) dX0_setFeature_3 rfl ?_
  refine x_iload_n (pc := 4) dX0_setFeature_4 rfl rfl ?_
  refine x_if_ne (pc := 5) dX0_setFeature_5 (tgt := 16) rfl (fun h5 => ?_) (fun h5 => ?_)
  ·
    refine x_iload_n (pc := 16) dX0_setFeature_16 rfl rfl ?_
    refine x_iconst (pc := 17) (v := 1) dX0_setFeature_17 rfl ?_
    refine x_icmp_ne (pc := 18) dX0_setFeature_18 (tgt := 29) rfl (fun h18 => ?_) (fun h18 => ?_)
    ·
      refine x_iload_n (pc := 29) dX0_setFeature_29 rfl rfl ?_
      refine x_iconst (pc := 30) (v := 2) dX0_setFeature_30 rfl ?_
      refine x_icmp_ne (pc := 31) dX0_setFeature_31 (tgt := 42) rfl (fun h31 => ?_) (fun h31 => ?_)
      ·
        refine x_iload_n (pc := 42) dX0_setFeature_42 rfl rfl ?_
        refine x_iconst (pc := 43) (v := 3) dX0_setFeature_43 rfl ?_
        refine x_Ni (pc := 44) ks_X0_45 dX0_setFeature_44 (hX6_isUpTo) rfl rfl rfl (Nat.le_of_ble_eq_true rfl) ?_
        refine x_ifb_eq (pc := 47) dX0_setFeature_47 (tgt := 57) rfl (fun h47 => ?_) (fun h47 => ?_)
        ·
          exact absurd (by decide) h47
        ·
          refine x_aload_n (pc := 50) dX0_setFeature_50 rfl rfl ?_
          refine x_geta (pc := 51) fl_X0_9 dX0_setFeature_51 (tb_b (by assumption) (by assumption)) rfl ?_
          refine x_iload_n (pc := 54) dX0_setFeature_54 rfl rfl ?_
          refine x_iload_n (pc := 55) dX0_setFeature_55 rfl rfl ?_
          refine x_iast (pc := 56) dX0_setFeature_56 (tb_f (by assumption) (by assumption)) ((by decide : nI 3 - 3 = nI 0)) (by decide) (by decide) ?_
          refine x_ret (pc := 57) dX0_setFeature_57 rfl ?_
          exact ⟨rfl, rfl⟩
      ·
        exact absurd h31 (by decide)
    ·
      exact absurd h18 (by decide)
  ·
    exact absurd h5 (by decide)
theorem hX0_setFeature4 {E : fv_E} {d s i : Nat} {v : Int32} {M : fv_M} (hs : s < 3) (hi : i < 8) : fv_F E (d + 1) mX0_setFeature [.ref (aB s i), .int (nI 4), .int v] M none (fv_s M s (fv_u (M s) (fB i 4) v)) := by
  refine fv_F.of (ls := [some (.ref (aB s i)), some (.int (nI 4)), some (.int v), none]) (by decide) (Nat.le_of_ble_eq_true rfl) rfl ?_
  refine x_iload_n (pc := 0) dX0_setFeature_0 rfl rfl ?_
  refine x_iconst (pc := 1) (v := 3) dX0_setFeature_1 rfl ?_
  refine x_isub (pc := 2) dX0_setFeature_2 ?_
  refine x_istore_n3 (pc := 3) dX0_setFeature_3 rfl ?_
  refine x_iload_n (pc := 4) dX0_setFeature_4 rfl rfl ?_
  refine x_if_ne (pc := 5) dX0_setFeature_5 (tgt := 16) rfl (fun h5 => ?_) (fun h5 => ?_)
  ·
    refine x_iload_n (pc := 16) dX0_setFeature_16 rfl rfl ?_
    refine x_iconst (pc := 17) (v := 1) dX0_setFeature_17 rfl ?_
    refine x_icmp_ne (pc := 18) dX0_setFeature_18 (tgt := 29) rfl (fun h18 => ?_) (fun h18 => ?_)
    ·
      refine x_iload_n (pc := 29) dX0_setFeature_29 rfl rfl ?_
      refine x_iconst (pc := 30) (v := 2) dX0_setFeature_30 rfl ?_
      refine x_icmp_ne (pc := 31) dX0_setFeature_31 (tgt := 42) rfl (fun h31 => ?_) (fun h31 => ?_)
      ·
        refine x_iload_n (pc := 42) dX0_setFeature_42 rfl rfl ?_
        refine x_iconst (pc := 43) (v := 3) dX0_setFeature_43 rfl ?_
        refine x_Ni (pc := 44) ks_X0_45 dX0_setFeature_44 (hX6_isUpTo) rfl rfl rfl (Nat.le_of_ble_eq_true rfl) ?_
        refine x_ifb_eq (pc := 47) dX0_setFeature_47 (tgt := 57) rfl (fun h47 => ?_) (fun h47 => ?_)
        ·
          exact absurd (by decide) h47
        ·
          refine x_aload_n (pc := 50) dX0_setFeature_50 rfl rfl ?_
          refine x_geta (pc := 51) fl_X0_9 dX0_setFeature_51 (tb_b (by assumption) (by assumption)) rfl ?_
          refine x_iload_n (pc := 54) dX0_setFeature_54 rfl rfl ?_
          refine x_iload_n (pc := 55) dX0_setFeature_55 rfl rfl ?_
          refine x_iast (pc := 56) dX0_setFeature_56 (tb_f (by assumption) (by assumption)) ((by decide : nI 4 - 3 = nI 1)) (by decide) (by decide) ?_
          refine x_ret (pc := 57) dX0_setFeature_57 rfl ?_
          exact ⟨rfl, rfl⟩
      ·
        exact absurd h31 (by decide)
    ·
      exact absurd h18 (by decide)
  ·
    exact absurd h5 (by decide)
theorem hX0_setFeature5 {E : fv_E} {d s i : Nat} {v : Int32} {M : fv_M} (hs : s < 3) (hi : i < 8) : fv_F E (d + 1) mX0_setFeature [.ref (aB s i), .int (nI 5), .int v] M none (fv_s M s (fv_u (M s) (fB i 5) v)) := by
  refine fv_F.of (ls := [some (.ref (aB s i)), some (.int (nI 5)), some (.int v), none]) (by decide) (Nat.le_of_ble_eq_true rfl) rfl ?_
  refine x_iload_n (pc := 0) dX0_setFeature_0 rfl rfl ?_
  refine x_iconst (pc := 1) (v := 3) dX0_setFeature_1 rfl ?_
  refine x_isub (pc := 2) dX0_setFeature_2 ?_
  refine x_istore_n3 (pc := 3) dX0_setFeature_3 rfl ?_
  refine x_iload_n (pc := 4) dX0_setFeature_4 rfl rfl ?_
  refine x_if_ne (pc := 5) dX0_setFeature_5 (tgt := 16) rfl (fun h5 => ?_) (fun h5 => ?_)
  ·
    refine x_iload_n (pc := 16) dX0_setFeature_16 rfl rfl ?_
    refine x_iconst (pc := 17) (v := 1) dX0_setFeature_17 rfl ?_
    refine x_icmp_ne (pc := 18) dX0_setFeature_18 (tgt := 29) rfl (fun h18 => ?_) (fun h18 => ?_)
    ·
      refine x_iload_n (pc := 29) dX0_setFeature_29 rfl rfl ?_
      refine x_iconst (pc := 30) (v := 2) dX0_setFeature_30 rfl ?_
      refine x_icmp_ne (pc := 31) dX0_setFeature_31 (tgt := 42) rfl (fun h31 => ?_) (fun h31 => ?_)
      ·
        refine x_iload_n (pc := 42) dX0_setFeature_42 rfl rfl ?_
        refine x_iconst (pc := 43) (v := 3) dX0_setFeature_43 rfl ?_
        refine x_Ni (pc := 44) ks_X0_45 dX0_setFeature_44 (hX6_isUpTo) rfl rfl rfl (Nat.le_of_ble_eq_true rfl) ?_
        refine x_ifb_eq (pc := 47) dX0_setFeature_47 (tgt := 57) rfl (fun h47 => ?_) (fun h47 => ?_)
        ·
          exact absurd (by decide) h47
        ·
          refine x_aload_n (pc := 50) dX0_setFeature_50 rfl rfl ?_
          refine x_geta (pc := 51) fl_X0_9 dX0_setFeature_51 (tb_b (by assumption) (by assumption)) rfl ?_
          refine x_iload_n (pc := 54) dX0_setFeature_54 rfl rfl ?_
          refine x_iload_n (pc := 55) dX0_setFeature_55 rfl rfl ?_
          refine x_iast (pc := 56) dX0_setFeature_56 (tb_f (by assumption) (by assumption)) ((by decide : nI 5 - 3 = nI 2)) (by decide) (by decide) ?_
          refine x_ret (pc := 57) dX0_setFeature_57 rfl ?_
          exact ⟨rfl, rfl⟩
      ·
        exact absurd h31 (by decide)
    ·
      exact absurd h18 (by decide)
  ·
    exact absurd h5 (by decide)
theorem hX0_setFeature6 {E : fv_E} {d s i : Nat} {v : Int32} {M : fv_M} (hs : s < 3) (hi : i < 8) : fv_F E (d + 1) mX0_setFeature [.ref (aB s i), .int (nI 6), .int v] M none (fv_s M s (fv_u (M s) (fB i 6) v)) := by
  refine fv_F.of (ls := [some (.ref (aB s i)), some (.int (nI 6)), some (.int v), none]) (by decide) (Nat.le_of_ble_eq_true rfl) rfl ?_
  refine x_iload_n (pc := 0) dX0_setFeature_0 rfl rfl ?_
  refine x_iconst (pc := 1) (v := 3) dX0_setFeature_1 rfl ?_
  refine x_isub (pc := 2) dX0_setFeature_2 ?_
  refine x_istore_n3 (pc := 3) dX0_setFeature_3 rfl ?_
  refine x_iload_n (pc := 4) dX0_setFeature_4 rfl rfl ?_
  refine x_if_ne (pc := 5) dX0_setFeature_5 (tgt := 16) rfl (fun h5 => ?_) (fun h5 => ?_)
  ·
    refine x_iload_n (pc := 16) dX0_setFeature_16 rfl rfl ?_
    refine x_iconst (pc := 17) (v := 1) dX0_setFeature_17 rfl ?_
    refine x_icmp_ne (pc := 18) dX0_setFeature_18 (tgt := 29) rfl (fun h18 => ?_) (fun h18 => ?_)
    ·
      refine x_iload_n (pc := 29) dX0_setFeature_29 rfl rfl ?_
      refine x_iconst (pc := 30) (v := 2) dX0_setFeature_30 rfl ?_
      refine x_icmp_ne (pc := 31) dX0_setFeature_31 (tgt := 42) rfl (fun h31 => ?_) (fun h31 => ?_)
      ·
        refine x_iload_n (pc := 42) dX0_setFeature_42 rfl rfl ?_
        refine x_iconst (pc := 43) (v := 3) dX0_setFeature_43 rfl ?_
        refine x_Ni (pc := 44) ks_X0_45 dX0_setFeature_44 (hX6_isUpTo) rfl rfl rfl (Nat.le_of_ble_eq_true rfl) ?_
        refine x_ifb_eq (pc := 47) dX0_setFeature_47 (tgt := 57) rfl (fun h47 => ?_) (fun h47 => ?_)
        ·
          exact absurd (by decide) h47
        ·
          refine x_aload_n (pc := 50) dX0_setFeature_50 rfl rfl ?_
          refine x_geta (pc := 51) fl_X0_9 dX0_setFeature_51 (tb_b (by assumption) (by assumption)) rfl ?_
          refine x_iload_n (pc := 54) dX0_setFeature_54 rfl rfl ?_
          refine x_iload_n (pc := 55) dX0_setFeature_55 rfl rfl ?_
          refine x_iast (pc := 56) dX0_setFeature_56 (tb_f (by assumption) (by assumption)) ((by decide : nI 6 - 3 = nI 3)) (by decide) (by decide) ?_
          refine x_ret (pc := 57) dX0_setFeature_57 rfl ?_
          exact ⟨rfl, rfl⟩
      ·
        exact absurd h31 (by decide)
    ·
      exact absurd h18 (by decide)
  ·
    exact absurd h5 (by decide)
theorem hX0_setFeature {E : fv_E} {d s i w : Nat} {v : Int32} {M : fv_M} (hs : s < 3) (hi : i < 8) (hw : w < 7) : fv_F E (d + 1) mX0_setFeature [.ref (aB s i), .int (nI w), .int v] M none (fv_s M s (fv_u (M s) (fB i w) v)) := by
  match w, hw with
  | 0, _ => exact hX0_setFeature0 hs hi
  | 1, _ => exact hX0_setFeature1 hs hi
  | 2, _ => exact hX0_setFeature2 hs hi
  | 3, _ => exact hX0_setFeature3 hs hi
  | 4, _ => exact hX0_setFeature4 hs hi
  | 5, _ => exact hX0_setFeature5 hs hi
  | 6, _ => exact hX0_setFeature6 hs hi
  | n + 7, h => omega
def pCh (k : Nat) : List Nat := ([[0], [1, 0], [2, 0], [3, 2, 0], [4, 3, 2, 0], [5, 0], [6, 5, 0]] : List (List Nat)).getD k []
def pIt (k a : Nat) : Nat := (pCh k).idxOf a
def pAn (k j : Nat) : Int32 := ((pCh k).map nI).getD j (-1)
theorem pIsA_s : ((List.range 7).all fun k => (List.range 7).all fun a => (List.range (pIt k a)).all fun j => decide (pAn k j = nI ((pCh k).getD j 0) ∧ (pCh k).getD j 0 < 7 ∧ fv_ab.getD ((pCh k).getD j 0) 0 = pAn k (j + 1) ∧ ¬ pAn k j = nI a ∧ ¬ (7 : Int32) ≤ nI j ∧ ¬ pAn k j < 0 ∧ ¬ (7 : Int32) ≤ pAn k j)) = true := by decide +kernel
theorem pIsA_e : ((List.range 7).all fun k => (List.range 7).all fun a => decide (¬ (7 : Int32) ≤ nI (pIt k a) ∧ ((a ∈ pCh k ∧ pAn k (pIt k a) = nI a ∧ ¬ pAn k (pIt k a) < 0 ∧ ¬ (7 : Int32) ≤ pAn k (pIt k a)) ∨ (a ∉ pCh k ∧ pAn k (pIt k a) < 0)))) = true := by decide +kernel
theorem hX0_isA {E : fv_E} {d s i k a : Nat} {M : fv_M} (hs : s < 3) (hi : i < 8) (hk : M s (fB i 0) = nI k) (hk7 : k < 7) (ha : a < 7) : fv_F E d mX0_isA [.ref (aB s i), .int (nI a)] M (some (.int (bI (a ∈ pCh k)))) M := by
  refine fv_F.of (ls := [some (.ref (aB s i)), some (.int (nI a)), none, none]) (by decide) (Nat.le_of_ble_eq_true rfl) rfl ?_
  refine x_aload_n (pc := 0) dX0_isA_0 rfl rfl ?_
  refine x_geti (pc := 1) fl_X0_15 dX0_isA_1 (tb_b (by assumption) (by assumption)) rfl (hk) ?_
  refine x_istore_n2 (pc := 4) dX0_isA_4 rfl ?_
  refine x_iconst (pc := 5) (v := 0) dX0_isA_5 rfl ?_
  refine x_istore_n3 (pc := 6) dX0_isA_6 rfl ?_
  refine x_loop (fun j => [some (.ref (aB s i)), some (.int (nI a)), some (.int (pAn k j)), some (.int (nI j))]) (fun _ => M) (pIt k a) (by unfold pAn pCh; match k, hk7 with | 0, _ => rfl | 1, _ => rfl | 2, _ => rfl | 3, _ => rfl | 4, _ => rfl | 5, _ => rfl | 6, _ => rfl | n + 7, h => omega) rfl (fun j hj hn7 => ?_) ?_
  · show fv_X E mX0_isA _ _ 7 [some (.ref (aB s i)), some (.int (nI a)), some (.int (pAn k j)), some (.int (nI j))] [] M
    obtain ⟨f1, f2, f3, f4, f5, f6, f7⟩ := of_decide_eq_true (fv_all1 (fv_all1 (fv_all1 pIsA_s hk7) ha) hj)
    refine x_iload_n (pc := 7) dX0_isA_7 rfl rfl ?_
    refine x_bipush (pc := 8) (v := 7) dX0_isA_8 rfl ?_
    refine x_icmp_ge (pc := 10) dX0_isA_10 (tgt := 42) rfl (fun h10 => ?_) (fun h10 => ?_)
    ·
      exact absurd h10 f5
    ·
      refine x_iload_n (pc := 13) dX0_isA_13 rfl rfl ?_
      refine x_if_lt (pc := 14) dX0_isA_14 (tgt := 42) rfl (fun h14 => ?_) (fun h14 => ?_)
      ·
        exact absurd h14 f6
      ·
        refine x_iload_n (pc := 17) dX0_isA_17 rfl rfl ?_
        refine x_bipush (pc := 18) (v := 7) dX0_isA_18 rfl ?_
        refine x_icmp_ge (pc := 20) dX0_isA_20 (tgt := 42) rfl (fun h20 => ?_) (fun h20 => ?_)
        ·
          exact absurd h20 f7
        ·
          refine x_iload_n (pc := 23) dX0_isA_23 rfl rfl ?_
          refine x_iload_n (pc := 24) dX0_isA_24 rfl rfl ?_
          refine x_icmp_ne (pc := 25) dX0_isA_25 (tgt := 30) rfl (fun h25 => ?_) (fun h25 => ?_)
          ·
            refine x_above (pc := 30) rfl dX0_isA_30 ?_
            refine x_iload_n (pc := 33) dX0_isA_33 rfl rfl ?_
            refine x_abld (pc := 34) dX0_isA_34 (f1) (f2) ?_
            rw [f3]
            refine x_istore_n2 (pc := 35) dX0_isA_35 rfl ?_
            refine x_iinc3 (pc := 36) dX0_isA_36 (by first | exact fv_inc _ | exact fv_dec _ | rfl) rfl ?_
            refine x_goto (pc := 39) dX0_isA_39 (tgt := 7) rfl ?_
            exact hn7
          ·
            exact absurd h25 f4
  · show fv_X E mX0_isA _ _ 7 [some (.ref (aB s i)), some (.int (nI a)), some (.int (pAn k (pIt k a))), some (.int (nI (pIt k a)))] [] M
    obtain ⟨f5, ⟨f1, f2, f6, f7⟩ | ⟨f1, f6⟩⟩ := of_decide_eq_true (fv_all1 (fv_all1 pIsA_e hk7) ha)
    ·
      refine x_iload_n (pc := 7) dX0_isA_7 rfl rfl ?_
      refine x_bipush (pc := 8) (v := 7) dX0_isA_8 rfl ?_
      refine x_icmp_ge (pc := 10) dX0_isA_10 (tgt := 42) rfl (fun h10 => ?_) (fun h10 => ?_)
      ·
        exact absurd h10 f5
      ·
        refine x_iload_n (pc := 13) dX0_isA_13 rfl rfl ?_
        refine x_if_lt (pc := 14) dX0_isA_14 (tgt := 42) rfl (fun h14 => ?_) (fun h14 => ?_)
        ·
          exact absurd h14 f6
        ·
          refine x_iload_n (pc := 17) dX0_isA_17 rfl rfl ?_
          refine x_bipush (pc := 18) (v := 7) dX0_isA_18 rfl ?_
          refine x_icmp_ge (pc := 20) dX0_isA_20 (tgt := 42) rfl (fun h20 => ?_) (fun h20 => ?_)
          ·
            exact absurd h20 f7
          ·
            refine x_iload_n (pc := 23) dX0_isA_23 rfl rfl ?_
            refine x_iload_n (pc := 24) dX0_isA_24 rfl rfl ?_
            refine x_icmp_ne (pc := 25) dX0_isA_25 (tgt := 30) rfl (fun h25 => ?_) (fun h25 => ?_)
            ·
              exact absurd f2 h25
            ·
              refine x_iconst (pc := 28) (v := 1) dX0_isA_28 rfl ?_
              refine x_iret (pc := 29) dX0_isA_29 rfl (by first | rfl | exact fv_nz _) ?_
              exact ⟨by rw [bI_t f1], rfl⟩
    ·
      refine x_iload_n (pc := 7) dX0_isA_7 rfl rfl ?_
      refine x_bipush (pc := 8) (v := 7) dX0_isA_8 rfl ?_
      refine x_icmp_ge (pc := 10) dX0_isA_10 (tgt := 42) rfl (fun h10 => ?_) (fun h10 => ?_)
      ·
        exact absurd h10 f5
      ·
        refine x_iload_n (pc := 13) dX0_isA_13 rfl rfl ?_
        refine x_if_lt (pc := 14) dX0_isA_14 (tgt := 42) rfl (fun h14 => ?_) (fun h14 => ?_)
        ·
          refine x_iconst (pc := 42) (v := 0) dX0_isA_42 rfl ?_
          refine x_iret (pc := 43) dX0_isA_43 rfl (by first | rfl | exact fv_nz _) ?_
          exact ⟨by rw [bI_f f1], rfl⟩
        ·
          exact absurd f6 h14
def pWish (σ : Nat → Int32) (i m : Nat) (crows : Int32) : Int32 :=
  if σ (fB i 0) = 1 then (if σ (fM m 0) = 0 then 1 else 0) else if σ (fB i 0) = 2 then crows else if σ (fB i 0) = 3 then 2 * crows else if σ (fB i 0) = 4 then 2 * crows + 1
  else if σ (fB i 0) = 5 then (if σ (fB i 1) < pFe σ i then 1 else 0) else if σ (fB i 0) = 6 then (if σ (fB i 1) < pFe σ i then 1 else 0) + (if σ (fM m 2) = 0 then 1 else 0) else 1
def pDr (σ : Nat → Int32) (i m c : Nat) (crows : Int32) : Int32 := pMin (σ (fB i 3 + c)) (pWish σ i m crows)
theorem hX0_dropFor {E : fv_E} {d s i m c : Nat} {cr : Int32} {M : fv_M} (hs : s < 3) (hi : i < 8) (hm : m < 8) (hcol : M s (fM m 0) = nI c) (hc : c < 4) : fv_F E (d + 1) mX0_dropFor [.ref (aB s i), .ref (aM s m), .int cr] M (some (.int (pDr (M s) i m c cr))) M := by
  refine fv_F.of (ls := [some (.ref (aB s i)), some (.ref (aM s m)), some (.int cr), none]) (by decide) (Nat.le_of_ble_eq_true rfl) rfl ?_
  refine x_aload_n (pc := 0) dX0_dropFor_0 rfl rfl ?_
  refine x_geti (pc := 1) fl_X0_15 dX0_dropFor_1 (tb_b (by assumption) (by assumption)) rfl (rfl) ?_
  refine x_swc (pc := 4) 1 dX0_dropFor_4 (by decide) (by decide) rfl (tgt := 44) rfl (fun h4_1 => ?_) (fun n4_1 => ?_)
  ·
    refine x_aload_n (pc := 44) dX0_dropFor_44 rfl rfl ?_
    refine x_geti (pc := 45) fl_X0_58 dX0_dropFor_45 (tb_m (by assumption) (by assumption)) rfl (rfl) ?_
    refine x_if_ne (pc := 48) dX0_dropFor_48 (tgt := 55) rfl (fun h48 => ?_) (fun h48 => ?_)
    ·
      refine x_iconst (pc := 55) (v := 0) dX0_dropFor_55 rfl ?_
      refine x_istore_n3 (pc := 56) dX0_dropFor_56 rfl ?_
      refine x_goto (pc := 57) dX0_dropFor_57 (tgt := 136) rfl ?_
      refine x_aload_n (pc := 136) dX0_dropFor_136 rfl rfl ?_
      refine x_geta (pc := 137) fl_X0_9 dX0_dropFor_137 (tb_b (by assumption) (by assumption)) rfl ?_
      refine x_aload_n (pc := 140) dX0_dropFor_140 rfl rfl ?_
      refine x_geti (pc := 141) fl_X0_58 dX0_dropFor_141 (tb_m (by assumption) (by assumption)) rfl (hcol) ?_
      refine x_iald (pc := 144) dX0_dropFor_144 (tb_f (by assumption) (by assumption)) (rfl) (by first | assumption | decide | omega) (by decide) ?_
      refine x_iload_n (pc := 145) dX0_dropFor_145 rfl rfl ?_
      refine x_min (pc := 146) ks_X0_52 dX0_dropFor_146 rfl (Nat.le_of_ble_eq_true rfl) ?_
      refine x_iret (pc := 149) dX0_dropFor_149 rfl (by first | rfl | exact fv_nz _) ?_
      refine ⟨?_, rfl⟩
      first | (simp_all [pDr, pWish, pMin]; done) | (simp [pDr, pWish, pMin, if_neg h89, h4_5]; done) | (simp [pDr, pWish, pMin, if_neg h109, h4_6, h121]; done)
    ·
      refine x_iconst (pc := 51) (v := 1) dX0_dropFor_51 rfl ?_
      refine x_goto (pc := 52) dX0_dropFor_52 (tgt := 56) rfl ?_
      refine x_istore_n3 (pc := 56) dX0_dropFor_56 rfl ?_
      refine x_goto (pc := 57) dX0_dropFor_57 (tgt := 136) rfl ?_
      refine x_aload_n (pc := 136) dX0_dropFor_136 rfl rfl ?_
      refine x_geta (pc := 137) fl_X0_9 dX0_dropFor_137 (tb_b (by assumption) (by assumption)) rfl ?_
      refine x_aload_n (pc := 140) dX0_dropFor_140 rfl rfl ?_
      refine x_geti (pc := 141) fl_X0_58 dX0_dropFor_141 (tb_m (by assumption) (by assumption)) rfl (hcol) ?_
      refine x_iald (pc := 144) dX0_dropFor_144 (tb_f (by assumption) (by assumption)) (rfl) (by first | assumption | decide | omega) (by decide) ?_
      refine x_iload_n (pc := 145) dX0_dropFor_145 rfl rfl ?_
      refine x_min (pc := 146) ks_X0_52 dX0_dropFor_146 rfl (Nat.le_of_ble_eq_true rfl) ?_
      refine x_iret (pc := 149) dX0_dropFor_149 rfl (by first | rfl | exact fv_nz _) ?_
      refine ⟨?_, rfl⟩
      first | (simp_all [pDr, pWish, pMin]; done) | (simp [pDr, pWish, pMin, if_neg h89, h4_5]; done) | (simp [pDr, pWish, pMin, if_neg h109, h4_6, h121]; done)
  refine x_swc (pc := 4) 2 dX0_dropFor_4 (by decide) (by decide) rfl (tgt := 60) rfl (fun h4_2 => ?_) (fun n4_2 => ?_)
  ·
    refine x_iload_n (pc := 60) dX0_dropFor_60 rfl rfl ?_
    refine x_istore_n3 (pc := 61) dX0_dropFor_61 rfl ?_
    refine x_goto (pc := 62) dX0_dropFor_62 (tgt := 136) rfl ?_
    refine x_aload_n (pc := 136) dX0_dropFor_136 rfl rfl ?_
    refine x_geta (pc := 137) fl_X0_9 dX0_dropFor_137 (tb_b (by assumption) (by assumption)) rfl ?_
    refine x_aload_n (pc := 140) dX0_dropFor_140 rfl rfl ?_
    refine x_geti (pc := 141) fl_X0_58 dX0_dropFor_141 (tb_m (by assumption) (by assumption)) rfl (hcol) ?_
    refine x_iald (pc := 144) dX0_dropFor_144 (tb_f (by assumption) (by assumption)) (rfl) (by first | assumption | decide | omega) (by decide) ?_
    refine x_iload_n (pc := 145) dX0_dropFor_145 rfl rfl ?_
    refine x_min (pc := 146) ks_X0_52 dX0_dropFor_146 rfl (Nat.le_of_ble_eq_true rfl) ?_
    refine x_iret (pc := 149) dX0_dropFor_149 rfl (by first | rfl | exact fv_nz _) ?_
    refine ⟨?_, rfl⟩
    first | (simp_all [pDr, pWish, pMin]; done) | (simp [pDr, pWish, pMin, if_neg h89, h4_5]; done) | (simp [pDr, pWish, pMin, if_neg h109, h4_6, h121]; done)
  refine x_swc (pc := 4) 3 dX0_dropFor_4 (by decide) (by decide) rfl (tgt := 65) rfl (fun h4_3 => ?_) (fun n4_3 => ?_)
  ·
    refine x_iconst (pc := 65) (v := 2) dX0_dropFor_65 rfl ?_
    refine x_iload_n (pc := 66) dX0_dropFor_66 rfl rfl ?_
    refine x_imul (pc := 67) dX0_dropFor_67 ?_
    refine x_istore_n3 (pc := 68) dX0_dropFor_68 rfl ?_
    refine x_goto (pc := 69) dX0_dropFor_69 (tgt := 136) rfl ?_
    refine x_aload_n (pc := 136) dX0_dropFor_136 rfl rfl ?_
    refine x_geta (pc := 137) fl_X0_9 dX0_dropFor_137 (tb_b (by assumption) (by assumption)) rfl ?_
    refine x_aload_n (pc := 140) dX0_dropFor_140 rfl rfl ?_
    refine x_geti (pc := 141) fl_X0_58 dX0_dropFor_141 (tb_m (by assumption) (by assumption)) rfl (hcol) ?_
    refine x_iald (pc := 144) dX0_dropFor_144 (tb_f (by assumption) (by assumption)) (rfl) (by first | assumption | decide | omega) (by decide) ?_
    refine x_iload_n (pc := 145) dX0_dropFor_145 rfl rfl ?_
    refine x_min (pc := 146) ks_X0_52 dX0_dropFor_146 rfl (Nat.le_of_ble_eq_true rfl) ?_
    refine x_iret (pc := 149) dX0_dropFor_149 rfl (by first | rfl | exact fv_nz _) ?_
    refine ⟨?_, rfl⟩
    first | (simp_all [pDr, pWish, pMin]; done) | (simp [pDr, pWish, pMin, if_neg h89, h4_5]; done) | (simp [pDr, pWish, pMin, if_neg h109, h4_6, h121]; done)
  refine x_swc (pc := 4) 4 dX0_dropFor_4 (by decide) (by decide) rfl (tgt := 72) rfl (fun h4_4 => ?_) (fun n4_4 => ?_)
  ·
    refine x_iconst (pc := 72) (v := 2) dX0_dropFor_72 rfl ?_
    refine x_iload_n (pc := 73) dX0_dropFor_73 rfl rfl ?_
    refine x_imul (pc := 74) dX0_dropFor_74 ?_
    refine x_iconst (pc := 75) (v := 1) dX0_dropFor_75 rfl ?_
    refine x_iadd (pc := 76) dX0_dropFor_76 ?_
    refine x_istore_n3 (pc := 77) dX0_dropFor_77 rfl ?_
    refine x_goto (pc := 78) dX0_dropFor_78 (tgt := 136) rfl ?_
    refine x_aload_n (pc := 136) dX0_dropFor_136 rfl rfl ?_
    refine x_geta (pc := 137) fl_X0_9 dX0_dropFor_137 (tb_b (by assumption) (by assumption)) rfl ?_
    refine x_aload_n (pc := 140) dX0_dropFor_140 rfl rfl ?_
    refine x_geti (pc := 141) fl_X0_58 dX0_dropFor_141 (tb_m (by assumption) (by assumption)) rfl (hcol) ?_
    refine x_iald (pc := 144) dX0_dropFor_144 (tb_f (by assumption) (by assumption)) (rfl) (by first | assumption | decide | omega) (by decide) ?_
    refine x_iload_n (pc := 145) dX0_dropFor_145 rfl rfl ?_
    refine x_min (pc := 146) ks_X0_52 dX0_dropFor_146 rfl (Nat.le_of_ble_eq_true rfl) ?_
    refine x_iret (pc := 149) dX0_dropFor_149 rfl (by first | rfl | exact fv_nz _) ?_
    refine ⟨?_, rfl⟩
    first | (simp_all [pDr, pWish, pMin]; done) | (simp [pDr, pWish, pMin, if_neg h89, h4_5]; done) | (simp [pDr, pWish, pMin, if_neg h109, h4_6, h121]; done)
  refine x_swc (pc := 4) 5 dX0_dropFor_4 (by decide) (by decide) rfl (tgt := 81) rfl (fun h4_5 => ?_) (fun n4_5 => ?_)
  ·
    refine x_aload_n (pc := 81) dX0_dropFor_81 rfl rfl ?_
    refine x_Vi (pc := 82) ks_X0_37 dX0_dropFor_82 (tb_b (by assumption) (by assumption)) rfl rfl (hX0_allFeathers hs hi) rfl rfl rfl (Nat.le_of_ble_eq_true rfl) ?_
    refine x_aload_n (pc := 85) dX0_dropFor_85 rfl rfl ?_
    refine x_geti (pc := 86) fl_X0_19 dX0_dropFor_86 (tb_b (by assumption) (by assumption)) rfl (rfl) ?_
    refine x_icmp_le (pc := 89) dX0_dropFor_89 (tgt := 96) rfl (fun h89 => ?_) (fun h89 => ?_)
    ·
      replace h89 := Int32.not_lt.mpr h89
      refine x_iconst (pc := 96) (v := 0) dX0_dropFor_96 rfl ?_
      refine x_istore_n3 (pc := 97) dX0_dropFor_97 rfl ?_
      refine x_goto (pc := 98) dX0_dropFor_98 (tgt := 136) rfl ?_
      refine x_aload_n (pc := 136) dX0_dropFor_136 rfl rfl ?_
      refine x_geta (pc := 137) fl_X0_9 dX0_dropFor_137 (tb_b (by assumption) (by assumption)) rfl ?_
      refine x_aload_n (pc := 140) dX0_dropFor_140 rfl rfl ?_
      refine x_geti (pc := 141) fl_X0_58 dX0_dropFor_141 (tb_m (by assumption) (by assumption)) rfl (hcol) ?_
      refine x_iald (pc := 144) dX0_dropFor_144 (tb_f (by assumption) (by assumption)) (rfl) (by first | assumption | decide | omega) (by decide) ?_
      refine x_iload_n (pc := 145) dX0_dropFor_145 rfl rfl ?_
      refine x_min (pc := 146) ks_X0_52 dX0_dropFor_146 rfl (Nat.le_of_ble_eq_true rfl) ?_
      refine x_iret (pc := 149) dX0_dropFor_149 rfl (by first | rfl | exact fv_nz _) ?_
      refine ⟨?_, rfl⟩
      first | (simp_all [pDr, pWish, pMin]; done) | (simp [pDr, pWish, pMin, if_neg h89, h4_5]; done) | (simp [pDr, pWish, pMin, if_neg h109, h4_6, h121]; done)
    ·
      replace h89 := Int32.not_le.mp h89
      refine x_iconst (pc := 92) (v := 1) dX0_dropFor_92 rfl ?_
      refine x_goto (pc := 93) dX0_dropFor_93 (tgt := 97) rfl ?_
      refine x_istore_n3 (pc := 97) dX0_dropFor_97 rfl ?_
      refine x_goto (pc := 98) dX0_dropFor_98 (tgt := 136) rfl ?_
      refine x_aload_n (pc := 136) dX0_dropFor_136 rfl rfl ?_
      refine x_geta (pc := 137) fl_X0_9 dX0_dropFor_137 (tb_b (by assumption) (by assumption)) rfl ?_
      refine x_aload_n (pc := 140) dX0_dropFor_140 rfl rfl ?_
      refine x_geti (pc := 141) fl_X0_58 dX0_dropFor_141 (tb_m (by assumption) (by assumption)) rfl (hcol) ?_
      refine x_iald (pc := 144) dX0_dropFor_144 (tb_f (by assumption) (by assumption)) (rfl) (by first | assumption | decide | omega) (by decide) ?_
      refine x_iload_n (pc := 145) dX0_dropFor_145 rfl rfl ?_
      refine x_min (pc := 146) ks_X0_52 dX0_dropFor_146 rfl (Nat.le_of_ble_eq_true rfl) ?_
      refine x_iret (pc := 149) dX0_dropFor_149 rfl (by first | rfl | exact fv_nz _) ?_
      refine ⟨?_, rfl⟩
      first | (simp_all [pDr, pWish, pMin]; done) | (simp [pDr, pWish, pMin, if_neg h89, h4_5]; done) | (simp [pDr, pWish, pMin, if_neg h109, h4_6, h121]; done)
  refine x_swc (pc := 4) 6 dX0_dropFor_4 (by decide) (by decide) rfl (tgt := 101) rfl (fun h4_6 => ?_) (fun n4_6 => ?_)
  ·
    refine x_aload_n (pc := 101) dX0_dropFor_101 rfl rfl ?_
    refine x_Vi (pc := 102) ks_X0_37 dX0_dropFor_102 (tb_b (by assumption) (by assumption)) rfl rfl (hX0_allFeathers hs hi) rfl rfl rfl (Nat.le_of_ble_eq_true rfl) ?_
    refine x_aload_n (pc := 105) dX0_dropFor_105 rfl rfl ?_
    refine x_geti (pc := 106) fl_X0_19 dX0_dropFor_106 (tb_b (by assumption) (by assumption)) rfl (rfl) ?_
    refine x_icmp_le (pc := 109) dX0_dropFor_109 (tgt := 116) rfl (fun h109 => ?_) (fun h109 => ?_)
    ·
      replace h109 := Int32.not_lt.mpr h109
      refine x_iconst (pc := 116) (v := 0) dX0_dropFor_116 rfl ?_
      refine x_aload_n (pc := 117) dX0_dropFor_117 rfl rfl ?_
      refine x_geti (pc := 118) fl_X0_63 dX0_dropFor_118 (tb_m (by assumption) (by assumption)) rfl (rfl) ?_
      refine x_if_ne (pc := 121) dX0_dropFor_121 (tgt := 128) rfl (fun h121 => ?_) (fun h121 => ?_)
      ·
        refine x_iconst (pc := 128) (v := 0) dX0_dropFor_128 rfl ?_
        refine x_iadd (pc := 129) dX0_dropFor_129 ?_
        refine x_istore_n3 (pc := 130) dX0_dropFor_130 rfl ?_
        refine x_goto (pc := 131) dX0_dropFor_131 (tgt := 136) rfl ?_
        refine x_aload_n (pc := 136) dX0_dropFor_136 rfl rfl ?_
        refine x_geta (pc := 137) fl_X0_9 dX0_dropFor_137 (tb_b (by assumption) (by assumption)) rfl ?_
        refine x_aload_n (pc := 140) dX0_dropFor_140 rfl rfl ?_
        refine x_geti (pc := 141) fl_X0_58 dX0_dropFor_141 (tb_m (by assumption) (by assumption)) rfl (hcol) ?_
        refine x_iald (pc := 144) dX0_dropFor_144 (tb_f (by assumption) (by assumption)) (rfl) (by first | assumption | decide | omega) (by decide) ?_
        refine x_iload_n (pc := 145) dX0_dropFor_145 rfl rfl ?_
        refine x_min (pc := 146) ks_X0_52 dX0_dropFor_146 rfl (Nat.le_of_ble_eq_true rfl) ?_
        refine x_iret (pc := 149) dX0_dropFor_149 rfl (by first | rfl | exact fv_nz _) ?_
        refine ⟨?_, rfl⟩
        first | (simp_all [pDr, pWish, pMin]; done) | (simp [pDr, pWish, pMin, if_neg h89, h4_5]; done) | (simp [pDr, pWish, pMin, if_neg h109, h4_6, h121]; done)
      ·
        refine x_iconst (pc := 124) (v := 1) dX0_dropFor_124 rfl ?_
        refine x_goto (pc := 125) dX0_dropFor_125 (tgt := 129) rfl ?_
        refine x_iadd (pc := 129) dX0_dropFor_129 ?_
        refine x_istore_n3 (pc := 130) dX0_dropFor_130 rfl ?_
        refine x_goto (pc := 131) dX0_dropFor_131 (tgt := 136) rfl ?_
        refine x_aload_n (pc := 136) dX0_dropFor_136 rfl rfl ?_
        refine x_geta (pc := 137) fl_X0_9 dX0_dropFor_137 (tb_b (by assumption) (by assumption)) rfl ?_
        refine x_aload_n (pc := 140) dX0_dropFor_140 rfl rfl ?_
        refine x_geti (pc := 141) fl_X0_58 dX0_dropFor_141 (tb_m (by assumption) (by assumption)) rfl (hcol) ?_
        refine x_iald (pc := 144) dX0_dropFor_144 (tb_f (by assumption) (by assumption)) (rfl) (by first | assumption | decide | omega) (by decide) ?_
        refine x_iload_n (pc := 145) dX0_dropFor_145 rfl rfl ?_
        refine x_min (pc := 146) ks_X0_52 dX0_dropFor_146 rfl (Nat.le_of_ble_eq_true rfl) ?_
        refine x_iret (pc := 149) dX0_dropFor_149 rfl (by first | rfl | exact fv_nz _) ?_
        refine ⟨?_, rfl⟩
        first | (simp_all [pDr, pWish, pMin]; done) | (simp [pDr, pWish, pMin, if_neg h89, h4_5]; done) | (simp [pDr, pWish, pMin, if_neg h109, h4_6, h121]; done)
    ·
      replace h109 := Int32.not_le.mp h109
      refine x_iconst (pc := 112) (v := 1) dX0_dropFor_112 rfl ?_
      refine x_goto (pc := 113) dX0_dropFor_113 (tgt := 117) rfl ?_
      refine x_aload_n (pc := 117) dX0_dropFor_117 rfl rfl ?_
      refine x_geti (pc := 118) fl_X0_63 dX0_dropFor_118 (tb_m (by assumption) (by assumption)) rfl (rfl) ?_
      refine x_if_ne (pc := 121) dX0_dropFor_121 (tgt := 128) rfl (fun h121 => ?_) (fun h121 => ?_)
      ·
        refine x_iconst (pc := 128) (v := 0) dX0_dropFor_128 rfl ?_
        refine x_iadd (pc := 129) dX0_dropFor_129 ?_
        refine x_istore_n3 (pc := 130) dX0_dropFor_130 rfl ?_
        refine x_goto (pc := 131) dX0_dropFor_131 (tgt := 136) rfl ?_
        refine x_aload_n (pc := 136) dX0_dropFor_136 rfl rfl ?_
        refine x_geta (pc := 137) fl_X0_9 dX0_dropFor_137 (tb_b (by assumption) (by assumption)) rfl ?_
        refine x_aload_n (pc := 140) dX0_dropFor_140 rfl rfl ?_
        refine x_geti (pc := 141) fl_X0_58 dX0_dropFor_141 (tb_m (by assumption) (by assumption)) rfl (hcol) ?_
        refine x_iald (pc := 144) dX0_dropFor_144 (tb_f (by assumption) (by assumption)) (rfl) (by first | assumption | decide | omega) (by decide) ?_
        refine x_iload_n (pc := 145) dX0_dropFor_145 rfl rfl ?_
        refine x_min (pc := 146) ks_X0_52 dX0_dropFor_146 rfl (Nat.le_of_ble_eq_true rfl) ?_
        refine x_iret (pc := 149) dX0_dropFor_149 rfl (by first | rfl | exact fv_nz _) ?_
        refine ⟨?_, rfl⟩
        first | (simp_all [pDr, pWish, pMin]; done) | (simp [pDr, pWish, pMin, if_neg h89, h4_5]; done) | (simp [pDr, pWish, pMin, if_neg h109, h4_6, h121]; done)
      ·
        refine x_iconst (pc := 124) (v := 1) dX0_dropFor_124 rfl ?_
        refine x_goto (pc := 125) dX0_dropFor_125 (tgt := 129) rfl ?_
        refine x_iadd (pc := 129) dX0_dropFor_129 ?_
        refine x_istore_n3 (pc := 130) dX0_dropFor_130 rfl ?_
        refine x_goto (pc := 131) dX0_dropFor_131 (tgt := 136) rfl ?_
        refine x_aload_n (pc := 136) dX0_dropFor_136 rfl rfl ?_
        refine x_geta (pc := 137) fl_X0_9 dX0_dropFor_137 (tb_b (by assumption) (by assumption)) rfl ?_
        refine x_aload_n (pc := 140) dX0_dropFor_140 rfl rfl ?_
        refine x_geti (pc := 141) fl_X0_58 dX0_dropFor_141 (tb_m (by assumption) (by assumption)) rfl (hcol) ?_
        refine x_iald (pc := 144) dX0_dropFor_144 (tb_f (by assumption) (by assumption)) (rfl) (by first | assumption | decide | omega) (by decide) ?_
        refine x_iload_n (pc := 145) dX0_dropFor_145 rfl rfl ?_
        refine x_min (pc := 146) ks_X0_52 dX0_dropFor_146 rfl (Nat.le_of_ble_eq_true rfl) ?_
        refine x_iret (pc := 149) dX0_dropFor_149 rfl (by first | rfl | exact fv_nz _) ?_
        refine ⟨?_, rfl⟩
        first | (simp_all [pDr, pWish, pMin]; done) | (simp [pDr, pWish, pMin, if_neg h89, h4_5]; done) | (simp [pDr, pWish, pMin, if_neg h109, h4_6, h121]; done)
  refine x_swd (pc := 4) dX0_dropFor_4 (fun c hl hh => by rcases (show c = 1 ∨ c = 2 ∨ c = 3 ∨ c = 4 ∨ c = 5 ∨ c = 6 by omega) with rfl | rfl | rfl | rfl | rfl | rfl <;> assumption) (tgt := 134) rfl ?_
  refine x_iconst (pc := 134) (v := 1) dX0_dropFor_134 rfl ?_
  refine x_istore_n3 (pc := 135) dX0_dropFor_135 rfl ?_
  refine x_aload_n (pc := 136) dX0_dropFor_136 rfl rfl ?_
  refine x_geta (pc := 137) fl_X0_9 dX0_dropFor_137 (tb_b (by assumption) (by assumption)) rfl ?_
  refine x_aload_n (pc := 140) dX0_dropFor_140 rfl rfl ?_
  refine x_geti (pc := 141) fl_X0_58 dX0_dropFor_141 (tb_m (by assumption) (by assumption)) rfl (hcol) ?_
  refine x_iald (pc := 144) dX0_dropFor_144 (tb_f (by assumption) (by assumption)) (rfl) (by first | assumption | decide | omega) (by decide) ?_
  refine x_iload_n (pc := 145) dX0_dropFor_145 rfl rfl ?_
  refine x_min (pc := 146) ks_X0_52 dX0_dropFor_146 rfl (Nat.le_of_ble_eq_true rfl) ?_
  refine x_iret (pc := 149) dX0_dropFor_149 rfl (by first | rfl | exact fv_nz _) ?_
  refine ⟨?_, rfl⟩
  first | (simp_all [pDr, pWish, pMin]; done) | (simp [pDr, pWish, pMin, if_neg h89, h4_5]; done) | (simp [pDr, pWish, pMin, if_neg h109, h4_6, h121]; done)
