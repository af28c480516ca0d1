def pBeg (σ : Nat → Int32) (m : Nat) (c : Int32) : Nat → Int32 := fv_u (fv_u (fv_u (fv_u (fv_u σ (fM m 0) c) (fM m 1) 1) (fM m 2) 0) (fM m 3) 0) (fM m 4) 0
theorem hX1_begin {E : fv_E} {d s m : Nat} {c : Int32} {M : fv_M} (hs : s < 3) (hm : m < 8) : fv_F E d mX1_begin [.ref (aM s m), .int c] M none (fv_s M s (pBeg (M s) m c)) := by
  refine fv_F.of (ls := [some (.ref (aM s m)), some (.int c)]) (by decide) (Nat.le_of_ble_eq_true rfl) rfl ?_
  refine x_aload_n (pc := 0) dX1_begin_0 rfl rfl ?_
  refine x_iload_n (pc := 1) dX1_begin_1 rfl rfl ?_
  refine x_put (pc := 2) fl_X1_9 dX1_begin_2 (tb_m (by assumption) (by assumption)) rfl rfl rfl ?_
  refine x_aload_n (pc := 5) dX1_begin_5 rfl rfl ?_
  refine x_iconst (pc := 6) (v := 1) dX1_begin_6 rfl ?_
  refine x_put (pc := 7) fl_X1_15 dX1_begin_7 (tb_m (by assumption) (by assumption)) rfl rfl rfl ?_
  refine x_aload_n (pc := 10) dX1_begin_10 rfl rfl ?_
  refine x_iconst (pc := 11) (v := 0) dX1_begin_11 rfl ?_
  refine x_put (pc := 12) fl_X1_18 dX1_begin_12 (tb_m (by assumption) (by assumption)) rfl rfl rfl ?_
  refine x_aload_n (pc := 15) dX1_begin_15 rfl rfl ?_
  refine x_iconst (pc := 16) (v := 0) dX1_begin_16 rfl ?_
  refine x_put (pc := 17) fl_X1_21 dX1_begin_17 (tb_m (by assumption) (by assumption)) rfl rfl rfl ?_
  refine x_aload_n (pc := 20) dX1_begin_20 rfl rfl ?_
  refine x_iconst (pc := 21) (v := 0) dX1_begin_21 rfl ?_
  refine x_put (pc := 22) fl_X1_24 dX1_begin_22 (tb_m (by assumption) (by assumption)) rfl rfl rfl ?_
  refine x_ret (pc := 25) dX1_begin_25 rfl ?_
  exact ⟨rfl, by simp only [fv_s_same, fv_s_s]; rfl⟩
def pMec (σ τ : Nat → Int32) (m : Nat) : Nat → Int32 := fv_u (fv_u (fv_u (fv_u (fv_u σ (fM m 0) (τ (fM m 0))) (fM m 1) (τ (fM m 1))) (fM m 2) (τ (fM m 2))) (fM m 3) (τ (fM m 3))) (fM m 4) (τ (fM m 4))
theorem hX1_become {E : fv_E} {d s t m : Nat} {M : fv_M} (hs : s < 3) (ht : t < 3) (hst : t ≠ s) (hm : m < 8) : fv_F E d mX1_become [.ref (aM s m), .ref (aM t m)] M none (fv_s M s (pMec (M s) (M t) m)) := by
  refine fv_F.of (ls := [some (.ref (aM s m)), some (.ref (aM t m))]) (by decide) (Nat.le_of_ble_eq_true rfl) rfl ?_
  refine x_aload_n (pc := 0) dX1_become_0 rfl rfl ?_
  refine x_aload_n (pc := 1) dX1_become_1 rfl rfl ?_
  refine x_geti (pc := 2) fl_X1_9 dX1_become_2 (tb_m (by assumption) (by assumption)) rfl (rfl) ?_
  refine x_put (pc := 5) fl_X1_9 dX1_become_5 (tb_m (by assumption) (by assumption)) rfl rfl rfl ?_
  refine x_aload_n (pc := 8) dX1_become_8 rfl rfl ?_
  refine x_aload_n (pc := 9) dX1_become_9 rfl rfl ?_
  refine x_geti (pc := 10) fl_X1_15 dX1_become_10 (tb_m (by assumption) (by assumption)) rfl (rfl) ?_
  refine x_put (pc := 13) fl_X1_15 dX1_become_13 (tb_m (by assumption) (by assumption)) rfl rfl rfl ?_
  refine x_aload_n (pc := 16) dX1_become_16 rfl rfl ?_
  refine x_aload_n (pc := 17) dX1_become_17 rfl rfl ?_
  refine x_geti (pc := 18) fl_X1_18 dX1_become_18 (tb_m (by assumption) (by assumption)) rfl (rfl) ?_
  refine x_put (pc := 21) fl_X1_18 dX1_become_21 (tb_m (by assumption) (by assumption)) rfl rfl rfl ?_
  refine x_aload_n (pc := 24) dX1_become_24 rfl rfl ?_
  refine x_aload_n (pc := 25) dX1_become_25 rfl rfl ?_
  refine x_geti (pc := 26) fl_X1_21 dX1_become_26 (tb_m (by assumption) (by assumption)) rfl (rfl) ?_
  refine x_put (pc := 29) fl_X1_21 dX1_become_29 (tb_m (by assumption) (by assumption)) rfl rfl rfl ?_
  refine x_aload_n (pc := 32) dX1_become_32 rfl rfl ?_
  refine x_aload_n (pc := 33) dX1_become_33 rfl rfl ?_
  refine x_geti (pc := 34) fl_X1_24 dX1_become_34 (tb_m (by assumption) (by assumption)) rfl (rfl) ?_
  refine x_put (pc := 37) fl_X1_24 dX1_become_37 (tb_m (by assumption) (by assumption)) rfl rfl rfl ?_
  refine x_ret (pc := 40) dX1_become_40 rfl ?_
  exact ⟨rfl, by simp only [fv_s_same, fv_s_s, fv_s_ne _ _ hst]; rfl⟩
theorem hX1_mostOf {E : fv_E} {d : Nat} {w a : Int32} {M : fv_M} : fv_F E d mX1_mostOf [.int w, .int a] M (some (.int (if w = 0 then 3 else if w = 1 then 99 else if w = 2 then a else if w = 3 then 4 else 1))) M := by
  refine fv_F.of (ls := [some (.int w), some (.int a)]) (by decide) (Nat.le_of_ble_eq_true rfl) rfl ?_
  refine x_iload_n (pc := 0) dX1_mostOf_0 rfl rfl ?_
  refine x_swc (pc := 1) 0 dX1_mostOf_1 (by decide) (by decide) rfl (tgt := 32) rfl (fun h1_0 => ?_) (fun n1_0 => ?_)
  ·
    refine x_iconst (pc := 32) (v := 3) dX1_mostOf_32 rfl ?_
    refine x_iret (pc := 33) dX1_mostOf_33 rfl (by first | rfl | exact fv_nz _) ?_
    exact ⟨by simp_all, rfl⟩
  refine x_swc (pc := 1) 1 dX1_mostOf_1 (by decide) (by decide) rfl (tgt := 34) rfl (fun h1_1 => ?_) (fun n1_1 => ?_)
  ·
    refine x_bipush (pc := 34) (v := 99) dX1_mostOf_34 rfl ?_
    refine x_iret (pc := 36) dX1_mostOf_36 rfl (by first | rfl | exact fv_nz _) ?_
    exact ⟨by simp_all, rfl⟩
  refine x_swc (pc := 1) 2 dX1_mostOf_1 (by decide) (by decide) rfl (tgt := 37) rfl (fun h1_2 => ?_) (fun n1_2 => ?_)
  ·
    refine x_iload_n (pc := 37) dX1_mostOf_37 rfl rfl ?_
    refine x_iret (pc := 38) dX1_mostOf_38 rfl (by first | rfl | exact fv_nz _) ?_
    exact ⟨by simp_all, rfl⟩
  refine x_swc (pc := 1) 3 dX1_mostOf_1 (by decide) (by decide) rfl (tgt := 39) rfl (fun h1_3 => ?_) (fun n1_3 => ?_)
  ·
    refine x_iconst (pc := 39) (v := 4) dX1_mostOf_39 rfl ?_
    refine x_iret (pc := 40) dX1_mostOf_40 rfl (by first | rfl | exact fv_nz _) ?_
    exact ⟨by simp_all, rfl⟩
  refine x_swd (pc := 1) dX1_mostOf_1 (fun c hl hh => by rcases (show c = 0 ∨ c = 1 ∨ c = 2 ∨ c = 3 by omega) with rfl | rfl | rfl | rfl <;> assumption) (tgt := 41) rfl ?_
  refine x_iconst (pc := 41) (v := 1) dX1_mostOf_41 rfl ?_
  refine x_iret (pc := 42) dX1_mostOf_42 rfl (by first | rfl | exact fv_nz _) ?_
  exact ⟨by simp_all, rfl⟩
theorem hX1_feature0 {E : fv_E} {d s m : Nat} {M : fv_M} (hs : s < 3) (hm : m < 8) : fv_F E d mX1_feature [.ref (aM s m), .int (nI 0)] M (some (.int (M s (fM m 0)))) M := by
  refine fv_F.of (ls := [some (.ref (aM s m)), some (.int (nI 0))]) (by decide) (Nat.le_of_ble_eq_true rfl) rfl ?_
  refine x_iload_n (pc := 0) dX1_feature_0 rfl rfl ?_
  refine x_tableIn (pc := 1) dX1_feature_1 (by decide) (by decide) rfl (tgt := 32) rfl ?_
  refine x_aload_n (pc := 32) dX1_feature_32 rfl rfl ?_
  refine x_geti (pc := 33) fl_X1_9 dX1_feature_33 (tb_m (by assumption) (by assumption)) rfl (rfl) ?_
  refine x_iret (pc := 36) dX1_feature_36 rfl (by first | rfl | exact fv_nz _) ?_
  exact ⟨rfl, rfl⟩
theorem hX1_setFeature0 {E : fv_E} {d s m : Nat} {v : Int32} {M : fv_M} (hs : s < 3) (hm : m < 8) : fv_F E d mX1_setFeature [.ref (aM s m), .int (nI 0), .int v] M none (fv_s M s (fv_u (M s) (fM m 0) v)) := by
  refine fv_F.of (ls := [some (.ref (aM s m)), some (.int (nI 0)), some (.int v)]) (by decide) (Nat.le_of_ble_eq_true rfl) rfl ?_
  refine x_iload_n (pc := 0) dX1_setFeature_0 rfl rfl ?_
  refine x_tableIn (pc := 1) dX1_setFeature_1 (by decide) (by decide) rfl (tgt := 32) rfl ?_
  refine x_aload_n (pc := 32) dX1_setFeature_32 rfl rfl ?_
  refine x_iload_n (pc := 33) dX1_setFeature_33 rfl rfl ?_
  refine x_put (pc := 34) fl_X1_9 dX1_setFeature_34 (tb_m (by assumption) (by assumption)) rfl rfl rfl ?_
  refine x_goto (pc := 37) dX1_setFeature_37 (tgt := 69) rfl ?_
  refine x_ret (pc := 69) dX1_setFeature_69 rfl ?_
  exact ⟨rfl, rfl⟩
theorem hX1_feature1 {E : fv_E} {d s m : Nat} {M : fv_M} (hs : s < 3) (hm : m < 8) : fv_F E d mX1_feature [.ref (aM s m), .int (nI 1)] M (some (.int (M s (fM m 1)))) M := by
  refine fv_F.of (ls := [some (.ref (aM s m)), some (.int (nI 1))]) (by decide) (Nat.le_of_ble_eq_true rfl) rfl ?_
  refine x_iload_n (pc := 0) dX1_feature_0 rfl rfl ?_
  refine x_tableIn (pc := 1) dX1_feature_1 (by decide) (by decide) rfl (tgt := 37) rfl ?_
  refine x_aload_n (pc := 37) dX1_feature_37 rfl rfl ?_
  refine x_geti (pc := 38) fl_X1_15 dX1_feature_38 (tb_m (by assumption) (by assumption)) rfl (rfl) ?_
  refine x_iret (pc := 41) dX1_feature_41 rfl (by first | rfl | exact fv_nz _) ?_
  exact ⟨rfl, rfl⟩
theorem hX1_setFeature1 {E : fv_E} {d s m : Nat} {v : Int32} {M : fv_M} (hs : s < 3) (hm : m < 8) : fv_F E d mX1_setFeature [.ref (aM s m), .int (nI 1), .int v] M none (fv_s M s (fv_u (M s) (fM m 1) v)) := by
  refine fv_F.of (ls := [some (.ref (aM s m)), some (.int (nI 1)), some (.int v)]) (by decide) (Nat.le_of_ble_eq_true rfl) rfl ?_
  refine x_iload_n (pc := 0) dX1_setFeature_0 rfl rfl ?_
  refine x_tableIn (pc := 1) dX1_setFeature_1 (by decide) (by decide) rfl (tgt := 40) rfl ?_
  refine x_aload_n (pc := 40) dX1_setFeature_40 rfl rfl ?_
  refine x_iload_n (pc := 41) dX1_setFeature_41 rfl rfl ?_
  refine x_put (pc := 42) fl_X1_15 dX1_setFeature_42 (tb_m (by assumption) (by assumption)) rfl rfl rfl ?_
  refine x_goto (pc := 45) dX1_setFeature_45 (tgt := 69) rfl ?_
  refine x_ret (pc := 69) dX1_setFeature_69 rfl ?_
  exact ⟨rfl, rfl⟩
theorem hX1_feature2 {E : fv_E} {d s m : Nat} {M : fv_M} (hs : s < 3) (hm : m < 8) : fv_F E d mX1_feature [.ref (aM s m), .int (nI 2)] M (some (.int (M s (fM m 2)))) M := by
  refine fv_F.of (ls := [some (.ref (aM s m)), some (.int (nI 2))]) (by decide) (Nat.le_of_ble_eq_true rfl) rfl ?_
  refine x_iload_n (pc := 0) dX1_feature_0 rfl rfl ?_
  refine x_tableIn (pc := 1) dX1_feature_1 (by decide) (by decide) rfl (tgt := 42) rfl ?_
  refine x_aload_n (pc := 42) dX1_feature_42 rfl rfl ?_
  refine x_geti (pc := 43) fl_X1_18 dX1_feature_43 (tb_m (by assumption) (by assumption)) rfl (rfl) ?_
  refine x_iret (pc := 46) dX1_feature_46 rfl (by first | rfl | exact fv_nz _) ?_
  exact ⟨rfl, rfl⟩
theorem hX1_setFeature2 {E : fv_E} {d s m : Nat} {v : Int32} {M : fv_M} (hs : s < 3) (hm : m < 8) : fv_F E d mX1_setFeature [.ref (aM s m), .int (nI 2), .int v] M none (fv_s M s (fv_u (M s) (fM m 2) v)) := by
  refine fv_F.of (ls := [some (.ref (aM s m)), some (.int (nI 2)), some (.int v)]) (by decide) (Nat.le_of_ble_eq_true rfl) rfl ?_
  refine x_iload_n (pc := 0) dX1_setFeature_0 rfl rfl ?_
  refine x_tableIn (pc := 1) dX1_setFeature_1 (by decide) (by decide) rfl (tgt := 48) rfl ?_
  refine x_aload_n (pc := 48) dX1_setFeature_48 rfl rfl ?_
  refine x_iload_n (pc := 49) dX1_setFeature_49 rfl rfl ?_
  refine x_put (pc := 50) fl_X1_18 dX1_setFeature_50 (tb_m (by assumption) (by assumption)) rfl rfl rfl ?_
  refine x_goto (pc := 53) dX1_setFeature_53 (tgt := 69) rfl ?_
  refine x_ret (pc := 69) dX1_setFeature_69 rfl ?_
  exact ⟨rfl, rfl⟩
theorem hX1_feature3 {E : fv_E} {d s m : Nat} {M : fv_M} (hs : s < 3) (hm : m < 8) : fv_F E d mX1_feature [.ref (aM s m), .int (nI 3)] M (some (.int (M s (fM m 3)))) M := by
  refine fv_F.of (ls := [some (.ref (aM s m)), some (.int (nI 3))]) (by decide) (Nat.le_of_ble_eq_true rfl) rfl ?_
  refine x_iload_n (pc := 0) dX1_feature_0 rfl rfl ?_
  refine x_tableIn (pc := 1) dX1_feature_1 (by decide) (by decide) rfl (tgt := 47) rfl ?_
  refine x_aload_n (pc := 47) dX1_feature_47 rfl rfl ?_
  refine x_geti (pc := 48) fl_X1_21 dX1_feature_48 (tb_m (by assumption) (by assumption)) rfl (rfl) ?_
  refine x_iret (pc := 51) dX1_feature_51 rfl (by first | rfl | exact fv_nz _) ?_
  exact ⟨rfl, rfl⟩
theorem hX1_setFeature3 {E : fv_E} {d s m : Nat} {v : Int32} {M : fv_M} (hs : s < 3) (hm : m < 8) : fv_F E d mX1_setFeature [.ref (aM s m), .int (nI 3), .int v] M none (fv_s M s (fv_u (M s) (fM m 3) v)) := by
  refine fv_F.of (ls := [some (.ref (aM s m)), some (.int (nI 3)), some (.int v)]) (by decide) (Nat.le_of_ble_eq_true rfl) rfl ?_
  refine x_iload_n (pc := 0) dX1_setFeature_0 rfl rfl ?_
  refine x_tableIn (pc := 1) dX1_setFeature_1 (by decide) (by decide) rfl (tgt := 56) rfl ?_
  refine x_aload_n (pc := 56) dX1_setFeature_56 rfl rfl ?_
  refine x_iload_n (pc := 57) dX1_setFeature_57 rfl rfl ?_
  refine x_put (pc := 58) fl_X1_21 dX1_setFeature_58 (tb_m (by assumption) (by assumption)) rfl rfl rfl ?_
  refine x_goto (pc := 61) dX1_setFeature_61 (tgt := 69) rfl ?_
  refine x_ret (pc := 69) dX1_setFeature_69 rfl ?_
  exact ⟨rfl, rfl⟩
theorem hX1_feature4 {E : fv_E} {d s m : Nat} {M : fv_M} (hs : s < 3) (hm : m < 8) : fv_F E d mX1_feature [.ref (aM s m), .int (nI 4)] M (some (.int (M s (fM m 4)))) M := by
  refine fv_F.of (ls := [some (.ref (aM s m)), some (.int (nI 4))]) (by decide) (Nat.le_of_ble_eq_true rfl) rfl ?_
  refine x_iload_n (pc := 0) dX1_feature_0 rfl rfl ?_
  refine x_tableOut (pc := 1) dX1_feature_1 (by decide) (tgt := 52) rfl ?_
  refine x_aload_n (pc := 52) dX1_feature_52 rfl rfl ?_
  refine x_geti (pc := 53) fl_X1_24 dX1_feature_53 (tb_m (by assumption) (by assumption)) rfl (rfl) ?_
  refine x_iret (pc := 56) dX1_feature_56 rfl (by first | rfl | exact fv_nz _) ?_
  exact ⟨rfl, rfl⟩
theorem hX1_setFeature4 {E : fv_E} {d s m : Nat} {v : Int32} {M : fv_M} (hs : s < 3) (hm : m < 8) : fv_F E d mX1_setFeature [.ref (aM s m), .int (nI 4), .int v] M none (fv_s M s (fv_u (M s) (fM m 4) v)) := by
  refine fv_F.of (ls := [some (.ref (aM s m)), some (.int (nI 4)), some (.int v)]) (by decide) (Nat.le_of_ble_eq_true rfl) rfl ?_
  refine x_iload_n (pc := 0) dX1_setFeature_0 rfl rfl ?_
  refine x_tableOut (pc := 1) dX1_setFeature_1 (by decide) (tgt := 64) rfl ?_
  refine x_aload_n (pc := 64) dX1_setFeature_64 rfl rfl ?_
  refine x_iload_n (pc := 65) dX1_setFeature_65 rfl rfl ?_
  refine x_put (pc := 66) fl_X1_24 dX1_setFeature_66 (tb_m (by assumption) (by assumption)) rfl rfl rfl ?_
  refine x_ret (pc := 69) dX1_setFeature_69 rfl ?_
  exact ⟨rfl, rfl⟩
theorem hX1_feature {E : fv_E} {d s m w : Nat} {M : fv_M} (hs : s < 3) (hm : m < 8) (hw : w < 5) : fv_F E d mX1_feature [.ref (aM s m), .int (nI w)] M (some (.int (M s (fM m w)))) M := by
  match w, hw with
  | 0, _ => exact hX1_feature0 hs hm
  | 1, _ => exact hX1_feature1 hs hm
  | 2, _ => exact hX1_feature2 hs hm
  | 3, _ => exact hX1_feature3 hs hm
  | 4, _ => exact hX1_feature4 hs hm
  | n + 5, h => omega
theorem hX1_setFeature {E : fv_E} {d s m w : Nat} {v : Int32} {M : fv_M} (hs : s < 3) (hm : m < 8) (hw : w < 5) : fv_F E d mX1_setFeature [.ref (aM s m), .int (nI w), .int v] M none (fv_s M s (fv_u (M s) (fM m w) v)) := by
  match w, hw with
  | 0, _ => exact hX1_setFeature0 hs hm
  | 1, _ => exact hX1_setFeature1 hs hm
  | 2, _ => exact hX1_setFeature2 hs hm
  | 3, _ => exact hX1_setFeature3 hs hm
  | 4, _ => exact hX1_setFeature4 hs hm
  | n + 5, h => omega
theorem hX1_isCarriedBy {E : fv_E} {d s m : Nat} {f a : Int32} {M : fv_M} (hs : s < 3) (hm : m < 8) : fv_F E d mX1_isCarriedBy [.ref (aM s m), .int f, .int a] M (some (.int (bI (a < f ∧ M s (fM m 1) ≤ f + a)))) M := by
  refine fv_F.of (ls := [some (.ref (aM s m)), some (.int f), some (.int a)]) (by decide) (Nat.le_of_ble_eq_true rfl) rfl ?_
  refine x_iload_n (pc := 0) dX1_isCarriedBy_0 rfl rfl ?_
  refine x_iload_n (pc := 1) dX1_isCarriedBy_1 rfl rfl ?_
  refine x_icmp_le (pc := 2) dX1_isCarriedBy_2 (tgt := 19) rfl (fun h2 => ?_) (fun h2 => ?_)
  ·
    replace h2 := Int32.not_lt.mpr h2
    refine x_iconst (pc := 19) (v := 0) dX1_isCarriedBy_19 rfl ?_
    refine x_iret (pc := 20) dX1_isCarriedBy_20 rfl (by first | rfl | exact fv_nz _) ?_
    refine ⟨?_, rfl⟩
    first | exact fv_rt ⟨h2, h12⟩ | exact fv_rf (fun h => h2 h.1) | exact fv_rf (fun h => h12 h.2)
  ·
    replace h2 := Int32.not_le.mp h2
    refine x_iload_n (pc := 5) dX1_isCarriedBy_5 rfl rfl ?_
    refine x_iload_n (pc := 6) dX1_isCarriedBy_6 rfl rfl ?_
    refine x_iadd (pc := 7) dX1_isCarriedBy_7 ?_
    refine x_aload_n (pc := 8) dX1_isCarriedBy_8 rfl rfl ?_
    refine x_geti (pc := 9) fl_X1_15 dX1_isCarriedBy_9 (tb_m (by assumption) (by assumption)) rfl (rfl) ?_
    refine x_icmp_lt (pc := 12) dX1_isCarriedBy_12 (tgt := 19) rfl (fun h12 => ?_) (fun h12 => ?_)
    ·
      replace h12 := Int32.not_le.mpr h12
      refine x_iconst (pc := 19) (v := 0) dX1_isCarriedBy_19 rfl ?_
      refine x_iret (pc := 20) dX1_isCarriedBy_20 rfl (by first | rfl | exact fv_nz _) ?_
      refine ⟨?_, rfl⟩
      first | exact fv_rt ⟨h2, h12⟩ | exact fv_rf (fun h => h2 h.1) | exact fv_rf (fun h => h12 h.2)
    ·
      replace h12 := Int32.not_lt.mp h12
      refine x_iconst (pc := 15) (v := 1) dX1_isCarriedBy_15 rfl ?_
      refine x_goto (pc := 16) dX1_isCarriedBy_16 (tgt := 20) rfl ?_
      refine x_iret (pc := 20) dX1_isCarriedBy_20 rfl (by first | rfl | exact fv_nz _) ?_
      refine ⟨?_, rfl⟩
      first | exact fv_rt ⟨h2, h12⟩ | exact fv_rf (fun h => h2 h.1) | exact fv_rf (fun h => h12 h.2)
