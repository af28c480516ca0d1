theorem fv_F.v {E : fv_E} {d : Nat} {y : fv_Y} {args : List Value} {M M0 : fv_M} {a b : Int32} (h : fv_F E d y args M (some (.int a)) M0) (e : a = b) : fv_F E d y args M (some (.int b)) M0 := by subst e; exact h
theorem sN_pick {f g : Nat → Int32} {k : Nat} (hf : f k = 1) (hg : g k = 0) : ∀ n, (∀ i, i < n → i ≠ k → f i = g i) → sN f n = sN g n + (if k < n then 1 else 0) := by
  intro n
  induction n with
  | zero => intro _; rw [if_neg (Nat.not_lt_zero k)]; rfl
  | succ n ih =>
    intro hne
    have ih2 := ih (fun i hi => hne i (by omega))
    show sN f n + f n = sN g n + g n + (if k < n + 1 then 1 else 0)
    by_cases h : k = n
    · subst h
      rw [ih2, hf, hg, if_neg (Nat.lt_irrefl k), if_pos (Nat.lt_succ_self k)]
    · rw [ih2, hne n (Nat.lt_succ_self n) (fun q => h q.symm)]
      by_cases h2 : k < n
      · rw [if_pos h2, if_pos (by omega), Int32.add_assoc, Int32.add_comm 1, ← Int32.add_assoc]
      · rw [if_neg h2, if_neg (by omega)]
        simp only [Int32.add_zero]
theorem pCr_pk {σ : Nat → Int32} {w w' : Int32} {k n : Nat} (h : ∀ i, i < n → (pIn w' i ↔ (pIn w i ↔ pIn w k))) (hk : k < n) (hc : pCrow σ k) : pCr σ w' n = 1 + pCb σ w k n := by
  unfold pCr pCb
  rw [sN_pick (g := fun i => bI (i ≠ k ∧ pCrow σ i ∧ (pIn w i ↔ pIn w k))) (k := k) (bI_t ⟨(h k hk).mpr Iff.rfl, hc⟩) (bI_f (fun q => q.1 rfl)) n (fun i hi hne => bI_congr ⟨fun q => ⟨hne, q.2, (h i hi).mp q.1⟩, fun q => ⟨(h i hi).mpr q.2.2, q.2.1⟩⟩), if_pos hk, Int32.add_comm]
theorem pWv_cr {kd col keeps fe wants cr cr' : Int32} (h : ¬ (kd = 2 ∨ kd = 3 ∨ kd = 4)) : pWv kd col keeps fe wants cr = pWv kd col keeps fe wants cr' := by
  have h2 : ¬ kd = 2 := fun q => h (Or.inl q)
  have h3 : ¬ kd = 3 := fun q => h (Or.inr (Or.inl q))
  have h4 : ¬ kd = 4 := fun q => h (Or.inr (Or.inr q))
  unfold pWv
  rw [if_neg h2, if_neg h3, if_neg h4, if_neg h2, if_neg h3, if_neg h4]
abbrev pTw (σ : Nat → Int32) (m : Nat) (w : Int32) : Nat → Int32 := fv_u σ (fM m 2) w
theorem pTw_b {σ : Nat → Int32} {m b j : Nat} {w : Int32} (hb : b < 8) (hj : j < 7) : pTw σ m w (fB b j) = σ (fB b j) := fv_u_ne _ _ (by unfold fB fM; omega)
theorem pTw_f {σ : Nat → Int32} {m b c : Nat} {w : Int32} (hb : b < 8) (hc : c < 4) : pTw σ m w (fB b 3 + c) = σ (fB b 3 + c) := fv_u_ne _ _ (by unfold fB fM; omega)
theorem pTw_fe {σ : Nat → Int32} {m b : Nat} {w : Int32} (hb : b < 8) : pFe (pTw σ m w) b = pFe σ b := sN_congr (fun c hc => pTw_f hb hc)
theorem pTw_m {σ : Nat → Int32} {m f : Nat} {w : Int32} (h : f ≠ 2) : pTw σ m w (fM m f) = σ (fM m f) := fv_u_ne _ _ (by unfold fM; omega)
theorem pTw_w {σ : Nat → Int32} {m : Nat} {w : Int32} : pTw σ m w (fM m 2) = w := fv_u_same _ _ _
theorem pTw_cr {σ : Nat → Int32} {m n : Nat} {w w' : Int32} (hn : n ≤ 8) : pCr (pTw σ m w) w' n = pCr σ w' n := sN_congr (fun i hi => bI_congr (by unfold pCrow; rw [pTw_b (by omega) (by omega)]))
theorem pDr_m {σ : Nat → Int32} {w w' : Int32} {k m c n : Nat} (h : ∀ i, i < n → (pIn w' i ↔ (pIn w i ↔ pIn w k))) (hk : k < n) (hn : n ≤ 8) (hcol : σ (fM m 0) = nI c) (hc : c < 4) : pDr (pTw σ m w) k m c (pCr (pTw σ m w) w' n) = pDm σ k c w n := by
  unfold pDr pDm
  rw [pWish_v, pTw_f (by omega) hc, pTw_b (by omega) (by omega), pTw_b (by omega) (by omega), pTw_fe (by omega), pTw_m (by omega), pTw_w, hcol, pTw_cr hn]
  by_cases hq : pCrow σ k
  · rw [pCr_pk h hk hq]
  · rw [pWv_cr hq]
theorem pIn_all : ((List.range 256).all fun u => (List.range 8).all fun i => decide (pIn (nI u) i ↔ u.testBit i = true)) = true := by decide +kernel
theorem pIn_tb {u i : Nat} (hu : u < 256) (hi : i < 8) : pIn (nI u) i ↔ u.testBit i = true := of_decide_eq_true (fv_all1 (fv_all1 pIn_all hu) hi)
theorem pWa_all : ((List.range 9).all fun n => (List.range 256).all fun u => (List.range n).all fun i => decide (pIn (pAll n &&& (nI u ^^^ -1)) i ↔ u.testBit i = false)) = true := by decide +kernel
theorem pWa_tb {n u i : Nat} (hn : n ≤ 8) (hu : u < 256) (hi : i < n) : pIn (pAll n &&& (nI u ^^^ -1)) i ↔ ¬ pIn (nI u) i := by
  rw [of_decide_eq_true (fv_all1 (fv_all1 (fv_all1 pWa_all (show n < 9 by omega)) hu) hi), pIn_tb hu (by omega), Bool.not_eq_true]
theorem pSm_T {σ : Nat → Int32} {m c n : Nat} {w : Int32} (hn : n ≤ 8) (hcol : σ (fM m 0) = nI c) (hc : c < 4) : pSm σ c w n True n = pSd (pTw σ m w) n m c w := by
  unfold pSm pSd pSdK
  refine sN_congr (fun b hb => ?_)
  by_cases h : pIn w b
  · rw [if_pos h, if_pos ⟨fun _ => trivial, fun _ => h⟩, pDr_m (w := w) (fun i _ => ⟨fun q => ⟨fun _ => h, fun _ => q⟩, fun q => q.mpr h⟩) hb hn hcol hc]
  · rw [if_neg h, if_neg (fun q => h (q.mpr trivial))]
theorem pSm_F {σ : Nat → Int32} {m c n u : Nat} (hn : n ≤ 8) (hu : u < 256) (hcol : σ (fM m 0) = nI c) (hc : c < 4) : pSm σ c (nI u) n False n = pSd (pTw σ m (nI u)) n m c (pAll n &&& (nI u ^^^ -1)) := by
  unfold pSm pSd pSdK
  refine sN_congr (fun b hb => ?_)
  by_cases h : pIn (nI u) b
  · rw [if_neg (fun q => q.mp h), if_neg (fun q => (pWa_tb hn hu hb).mp q h)]
  · rw [if_pos ⟨h, fun q => q.elim⟩, if_pos ((pWa_tb hn hu hb).mpr h), pDr_m (w := nI u) (fun i hi => ?_) hb hn hcol hc]
    rw [pWa_tb hn hu hi]
    exact ⟨fun q => ⟨fun z => absurd z q, fun z => absurd z h⟩, fun q z => h (q.mp z)⟩
/-- a good state, by parts: birds; a motion of colour c -/
def pGb (σ : Nat → Int32) (nb : Nat) : Prop := σ 1 = nI nb ∧ nb ≤ 8 ∧ ∀ k, k < nb → pG1 σ k
theorem pGb.K {σ : Nat → Int32} {nb : Nat} (h : pGb σ nb) : pKd σ nb := fun b hb => (h.2.2 b hb).1
theorem hX7_sideT {E : fv_E} {d nb m c : Nat} {w : Int32} {M : fv_M} (hg : pGb (M 22) nb) (hm : m < 8) (hcol : M 22 (fM m 0) = nI c) (hc : c < 4) : fv_F E (d + 3) mX7_sideBy [.ref 106, .int (nI m), .int w, .int 1] M (some (.int (pSd (pTw (M 22) m w) nb m c w))) M := by
  have h := hX7_sideBy0 (E := E) (d := d) (w := w) (fl := True) hg.1 hg.2.1 hg.K hg.2.2 hm hcol hc
  rw [pSm_T hg.2.1 hcol hc, bI_t trivial] at h
  exact h
theorem hX7_sideF {E : fv_E} {d nb m c u : Nat} {M : fv_M} (hg : pGb (M 22) nb) (hm : m < 8) (hcol : M 22 (fM m 0) = nI c) (hc : c < 4) (hu : u < 256) : fv_F E (d + 3) mX7_sideBy [.ref 106, .int (nI m), .int (nI u), .int 0] M (some (.int (pSd (pTw (M 22) m (nI u)) nb m c (pAll nb &&& (nI u ^^^ -1))))) M := by
  have h := hX7_sideBy0 (E := E) (d := d) (w := nI u) (fl := False) hg.1 hg.2.1 hg.K hg.2.2 hm hcol hc
  rw [pSm_F hg.2.1 hu hcol hc, bI_f (fun q => q)] at h
  exact h
theorem hX7_passesBy {E : fv_E} {d nb m c u : Nat} {M : fv_M} (hg : pGb (M 22) nb) (hm : m < 8) (hcol : M 22 (fM m 0) = nI c) (hc : c < 4) (hu : u < 256) : fv_F E (d + 4) mX7_passesBy [.ref 106, .int (nI m), .int (nI u)] M (some (.int (bI (pPs (pTw (M 22) m (nI u)) nb m c)))) M := by
  have e : ∀ p : Prop, (p ↔ pPs (pTw (M 22) m (nI u)) nb m c) ↔ (p ↔ (pSd (pTw (M 22) m (nI u)) nb m c (pAll nb &&& (nI u ^^^ -1)) < pSd (pTw (M 22) m (nI u)) nb m c (nI u) ∧ M 22 (fM m 1) ≤ pSd (pTw (M 22) m (nI u)) nb m c (nI u) + pSd (pTw (M 22) m (nI u)) nb m c (pAll nb &&& (nI u ^^^ -1)))) := fun p => by
    unfold pPs pWa; rw [pTw_w, pTw_m (by omega)]
  refine fv_F.of (ls := [some (.ref 106), some (.int (nI m)), some (.int (nI u)), none, none]) (by decide) (Nat.le_of_ble_eq_true rfl) rfl ?_
  refine x_aload_n (pc := 0) dX7_passesBy_0 rfl rfl ?_
  refine x_iload_n (pc := 1) dX7_passesBy_1 rfl rfl ?_
  refine x_iload_n (pc := 2) dX7_passesBy_2 rfl rfl ?_
  refine x_iconst (pc := 3) (v := 1) dX7_passesBy_3 rfl ?_
  refine x_Vi (pc := 4) ks_X7_93 dX7_passesBy_4 (tb_106) rfl rfl (hX7_sideT hg hm hcol hc) rfl rfl rfl (Nat.le_of_ble_eq_true rfl) ?_
  refine x_istore_n3 (pc := 7) dX7_passesBy_7 rfl ?_
  refine x_aload_n (pc := 8) dX7_passesBy_8 rfl rfl ?_
  refine x_iload_n (pc := 9) dX7_passesBy_9 rfl rfl ?_
  refine x_iload_n (pc := 10) dX7_passesBy_10 rfl rfl ?_
  refine x_iconst (pc := 11) (v := 0) dX7_passesBy_11 rfl ?_
  refine x_Vi (pc := 12) ks_X7_93 dX7_passesBy_12 (tb_106) rfl rfl (hX7_sideF hg hm hcol hc hu) rfl rfl rfl (Nat.le_of_ble_eq_true rfl) ?_
  refine x_istore4 (pc := 15) dX7_passesBy_15 rfl ?_
  refine x_iload_n (pc := 17) dX7_passesBy_17 rfl rfl ?_
  refine x_iload (pc := 18) dX7_passesBy_18 rfl ?_
  refine x_icmp_le (pc := 20) dX7_passesBy_20 (tgt := 40) rfl (fun h20 => ?_) (fun h20 => ?_)
  ·
    have eq := bI_f (p := pPs (pTw (M 22) m (nI u)) nb m c) (fun q => absurd h20 (Int32.not_le.mpr (((e _).mp Iff.rfl).mp q).1))
    refine x_iconst (pc := 40) (v := 0) dX7_passesBy_40 rfl ?_
    refine x_iret (pc := 41) dX7_passesBy_41 rfl (by first | rfl | exact fv_nz _) ?_
    exact ⟨by rw [eq], rfl⟩
  ·
    refine x_iload_n (pc := 23) dX7_passesBy_23 rfl rfl ?_
    refine x_iload (pc := 24) dX7_passesBy_24 rfl ?_
    refine x_iadd (pc := 26) dX7_passesBy_26 ?_
    refine x_aload_n (pc := 27) dX7_passesBy_27 rfl rfl ?_
    refine x_iload_n (pc := 28) dX7_passesBy_28 rfl rfl ?_
    refine x_iconst (pc := 29) (v := 1) dX7_passesBy_29 rfl ?_
    refine x_Vi (pc := 30) ks_X7_80 dX7_passesBy_30 (tb_106) rfl rfl (hX7_of1 (f := 1) hm (by decide)) rfl rfl rfl (Nat.le_of_ble_eq_true rfl) ?_
    refine x_icmp_lt (pc := 33) dX7_passesBy_33 (tgt := 40) rfl (fun h33 => ?_) (fun h33 => ?_)
    ·
      have eq := bI_f (p := pPs (pTw (M 22) m (nI u)) nb m c) (fun q => absurd h33 (Int32.not_lt.mpr (((e _).mp Iff.rfl).mp q).2))
      refine x_iconst (pc := 40) (v := 0) dX7_passesBy_40 rfl ?_
      refine x_iret (pc := 41) dX7_passesBy_41 rfl (by first | rfl | exact fv_nz _) ?_
      exact ⟨by rw [eq], rfl⟩
    ·
      have eq := bI_t (p := pPs (pTw (M 22) m (nI u)) nb m c) (((e _).mp Iff.rfl).mpr ⟨Int32.not_le.mp h20, Int32.not_lt.mp h33⟩)
      refine x_iconst (pc := 36) (v := 1) dX7_passesBy_36 rfl ?_
      refine x_goto (pc := 37) dX7_passesBy_37 (tgt := 41) rfl ?_
      refine x_iret (pc := 41) dX7_passesBy_41 rfl (by first | rfl | exact fv_nz _) ?_
      exact ⟨by rw [eq], rfl⟩
theorem hX7_passesNow {E : fv_E} {d nb m c : Nat} {M : fv_M} (hg : pGb (M 22) nb) (hm : m < 8) (hcol : M 22 (fM m 0) = nI c) (hc : c < 4) (hw : ∃ u, u < 256 ∧ M 22 (fM m 2) = nI u) : fv_F E (d + 5) mX7_passesNow [.ref 106, .int (nI m)] M (some (.int (bI (pPs (M 22) nb m c)))) M := by
  obtain ⟨u, hu, eu⟩ := hw
  have h := hX7_passesBy (E := E) (d := d) hg hm hcol hc hu
  rw [show pTw (M 22) m (nI u) = M 22 from by rw [← eu]; exact fv_u_id _ _] at h
  refine fv_F.of (ls := [some (.ref 106), some (.int (nI m))]) (by decide) (Nat.le_of_ble_eq_true rfl) rfl ?_
  refine x_aload_n (pc := 0) dX7_passesNow_0 rfl rfl ?_
  refine x_iload_n (pc := 1) dX7_passesNow_1 rfl rfl ?_
  refine x_aload_n (pc := 2) dX7_passesNow_2 rfl rfl ?_
  refine x_iload_n (pc := 3) dX7_passesNow_3 rfl rfl ?_
  refine x_iconst (pc := 4) (v := 2) dX7_passesNow_4 rfl ?_
  refine x_Vi (pc := 5) ks_X7_80 dX7_passesNow_5 (tb_106) rfl rfl ((hX7_of1 (f := 2) hm (by decide)).v eu) rfl rfl rfl (Nat.le_of_ble_eq_true rfl) ?_
  refine x_Vi (pc := 8) ks_X7_97 dX7_passesNow_8 (tb_106) rfl rfl (h) rfl rfl rfl (Nat.le_of_ble_eq_true rfl) ?_
  refine x_iret (pc := 11) dX7_passesNow_11 rfl (by first | rfl | exact fv_nz _) ?_
  exact ⟨rfl, rfl⟩
theorem hX7_droppedAll {E : fv_E} {d nb m c : Nat} {M : fv_M} (hg : pGb (M 22) nb) (hm : m < 8) (hcol : M 22 (fM m 0) = nI c) (hc : c < 4) (hw : ∃ u, u < 256 ∧ M 22 (fM m 2) = nI u) : fv_F E (d + 4) mX7_droppedAll [.ref 106, .int (nI m)] M (some (.int (pSd (M 22) nb m c (M 22 (fM m 2)) + pSd (M 22) nb m c (pWa (M 22) nb m)))) M := by
  obtain ⟨u, hu, eu⟩ := hw
  have hT := hX7_sideT (E := E) (d := d) (w := nI u) hg hm hcol hc
  have hF := hX7_sideF (E := E) (d := d) hg hm hcol hc hu
  have e1 : pTw (M 22) m (nI u) = M 22 := by rw [← eu]; exact fv_u_id _ _
  rw [e1] at hT hF
  unfold pWa
  rw [eu]
  refine fv_F.of (ls := [some (.ref 106), some (.int (nI m))]) (by decide) (Nat.le_of_ble_eq_true rfl) rfl ?_
  refine x_aload_n (pc := 0) dX7_droppedAll_0 rfl rfl ?_
  refine x_iload_n (pc := 1) dX7_droppedAll_1 rfl rfl ?_
  refine x_aload_n (pc := 2) dX7_droppedAll_2 rfl rfl ?_
  refine x_iload_n (pc := 3) dX7_droppedAll_3 rfl rfl ?_
  refine x_iconst (pc := 4) (v := 2) dX7_droppedAll_4 rfl ?_
  refine x_Vi (pc := 5) ks_X7_80 dX7_droppedAll_5 (tb_106) rfl rfl (hX7_of1 (f := 2) hm (by decide)) rfl rfl rfl (Nat.le_of_ble_eq_true rfl) ?_
  rw [eu]
  refine x_iconst (pc := 8) (v := 1) dX7_droppedAll_8 rfl ?_
  refine x_Vi (pc := 9) ks_X7_93 dX7_droppedAll_9 (tb_106) rfl rfl (hT) rfl rfl rfl (Nat.le_of_ble_eq_true rfl) ?_
  refine x_aload_n (pc := 12) dX7_droppedAll_12 rfl rfl ?_
  refine x_iload_n (pc := 13) dX7_droppedAll_13 rfl rfl ?_
  refine x_aload_n (pc := 14) dX7_droppedAll_14 rfl rfl ?_
  refine x_iload_n (pc := 15) dX7_droppedAll_15 rfl rfl ?_
  refine x_iconst (pc := 16) (v := 2) dX7_droppedAll_16 rfl ?_
  refine x_Vi (pc := 17) ks_X7_80 dX7_droppedAll_17 (tb_106) rfl rfl (hX7_of1 (f := 2) hm (by decide)) rfl rfl rfl (Nat.le_of_ble_eq_true rfl) ?_
  rw [eu]
  refine x_iconst (pc := 20) (v := 0) dX7_droppedAll_20 rfl ?_
  refine x_Vi (pc := 21) ks_X7_93 dX7_droppedAll_21 (tb_106) rfl rfl (hF) rfl rfl rfl (Nat.le_of_ble_eq_true rfl) ?_
  refine x_iadd (pc := 24) dX7_droppedAll_24 ?_
  refine x_iret (pc := 25) dX7_droppedAll_25 rfl (by first | rfl | exact fv_nz _) ?_
  exact ⟨rfl, rfl⟩
theorem hX7_laws {E : fv_E} {d nm : Nat} {M : fv_M} (hM : M 22 2 = nI nm) (hn : nm ≤ 8) : fv_F E (d + 1) mX7_laws [.ref 106] M (some (.int (pLw (M 22) nm))) M := by
  refine fv_F.of (ls := [some (.ref 106), none, none]) (by decide) (Nat.le_of_ble_eq_true rfl) rfl ?_
  refine x_iconst (pc := 0) (v := 0) dX7_laws_0 rfl ?_
  refine x_istore_n1 (pc := 1) dX7_laws_1 rfl ?_
  refine x_iconst (pc := 2) (v := 0) dX7_laws_2 rfl ?_
  refine x_istore_n2 (pc := 3) dX7_laws_3 rfl ?_
  refine x_loop (fun j => [some (.ref 106), some (.int (pLw (M 22) j)), some (.int (nI j))]) (fun j => M) (nm) (rfl) (rfl) (fun j hj hn4 => ?_) ?_
  ·
    replace hn4 : fv_X E mX7_laws _ _ 4 ([some (.ref 106), some (.int (pLw (M 22) (j + 1))), some (.int (nI (j + 1)))]) ([]) (M) := hn4
    show fv_X E mX7_laws _ _ 4 ([some (.ref 106), some (.int (pLw (M 22) j)), some (.int (nI j))]) ([]) (M)
    refine x_iload_n (pc := 4) dX7_laws_4 rfl rfl ?_
    refine x_aload_n (pc := 5) dX7_laws_5 rfl rfl ?_
    refine x_geta (pc := 6) fl_X7_9 dX7_laws_6 (tb_106) rfl ?_
    refine x_iconst (pc := 9) (v := 2) dX7_laws_9 rfl ?_
    refine x_iale (pc := 10) dX7_laws_10 (tb_107) ((rfl : (2 : Int32) = nI 2)) (by decide) (by first | decide | assumption) (hM) ?_
    refine x_icmp_ge (pc := 11) dX7_laws_11 (tgt := 31) rfl (fun h11 => ?_) (fun h11 => ?_)
    ·
      exact absurd h11 (nI_ge hj (by first | decide | omega))
    ·
      refine x_iload_n (pc := 14) dX7_laws_14 rfl rfl ?_
      refine x_aload_n (pc := 15) dX7_laws_15 rfl rfl ?_
      refine x_iload_n (pc := 16) dX7_laws_16 rfl rfl ?_
      refine x_iconst (pc := 17) (v := 4) dX7_laws_17 rfl ?_
      refine x_Vi (pc := 18) ks_X7_80 dX7_laws_18 (tb_106) rfl rfl (hX7_of1 (f := 4) (by omega) (by decide)) rfl rfl rfl (Nat.le_of_ble_eq_true rfl) ?_
      refine x_iload_n (pc := 21) dX7_laws_21 rfl rfl ?_
      refine x_ishl (pc := 22) dX7_laws_22 ?_
      refine x_ior (pc := 23) dX7_laws_23 ?_
      refine x_istore_n1 (pc := 24) dX7_laws_24 rfl ?_
      refine x_iinc2 (pc := 25) dX7_laws_25 (by first | exact fv_inc _ | exact fv_dec _ | rfl) rfl ?_
      refine x_goto (pc := 28) dX7_laws_28 (tgt := 4) rfl ?_
      exact hn4
  ·
    show fv_X E mX7_laws _ _ 4 ([some (.ref 106), some (.int (pLw (M 22) (nm))), some (.int (nI (nm)))]) ([]) (M)
    refine x_iload_n (pc := 4) dX7_laws_4 rfl rfl ?_
    refine x_aload_n (pc := 5) dX7_laws_5 rfl rfl ?_
    refine x_geta (pc := 6) fl_X7_9 dX7_laws_6 (tb_106) rfl ?_
    refine x_iconst (pc := 9) (v := 2) dX7_laws_9 rfl ?_
    refine x_iale (pc := 10) dX7_laws_10 (tb_107) ((rfl : (2 : Int32) = nI 2)) (by decide) (by first | decide | assumption) (hM) ?_
    refine x_icmp_ge (pc := 11) dX7_laws_11 (tgt := 31) rfl (fun h11 => ?_) (fun h11 => ?_)
    ·
      refine x_iload_n (pc := 31) dX7_laws_31 rfl rfl ?_
      refine x_iret (pc := 32) dX7_laws_32 rfl (by first | rfl | exact fv_nz _) ?_
      exact ⟨rfl, rfl⟩
    ·
      exact absurd (Int32.le_refl _) h11
