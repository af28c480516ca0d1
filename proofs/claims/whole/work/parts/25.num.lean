theorem fv_bmod {n : Nat} (h : n < 2 ^ 31) : (n : Int).bmod (2 ^ 32) = n := by
  unfold Int.bmod
  have h1 : (n : Int) % ((2 ^ 32 : Nat) : Int) = n := by omega
  rw [h1]
  dsimp only
  rw [if_pos (by omega)]
theorem nI_mul' {a b : Nat} (ha : a < 2 ^ 31) (hb : b < 2 ^ 31) (h : a * b < 2 ^ 31) : nI a * nI b = nI (a * b) := by
  apply Int32.toInt_inj.mp
  rw [Int32.toInt_mul, nI_toInt ha, nI_toInt hb, nI_toInt h, ← Int.natCast_mul]
  exact fv_bmod h
theorem nI_div' {a b : Nat} (ha : a < 2 ^ 31) (hb : b < 2 ^ 31) : nI a / nI b = nI (a / b) := by
  have h : a / b < 2 ^ 31 := Nat.lt_of_le_of_lt (Nat.div_le_self a b) ha
  apply Int32.toInt_inj.mp
  rw [Int32.toInt_div, nI_toInt ha, nI_toInt hb, nI_toInt h, ← Int.ofNat_tdiv]
  exact fv_bmod h
theorem nI_sub' {a b : Nat} (h : b ≤ a) : nI a - nI b = nI (a - b) := by unfold nI; rw [Int32.ofNat_sub _ _ h]
theorem nI_rem {a b : Nat} (ha : a < 2 ^ 31) (hb : b < 2 ^ 31) : nI a - nI a / nI b * nI b = nI (a % b) := by
  have h2 : a / b * b ≤ a := Nat.div_mul_le_self a b
  have h : a / b < 2 ^ 31 := Nat.lt_of_le_of_lt (Nat.div_le_self a b) ha
  rw [nI_div' ha hb, nI_mul' h hb (by omega), nI_sub' h2]
  congr 1
  have h1 := Nat.div_add_mod a b
  rw [Nat.mul_comm] at h1
  omega
theorem fN_keep {g : Nat → (Nat → Int32) → Nat → Int32} {σ : Nat → Int32} {n j : Nat} (h : ∀ b τ, b < n → g b τ j = τ j) : fN g σ n j = σ j := by
  induction n with
  | zero => rfl
  | succ n ih => show g n (fN g σ n) j = σ j; rw [h n _ (by omega), ih (fun b τ hb => h b τ (by omega))]
section FVG
variable {E : fv_E} {y : fv_Y} {d pc : Nat} {Φ : Option Value → fv_M → Prop} {ls ls' : List (Option Value)} {st : List Value} {M : fv_M}
theorem x_fg (hl : ls'.length = ls.length) (h : ∀ (i : Nat) (v : Value), ls'[i]? = some (some v) → ls[i]? = some (some v)) (k : fv_X E y d Φ pc ls' st M) : fv_X E y d Φ pc ls st M := by
  intro p l e s m args below meth c H locs lsA F hP hS hL
  exact k p l e s m args below meth c H locs lsA F hP hS ⟨by rw [hl]; exact hL.1, hL.2.1, fun i v hv => hL.2.2 i v (h i v hv)⟩
theorem x_fg0 {v0 : Option Value} {t : List (Option Value)} (k : fv_X E y d Φ pc (none :: t) st M) : fv_X E y d Φ pc (v0 :: t) st M := by
  refine x_fg (by simp only [List.length_cons]) (fun i v hv => ?_) k
  match i with
  | 0 => cases hv
  | i + 1 => exact hv
theorem x_fg1 {v0 v1 : Option Value} {t : List (Option Value)} (k : fv_X E y d Φ pc (v0 :: none :: t) st M) : fv_X E y d Φ pc (v0 :: v1 :: t) st M := by
  refine x_fg (by simp only [List.length_cons]) (fun i v hv => ?_) k
  match i with
  | 0 => exact hv
  | 1 => cases hv
  | i + 2 => exact hv
theorem x_fg2 {v0 v1 v2 : Option Value} {t : List (Option Value)} (k : fv_X E y d Φ pc (v0 :: v1 :: none :: t) st M) : fv_X E y d Φ pc (v0 :: v1 :: v2 :: t) st M := by
  refine x_fg (by simp only [List.length_cons]) (fun i v hv => ?_) k
  match i with
  | 0 => exact hv
  | 1 => exact hv
  | 2 => cases hv
  | i + 3 => exact hv
theorem x_fg3 {v0 v1 v2 v3 : Option Value} {t : List (Option Value)} (k : fv_X E y d Φ pc (v0 :: v1 :: v2 :: none :: t) st M) : fv_X E y d Φ pc (v0 :: v1 :: v2 :: v3 :: t) st M := by
  refine x_fg (by simp only [List.length_cons]) (fun i v hv => ?_) k
  match i with
  | 0 => exact hv
  | 1 => exact hv
  | 2 => exact hv
  | 3 => cases hv
  | i + 4 => exact hv
theorem x_fg4 {v0 v1 v2 v3 v4 : Option Value} {t : List (Option Value)} (k : fv_X E y d Φ pc (v0 :: v1 :: v2 :: v3 :: none :: t) st M) : fv_X E y d Φ pc (v0 :: v1 :: v2 :: v3 :: v4 :: t) st M := by
  refine x_fg (by simp only [List.length_cons]) (fun i v hv => ?_) k
  match i with
  | 0 => exact hv
  | 1 => exact hv
  | 2 => exact hv
  | 3 => exact hv
  | 4 => cases hv
  | i + 5 => exact hv
theorem x_fg5 {v0 v1 v2 v3 v4 v5 : Option Value} {t : List (Option Value)} (k : fv_X E y d Φ pc (v0 :: v1 :: v2 :: v3 :: v4 :: none :: t) st M) : fv_X E y d Φ pc (v0 :: v1 :: v2 :: v3 :: v4 :: v5 :: t) st M := by
  refine x_fg (by simp only [List.length_cons]) (fun i v hv => ?_) k
  match i with
  | 0 => exact hv
  | 1 => exact hv
  | 2 => exact hv
  | 3 => exact hv
  | 4 => exact hv
  | 5 => cases hv
  | i + 6 => exact hv
theorem x_fg6 {v0 v1 v2 v3 v4 v5 v6 : Option Value} {t : List (Option Value)} (k : fv_X E y d Φ pc (v0 :: v1 :: v2 :: v3 :: v4 :: v5 :: none :: t) st M) : fv_X E y d Φ pc (v0 :: v1 :: v2 :: v3 :: v4 :: v5 :: v6 :: t) st M := by
  refine x_fg (by simp only [List.length_cons]) (fun i v hv => ?_) k
  match i with
  | 0 => exact hv
  | 1 => exact hv
  | 2 => exact hv
  | 3 => exact hv
  | 4 => exact hv
  | 5 => exact hv
  | 6 => cases hv
  | i + 7 => exact hv
theorem x_fg7 {v0 v1 v2 v3 v4 v5 v6 v7 : Option Value} {t : List (Option Value)} (k : fv_X E y d Φ pc (v0 :: v1 :: v2 :: v3 :: v4 :: v5 :: v6 :: none :: t) st M) : fv_X E y d Φ pc (v0 :: v1 :: v2 :: v3 :: v4 :: v5 :: v6 :: v7 :: t) st M := by
  refine x_fg (by simp only [List.length_cons]) (fun i v hv => ?_) k
  match i with
  | 0 => exact hv
  | 1 => exact hv
  | 2 => exact hv
  | 3 => exact hv
  | 4 => exact hv
  | 5 => exact hv
  | 6 => exact hv
  | 7 => cases hv
  | i + 8 => exact hv
theorem x_fg8 {v0 v1 v2 v3 v4 v5 v6 v7 v8 : Option Value} {t : List (Option Value)} (k : fv_X E y d Φ pc (v0 :: v1 :: v2 :: v3 :: v4 :: v5 :: v6 :: v7 :: none :: t) st M) : fv_X E y d Φ pc (v0 :: v1 :: v2 :: v3 :: v4 :: v5 :: v6 :: v7 :: v8 :: t) st M := by
  refine x_fg (by simp only [List.length_cons]) (fun i v hv => ?_) k
  match i with
  | 0 => exact hv
  | 1 => exact hv
  | 2 => exact hv
  | 3 => exact hv
  | 4 => exact hv
  | 5 => exact hv
  | 6 => exact hv
  | 7 => exact hv
  | 8 => cases hv
  | i + 9 => exact hv
theorem x_fg9 {v0 v1 v2 v3 v4 v5 v6 v7 v8 v9 : Option Value} {t : List (Option Value)} (k : fv_X E y d Φ pc (v0 :: v1 :: v2 :: v3 :: v4 :: v5 :: v6 :: v7 :: v8 :: none :: t) st M) : fv_X E y d Φ pc (v0 :: v1 :: v2 :: v3 :: v4 :: v5 :: v6 :: v7 :: v8 :: v9 :: t) st M := by
  refine x_fg (by simp only [List.length_cons]) (fun i v hv => ?_) k
  match i with
  | 0 => exact hv
  | 1 => exact hv
  | 2 => exact hv
  | 3 => exact hv
  | 4 => exact hv
  | 5 => exact hv
  | 6 => exact hv
  | 7 => exact hv
  | 8 => exact hv
  | 9 => cases hv
  | i + 10 => exact hv
theorem x_fg10 {v0 v1 v2 v3 v4 v5 v6 v7 v8 v9 v10 : Option Value} {t : List (Option Value)} (k : fv_X E y d Φ pc (v0 :: v1 :: v2 :: v3 :: v4 :: v5 :: v6 :: v7 :: v8 :: v9 :: none :: t) st M) : fv_X E y d Φ pc (v0 :: v1 :: v2 :: v3 :: v4 :: v5 :: v6 :: v7 :: v8 :: v9 :: v10 :: t) st M := by
  refine x_fg (by simp only [List.length_cons]) (fun i v hv => ?_) k
  match i with
  | 0 => exact hv
  | 1 => exact hv
  | 2 => exact hv
  | 3 => exact hv
  | 4 => exact hv
  | 5 => exact hv
  | 6 => exact hv
  | 7 => exact hv
  | 8 => exact hv
  | 9 => exact hv
  | 10 => cases hv
  | i + 11 => exact hv
theorem x_fg11 {v0 v1 v2 v3 v4 v5 v6 v7 v8 v9 v10 v11 : Option Value} {t : List (Option Value)} (k : fv_X E y d Φ pc (v0 :: v1 :: v2 :: v3 :: v4 :: v5 :: v6 :: v7 :: v8 :: v9 :: v10 :: none :: t) st M) : fv_X E y d Φ pc (v0 :: v1 :: v2 :: v3 :: v4 :: v5 :: v6 :: v7 :: v8 :: v9 :: v10 :: v11 :: t) st M := by
  refine x_fg (by simp only [List.length_cons]) (fun i v hv => ?_) k
  match i with
  | 0 => exact hv
  | 1 => exact hv
  | 2 => exact hv
  | 3 => exact hv
  | 4 => exact hv
  | 5 => exact hv
  | 6 => exact hv
  | 7 => exact hv
  | 8 => exact hv
  | 9 => exact hv
  | 10 => exact hv
  | 11 => cases hv
  | i + 12 => exact hv
theorem x_fg12 {v0 v1 v2 v3 v4 v5 v6 v7 v8 v9 v10 v11 v12 : Option Value} {t : List (Option Value)} (k : fv_X E y d Φ pc (v0 :: v1 :: v2 :: v3 :: v4 :: v5 :: v6 :: v7 :: v8 :: v9 :: v10 :: v11 :: none :: t) st M) : fv_X E y d Φ pc (v0 :: v1 :: v2 :: v3 :: v4 :: v5 :: v6 :: v7 :: v8 :: v9 :: v10 :: v11 :: v12 :: t) st M := by
  refine x_fg (by simp only [List.length_cons]) (fun i v hv => ?_) k
  match i with
  | 0 => exact hv
  | 1 => exact hv
  | 2 => exact hv
  | 3 => exact hv
  | 4 => exact hv
  | 5 => exact hv
  | 6 => exact hv
  | 7 => exact hv
  | 8 => exact hv
  | 9 => exact hv
  | 10 => exact hv
  | 11 => exact hv
  | 12 => cases hv
  | i + 13 => exact hv
end FVG
