/-! PURE WORDS of a state σ: 114 numbers; they mirror the loops of the class. -/
def sN (f : Nat → Int32) : Nat → Int32
  | 0 => 0
  | n + 1 => sN f n + f n
theorem sN_congr {f g : Nat → Int32} {n : Nat} (h : ∀ i, i < n → f i = g i) : sN f n = sN g n := by
  induction n with
  | zero => rfl
  | succ n ih => show sN f n + f n = sN g n + g n; rw [ih (fun i hi => h i (by omega)), h n (by omega)]
def oN (f : Nat → Int32) : Nat → Int32
  | 0 => 0
  | n + 1 => oN f n ||| f n
theorem oN_congr {f g : Nat → Int32} {n : Nat} (h : ∀ i, i < n → f i = g i) : oN f n = oN g n := by
  induction n with
  | zero => rfl
  | succ n ih => show oN f n ||| f n = oN g n ||| g n; rw [ih (fun i hi => h i (by omega)), h n (by omega)]
/-- a state made over, step by step -/
def fN (g : Nat → (Nat → Int32) → Nat → Int32) (σ : Nat → Int32) : Nat → Nat → Int32
  | 0 => σ
  | n + 1 => g n (fN g σ n)
/-- feathers of all colours of bird i -/
def pFe (σ : Nat → Int32) (i : Nat) : Int32 := sN (fun c => σ (fB i 3 + c)) 4
/-- is k in the set w? -/
abbrev pIn (w : Int32) (k : Nat) : Prop := ¬ ((w >>> (nI k &&& 31)) &&& 1 = 0)
def pMin (a b : Int32) : Int32 := if b < a then b else a
def pMax (a b : Int32) : Int32 := if a < b then b else a
