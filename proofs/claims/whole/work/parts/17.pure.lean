/-! PURE WORDS of a state σ: 114 numbers. -/
def sN (f : Nat → Int32) : Nat → Int32
  | 0 => 0
  | n + 1 => sN f n + f n
theorem sN_congr {f g : Nat → Int32} {n : Nat} (h : ∀ i, i < n → f i = g i) : sN f n = sN g n := by
  induction n with
  | zero => rfl
  | succ n ih => show sN f n + f n = sN g n + g n; rw [ih (fun i hi => h i (by omega)), h n (by omega)]
/-- feathers of all colours of bird i -/
def pFe (σ : Nat → Int32) (i : Nat) : Int32 := sN (fun c => σ (fB i 3 + c)) 4
/-- what a bird of this kind drops, when so many crows are on its side -/
def pDr (σ : Nat → Int32) (i c : Nat) (wants crows : Int32) : Int32 :=
  let k := σ (fB i 0)
  let w := if σ (fB i 1) < pFe σ i then (1 : Int32) else 0
  let v := if k = 1 then (if c = 0 then 1 else 0) else if k = 2 then crows else if k = 3 then 2 * crows else if k = 4 then 2 * crows + 1 else if k = 5 then w else if k = 6 then w + (if wants = 0 then 1 else 0) else 1
  if v < σ (fB i 3 + c) then v else σ (fB i 3 + c)
