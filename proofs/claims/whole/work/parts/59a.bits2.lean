/-! ===== sets of books as numbers ===== -/
theorem bitS : ∀ (s : Fin 256) (k : Fin 8), (andI (shrI (s.val : Int) (k.val : Int)) 1 = 1 ↔ s.val.testBit k.val = true) ∧ (andI (shrI (s.val : Int) (k.val : Int)) 1 = 0 ↔ s.val.testBit k.val = false) ∧ (andI (ushrI (s.val : Int) (k.val : Int)) 1 = if s.val.testBit k.val = true then 1 else 0) := by decide +kernel
theorem orS : ∀ (s : Fin 256) (k : Fin 8), orI (s.val : Int) (shlI 1 (k.val : Int)) = ((s.val ||| 2 ^ k.val : Nat) : Int) := by decide +kernel
theorem subS : ∀ (s u : Fin 256), (andI (s.val : Int) (xorI (u.val : Int) (-1)) = 0 ↔ s.val &&& u.val = s.val) := by decide +kernel

