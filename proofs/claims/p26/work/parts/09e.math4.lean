theorem stH (n : Nat) (hn : n = 4 ∨ n = 8 ∨ n = 16) (st : Nat) (h : st < bt n) (hf : Nat) (hhf : hf = 2 ^ st) : (hf = 1 ∨ hf = 2 ∨ hf = 4 ∨ hf = 8) ∧ 2 * hf ≤ n ∧ n % (2 * hf) = 0 ∧ st < 4 := by
  subst hhf
  rcases hn with rfl | rfl | rfl
  · have h2 : st < 2 := h
    rcases (show st = 0 ∨ st = 1 by omega) with rfl | rfl <;> decide
  · have h2 : st < 3 := h
    rcases (show st = 0 ∨ st = 1 ∨ st = 2 by omega) with rfl | rfl | rfl <;> decide
  · have h2 : st < 4 := h
    rcases (show st = 0 ∨ st = 1 ∨ st = 2 ∨ st = 3 by omega) with rfl | rfl | rfl | rfl <;> decide
