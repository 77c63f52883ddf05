theorem dok_n {s n : Nat} (hs : s < 8000) (hn : n = 4 ∨ n = 8 ∨ n = 16) : dok s n = true := by
  rcases hn with rfl | rfl | rfl
  · exact dok_4 hs
  · exact dok_8 hs
  · exact dok_16 hs
theorem dq_n {s n : Nat} (hs : s < 8000) (hn : n = 4 ∨ n = 8 ∨ n = 16) : vf_n64 (FP.ddiv (FP.i2d (iI (s : Int))) (FP.i2d (iI (n : Int)))) := by
  have h := dok_n hs hn
  unfold dok at h
  rw [Bool.and_eq_true] at h
  have h1 : dq s n &&& 0x7fffffffffffffff ≤ 0x7ff0000000000000 := of_decide_eq_true h.1
  exact h1
theorem dq_e {s n : Nat} (hs : s < 8000) (hn : n = 4 ∨ n = 8 ∨ n = 16) : FP.dcmp (dq s n) (dq s n) = some .eq := by
  have h := dok_n hs hn
  unfold dok at h
  rw [Bool.and_eq_true] at h
  exact of_decide_eq_true h.2
