/-! the mean is never a NaN, and a double that is none is equal to itself: by trial of all sums and lengths -/
def dq (s n : Nat) : UInt64 := FP.ddiv (FP.i2d (iI (s : Int))) (FP.i2d (iI (n : Int)))
def dok (s n : Nat) : Bool := decide (dq s n &&& 0x7fffffffffffffff ≤ 0x7ff0000000000000) && decide (FP.dcmp (dq s n) (dq s n) = some .eq)
set_option maxRecDepth 100000 in
theorem dok_4_0 : (List.range 500).all (fun s => dok (s + 0) 4) = true := by decide +kernel
set_option maxRecDepth 100000 in
theorem dok_4_1 : (List.range 500).all (fun s => dok (s + 500) 4) = true := by decide +kernel
set_option maxRecDepth 100000 in
theorem dok_4_2 : (List.range 500).all (fun s => dok (s + 1000) 4) = true := by decide +kernel
set_option maxRecDepth 100000 in
theorem dok_4_3 : (List.range 500).all (fun s => dok (s + 1500) 4) = true := by decide +kernel
set_option maxRecDepth 100000 in
theorem dok_4_4 : (List.range 500).all (fun s => dok (s + 2000) 4) = true := by decide +kernel
set_option maxRecDepth 100000 in
theorem dok_4_5 : (List.range 500).all (fun s => dok (s + 2500) 4) = true := by decide +kernel
set_option maxRecDepth 100000 in
theorem dok_4_6 : (List.range 500).all (fun s => dok (s + 3000) 4) = true := by decide +kernel
set_option maxRecDepth 100000 in
theorem dok_4_7 : (List.range 500).all (fun s => dok (s + 3500) 4) = true := by decide +kernel
set_option maxRecDepth 100000 in
theorem dok_4_8 : (List.range 500).all (fun s => dok (s + 4000) 4) = true := by decide +kernel
set_option maxRecDepth 100000 in
theorem dok_4_9 : (List.range 500).all (fun s => dok (s + 4500) 4) = true := by decide +kernel
set_option maxRecDepth 100000 in
theorem dok_4_10 : (List.range 500).all (fun s => dok (s + 5000) 4) = true := by decide +kernel
set_option maxRecDepth 100000 in
theorem dok_4_11 : (List.range 500).all (fun s => dok (s + 5500) 4) = true := by decide +kernel
set_option maxRecDepth 100000 in
theorem dok_4_12 : (List.range 500).all (fun s => dok (s + 6000) 4) = true := by decide +kernel
set_option maxRecDepth 100000 in
theorem dok_4_13 : (List.range 500).all (fun s => dok (s + 6500) 4) = true := by decide +kernel
set_option maxRecDepth 100000 in
theorem dok_4_14 : (List.range 500).all (fun s => dok (s + 7000) 4) = true := by decide +kernel
set_option maxRecDepth 100000 in
theorem dok_4_15 : (List.range 500).all (fun s => dok (s + 7500) 4) = true := by decide +kernel
set_option maxRecDepth 100000 in
theorem dok_8_0 : (List.range 500).all (fun s => dok (s + 0) 8) = true := by decide +kernel
set_option maxRecDepth 100000 in
theorem dok_8_1 : (List.range 500).all (fun s => dok (s + 500) 8) = true := by decide +kernel
set_option maxRecDepth 100000 in
theorem dok_8_2 : (List.range 500).all (fun s => dok (s + 1000) 8) = true := by decide +kernel
set_option maxRecDepth 100000 in
theorem dok_8_3 : (List.range 500).all (fun s => dok (s + 1500) 8) = true := by decide +kernel
set_option maxRecDepth 100000 in
theorem dok_8_4 : (List.range 500).all (fun s => dok (s + 2000) 8) = true := by decide +kernel
set_option maxRecDepth 100000 in
theorem dok_8_5 : (List.range 500).all (fun s => dok (s + 2500) 8) = true := by decide +kernel
set_option maxRecDepth 100000 in
theorem dok_8_6 : (List.range 500).all (fun s => dok (s + 3000) 8) = true := by decide +kernel
set_option maxRecDepth 100000 in
theorem dok_8_7 : (List.range 500).all (fun s => dok (s + 3500) 8) = true := by decide +kernel
set_option maxRecDepth 100000 in
theorem dok_8_8 : (List.range 500).all (fun s => dok (s + 4000) 8) = true := by decide +kernel
set_option maxRecDepth 100000 in
theorem dok_8_9 : (List.range 500).all (fun s => dok (s + 4500) 8) = true := by decide +kernel
set_option maxRecDepth 100000 in
theorem dok_8_10 : (List.range 500).all (fun s => dok (s + 5000) 8) = true := by decide +kernel
set_option maxRecDepth 100000 in
theorem dok_8_11 : (List.range 500).all (fun s => dok (s + 5500) 8) = true := by decide +kernel
set_option maxRecDepth 100000 in
theorem dok_8_12 : (List.range 500).all (fun s => dok (s + 6000) 8) = true := by decide +kernel
set_option maxRecDepth 100000 in
theorem dok_8_13 : (List.range 500).all (fun s => dok (s + 6500) 8) = true := by decide +kernel
set_option maxRecDepth 100000 in
theorem dok_8_14 : (List.range 500).all (fun s => dok (s + 7000) 8) = true := by decide +kernel
set_option maxRecDepth 100000 in
theorem dok_8_15 : (List.range 500).all (fun s => dok (s + 7500) 8) = true := by decide +kernel
set_option maxRecDepth 100000 in
theorem dok_16_0 : (List.range 500).all (fun s => dok (s + 0) 16) = true := by decide +kernel
set_option maxRecDepth 100000 in
theorem dok_16_1 : (List.range 500).all (fun s => dok (s + 500) 16) = true := by decide +kernel
set_option maxRecDepth 100000 in
theorem dok_16_2 : (List.range 500).all (fun s => dok (s + 1000) 16) = true := by decide +kernel
set_option maxRecDepth 100000 in
theorem dok_16_3 : (List.range 500).all (fun s => dok (s + 1500) 16) = true := by decide +kernel
set_option maxRecDepth 100000 in
theorem dok_16_4 : (List.range 500).all (fun s => dok (s + 2000) 16) = true := by decide +kernel
set_option maxRecDepth 100000 in
theorem dok_16_5 : (List.range 500).all (fun s => dok (s + 2500) 16) = true := by decide +kernel
set_option maxRecDepth 100000 in
theorem dok_16_6 : (List.range 500).all (fun s => dok (s + 3000) 16) = true := by decide +kernel
set_option maxRecDepth 100000 in
theorem dok_16_7 : (List.range 500).all (fun s => dok (s + 3500) 16) = true := by decide +kernel
set_option maxRecDepth 100000 in
theorem dok_16_8 : (List.range 500).all (fun s => dok (s + 4000) 16) = true := by decide +kernel
set_option maxRecDepth 100000 in
theorem dok_16_9 : (List.range 500).all (fun s => dok (s + 4500) 16) = true := by decide +kernel
set_option maxRecDepth 100000 in
theorem dok_16_10 : (List.range 500).all (fun s => dok (s + 5000) 16) = true := by decide +kernel
set_option maxRecDepth 100000 in
theorem dok_16_11 : (List.range 500).all (fun s => dok (s + 5500) 16) = true := by decide +kernel
set_option maxRecDepth 100000 in
theorem dok_16_12 : (List.range 500).all (fun s => dok (s + 6000) 16) = true := by decide +kernel
set_option maxRecDepth 100000 in
theorem dok_16_13 : (List.range 500).all (fun s => dok (s + 6500) 16) = true := by decide +kernel
set_option maxRecDepth 100000 in
theorem dok_16_14 : (List.range 500).all (fun s => dok (s + 7000) 16) = true := by decide +kernel
set_option maxRecDepth 100000 in
theorem dok_16_15 : (List.range 500).all (fun s => dok (s + 7500) 16) = true := by decide +kernel
theorem dok_c {n c s : Nat} (h : (List.range 500).all (fun s => dok (s + c) n) = true) (h1 : c ≤ s) (h2 : s < c + 500) : dok s n = true := by
  have h3 := List.all_eq_true.mp h (s - c) (List.mem_range.mpr (by omega))
  rwa [show s - c + c = s by omega] at h3
theorem dok_4 {s : Nat} (hs : s < 8000) : dok s 4 = true := by
  rcases (show (0 ≤ s ∧ s < 0 + 500) ∨ (500 ≤ s ∧ s < 500 + 500) ∨ (1000 ≤ s ∧ s < 1000 + 500) ∨ (1500 ≤ s ∧ s < 1500 + 500) ∨ (2000 ≤ s ∧ s < 2000 + 500) ∨ (2500 ≤ s ∧ s < 2500 + 500) ∨ (3000 ≤ s ∧ s < 3000 + 500) ∨ (3500 ≤ s ∧ s < 3500 + 500) ∨ (4000 ≤ s ∧ s < 4000 + 500) ∨ (4500 ≤ s ∧ s < 4500 + 500) ∨ (5000 ≤ s ∧ s < 5000 + 500) ∨ (5500 ≤ s ∧ s < 5500 + 500) ∨ (6000 ≤ s ∧ s < 6000 + 500) ∨ (6500 ≤ s ∧ s < 6500 + 500) ∨ (7000 ≤ s ∧ s < 7000 + 500) ∨ (7500 ≤ s ∧ s < 7500 + 500) by omega) with h | h | h | h | h | h | h | h | h | h | h | h | h | h | h | h
  · exact dok_c dok_4_0 h.1 h.2
  · exact dok_c dok_4_1 h.1 h.2
  · exact dok_c dok_4_2 h.1 h.2
  · exact dok_c dok_4_3 h.1 h.2
  · exact dok_c dok_4_4 h.1 h.2
  · exact dok_c dok_4_5 h.1 h.2
  · exact dok_c dok_4_6 h.1 h.2
  · exact dok_c dok_4_7 h.1 h.2
  · exact dok_c dok_4_8 h.1 h.2
  · exact dok_c dok_4_9 h.1 h.2
  · exact dok_c dok_4_10 h.1 h.2
  · exact dok_c dok_4_11 h.1 h.2
  · exact dok_c dok_4_12 h.1 h.2
  · exact dok_c dok_4_13 h.1 h.2
  · exact dok_c dok_4_14 h.1 h.2
  · exact dok_c dok_4_15 h.1 h.2
theorem dok_8 {s : Nat} (hs : s < 8000) : dok s 8 = true := by
  rcases (show (0 ≤ s ∧ s < 0 + 500) ∨ (500 ≤ s ∧ s < 500 + 500) ∨ (1000 ≤ s ∧ s < 1000 + 500) ∨ (1500 ≤ s ∧ s < 1500 + 500) ∨ (2000 ≤ s ∧ s < 2000 + 500) ∨ (2500 ≤ s ∧ s < 2500 + 500) ∨ (3000 ≤ s ∧ s < 3000 + 500) ∨ (3500 ≤ s ∧ s < 3500 + 500) ∨ (4000 ≤ s ∧ s < 4000 + 500) ∨ (4500 ≤ s ∧ s < 4500 + 500) ∨ (5000 ≤ s ∧ s < 5000 + 500) ∨ (5500 ≤ s ∧ s < 5500 + 500) ∨ (6000 ≤ s ∧ s < 6000 + 500) ∨ (6500 ≤ s ∧ s < 6500 + 500) ∨ (7000 ≤ s ∧ s < 7000 + 500) ∨ (7500 ≤ s ∧ s < 7500 + 500) by omega) with h | h | h | h | h | h | h | h | h | h | h | h | h | h | h | h
  · exact dok_c dok_8_0 h.1 h.2
  · exact dok_c dok_8_1 h.1 h.2
  · exact dok_c dok_8_2 h.1 h.2
  · exact dok_c dok_8_3 h.1 h.2
  · exact dok_c dok_8_4 h.1 h.2
  · exact dok_c dok_8_5 h.1 h.2
  · exact dok_c dok_8_6 h.1 h.2
  · exact dok_c dok_8_7 h.1 h.2
  · exact dok_c dok_8_8 h.1 h.2
  · exact dok_c dok_8_9 h.1 h.2
  · exact dok_c dok_8_10 h.1 h.2
  · exact dok_c dok_8_11 h.1 h.2
  · exact dok_c dok_8_12 h.1 h.2
  · exact dok_c dok_8_13 h.1 h.2
  · exact dok_c dok_8_14 h.1 h.2
  · exact dok_c dok_8_15 h.1 h.2
theorem dok_16 {s : Nat} (hs : s < 8000) : dok s 16 = true := by
  rcases (show (0 ≤ s ∧ s < 0 + 500) ∨ (500 ≤ s ∧ s < 500 + 500) ∨ (1000 ≤ s ∧ s < 1000 + 500) ∨ (1500 ≤ s ∧ s < 1500 + 500) ∨ (2000 ≤ s ∧ s < 2000 + 500) ∨ (2500 ≤ s ∧ s < 2500 + 500) ∨ (3000 ≤ s ∧ s < 3000 + 500) ∨ (3500 ≤ s ∧ s < 3500 + 500) ∨ (4000 ≤ s ∧ s < 4000 + 500) ∨ (4500 ≤ s ∧ s < 4500 + 500) ∨ (5000 ≤ s ∧ s < 5000 + 500) ∨ (5500 ≤ s ∧ s < 5500 + 500) ∨ (6000 ≤ s ∧ s < 6000 + 500) ∨ (6500 ≤ s ∧ s < 6500 + 500) ∨ (7000 ≤ s ∧ s < 7000 + 500) ∨ (7500 ≤ s ∧ s < 7500 + 500) by omega) with h | h | h | h | h | h | h | h | h | h | h | h | h | h | h | h
  · exact dok_c dok_16_0 h.1 h.2
  · exact dok_c dok_16_1 h.1 h.2
  · exact dok_c dok_16_2 h.1 h.2
  · exact dok_c dok_16_3 h.1 h.2
  · exact dok_c dok_16_4 h.1 h.2
  · exact dok_c dok_16_5 h.1 h.2
  · exact dok_c dok_16_6 h.1 h.2
  · exact dok_c dok_16_7 h.1 h.2
  · exact dok_c dok_16_8 h.1 h.2
  · exact dok_c dok_16_9 h.1 h.2
  · exact dok_c dok_16_10 h.1 h.2
  · exact dok_c dok_16_11 h.1 h.2
  · exact dok_c dok_16_12 h.1 h.2
  · exact dok_c dok_16_13 h.1 h.2
  · exact dok_c dok_16_14 h.1 h.2
  · exact dok_c dok_16_15 h.1 h.2
