theorem al_c {f : Nat → Bool} {m c p : Nat} (h : (List.range m).all (fun q => f (q + c)) = true) (h1 : c ≤ p) (h2 : p < c + m) : f p = true := by
  have h3 := List.all_eq_true.mp h (p - c) (List.mem_range.mpr (by omega))
  rwa [show p - c + c = p by omega] at h3
theorem ckp_all {p : Nat} (hp : p < 500) : ckp p = true := by
  rcases (show (0 ≤ p ∧ p < 0 + 10) ∨ (10 ≤ p ∧ p < 10 + 10) ∨ (20 ≤ p ∧ p < 20 + 10) ∨ (30 ≤ p ∧ p < 30 + 10) ∨ (40 ≤ p ∧ p < 40 + 10) ∨ (50 ≤ p ∧ p < 50 + 10) ∨ (60 ≤ p ∧ p < 60 + 10) ∨ (70 ≤ p ∧ p < 70 + 10) ∨ (80 ≤ p ∧ p < 80 + 10) ∨ (90 ≤ p ∧ p < 90 + 10) ∨ (100 ≤ p ∧ p < 100 + 10) ∨ (110 ≤ p ∧ p < 110 + 10) ∨ (120 ≤ p ∧ p < 120 + 10) ∨ (130 ≤ p ∧ p < 130 + 10) ∨ (140 ≤ p ∧ p < 140 + 10) ∨ (150 ≤ p ∧ p < 150 + 10) ∨ (160 ≤ p ∧ p < 160 + 10) ∨ (170 ≤ p ∧ p < 170 + 10) ∨ (180 ≤ p ∧ p < 180 + 10) ∨ (190 ≤ p ∧ p < 190 + 10) ∨ (200 ≤ p ∧ p < 200 + 10) ∨ (210 ≤ p ∧ p < 210 + 10) ∨ (220 ≤ p ∧ p < 220 + 10) ∨ (230 ≤ p ∧ p < 230 + 10) ∨ (240 ≤ p ∧ p < 240 + 10) ∨ (250 ≤ p ∧ p < 250 + 10) ∨ (260 ≤ p ∧ p < 260 + 10) ∨ (270 ≤ p ∧ p < 270 + 10) ∨ (280 ≤ p ∧ p < 280 + 10) ∨ (290 ≤ p ∧ p < 290 + 10) ∨ (300 ≤ p ∧ p < 300 + 10) ∨ (310 ≤ p ∧ p < 310 + 10) ∨ (320 ≤ p ∧ p < 320 + 10) ∨ (330 ≤ p ∧ p < 330 + 10) ∨ (340 ≤ p ∧ p < 340 + 10) ∨ (350 ≤ p ∧ p < 350 + 10) ∨ (360 ≤ p ∧ p < 360 + 10) ∨ (370 ≤ p ∧ p < 370 + 10) ∨ (380 ≤ p ∧ p < 380 + 10) ∨ (390 ≤ p ∧ p < 390 + 10) ∨ (400 ≤ p ∧ p < 400 + 10) ∨ (410 ≤ p ∧ p < 410 + 10) ∨ (420 ≤ p ∧ p < 420 + 10) ∨ (430 ≤ p ∧ p < 430 + 10) ∨ (440 ≤ p ∧ p < 440 + 10) ∨ (450 ≤ p ∧ p < 450 + 10) ∨ (460 ≤ p ∧ p < 460 + 10) ∨ (470 ≤ p ∧ p < 470 + 10) ∨ (480 ≤ p ∧ p < 480 + 10) ∨ (490 ≤ p ∧ p < 490 + 10) by omega) with h | h | h | h | h | h | h | h | h | h | h | h | h | h | h | h | h | h | h | h | h | h | h | h | h | h | h | h | h | h | h | h | h | h | h | h | h | h | h | h | h | h | h | h | h | h | h | h | h | h
  · exact al_c cks_0 h.1 h.2
  · exact al_c cks_1 h.1 h.2
  · exact al_c cks_2 h.1 h.2
  · exact al_c cks_3 h.1 h.2
  · exact al_c cks_4 h.1 h.2
  · exact al_c cks_5 h.1 h.2
  · exact al_c cks_6 h.1 h.2
  · exact al_c cks_7 h.1 h.2
  · exact al_c cks_8 h.1 h.2
  · exact al_c cks_9 h.1 h.2
  · exact al_c cks_10 h.1 h.2
  · exact al_c cks_11 h.1 h.2
  · exact al_c cks_12 h.1 h.2
  · exact al_c cks_13 h.1 h.2
  · exact al_c cks_14 h.1 h.2
  · exact al_c cks_15 h.1 h.2
  · exact al_c cks_16 h.1 h.2
  · exact al_c cks_17 h.1 h.2
  · exact al_c cks_18 h.1 h.2
  · exact al_c cks_19 h.1 h.2
  · exact al_c cks_20 h.1 h.2
  · exact al_c cks_21 h.1 h.2
  · exact al_c cks_22 h.1 h.2
  · exact al_c cks_23 h.1 h.2
  · exact al_c cks_24 h.1 h.2
  · exact al_c cks_25 h.1 h.2
  · exact al_c cks_26 h.1 h.2
  · exact al_c cks_27 h.1 h.2
  · exact al_c cks_28 h.1 h.2
  · exact al_c cks_29 h.1 h.2
  · exact al_c cks_30 h.1 h.2
  · exact al_c cks_31 h.1 h.2
  · exact al_c cks_32 h.1 h.2
  · exact al_c cks_33 h.1 h.2
  · exact al_c cks_34 h.1 h.2
  · exact al_c cks_35 h.1 h.2
  · exact al_c cks_36 h.1 h.2
  · exact al_c cks_37 h.1 h.2
  · exact al_c cks_38 h.1 h.2
  · exact al_c cks_39 h.1 h.2
  · exact al_c cks_40 h.1 h.2
  · exact al_c cks_41 h.1 h.2
  · exact al_c cks_42 h.1 h.2
  · exact al_c cks_43 h.1 h.2
  · exact al_c cks_44 h.1 h.2
  · exact al_c cks_45 h.1 h.2
  · exact al_c cks_46 h.1 h.2
  · exact al_c cks_47 h.1 h.2
  · exact al_c cks_48 h.1 h.2
  · exact al_c cks_49 h.1 h.2
theorem rcp_4 {p : Nat} (hp : p < 500) : rcp 4 p = true := by
  rcases (show (0 ≤ p ∧ p < 0 + 50) ∨ (50 ≤ p ∧ p < 50 + 50) ∨ (100 ≤ p ∧ p < 100 + 50) ∨ (150 ≤ p ∧ p < 150 + 50) ∨ (200 ≤ p ∧ p < 200 + 50) ∨ (250 ≤ p ∧ p < 250 + 50) ∨ (300 ≤ p ∧ p < 300 + 50) ∨ (350 ≤ p ∧ p < 350 + 50) ∨ (400 ≤ p ∧ p < 400 + 50) ∨ (450 ≤ p ∧ p < 450 + 50) by omega) with h | h | h | h | h | h | h | h | h | h
  · exact al_c rcs_4_0 h.1 h.2
  · exact al_c rcs_4_1 h.1 h.2
  · exact al_c rcs_4_2 h.1 h.2
  · exact al_c rcs_4_3 h.1 h.2
  · exact al_c rcs_4_4 h.1 h.2
  · exact al_c rcs_4_5 h.1 h.2
  · exact al_c rcs_4_6 h.1 h.2
  · exact al_c rcs_4_7 h.1 h.2
  · exact al_c rcs_4_8 h.1 h.2
  · exact al_c rcs_4_9 h.1 h.2
theorem rcp_8 {p : Nat} (hp : p < 500) : rcp 8 p = true := by
  rcases (show (0 ≤ p ∧ p < 0 + 50) ∨ (50 ≤ p ∧ p < 50 + 50) ∨ (100 ≤ p ∧ p < 100 + 50) ∨ (150 ≤ p ∧ p < 150 + 50) ∨ (200 ≤ p ∧ p < 200 + 50) ∨ (250 ≤ p ∧ p < 250 + 50) ∨ (300 ≤ p ∧ p < 300 + 50) ∨ (350 ≤ p ∧ p < 350 + 50) ∨ (400 ≤ p ∧ p < 400 + 50) ∨ (450 ≤ p ∧ p < 450 + 50) by omega) with h | h | h | h | h | h | h | h | h | h
  · exact al_c rcs_8_0 h.1 h.2
  · exact al_c rcs_8_1 h.1 h.2
  · exact al_c rcs_8_2 h.1 h.2
  · exact al_c rcs_8_3 h.1 h.2
  · exact al_c rcs_8_4 h.1 h.2
  · exact al_c rcs_8_5 h.1 h.2
  · exact al_c rcs_8_6 h.1 h.2
  · exact al_c rcs_8_7 h.1 h.2
  · exact al_c rcs_8_8 h.1 h.2
  · exact al_c rcs_8_9 h.1 h.2
theorem rcp_16 {p : Nat} (hp : p < 500) : rcp 16 p = true := by
  rcases (show (0 ≤ p ∧ p < 0 + 50) ∨ (50 ≤ p ∧ p < 50 + 50) ∨ (100 ≤ p ∧ p < 100 + 50) ∨ (150 ≤ p ∧ p < 150 + 50) ∨ (200 ≤ p ∧ p < 200 + 50) ∨ (250 ≤ p ∧ p < 250 + 50) ∨ (300 ≤ p ∧ p < 300 + 50) ∨ (350 ≤ p ∧ p < 350 + 50) ∨ (400 ≤ p ∧ p < 400 + 50) ∨ (450 ≤ p ∧ p < 450 + 50) by omega) with h | h | h | h | h | h | h | h | h | h
  · exact al_c rcs_16_0 h.1 h.2
  · exact al_c rcs_16_1 h.1 h.2
  · exact al_c rcs_16_2 h.1 h.2
  · exact al_c rcs_16_3 h.1 h.2
  · exact al_c rcs_16_4 h.1 h.2
  · exact al_c rcs_16_5 h.1 h.2
  · exact al_c rcs_16_6 h.1 h.2
  · exact al_c rcs_16_7 h.1 h.2
  · exact al_c rcs_16_8 h.1 h.2
  · exact al_c rcs_16_9 h.1 h.2
theorem ck_of {p v : Nat} (hp5 : p < 500) (hp : 5 ≤ p) (hprm : prm p = true) (h1 : 1 ≤ v) (hv : v < p) : ck p v = true := by
  have h := ckp_all hp5
  unfold ckp at h
  rw [decide_eq_true hp, hprm] at h
  have h2 := List.all_eq_true.mp (show (List.range p).all (fun v => decide (v = 0) || ck p v) = true from h) v (List.mem_range.mpr hv)
  have h3 : (decide (v = 0) || ck p v) = true := h2
  rwa [decide_eq_false (show ¬ v = 0 by omega), Bool.false_or] at h3
theorem ck_eub {p v : Nat} (h : ck p v = true) : eub 16 p v 0 1 = true := by
  unfold ck at h; rw [Bool.and_eq_true, Bool.and_eq_true] at h; exact h.1.1
theorem ck_inv {p v : Nat} (h : ck p v = true) : Int.tmod (Int.tmod (eu 16 p v 0 1) (p : Int) + (p : Int)) (p : Int) = ((v ^ (p - 2) % p : Nat) : Int) := by
  unfold ck at h; rw [Bool.and_eq_true, Bool.and_eq_true] at h; exact of_decide_eq_true h.1.2
theorem ck_fer {p v : Nat} (h : ck p v = true) : v ^ (p - 1) % p = 1 := by
  unfold ck at h; rw [Bool.and_eq_true] at h; exact of_decide_eq_true h.2
theorem rck_of {n p : Nat} (hn : n = 4 ∨ n = 8 ∨ n = 16) (hp5 : p < 500) (hp : 5 ≤ p) (hprm : prm p = true) (hd : (p - 1) % n = 0) : rck n p = true := by
  have h : rcp n p = true := by
    rcases hn with rfl | rfl | rfl
    · exact rcp_4 hp5
    · exact rcp_8 hp5
    · exact rcp_16 hp5
  unfold rcp at h
  rw [decide_eq_true hp, hprm, decide_eq_true hd] at h
  exact h
theorem rck_no {n p c : Nat} (h : rck n p = true) (h1 : 1 ≤ c) (hc : c < rt n p) : ¬ od p c = n := by
  unfold rck at h; rw [Bool.and_eq_true, Bool.and_eq_true, Bool.and_eq_true] at h
  have h2 : (decide (c = 0) || decide (od p c ≠ n)) = true := List.all_eq_true.mp h.1.1.1 c (List.mem_range.mpr hc)
  rw [decide_eq_false (show ¬ c = 0 by omega), Bool.false_or] at h2
  exact of_decide_eq_true h2
theorem rck_is {n p : Nat} (h : rck n p = true) : od p (rt n p) = n := by
  unfold rck at h; rw [Bool.and_eq_true, Bool.and_eq_true, Bool.and_eq_true] at h; exact of_decide_eq_true h.1.1.2
theorem rck_lt {n p : Nat} (h : rck n p = true) : rt n p < p := by
  unfold rck at h; rw [Bool.and_eq_true, Bool.and_eq_true, Bool.and_eq_true] at h; exact of_decide_eq_true h.1.2
theorem rck_ge {n p : Nat} (h : rck n p = true) : 1 ≤ rt n p := by
  unfold rck at h; rw [Bool.and_eq_true] at h; exact of_decide_eq_true h.2
/-- what is held of a ring -/
def rok (n p : Nat) : Prop := (n = 4 ∨ n = 8 ∨ n = 16) ∧ 5 ≤ p ∧ p < 500 ∧ prm p = true ∧ (p - 1) % n = 0
theorem rok_lt {n p : Nat} (h : rok n p) : n < p := by
  obtain ⟨h1, h2, h3, -, h5⟩ := h
  rcases Nat.lt_or_ge n p with z | z
  · exact z
  · exfalso
    rw [Nat.mod_eq_of_lt (show p - 1 < n by omega)] at h5; omega
theorem eub_s {f a b : Nat} {oa ob : Int} (h : eub (f + 1) a b oa ob = true) : (a < 500 ∧ b < 500 ∧ -500 ≤ oa ∧ oa ≤ 500) ∧ (¬ b = 0 → eub f b (a - a / b * b) ob (oa - ((a / b : Nat) : Int) * ob) = true) := by
  rw [eub, Bool.and_eq_true] at h
  refine ⟨of_decide_eq_true h.1, fun z => ?_⟩
  have h2 := h.2
  rwa [decide_eq_false z, Bool.false_or] at h2
/-- the model's row of results, k of them -/
def mk (M g : Nat → Nat) (k : Nat) : Nat → Nat := fun j => if j < k then g j else M j
theorem mk_0 (M g : Nat → Nat) : mk M g 0 = M := by
  funext j; unfold mk; rw [if_neg (by omega)]
theorem mk_s {M g : Nat → Nat} {k v : Nat} (hv : v = g k) : va_up (mk M g k) k v = mk M g (k + 1) := by
  funext j; unfold va_up mk
  by_cases h : j = k
  · rw [if_pos h, if_pos (by omega), hv, h]
  · rw [if_neg h]
    by_cases h2 : j < k
    · rw [if_pos h2, if_pos (by omega)]
    · rw [if_neg h2, if_neg (by omega)]
theorem mk_in {M g : Nat → Nat} {k j : Nat} (h : j < k) : mk M g k j = g j := by unfold mk; rw [if_pos h]
theorem mk_lt {M g : Nat → Nat} {k : Nat} (hM : ∀ j, M j < 500) (hg : ∀ j, j < k → g j < 500) : ∀ j, mk M g k j < 500 := fun j => by
  unfold mk; split
  · rename_i h; exact hg _ h
  · exact hM _
/-- .. filled in another order -/
def mo (M : Nat → Nat) (n : Nat) (s g : Nat → Nat) (k : Nat) : Nat → Nat := fun j => if j < n ∧ s j < k then g (s j) else M j
theorem mo_0 (M : Nat → Nat) (n : Nat) (s g : Nat → Nat) : mo M n s g 0 = M := by
  funext j; unfold mo; rw [if_neg (by omega)]
theorem mo_s {M : Nat → Nat} {n k v q : Nat} {s g : Nat → Nat} (hv : v = g k) (hq : q < n) (h1 : s q = k) (h2 : ∀ m, m < n → s m = k → m = q) : va_up (mo M n s g k) q v = mo M n s g (k + 1) := by
  funext j; unfold va_up mo
  by_cases h : j = q
  · rw [if_pos h, h, h1, if_pos (by omega), hv]
  · rw [if_neg h]
    by_cases h3 : j < n ∧ s j < k
    · rw [if_pos h3, if_pos (by omega)]
    · by_cases h4 : j < n ∧ s j < k + 1
      · exact absurd (h2 j h4.1 (by omega)) h
      · rw [if_neg h3, if_neg h4]
theorem mo_n {M : Nat → Nat} {n : Nat} {s g : Nat → Nat} (hs : ∀ m, m < n → s m < n) : mo M n s g n = mk M (fun m => g (s m)) n := by
  funext j; unfold mo mk
  by_cases h : j < n
  · rw [if_pos ⟨h, hs _ h⟩, if_pos h]
  · rw [if_neg (fun z => h z.1), if_neg h]
theorem lay_mr (M B : Nat → Nat) (r n : Nat) : va_cpy M B 0 (16 * r) n = mr B r M n := by
  funext j; unfold va_cpy mr
  by_cases h : 16 * r ≤ j ∧ j < 16 * r + n
  · rw [if_pos h, if_pos h, Nat.zero_add]
  · rw [if_neg h, if_neg h]
theorem mr_mk {A M g : Nat → Nat} {r n : Nat} : mr A r (mk M g n) n = mr A r g n := by
  funext j; unfold mr
  by_cases h : 16 * r ≤ j ∧ j < 16 * r + n
  · rw [if_pos h, if_pos h, mk_in (by omega)]
  · rw [if_neg h, if_neg h]
/-- places mirrored, bit by bit -/
def mj (q b : Nat) : Nat → Nat
  | 0 => 0
  | k + 1 => mj q b k ||| (q / 2 ^ k % 2 * 2 ^ (b - 1 - k))
theorem mj_lt : ∀ q, q < 16 → ∀ b, b < 5 → ∀ k, k < 5 → k ≤ b → mj q b k < 16 := by decide +kernel
theorem mj_mi : ∀ q, q < 16 → ∀ b, b < 5 → mj q b b = mi q b := by decide +kernel
theorem or_n : ∀ x, x < 16 → ∀ y, y < 16 → iI ((x : Nat) : Int) ||| iI ((y : Nat) : Int) = iI ((x ||| y : Nat) : Int) := by decide +kernel
theorem shl_b : ∀ x, x < 2 → ∀ k, k < 5 → iI ((x : Nat) : Int) <<< (iI ((k : Nat) : Int) &&& 31) = iI ((x * 2 ^ k : Nat) : Int) := by decide +kernel
theorem tmE {a b p : Nat} (h : b ≤ p) : Int.tmod (((a : Nat) : Int) - ((b : Nat) : Int) + ((p : Nat) : Int)) ((p : Nat) : Int) = (((a + p - b) % p : Nat) : Int) := by
  rw [show (((a : Nat) : Int) - ((b : Nat) : Int) + ((p : Nat) : Int)) = ((a + p - b : Nat) : Int) by omega, ← Int.ofNat_tmod]
theorem st_ex {n h j : Nat} (hd : n % (2 * h) = 0) : j * n / (2 * h) = j * (n / (2 * h)) := Nat.mul_div_assoc j (Nat.dvd_of_mod_eq_zero hd)
