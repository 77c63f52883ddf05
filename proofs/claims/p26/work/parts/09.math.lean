/-! ===== the numbers: what class and model both reckon, over Nat ===== -/
theorem mb {a b c : Nat} (h1 : a < 500) (h2 : b < 500) (h3 : c < 250000) : a * b + c < 2147483648 := by
  have h := Nat.mul_le_mul (Nat.le_of_lt_succ h1) (Nat.le_of_lt_succ h2)
  omega
theorem mb0 {a b : Nat} (h1 : a < 500) (h2 : b < 500) : a * b < 2147483648 := by
  have h := Nat.mul_le_mul (Nat.le_of_lt_succ h1) (Nat.le_of_lt_succ h2)
  omega
theorem mb' {a b c : Nat} (h1 : a < 500) (h2 : b < 500) (h3 : c < 250000) : c + a * b < 2147483648 := by
  have h := Nat.mul_le_mul (Nat.le_of_lt_succ h1) (Nat.le_of_lt_succ h2)
  omega
theorem ml {x p : Nat} (hp : 0 < p) (h5 : p < 500) : x % p < 500 := Nat.lt_trans (Nat.mod_lt x hp) h5
/-- the value at x of row r, the last j places taken -/
def hr (p n : Nat) (A : Nat → Nat) (r x : Nat) : Nat → Nat
  | 0 => 0
  | j + 1 => (hr p n A r x j * x + A (16 * r + (n - 1 - j))) % p
def pv (p n : Nat) (A : Nat → Nat) (r x : Nat) : Nat := hr p n A r x n
theorem hr_lt {p n : Nat} {A : Nat → Nat} {r x : Nat} (hp : 0 < p) : ∀ j, hr p n A r x j < p
  | 0 => hp
  | _ + 1 => Nat.mod_lt _ hp
theorem hr_cg {p n : Nat} {A B : Nat → Nat} {r x : Nat} : ∀ j, j ≤ n → (∀ k, k < n → A (16 * r + k) = B (16 * r + k)) → hr p n A r x j = hr p n B r x j
  | 0, _, _ => rfl
  | j + 1, hj, h => by
    rw [hr, hr, hr_cg j (by omega) h, h (n - 1 - j) (by omega)]
theorem pv_cg {p n : Nat} {A B : Nat → Nat} {r x : Nat} (h : ∀ k, k < n → A (16 * r + k) = B (16 * r + k)) : pv p n A r x = pv p n B r x := hr_cg n (Nat.le_refl _) h
theorem pv_lt {p n : Nat} {A : Nat → Nat} {r x : Nat} (hp : 0 < p) : pv p n A r x < p := hr_lt hp n
/-- powers by the remainder -/
def pw (p b : Nat) : Nat → Nat
  | 0 => 1
  | k + 1 => (pw p b k * b) % p
theorem pw_lt {p b : Nat} (hp : 1 < p) : ∀ k, pw p b k < p
  | 0 => hp
  | _ + 1 => Nat.mod_lt _ (by omega)
/-- how many of the first ones -/
def cc (P : Nat → Bool) : Nat → Nat
  | 0 => 0
  | k + 1 => cc P k + (if P k = true then 1 else 0)
theorem cc_le (P : Nat → Bool) : ∀ k, cc P k ≤ k
  | 0 => Nat.le_refl 0
  | k + 1 => by
    have := cc_le P k
    rw [cc]; split <;> omega
theorem cc_cg {P Q : Nat → Bool} : ∀ k, (∀ j, j < k → P j = Q j) → cc P k = cc Q k
  | 0, _ => rfl
  | k + 1, h => by rw [cc, cc, cc_cg k (fun j hj => h j (by omega)), h k (by omega)]
theorem cc_t {P : Nat → Bool} {k : Nat} (h : P k = true) : cc P (k + 1) = cc P k + 1 := by rw [cc, if_pos h]
theorem cc_f {P : Nat → Bool} {k : Nat} (h : P k = false) : cc P (k + 1) = cc P k := by rw [cc, h]; rfl
/-- a row folded with another at a place; two rows sounding together; the plain sum; the greatest; the last other than 0 -/
def fo (p n : Nat) (A : Nat → Nat) (a b q : Nat) : Nat → Nat
  | 0 => 0
  | k + 1 => (fo p n A a b q k + A (16 * a + k) * A (16 * b + (q + n - k) % n)) % p
def so (p n : Nat) (A : Nat → Nat) (a b q : Nat) : Nat → Nat
  | 0 => 0
  | k + 1 => (so p n A a b q k + A (16 * a + k) * A (16 * b + (k + q) % n)) % p
def sm (A : Nat → Nat) (r : Nat) : Nat → Nat
  | 0 => 0
  | k + 1 => sm A r k + A (16 * r + k)
def gr (A : Nat → Nat) (r : Nat) : Nat → Nat
  | 0 => 0
  | k + 1 => if gr A r k < A (16 * r + k) then A (16 * r + k) else gr A r k
def ln (A : Nat → Nat) (r : Nat) : Nat → Int
  | 0 => -1
  | j + 1 => if A (16 * r + j) = 0 then ln A r j else (j : Int)
theorem fo_lt {p n : Nat} {A : Nat → Nat} {a b q : Nat} (hp : 0 < p) : ∀ j, fo p n A a b q j < p
  | 0 => hp
  | _ + 1 => Nat.mod_lt _ hp
theorem so_lt {p n : Nat} {A : Nat → Nat} {a b q : Nat} (hp : 0 < p) : ∀ j, so p n A a b q j < p
  | 0 => hp
  | _ + 1 => Nat.mod_lt _ hp
theorem sm_le {A : Nat → Nat} {r : Nat} (hA : ∀ j, A j < 500) : ∀ j, sm A r j ≤ 499 * j
  | 0 => Nat.le_refl 0
  | j + 1 => by
    have h1 := sm_le (r := r) hA j
    have h2 := hA (16 * r + j)
    rw [sm]; omega
theorem gr_lt {A : Nat → Nat} {r : Nat} (hA : ∀ j, A j < 500) : ∀ j, gr A r j < 500
  | 0 => show 0 < 500 from by decide
  | j + 1 => by
    have h1 := gr_lt (r := r) hA j
    have h2 := hA (16 * r + j)
    rw [gr]; split <;> assumption
theorem ln_rg {A : Nat → Nat} {r : Nat} : ∀ j, -1 ≤ ln A r j ∧ ln A r j < (j : Int)
  | 0 => show (-1 : Int) ≤ -1 ∧ (-1 : Int) < ((0 : Nat) : Int) from by decide
  | j + 1 => by
    have h1 := ln_rg (A := A) (r := r) j
    rw [ln]; split <;> omega
/-- row b is row a moved by q -/
def im (n : Nat) (A : Nat → Nat) (a b q : Nat) : Bool := decide (∀ k, k < n → A (16 * a + k) = A (16 * b + (k + q) % n))
theorem im_t {n : Nat} {A : Nat → Nat} {a b q : Nat} (h : ∀ k, k < n → A (16 * a + k) = A (16 * b + (k + q) % n)) : im n A a b q = true := decide_eq_true h
theorem im_f {n : Nat} {A : Nat → Nat} {a b q k : Nat} (hk : k < n) (h : ¬ A (16 * a + k) = A (16 * b + (k + q) % n)) : im n A a b q = false := decide_eq_false (fun z => h (z k hk))
/-- the first from k on of which P holds, k + c without one -/
def fs (P : Nat → Bool) : Nat → Nat → Nat
  | 0, k => k
  | c + 1, k => if P k = true then k else fs P c (k + 1)
theorem fs_t {P : Nat → Bool} {c k : Nat} (h : P k = true) : fs P (c + 1) k = k := by rw [fs, if_pos h]
theorem fs_f {P : Nat → Bool} {c k : Nat} (h : P k = false) : fs P (c + 1) k = fs P c (k + 1) := by rw [fs, h]; rfl
theorem fs_le {P : Nat → Bool} : ∀ c k, k ≤ fs P c k ∧ fs P c k ≤ k + c
  | 0, k => ⟨Nat.le_refl _, Nat.le_refl _⟩
  | c + 1, k => by
    have h := fs_le (P := P) c (k + 1)
    rw [fs]; split <;> omega
def pe (n : Nat) (A : Nat → Nat) (r : Nat) : Nat := fs (im n A r r) (n - 1) 1
def cm (n : Nat) (A : Nat → Nat) (a b : Nat) : Int := if fs (im n A a b) n 0 < n then ((fs (im n A a b) n 0 : Nat) : Int) else -1
/-- the first of the greatest -/
def am (f : Nat → Nat) : Nat → Nat
  | 0 => 0
  | k + 1 => if f (am f k) < f k then k else am f k
/-- what counted and told say -/
def ct (n p b w wi ni : Nat) : Nat → Nat
  | 0 => n
  | 1 => p
  | 2 => w
  | 3 => wi
  | 4 => ni
  | _ => b
def tl (p n : Nat) (A : Nat → Nat) (r : Nat) : Nat → Int
  | 0 => ((sm A r n % p : Nat) : Int)
  | 1 => ((cc (fun k => decide (A (16 * r + k) ≠ 0)) n : Nat) : Int)
  | 2 => ln A r n
  | 3 => ((pe n A r : Nat) : Int)
  | _ => ((gr A r n : Nat) : Int)
/-- a row copied over another, k places of it -/
def cp (A : Nat → Nat) (f t k : Nat) : Nat → Nat := fun j => if 16 * t ≤ j ∧ j < 16 * t + k then A (16 * f + (j - 16 * t)) else A j
theorem cp_0 (A : Nat → Nat) (f t : Nat) : cp A f t 0 = A := by
  funext j; unfold cp; rw [if_neg (by omega)]
theorem cp_at {A : Nat → Nat} {f t k : Nat} (hk : k < 16) : cp A f t k (16 * f + k) = A (16 * f + k) := by
  unfold cp
  by_cases h : 16 * t ≤ 16 * f + k ∧ 16 * f + k < 16 * t + k
  · exfalso; omega
  · rw [if_neg h]
theorem cp_to {A : Nat → Nat} {f t k : Nat} : cp A f t k (16 * t + k) = A (16 * t + k) := by
  unfold cp; rw [if_neg (by omega)]
theorem cp_s {A : Nat → Nat} {f t k v : Nat} (hv : v = A (16 * f + k)) : va_up (cp A f t k) (16 * t + k) v = cp A f t (k + 1) := by
  funext j; unfold va_up cp
  by_cases h : j = 16 * t + k
  · rw [if_pos h, if_pos (by omega), hv]; congr 1; omega
  · rw [if_neg h]
    by_cases h2 : 16 * t ≤ j ∧ j < 16 * t + k
    · rw [if_pos h2, if_pos (by omega)]
    · rw [if_neg h2, if_neg (by omega)]
theorem cp_lt {A : Nat → Nat} {f t k : Nat} (hA : ∀ j, A j < 500) : ∀ j, cp A f t k j < 500 := fun j => by
  unfold cp; split <;> exact hA _
/-- the scratch row filled, k places of it, by what g says of a place -/
def sv (A : Nat → Nat) (g : Nat → Nat) (k : Nat) : Nat → Nat := fun j => if 64 ≤ j ∧ j < 64 + k then g (j - 64) else A j
theorem sv_0 (A g : Nat → Nat) : sv A g 0 = A := by
  funext j; unfold sv; rw [if_neg (by omega)]
theorem sv_s {A g : Nat → Nat} {k v : Nat} (hv : v = g k) : va_up (sv A g k) (16 * 4 + k) v = sv A g (k + 1) := by
  funext j; unfold va_up sv
  by_cases h : j = 16 * 4 + k
  · rw [if_pos h, if_pos (by omega), hv]; congr 1; omega
  · rw [if_neg h]
    by_cases h2 : 64 ≤ j ∧ j < 64 + k
    · rw [if_pos h2, if_pos (by omega)]
    · rw [if_neg h2, if_neg (by omega)]
theorem sv_lo {A g : Nat → Nat} {k j : Nat} (h : j < 64) : sv A g k j = A j := by unfold sv; rw [if_neg (by omega)]
theorem sv_lt {A g : Nat → Nat} {k : Nat} (hA : ∀ j, A j < 500) (hg : ∀ j, j < k → g j < 500) : ∀ j, sv A g k j < 500 := fun j => by
  unfold sv; split
  · exact hg _ (by omega)
  · exact hA _
/-- tones of row r by the base w, times f -/
def tn (p n : Nat) (A : Nat → Nat) (r w f : Nat) : Nat → Nat := fun k => (pv p n A r (pw p w k) * f) % p
theorem xor_ge {x y : Int} (hx : -2147483648 ≤ x ∧ x < 2147483648) (hy : 0 < y ∧ y < 2147483648) : 0 ≤ (iI x ^^^ iI y).toInt ↔ 0 ≤ x := by
  have e1 : (iI x ^^^ iI y).toInt = ((iI x).toBitVec ^^^ (iI y).toBitVec).toInt := by rw [← Int32.toBitVec_xor]; rfl
  have m1 : (iI x).toBitVec.msb = decide (x < 0) := by
    rw [BitVec.msb_eq_toInt, show (iI x).toBitVec.toInt = x from iI_ti hx]
  have m2 : (iI y).toBitVec.msb = false := by
    rw [BitVec.msb_eq_toInt, show (iI y).toBitVec.toInt = y from iI_ti (by omega)]
    exact decide_eq_false (by omega)
  have m3 := BitVec.msb_eq_toInt (x := (iI x).toBitVec ^^^ (iI y).toBitVec)
  rw [BitVec.msb_xor, m1, m2, Bool.xor_false, ← e1] at m3
  have m4 : (x < 0) ↔ ((iI x ^^^ iI y).toInt < 0) := by
    constructor
    · intro h; rw [decide_eq_true h] at m3; exact of_decide_eq_true m3.symm
    · intro h; rw [decide_eq_true h] at m3; exact of_decide_eq_true m3
  omega
theorem em_pos {x y : Int} (hx : 0 ≤ x) : x.tmod y = x % y := Int.tmod_eq_emod_of_nonneg hx
theorem em_0 {x y : Int} (h : x.tmod y = 0) : (0 : Int) = x % y := (Int.emod_eq_zero_of_dvd (Int.dvd_of_tmod_eq_zero h)).symm
theorem em_neg {x y : Int} (hy : 0 < y) (hx : x < 0) (h : ¬ x.tmod y = 0) : x.tmod y + y = x % y := by
  have h1 : x % y = x.tmod y % y := by
    conv => lhs; rw [← Int.mul_tdiv_add_tmod x y]
    rw [Int.mul_add_emod_self_left]
  have h2 : x.tmod y = -((-x).tmod y) := by rw [Int.neg_tmod]; omega
  have h3 : (-x).tmod y = (-x) % y := em_pos (by omega)
  have h4 := Int.emod_lt_of_pos (-x) hy
  have h5 := Int.emod_nonneg (-x) (show y ≠ 0 by omega)
  have h6 : x.tmod y % y = (x.tmod y + y) % y := by rw [Int.add_emod_right]
  rw [h1, h6, Int.emod_eq_of_lt (by omega) (by omega)]
theorem and_mask {z : Int} {n m : Nat} (hn : n = 4 ∨ n = 8 ∨ n = 16) (h : z % (n : Int) = (m : Int)) : iI z &&& iI ((n : Int) - 1) = iI (m : Int) := by
  have hz : (iI z).toBitVec.toNat = (z % 4294967296).toNat := by
    show (BitVec.ofInt 32 z).toNat = _
    rw [BitVec.toNat_ofInt]; rfl
  rcases hn with rfl | rfl | rfl
  · rw [pk_and (iI z) (m := iI (((4 : Nat) : Int) - 1)) 2 (by decide), hz, iI_nI]; congr 1; omega
  · rw [pk_and (iI z) (m := iI (((8 : Nat) : Int) - 1)) 3 (by decide), hz, iI_nI]; congr 1; omega
  · rw [pk_and (iI z) (m := iI (((16 : Nat) : Int) - 1)) 4 (by decide), hz, iI_nI]; congr 1; omega
theorem lt3 {n : Nat} (hn : n = 4 ∨ n = 8 ∨ n = 16) : 4 ≤ n ∧ n ≤ 16 := by omega
