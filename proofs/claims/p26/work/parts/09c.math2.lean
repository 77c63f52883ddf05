theorem mm3 (a b p : Nat) : a % p * b % p = a * b % p := by rw [Nat.mul_mod, Nat.mod_mod, ← Nat.mul_mod]
theorem mm4 (a b p : Nat) : a * (b % p) % p = a * b % p := by rw [Nat.mul_comm, mm3, Nat.mul_comm]
theorem pq_odd {a s m p : Nat} : (a * s % p) * (s * s % p) ^ m % p = a * s ^ (2 * m + 1) % p := by
  rw [mm3, ← mm4 (a * s), ← Nat.pow_mod, mm4]
  congr 1
  rw [Nat.pow_add, Nat.pow_mul, Nat.pow_one, Nat.pow_two, Nat.mul_assoc, Nat.mul_comm s]
theorem pq_even {a s m p : Nat} : a * (s * s % p) ^ m % p = a * s ^ (2 * m) % p := by
  rw [← mm4 a, ← Nat.pow_mod, mm4, Nat.pow_mul, Nat.pow_two]
theorem pw_pow {p b : Nat} (hp : 1 < p) : ∀ k, pw p b k = b ^ k % p
  | 0 => by rw [pw, Nat.pow_zero, Nat.mod_eq_of_lt hp]
  | k + 1 => by rw [pw, pw_pow hp k, mm3, Nat.pow_succ]
theorem and_1 {x : Nat} (h : x < 2147483648) : iI (x : Int) &&& iI ((1 : Nat) : Int) = iI ((x % 2 : Nat) : Int) := by
  have h9 : (iI (x : Int)).toBitVec.toNat = x := by rw [iI_nI]; exact pk_tn (by omega)
  rw [pk_and (iI (x : Int)) (m := iI ((1 : Nat) : Int)) 1 (by decide), h9, iI_nI]
theorem shr_1 {x : Nat} (h : x < 2147483648) : iI (x : Int) >>> (iI ((1 : Nat) : Int) &&& 31) = iI ((x / 2 : Nat) : Int) := by
  rw [iI_nI x, pk_shrN h _ 1 (by decide), iI_nI]
theorem shr_k : ∀ x, x < 16 → ∀ k, k < 4 → iI ((x : Nat) : Int) >>> (iI ((k : Nat) : Int) &&& 31) = iI ((x / 2 ^ k : Nat) : Int) := by decide +kernel
theorem shl_1 : ∀ x, x < 16 → iI ((x : Nat) : Int) <<< (iI ((1 : Nat) : Int) &&& 31) = iI ((x * 2 : Nat) : Int) := by decide +kernel
theorem or_b : ∀ x, x < 16 → ∀ b, b < 2 → iI ((x * 2 : Nat) : Int) ||| iI ((b : Nat) : Int) = iI ((x * 2 + b : Nat) : Int) := by decide +kernel
/-- places mirrored -/
def mi (q : Nat) : Nat → Nat
  | 0 => 0
  | k + 1 => mi q k * 2 + q / 2 ^ k % 2
theorem mi_lt (q : Nat) : ∀ k, mi q k < 2 ^ k
  | 0 => show 0 < 2 ^ 0 from by decide
  | k + 1 => by
    have h1 := mi_lt q k
    have h2 := Nat.mod_lt (q / 2 ^ k) (show 2 > 0 by omega)
    rw [mi, Nat.pow_succ]; omega
/-- two numbers joined -/
def jn (p x y : Nat) : Nat → Nat
  | 0 => (x + y) % p
  | 1 => (x + p - y) % p
  | _ => x * y % p
theorem jn_lt {p x y : Nat} (hp : 0 < p) : ∀ w, jn p x y w < p
  | 0 => Nat.mod_lt _ hp
  | 1 => Nat.mod_lt _ hp
  | _ + 2 => Nat.mod_lt _ hp
/-- the ring -/
def prm (v : Nat) : Bool := (List.range 23).all (fun k => decide (¬ (2 ≤ k ∧ k * k ≤ v ∧ v % k = 0)))
def rt (n p : Nat) : Nat := fs (fun c => decide (c ^ (n / 2) % p = p - 1)) (p - 3) 2
def bt (n : Nat) : Nat := if n = 4 then 2 else if n = 8 then 3 else 4
def zf (A : Nat → Nat) (k : Nat) : Nat → Nat := fun j => if j < k then 0 else A j
theorem zf_0 (A : Nat → Nat) : zf A 0 = A := by
  funext j; unfold zf; rw [if_neg (by omega)]
theorem zf_s (A : Nat → Nat) (k : Nat) : va_up (zf A k) k 0 = zf A (k + 1) := by
  funext j; unfold va_up zf
  by_cases h : j = k
  · rw [if_pos h, if_pos (by omega)]
  · rw [if_neg h]
    by_cases h2 : j < k
    · rw [if_pos h2, if_pos (by omega)]
    · rw [if_neg h2, if_neg (by omega)]
theorem zf_lt {A : Nat → Nat} {k : Nat} (hA : ∀ j, A j < 500) : ∀ j, zf A k j < 500 := fun j => by
  unfold zf; split
  · decide
  · exact hA _
theorem sq_lt {k v : Nat} (hv : v < 500) (h : k * k ≤ v) : k < 23 := by
  rcases Nat.lt_or_ge k 23 with z | z
  · exact z
  · have := Nat.mul_le_mul z z; omega
theorem prm_t {v k : Nat} (h : ∀ j, 2 ≤ j → j < k → ¬ v % j = 0) (hk : v < k * k) : prm v = true := by
  refine List.all_eq_true.mpr (fun j _ => decide_eq_true (fun ⟨h2, h3, h4⟩ => h j h2 ?_ h4))
  rcases Nat.lt_or_ge j k with z | z
  · exact z
  · have := Nat.mul_le_mul z z; omega
theorem prm_s {v : Nat} (h : prm v = true) {k : Nat} (h23 : k < 23) (h2 : 2 ≤ k) (hk : k * k ≤ v) : ¬ v % k = 0 := fun z =>
  of_decide_eq_true (List.all_eq_true.mp h k (List.mem_range.mpr h23)) ⟨h2, hk, z⟩
theorem prm_f {v k : Nat} (h23 : k < 23) (h2 : 2 ≤ k) (hk : k * k ≤ v) (h : v % k = 0) : prm v = false := by
  cases e : prm v
  · rfl
  · exact absurd h (prm_s e h23 h2 hk)
