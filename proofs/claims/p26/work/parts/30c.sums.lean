/-! ===== sums, tones and back, folds, periods: the numbers behind the property ===== -/
def su (f : Nat → Nat) : Nat → Nat
  | 0 => 0
  | k + 1 => su f k + f k
theorem su_cg {f g : Nat → Nat} : ∀ n, (∀ i, i < n → f i = g i) → su f n = su g n
  | 0, _ => rfl
  | n + 1, h => by rw [su, su, su_cg n (fun i hi => h i (by omega)), h n (by omega)]
theorem su_add {f g : Nat → Nat} : ∀ n, su (fun i => f i + g i) n = su f n + su g n
  | 0 => rfl
  | n + 1 => by rw [su, su, su, su_add n]; omega
theorem su_mul {c : Nat} {f : Nat → Nat} : ∀ n, su (fun i => c * f i) n = c * su f n
  | 0 => rfl
  | n + 1 => by rw [su, su, su_mul n, Nat.mul_add]
theorem su_zero : ∀ n, su (fun _ => 0) n = 0
  | 0 => rfl
  | n + 1 => by rw [su, su_zero n]
theorem su_swap {f : Nat → Nat → Nat} {m : Nat} : ∀ n, su (fun i => su (fun j => f i j) m) n = su (fun j => su (fun i => f i j) n) m
  | 0 => (su_zero m).symm
  | n + 1 => by rw [su, su_swap n, ← su_add]; rfl
theorem su_first {f : Nat → Nat} : ∀ n, su f (n + 1) = f 0 + su (fun i => f (i + 1)) n
  | 0 => by rw [su, su, su]; omega
  | n + 1 => by rw [su, su_first n, su]; omega
theorem su_mg {f g : Nat → Nat} {p : Nat} : ∀ n, (∀ i, i < n → f i % p = g i % p) → su f n % p = su g n % p
  | 0, _ => rfl
  | n + 1, h => by rw [su, su, Nat.add_mod, su_mg n (fun i hi => h i (by omega)), h n (by omega), ← Nat.add_mod]
theorem acc_su {p : Nat} {f r : Nat → Nat} (h0 : r 0 = 0) (hs : ∀ k, r (k + 1) = (r k + f k) % p) : ∀ n, r n = su f n % p
  | 0 => by rw [h0, su, Nat.zero_mod]
  | n + 1 => by rw [hs, acc_su h0 hs n, su, Nat.mod_add_mod]
theorem su_rot1 {f : Nat → Nat} : ∀ n, su (fun i => f ((i + 1) % n)) n = su f n
  | 0 => rfl
  | n + 1 => by
    rw [su, su_first (f := f), Nat.mod_self, Nat.add_comm]
    congr 1
    exact su_cg n (fun i hi => by show f ((i + 1) % (n + 1)) = f (i + 1); rw [Nat.mod_eq_of_lt (by omega)])
theorem su_rot {f : Nat → Nat} {n : Nat} : ∀ q, su (fun i => f ((i + q) % n)) n = su f n
  | 0 => su_cg n (fun i hi => by show f ((i + 0) % n) = f i; rw [Nat.add_zero, Nat.mod_eq_of_lt hi])
  | q + 1 => by
    rw [← su_rot (f := f) q, ← su_rot1 (f := fun x => f ((x + q) % n)) n]
    exact su_cg n (fun i hi => by show f ((i + (q + 1)) % n) = f (((i + 1) % n + q) % n); rw [Nat.mod_add_mod]; congr 2; omega)
theorem su_rev {f : Nat → Nat} : ∀ n, su (fun i => f (n - 1 - i)) n = su f n
  | 0 => rfl
  | n + 1 => by
    have h := su_rev (f := f) n
    rw [su_first, su, ← h, Nat.add_comm]
    congr 1
    exact su_cg n (fun i hi => by show f (n + 1 - 1 - (i + 1)) = f (n - 1 - i); congr 1; omega)
/-- places mirrored at q, round and round -/
theorem su_ref {f : Nat → Nat} {n q : Nat} : su (fun i => f ((q + n - i) % n)) n = su f n := by
  rw [← su_rot (f := f) (q + 1), ← su_rev (f := fun i => f ((i + (q + 1)) % n)) n]
  exact su_cg n (fun i hi => by show f ((q + n - i) % n) = f ((n - 1 - i + (q + 1)) % n); congr 2; omega)
/-! tones -/
theorem hr_su {p n : Nat} {A : Nat → Nat} {r x : Nat} : ∀ j, j ≤ n → hr p n A r x j % p = su (fun i => A (16 * r + (n - j + i)) * x ^ i) j % p
  | 0, _ => rfl
  | j + 1, hj => by
    have ih := hr_su (p := p) (A := A) (r := r) (x := x) j (show j ≤ n by omega)
    have e : su (fun i => A (16 * r + (n - (j + 1) + (i + 1))) * x ^ (i + 1)) j = su (fun i => A (16 * r + (n - j + i)) * x ^ i) j * x := by
      rw [Nat.mul_comm _ x, ← su_mul]
      exact su_cg j (fun i hi => by
        show A (16 * r + (n - (j + 1) + (i + 1))) * x ^ (i + 1) = x * (A (16 * r + (n - j + i)) * x ^ i)
        rw [show n - (j + 1) + (i + 1) = n - j + i by omega, Nat.pow_succ, Nat.mul_comm x, Nat.mul_assoc])
    rw [hr, Nat.mod_mod, su_first, Nat.pow_zero, Nat.mul_one, e, show n - (j + 1) + 0 = n - 1 - j by omega, Nat.add_comm (A _), Nat.add_mod, ← mm3 (hr p n A r x j) x p, ih, mm3, ← Nat.add_mod]
theorem pv_su {p n : Nat} {A : Nat → Nat} {r x : Nat} (hp : 0 < p) : pv p n A r x = su (fun i => A (16 * r + i) * x ^ i) n % p := by
  have h := hr_su (p := p) (A := A) (r := r) (x := x) n (Nat.le_refl n)
  rw [Nat.mod_eq_of_lt (hr_lt hp n)] at h
  unfold pv
  rw [h]
  congr 1
  exact su_cg n (fun i hi => by show A (16 * r + (n - n + i)) * x ^ i = A (16 * r + i) * x ^ i; rw [Nat.sub_self, Nat.zero_add])
theorem pm_pow {w p k i : Nat} : (w ^ k % p) ^ i % p = w ^ (k * i) % p := by rw [← Nat.pow_mod, Nat.pow_mul]
theorem tn_su {p n : Nat} {A : Nat → Nat} {r w f k : Nat} (hp : 1 < p) : tn p n A r w f k = su (fun i => A (16 * r + i) * w ^ (k * i)) n * f % p := by
  have e : pv p n A r (pw p w k) = su (fun i => A (16 * r + i) * w ^ (k * i)) n % p := by
    rw [pv_su (by omega), pw_pow hp]
    exact su_mg n (fun i hi => by show A (16 * r + i) * (w ^ k % p) ^ i % p = A (16 * r + i) * w ^ (k * i) % p; rw [← mm4, pm_pow, mm4])
  unfold tn
  rw [e, mm3]
theorem pow_mn {w p n m : Nat} (h : w ^ n % p = 1) : w ^ (m % n) % p = w ^ m % p := by
  have e : w ^ m % p = w ^ (m % n) * (w ^ n) ^ (m / n) % p := by
    rw [← Nat.pow_mul, ← Nat.pow_add]; congr 2; have := Nat.mod_add_div m n; omega
  have e2 : (w ^ n) ^ (m / n) % p = 1 % p := by rw [Nat.pow_mod, h, Nat.one_pow]
  rw [e, ← mm4, e2, mm4, Nat.mul_one]
theorem ts_su {p w n : Nat} {R : Nat → Nat} {k : Nat} : ts p w n R k n = su (fun i => R i * pw p w (i * k % n)) n % p :=
  acc_su (r := ts p w n R k) rfl (fun _ => rfl) n
theorem bs_su {p w n : Nat} {R : Nat → Nat} {k : Nat} : bs p w n R k n = su (fun i => R i * pw p w ((n - k * i % n) % n)) n % p :=
  acc_su (r := bs p w n R k) rfl (fun _ => rfl) n
/-- what the twelve rings say, by trial -/
def rgb (n p : Nat) : Bool := decide (rt n p ^ n % p = 1) && decide (rt n p * (rt n p ^ (p - 2) % p) % p = 1) && decide (n * (n ^ (p - 2) % p) % p = 1) && (List.range n).all (fun i => (List.range n).all (fun j => decide (su (fun k => rt n p ^ (k * i) * (rt n p ^ (p - 2) % p) ^ (j * k)) n % p = if i = j then n % p else 0)))
theorem rgb_t : ∀ k, k < 12 → rgb (RG (2 * k)) (RG (2 * k + 1)) = true := by decide +kernel
theorem rgb_o {n p : Nat} (h : rgs n p) : rt n p ^ n % p = 1 ∧ rt n p * (rt n p ^ (p - 2) % p) % p = 1 ∧ n * (n ^ (p - 2) % p) % p = 1 ∧ ∀ i, i < n → ∀ j, j < n → su (fun k => rt n p ^ (k * i) * (rt n p ^ (p - 2) % p) ^ (j * k)) n % p = if i = j then n % p else 0 := by
  have hb : rgb n p = true := by
    obtain ⟨k, hk, rfl, rfl⟩ := h
    exact rgb_t k hk
  unfold rgb at hb
  rw [Bool.and_eq_true, Bool.and_eq_true, Bool.and_eq_true] at hb
  refine ⟨of_decide_eq_true hb.1.1.1, of_decide_eq_true hb.1.1.2, of_decide_eq_true hb.1.2, fun i hi j hj => ?_⟩
  have h1 := List.all_eq_true.mp hb.2 i (List.mem_range.mpr hi)
  exact of_decide_eq_true (List.all_eq_true.mp h1 j (List.mem_range.mpr hj))
theorem ts_tn {n p : Nat} {A : Nat → Nat} {r k : Nat} (h : rgs n p) (hk : k < n) : ts p (rt n p) n (fun k => A (16 * r + k)) k n = tn p n A r (rt n p) 1 k := by
  obtain ⟨hn, hp4, hp5, hp1, hp0, hn16, hnp, hr1, hrl, hfer⟩ := rgs_o h
  rw [ts_su, tn_su hp1, Nat.mul_one]
  exact su_mg n (fun i hi => by
    show A (16 * r + i) * pw p (rt n p) (i * k % n) % p = A (16 * r + i) * rt n p ^ (k * i) % p
    rw [pw_pow hp1, pow_mn (rgb_o h).1, mm4, Nat.mul_comm i k])
theorem inv_un {p x y z : Nat} (h1 : x * y % p = 1) (h2 : x * z % p = 1) : y % p = z % p := by
  have e1 : y * (x * z) % p = y % p := by rw [← mm4, h2, Nat.mul_one]
  have e2 : z * (x * y) % p = z % p := by rw [← mm4, h1, Nat.mul_one]
  rw [← e1, ← e2]
  congr 1
  rw [Nat.mul_left_comm, Nat.mul_left_comm z, Nat.mul_comm y z]
theorem bs_tn {n p : Nat} {A : Nat → Nat} {r k : Nat} (h : rgs n p) (hk : k < n) : bs p (rt n p) n (fun k => A (16 * r + k)) k n * (n ^ (p - 2) % p) % p = tn p n A r (rt n p ^ (p - 2) % p) (n ^ (p - 2) % p) k := by
  obtain ⟨hn, hp4, hp5, hp1, hp0, hn16, hnp, hr1, hrl, hfer⟩ := rgs_o h
  obtain ⟨b1, b2, b3, b4⟩ := rgb_o h
  rw [bs_su, tn_su hp1, mm3, ← mm3, ← mm3 (su (fun i => A (16 * r + i) * (rt n p ^ (p - 2) % p) ^ (k * i)) n)]
  congr 2
  refine su_mg n (fun i hi => ?_)
  show A (16 * r + i) * pw p (rt n p) ((n - k * i % n) % n) % p = A (16 * r + i) * (rt n p ^ (p - 2) % p) ^ (k * i) % p
  rw [pw_pow hp1, ← mm4, ← mm4 (A (16 * r + i)) ((rt n p ^ (p - 2) % p) ^ (k * i)), Nat.mod_mod, pow_mn b1]
  congr 2
  refine inv_un (x := rt n p ^ (k * i)) ?_ ?_
  · rw [← mm3, ← pow_mn b1, mm3, ← Nat.pow_add]
    have hl := Nat.mod_lt (k * i) (show n > 0 by omega)
    rw [show k * i % n + (n - k * i % n) = n by omega]; exact b1
  · rw [← Nat.mul_pow, Nat.pow_mod, b2, Nat.one_pow, Nat.mod_eq_of_lt hp1]
/-- turned and turned back -/
theorem tn_inv {n p : Nat} {A A1 : Nat → Nat} {r j : Nat} (h : rgs n p) (hj : j < n) (hA : A (16 * r + j) < p) (h1 : ∀ k, k < n → A1 (16 * r + k) = tn p n A r (rt n p) 1 k) : tn p n A1 r (rt n p ^ (p - 2) % p) (n ^ (p - 2) % p) j = A (16 * r + j) := by
  obtain ⟨hn, hp4, hp5, hp1, hp0, hn16, hnp, hr1, hrl, hfer⟩ := rgs_o h
  obtain ⟨b1, b2, b3, b4⟩ := rgb_o h
  rw [tn_su hp1]
  have e1 : su (fun i => A1 (16 * r + i) * (rt n p ^ (p - 2) % p) ^ (j * i)) n % p = su (fun i => su (fun m => A (16 * r + m) * (rt n p ^ (i * m) * (rt n p ^ (p - 2) % p) ^ (j * i))) n) n % p := by
    refine su_mg n (fun i hi => ?_)
    show A1 (16 * r + i) * (rt n p ^ (p - 2) % p) ^ (j * i) % p = su (fun m => A (16 * r + m) * (rt n p ^ (i * m) * (rt n p ^ (p - 2) % p) ^ (j * i))) n % p
    rw [h1 i hi, tn_su hp1, Nat.mul_one, mm3, Nat.mul_comm, ← su_mul]
    congr 1
    exact su_cg n (fun m hm => by
      show (rt n p ^ (p - 2) % p) ^ (j * i) * (A (16 * r + m) * rt n p ^ (i * m)) = A (16 * r + m) * (rt n p ^ (i * m) * (rt n p ^ (p - 2) % p) ^ (j * i))
      rw [Nat.mul_left_comm, Nat.mul_comm ((rt n p ^ (p - 2) % p) ^ (j * i))])
  have e2 : su (fun i => su (fun m => A (16 * r + m) * (rt n p ^ (i * m) * (rt n p ^ (p - 2) % p) ^ (j * i))) n) n % p = su (fun m => if m = j then A (16 * r + j) * n else 0) n % p := by
    rw [su_swap]
    refine su_mg n (fun m hm => ?_)
    show su (fun i => A (16 * r + m) * (rt n p ^ (i * m) * (rt n p ^ (p - 2) % p) ^ (j * i))) n % p = (if m = j then A (16 * r + j) * n else 0) % p
    rw [su_mul, ← mm4, b4 m hm j hj]
    split
    · rename_i e; rw [e, mm4]
    · rw [Nat.mul_zero]
  have e3 : ∀ q, su (fun m => if m = j then A (16 * r + j) * n else 0) q = if j < q then A (16 * r + j) * n else 0 := by
    intro q
    induction q with
    | zero => rfl
    | succ q ih =>
      rw [su, ih]
      by_cases z : q = j
      · rw [if_pos z, if_neg (by omega), if_pos (by omega), Nat.zero_add]
      · rw [if_neg z, Nat.add_zero]
        by_cases z2 : j < q
        · rw [if_pos z2, if_pos (by omega)]
        · rw [if_neg z2, if_neg (by omega)]
  rw [← mm3, e1, e2, e3, if_pos hj, mm3, Nat.mul_assoc, ← mm4, b3, Nat.mul_one, Nat.mod_eq_of_lt hA]
