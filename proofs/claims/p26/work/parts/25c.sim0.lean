/-! ===== the hand's numbers ===== -/
theorem va_uu {α : Type} {F : Nat → α} {k : Nat} {a b : α} : va_up (va_up F k a) k b = va_up F k b := by
  funext j; unfold va_up
  by_cases h : j = k
  · rw [if_pos h, if_pos h]
  · rw [if_neg h, if_neg h, if_neg h]
theorem va_us {α : Type} {F : Nat → α} {k : Nat} {a : α} : va_up F k a k = a := by unfold va_up; rw [if_pos rfl]
theorem va_un {α : Type} {F : Nat → α} {k j : Nat} {a : α} (h : j ≠ k) : va_up F k a j = F j := by unfold va_up; rw [if_neg h]
theorem mk_u {g : Nat → Nat} {k : Nat} : va_up (mk (fun _ => 0) g k) k 0 = mk (fun _ => 0) g k := by
  funext j; unfold va_up mk
  by_cases h : j = k
  · rw [if_pos h, if_neg (by omega)]
  · rw [if_neg h]
/-- the inverse is the least number that serves -/
theorem iv_is {p v : Nat} (hp : 1 < p) (hv : v < p) (hex : v ^ (p - 1) % p = 1) : 1 ≤ v ^ (p - 2) % p ∧ v ^ (p - 2) % p * v % p = 1 ∧ ∀ k, 1 ≤ k → k ≤ v ^ (p - 2) % p → k * v % p = 1 → k = v ^ (p - 2) % p := by
  have e1 : v ^ (p - 2) % p * v % p = 1 := by
    rw [mm3, ← Nat.pow_succ]
    rcases Nat.lt_or_ge p 3 with z | z
    · have e : p = 2 := by omega
      subst e
      exact hex
    · show v ^ (p - 2 + 1) % p = 1
      rw [show p - 2 + 1 = p - 1 by omega]; exact hex
  have hl : v ^ (p - 2) % p < p := Nat.mod_lt _ (by omega)
  refine ⟨?_, e1, fun k _ h2 h3 => ?_⟩
  · rcases Nat.eq_zero_or_pos (v ^ (p - 2) % p) with z | z
    · rw [z, Nat.zero_mul, Nat.zero_mod] at e1; omega
    · exact z
  · have a0 : ∀ z, k * v % p * z % p = k * (z * v % p) % p := fun z => by rw [mm3, mm4, Nat.mul_assoc, Nat.mul_comm v]
    have a1 := a0 (v ^ (p - 2) % p)
    rw [h3, e1, Nat.one_mul, Nat.mul_one, Nat.mod_eq_of_lt hl, Nat.mod_eq_of_lt (show k < p by omega)] at a1
    exact a1.symm
/-- sums of a row times powers of the root: a tone, and turned back -/
def ts (p w n : Nat) (R : Nat → Nat) (k : Nat) : Nat → Nat
  | 0 => 0
  | i + 1 => (ts p w n R k i + R i * pw p w (i * k % n)) % p
def bs (p w n : Nat) (R : Nat → Nat) (i : Nat) : Nat → Nat
  | 0 => 0
  | k + 1 => (bs p w n R i k + R k * pw p w ((n - i * k % n) % n)) % p
theorem ts_lt {p w n : Nat} {R : Nat → Nat} {k : Nat} (hp : 0 < p) : ∀ i, ts p w n R k i < p
  | 0 => hp
  | _ + 1 => Nat.mod_lt _ hp
theorem bs_lt {p w n : Nat} {R : Nat → Nat} {k : Nat} (hp : 0 < p) : ∀ i, bs p w n R k i < p
  | 0 => hp
  | _ + 1 => Nat.mod_lt _ hp
/-- places mirrored, as the hand adds them up -/
def ms (n k : Nat) : Nat → Nat
  | 0 => 0
  | j + 1 => ms n k j + k / 2 ^ j % 2 * (n / 2 ^ (j + 1))
theorem ms_4 : ∀ k, k < 4 → ms 4 k 2 = mi k 2 ∧ ∀ j, j < 3 → ms 4 k j < 16 := by decide +kernel
theorem ms_8 : ∀ k, k < 8 → ms 8 k 3 = mi k 3 ∧ ∀ j, j < 4 → ms 8 k j < 16 := by decide +kernel
theorem ms_16 : ∀ k, k < 16 → ms 16 k 4 = mi k 4 ∧ ∀ j, j < 5 → ms 16 k j < 16 := by decide +kernel
theorem ms_p {n k : Nat} (hn : n = 4 ∨ n = 8 ∨ n = 16) (hk : k < n) : ms n k (bt n) = mi k (bt n) ∧ ∀ j, j ≤ bt n → ms n k j < 16 := by
  rcases hn with rfl | rfl | rfl
  · exact ⟨(ms_4 k hk).1, fun j hj => (ms_4 k hk).2 j (Nat.lt_succ_of_le hj)⟩
  · exact ⟨(ms_8 k hk).1, fun j hj => (ms_8 k hk).2 j (Nat.lt_succ_of_le hj)⟩
  · exact ⟨(ms_16 k hk).1, fun j hj => (ms_16 k hk).2 j (Nat.lt_succ_of_le hj)⟩
theorem bt_p {n j : Nat} (hn : n = 4 ∨ n = 8 ∨ n = 16) (hj : j ≤ bt n) : (2 ^ j < n ↔ j < bt n) ∧ 1 ≤ 2 ^ j ∧ 2 ^ j ≤ 16 ∧ n / 2 ^ (j + 1) ≤ 8 ∧ j ≤ 4 := by
  have h4 : j ≤ 4 := by rcases hn with rfl | rfl | rfl <;> exact Nat.le_trans hj (by decide)
  rcases hn with rfl | rfl | rfl
  · have h2 : j ≤ 2 := hj
    rcases (show j = 0 ∨ j = 1 ∨ j = 2 by omega) with rfl | rfl | rfl <;> decide
  · have h2 : j ≤ 3 := hj
    rcases (show j = 0 ∨ j = 1 ∨ j = 2 ∨ j = 3 by omega) with rfl | rfl | rfl | rfl <;> decide
  · have h2 : j ≤ 4 := hj
    rcases (show j = 0 ∨ j = 1 ∨ j = 2 ∨ j = 3 ∨ j = 4 by omega) with rfl | rfl | rfl | rfl | rfl <;> decide
/-- a stage of a row -/
def sgR (p n w : Nat) (R : Nat → Nat) (h : Nat) : Nat → Nat := fun k =>
  if k / h % 2 = 0 then (R k + R (k + h) * (w ^ (k % h * (n / (2 * h))) % p) % p) % p
  else (R (k - h) + p - R k * (w ^ (k % h * (n / (2 * h))) % p) % p) % p
def stm (p n w : Nat) (R : Nat → Nat) (h bk j : Nat) : Nat → Nat := fun x => if x < n ∧ (x < bk ∨ (x < bk + 2 * h ∧ x % h < j)) then sgR p n w R h x else 0
theorem stm_0 {p n w : Nat} {R : Nat → Nat} {h : Nat} : stm p n w R h 0 0 = fun _ => 0 := by
  funext x; unfold stm; rw [if_neg (by omega)]
theorem stm_o {p n w : Nat} {R : Nat → Nat} {h bk : Nat} (hh : 0 < h) : stm p n w R h bk h = stm p n w R h (bk + 2 * h) 0 := by
  funext x; unfold stm
  have hm := Nat.mod_lt x hh
  by_cases h1 : x < n ∧ x < bk + 2 * h
  · rw [if_pos ⟨h1.1, Or.inr ⟨h1.2, hm⟩⟩, if_pos ⟨h1.1, Or.inl h1.2⟩]
  · rw [if_neg (by omega), if_neg (by omega)]
theorem stm_n {p n w : Nat} {R : Nat → Nat} {h : Nat} : stm p n w R h n 0 = mk (fun _ => 0) (sgR p n w R h) n := by
  funext x; unfold stm mk
  by_cases h1 : x < n
  · rw [if_pos ⟨h1, Or.inl h1⟩, if_pos h1]
  · rw [if_neg (fun z => h1 z.1), if_neg h1]
theorem stm_s {p n w : Nat} {R : Nat → Nat} {h bk j c : Nat} (hh : h = 1 ∨ h = 2 ∨ h = 4 ∨ h = 8) (hbk : bk = 2 * h * c) (hj : j < h) (hn : bk + 2 * h ≤ n) :
    va_up (va_up (stm p n w R h bk j) (bk + j) ((R (bk + j) + R (bk + j + h) * (w ^ (j * (n / (2 * h))) % p) % p) % p)) (bk + j + h) ((R (bk + j) + p - R (bk + j + h) * (w ^ (j * (n / (2 * h))) % p) % p) % p) = stm p n w R h bk (j + 1) := by
  have m1 : (bk + j) % h = j := by rcases hh with rfl | rfl | rfl | rfl <;> omega
  have m2 : (bk + j + h) % h = j := by rcases hh with rfl | rfl | rfl | rfl <;> omega
  have d1 : (bk + j) / h % 2 = 0 := by rcases hh with rfl | rfl | rfl | rfl <;> omega
  have d2 : ¬ (bk + j + h) / h % 2 = 0 := by rcases hh with rfl | rfl | rfl | rfl <;> omega
  funext x
  unfold va_up
  by_cases h1 : x = bk + j + h
  · rw [if_pos h1]; unfold stm
    subst h1
    rw [m2, if_pos (by omega)]
    unfold sgR
    rw [if_neg d2, m2, show bk + j + h - h = bk + j by omega]
  · rw [if_neg h1]
    by_cases h2 : x = bk + j
    · rw [if_pos h2]; unfold stm
      subst h2
      rw [m1, if_pos (by omega)]
      unfold sgR
      rw [if_pos d1, m1]
    · rw [if_neg h2]; unfold stm
      by_cases h3 : x < n ∧ (x < bk ∨ (x < bk + 2 * h ∧ x % h < j))
      · rw [if_pos h3, if_pos (by omega)]
      · rw [if_neg h3, if_neg]
        intro h4
        obtain ⟨a2, a3⟩ := h4
        rcases hh with rfl | rfl | rfl | rfl <;> omega
/-- rows folded; some of the places one number further -/
def fR (p n : Nat) (R S : Nat → Nat) (q : Nat) : Nat → Nat
  | 0 => 0
  | k + 1 => (fR p n R S q k + R k * S ((q + n - k) % n)) % p
theorem fR_lt {p n : Nat} {R S : Nat → Nat} {q : Nat} (hp : 0 < p) : ∀ i, fR p n R S q i < p
  | 0 => hp
  | _ + 1 => Nat.mod_lt _ hp
def fkm (p n : Nat) (R S : Nat → Nat) (i k : Nat) : Nat → Nat := fun m => if m < n then (if (m + n - i) % n < k then fR p n R S m (i + 1) else fR p n R S m i) else 0
theorem fkm_0 {p n : Nat} {R S : Nat → Nat} : fkm p n R S 0 0 = fun _ => 0 := by
  funext m; unfold fkm
  split
  · rw [if_neg (by omega)]; rfl
  · rfl
theorem fkm_n {p n : Nat} {R S : Nat → Nat} {i : Nat} (hn : 0 < n) : fkm p n R S i n = fkm p n R S (i + 1) 0 := by
  funext m; unfold fkm
  by_cases h : m < n
  · rw [if_pos h, if_pos h, if_pos (Nat.mod_lt _ hn), if_neg (by omega)]
  · rw [if_neg h, if_neg h]
theorem fkm_e {p n : Nat} {R S : Nat → Nat} : fkm p n R S n 0 = mk (fun _ => 0) (fun m => fR p n R S m n) n := by
  funext m; unfold fkm mk
  by_cases h : m < n
  · rw [if_pos h, if_pos h, if_neg (by omega)]
  · rw [if_neg h, if_neg h]
theorem fkm_at {p n : Nat} {R S : Nat → Nat} {i k : Nat} (hi : i < n) (hk : k < n) : fkm p n R S i k ((i + k) % n) = fR p n R S ((i + k) % n) i := by
  unfold fkm
  have h := (mv_p (n := n) (q := i) (k := k) hi hk).1
  rw [show k + i = i + k by omega] at h
  rw [if_pos (Nat.mod_lt _ (by omega)), h, if_neg (by omega)]
theorem fkm_s {p n : Nat} {R S : Nat → Nat} {i k : Nat} (hi : i < n) (hk : k < n) : va_up (fkm p n R S i k) ((i + k) % n) ((fR p n R S ((i + k) % n) i + R i * S k) % p) = fkm p n R S i (k + 1) := by
  have h := (mv_p (n := n) (q := i) (k := k) hi hk).1
  rw [show k + i = i + k by omega] at h
  have hl := Nat.mod_lt (i + k) (show n > 0 by omega)
  funext m
  unfold va_up
  by_cases e : m = (i + k) % n
  · rw [if_pos e]; unfold fkm
    subst e
    rw [if_pos hl, h, if_pos (by omega), fR, h]
  · rw [if_neg e]; unfold fkm
    by_cases h1 : m < n
    · rw [if_pos h1, if_pos h1]
      have h2 : (m + n - i) % n ≠ k := fun z => e (by
        have h3 := (mv_p (n := n) (q := i) (k := m) hi h1).2
        rw [z, show k + i = i + k by omega] at h3
        exact h3.symm)
      by_cases h3 : (m + n - i) % n < k
      · rw [if_pos h3, if_pos (by omega)]
      · rw [if_neg h3, if_neg (by omega)]
    · rw [if_neg h1, if_neg h1]
theorem mv_q {n q k : Nat} (hq : q ≤ n) (hk : k < n) : ((k + q) % n + n - q) % n = k ∧ ((k + n - q) % n + q) % n = k := by
  rcases Nat.lt_or_ge q n with h | h
  · exact mv_p h hk
  · obtain rfl : q = n := by omega
    constructor
    · rw [Nat.add_mod_right, Nat.mod_eq_of_lt hk, show k + q - q = k by omega, Nat.mod_eq_of_lt hk]
    · rw [show k + q - q = k by omega, Nat.mod_eq_of_lt hk, Nat.add_mod_right, Nat.mod_eq_of_lt hk]
/-- what a row tells, told by the row alone -/
def smR (R : Nat → Nat) : Nat → Nat
  | 0 => 0
  | k + 1 => smR R k + R k
def grR (R : Nat → Nat) : Nat → Nat
  | 0 => 0
  | k + 1 => if grR R k < R k then R k else grR R k
def lnR (R : Nat → Nat) : Nat → Int
  | 0 => -1
  | j + 1 => if R j = 0 then lnR R j else (j : Int)
theorem smR_le {R : Nat → Nat} (hR : ∀ j, R j < 500) : ∀ j, smR R j ≤ 499 * j
  | 0 => Nat.le_refl 0
  | j + 1 => by
    have h1 := smR_le hR j
    have h2 := hR j
    rw [smR]; omega
theorem grR_lt {R : Nat → Nat} (hR : ∀ j, R j < 500) : ∀ j, grR R j < 500
  | 0 => show 0 < 500 from by decide
  | j + 1 => by
    have h1 := grR_lt hR j
    have h2 := hR j
    rw [grR]; split <;> assumption
/-- R moved by q -/
def mvR (n q : Nat) (R : Nat → Nat) : Nat → Nat := fun m => R ((m + n - q) % n)
/-- how many places of R are unlike S, how many of R are not 0 -/
def unR (R S : Nat → Nat) (n : Nat) : Nat := cc (fun k => decide (R k ≠ S k)) n
def otR (R : Nat → Nat) (n : Nat) : Nat := cc (fun k => decide (R k ≠ 0)) n
/-- the least move by which R is itself -/
def peR (n : Nat) (R : Nat → Nat) : Nat := fs (fun q => decide (unR (mk (fun _ => 0) (mvR n q R) n) R n = 0)) (n - 1) 1
theorem unR_n {n : Nat} {R : Nat → Nat} : unR (mk (fun _ => 0) (mvR n n R) n) R n = 0 := by
  have h : ∀ k, k ≤ n → cc (fun k => decide (mk (fun _ => 0) (mvR n n R) n k ≠ R k)) k = 0 := by
    intro k
    induction k with
    | zero => intro _; rfl
    | succ k ih =>
      intro hk
      rw [cc, ih (by omega), if_neg]
      rw [decide_eq_true_eq, mk_in (by omega)]
      unfold mvR
      rw [show k + n - n = k by omega, Nat.mod_eq_of_lt (by omega)]
      exact fun z => z rfl
  exact h n (Nat.le_refl n)
/-- what the hand tells about a row: six numbers -/
def abR (p n : Nat) (R : Nat → Nat) : Nat → Int := va_up (va_up (va_up (va_up (va_up (va_up (fun _ => 0) 0 ((smR R n % p : Nat) : Int)) 1 ((otR R n : Nat) : Int)) 2 (lnR R n)) 3 ((peR n R : Nat) : Int)) 4 ((grR R n : Nat) : Int)) 5 ((smR R n : Nat) : Int)
