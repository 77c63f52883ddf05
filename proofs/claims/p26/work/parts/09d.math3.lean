/-- a row whose first k places are what g says -/
def mr (A : Nat → Nat) (r : Nat) (g : Nat → Nat) (k : Nat) : Nat → Nat := fun j => if 16 * r ≤ j ∧ j < 16 * r + k then g (j - 16 * r) else A j
theorem mr_0 (A : Nat → Nat) (r : Nat) (g : Nat → Nat) : mr A r g 0 = A := by
  funext j; unfold mr; rw [if_neg (by omega)]
theorem mr_s {A : Nat → Nat} {r k v : Nat} {g : Nat → Nat} (hv : v = g k) : va_up (mr A r g k) (16 * r + k) v = mr A r g (k + 1) := by
  funext j; unfold va_up mr
  by_cases h : j = 16 * r + k
  · rw [if_pos h, if_pos (by omega), hv]; congr 1; omega
  · rw [if_neg h]
    by_cases h2 : 16 * r ≤ j ∧ j < 16 * r + k
    · rw [if_pos h2, if_pos (by omega)]
    · rw [if_neg h2, if_neg (by omega)]
theorem mr_at {A : Nat → Nat} {r q k : Nat} {g : Nat → Nat} (hk : k < 16) : mr A r g k (16 * q + k) = A (16 * q + k) := by
  unfold mr
  by_cases h : 16 * r ≤ 16 * q + k ∧ 16 * q + k < 16 * r + k
  · exfalso; omega
  · rw [if_neg h]
theorem mr_lt {A : Nat → Nat} {r k : Nat} {g : Nat → Nat} (hA : ∀ j, A j < 500) (hg : ∀ j, j < k → g j < 500) : ∀ j, mr A r g k j < 500 := fun j => by
  unfold mr; split
  · exact hg _ (by omega)
  · exact hA _
theorem mr_in {A : Nat → Nat} {r k i : Nat} {g : Nat → Nat} (hi : i < k) : mr A r g k (16 * r + i) = g i := by
  unfold mr; rw [if_pos (by omega)]; congr 1; omega
/-- the scratch row filled in another order: place m by step s m -/
def pf (A : Nat → Nat) (n : Nat) (s g : Nat → Nat) (k : Nat) : Nat → Nat := fun j => if 64 ≤ j ∧ j < 64 + n ∧ s (j - 64) < k then g (s (j - 64)) else A j
theorem pf_0 (A : Nat → Nat) (n : Nat) (s g : Nat → Nat) : pf A n s g 0 = A := by
  funext j; unfold pf; rw [if_neg (by omega)]
theorem pf_s {A : Nat → Nat} {n k v q : Nat} {s g : Nat → Nat} (hv : v = g k) (hq : q < n) (h1 : s q = k) (h2 : ∀ m, m < n → s m = k → m = q) : va_up (pf A n s g k) (16 * 4 + q) v = pf A n s g (k + 1) := by
  funext j; unfold va_up pf
  by_cases h : j = 16 * 4 + q
  · have e : j - 64 = q := by omega
    rw [if_pos h, e, h1, if_pos (by omega), hv]
  · rw [if_neg h]
    by_cases h3 : 64 ≤ j ∧ j < 64 + n ∧ s (j - 64) < k
    · rw [if_pos h3, if_pos (by omega)]
    · by_cases h4 : 64 ≤ j ∧ j < 64 + n ∧ s (j - 64) < k + 1
      · exact absurd (h2 (j - 64) (by omega) (by omega)) (by omega)
      · rw [if_neg h3, if_neg h4]
theorem pf_n {A : Nat → Nat} {n : Nat} {s g : Nat → Nat} (hs : ∀ m, m < n → s m < n) : pf A n s g n = sv A (fun m => g (s m)) n := by
  funext j; unfold pf sv
  by_cases h : 64 ≤ j ∧ j < 64 + n
  · rw [if_pos ⟨h.1, h.2, hs _ (by omega)⟩, if_pos h]
  · rw [if_neg (fun z => h ⟨z.1, z.2.1⟩), if_neg h]
theorem pf_lo {A : Nat → Nat} {n k j : Nat} {s g : Nat → Nat} (h : j < 64) : pf A n s g k j = A j := by unfold pf; rw [if_neg (by omega)]
theorem pf_lt {A : Nat → Nat} {n k : Nat} {s g : Nat → Nat} (hA : ∀ j, A j < 500) (hg : ∀ j, j < k → g j < 500) : ∀ j, pf A n s g k j < 500 := fun j => by
  unfold pf; split
  · rename_i h; exact hg _ h.2.2
  · exact hA _
/-- the scratch row laid over row r -/
def ly (A : Nat → Nat) (g : Nat → Nat) (r n : Nat) : Nat → Nat := cp (sv A g n) 4 r n
theorem ly_lo {A g : Nat → Nat} {r n : Nat} (hn : n ≤ 16) (j : Nat) (hj : j < 64) : ly A g r n j = mr A r g n j := by
  unfold ly cp mr sv
  by_cases h : 16 * r ≤ j ∧ j < 16 * r + n
  · rw [if_pos h, if_pos h, if_pos (by omega)]; congr 1; omega
  · rw [if_neg h, if_neg h, if_neg (by omega)]
theorem ly_lt {A g : Nat → Nat} {r n : Nat} (hA : ∀ j, A j < 500) (hg : ∀ j, j < n → g j < 500) : ∀ j, ly A g r n j < 500 := cp_lt (sv_lt hA hg)
theorem ly_at {A g : Nat → Nat} {r n i : Nat} (hi : i < n) : ly A g r n (16 * r + i) = g i := by
  unfold ly cp
  rw [if_pos (by omega)]
  unfold sv
  rw [if_pos (by omega)]; congr 1; omega
theorem ly_cc {A g : Nat → Nat} {r n : Nat} (hn : n ≤ 16) (hr : r < 4) : cc (fun j => decide (sv A g n (16 * r + j) ≠ sv A g n (16 * 4 + j))) n = cc (fun j => decide (A (16 * r + j) ≠ g j)) n := by
  refine cc_cg n (fun j hj => ?_)
  have e1 : sv A g n (16 * r + j) = A (16 * r + j) := sv_lo (by omega)
  have e2 : sv A g n (16 * 4 + j) = g j := by unfold sv; rw [if_pos (by omega)]; congr 1; omega
  show decide (sv A g n (16 * r + j) ≠ sv A g n (16 * 4 + j)) = _
  rw [e1, e2]
theorem fo_cg {p n : Nat} {A B : Nat → Nat} {a b q : Nat} (hn : 0 < n) (ha : ∀ k, k < n → A (16 * a + k) = B (16 * a + k)) (hb : ∀ k, k < n → A (16 * b + k) = B (16 * b + k)) : ∀ k, k ≤ n → fo p n A a b q k = fo p n B a b q k
  | 0, _ => rfl
  | k + 1, h => by rw [fo, fo, fo_cg hn ha hb k (by omega), ha k (by omega), hb _ (Nat.mod_lt _ hn)]
theorem so_cg {p n : Nat} {A B : Nat → Nat} {a b q : Nat} (hn : 0 < n) (ha : ∀ k, k < n → A (16 * a + k) = B (16 * a + k)) (hb : ∀ k, k < n → A (16 * b + k) = B (16 * b + k)) : ∀ k, k ≤ n → so p n A a b q k = so p n B a b q k
  | 0, _ => rfl
  | k + 1, h => by rw [so, so, so_cg hn ha hb k (by omega), ha k (by omega), hb _ (Nat.mod_lt _ hn)]
theorem sm_cg {A B : Nat → Nat} {r : Nat} : ∀ k, (∀ j, j < k → A (16 * r + j) = B (16 * r + j)) → sm A r k = sm B r k
  | 0, _ => rfl
  | k + 1, h => by rw [sm, sm, sm_cg k (fun j hj => h j (by omega)), h k (by omega)]
theorem gr_cg {A B : Nat → Nat} {r : Nat} : ∀ k, (∀ j, j < k → A (16 * r + j) = B (16 * r + j)) → gr A r k = gr B r k
  | 0, _ => rfl
  | k + 1, h => by rw [gr, gr, gr_cg k (fun j hj => h j (by omega)), h k (by omega)]
theorem ln_cg {A B : Nat → Nat} {r : Nat} : ∀ k, (∀ j, j < k → A (16 * r + j) = B (16 * r + j)) → ln A r k = ln B r k
  | 0, _ => rfl
  | k + 1, h => by rw [ln, ln, ln_cg k (fun j hj => h j (by omega)), h k (by omega)]
theorem im_cg {n : Nat} {A B : Nat → Nat} {a b q : Nat} (hn : 0 < n) (ha : ∀ k, k < n → A (16 * a + k) = B (16 * a + k)) (hb : ∀ k, k < n → A (16 * b + k) = B (16 * b + k)) : im n A a b q = im n B a b q := by
  unfold im
  congr 1
  apply propext
  constructor
  · intro h k hk; rw [← ha k hk, ← hb _ (Nat.mod_lt _ hn)]; exact h k hk
  · intro h k hk; rw [ha k hk, hb _ (Nat.mod_lt _ hn)]; exact h k hk
theorem fs_cg {P Q : Nat → Bool} (h : ∀ k, P k = Q k) : ∀ c k, fs P c k = fs Q c k := by
  have e : P = Q := funext h
  intro c k; rw [e]
theorem pe_cg {n : Nat} {A B : Nat → Nat} {r : Nat} (hn : 0 < n) (h : ∀ k, k < n → A (16 * r + k) = B (16 * r + k)) : pe n A r = pe n B r := fs_cg (fun k => im_cg hn h h) _ _
theorem tl_cg {p n : Nat} {A B : Nat → Nat} {r : Nat} (hn : 0 < n) (h : ∀ k, k < n → A (16 * r + k) = B (16 * r + k)) : ∀ q, tl p n A r q = tl p n B r q
  | 0 => by show (((sm A r n % p : Nat) : Int)) = _; rw [sm_cg n h]; rfl
  | 1 => by show (((cc (fun k => decide (A (16 * r + k) ≠ 0)) n : Nat) : Int)) = _; rw [cc_cg (Q := fun k => decide (B (16 * r + k) ≠ 0)) n (fun j hj => by show decide (A (16 * r + j) ≠ 0) = _; rw [h j hj])]; rfl
  | 2 => by show ln A r n = _; rw [ln_cg n h]; rfl
  | 3 => by show ((pe n A r : Nat) : Int) = _; rw [pe_cg hn h]; rfl
  | _ + 4 => by show ((gr A r n : Nat) : Int) = _; rw [gr_cg n h]; rfl
theorem tn_cg {p n : Nat} {A B : Nat → Nat} {r w f : Nat} (h : ∀ k, k < n → A (16 * r + k) = B (16 * r + k)) : tn p n A r w f = tn p n B r w f := by
  funext k; unfold tn; rw [pv_cg h]
/-- the checksum on, by f -/
def dgc (f : Nat → Int) (d : Int64) : Nat → Int64
  | 0 => d
  | k + 1 => dgs (dgc f d k) (f k)
theorem dgc_cg {f g : Nat → Int} {d : Int64} : ∀ k, (∀ j, j < k → f j = g j) → dgc f d k = dgc g d k
  | 0, _ => rfl
  | k + 1, h => by rw [dgc, dgc, dgc_cg k (fun j hj => h j (by omega)), h k (by omega)]
/-- a row's share of the checksum -/
def dro (p n w : Nat) (A : Nat → Nat) (r : Nat) (d : Int64) : Int64 := dgc (fun k => ((tn p n A r w 1 k : Nat) : Int)) (dgc (tl p n A r) (dgc (fun k => ((A (16 * r + k) : Nat) : Int)) d n) 5) n
theorem dro_cg {p n w : Nat} {A B : Nat → Nat} {r : Nat} {d : Int64} (hn : 0 < n) (h : ∀ k, k < n → A (16 * r + k) = B (16 * r + k)) : dro p n w A r d = dro p n w B r d := by
  unfold dro
  rw [tn_cg h, dgc_cg (g := tl p n B r) 5 (fun j _ => tl_cg hn h j), dgc_cg (f := fun k => ((A (16 * r + k) : Nat) : Int)) (g := fun k => ((B (16 * r + k) : Nat) : Int)) n (fun j hj => by show ((A (16 * r + j) : Nat) : Int) = _; rw [h j hj])]
def drs (p n w : Nat) (A : Nat → Nat) (d : Int64) : Nat → Int64
  | 0 => d
  | r + 1 => dro p n w A r (drs p n w A d r)
theorem drs_cg {p n w : Nat} {A B : Nat → Nat} {d : Int64} (hn : 0 < n) (hn16 : n ≤ 16) (h : ∀ j, j < 64 → A j = B j) : ∀ r, r ≤ 4 → drs p n w A d r = drs p n w B d r
  | 0, _ => rfl
  | r + 1, hr => by rw [drs, drs, drs_cg hn hn16 h r (by omega), dro_cg hn (fun k hk => h _ (by omega))]
theorem shl_k : ∀ k, k < 5 → iI ((1 : Nat) : Int) <<< (iI ((k : Nat) : Int) &&& 31) = iI ((2 ^ k : Nat) : Int) := by decide +kernel
theorem shr_k5 : ∀ x, x < 17 → ∀ k, k < 5 → iI ((x : Nat) : Int) >>> (iI ((k : Nat) : Int) &&& 31) = iI ((x / 2 ^ k : Nat) : Int) := by decide +kernel
/-- what a stage leaves at place k; half h, by p -/
def sg (p n w : Nat) (A : Nat → Nat) (r h : Nat) : Nat → Nat := fun k =>
  if k / h % 2 = 0 then (A (16 * r + k) + A (16 * r + (k + h)) * (w ^ (k % h * (n / (2 * h))) % p) % p) % p
  else (A (16 * r + (k - h)) + p - A (16 * r + k) * (w ^ (k % h * (n / (2 * h))) % p) % p) % p
def stg (p n w : Nat) (A : Nat → Nat) (r h bk j : Nat) : Nat → Nat := fun x =>
  if 16 * r ≤ x ∧ x < 16 * r + n ∧ (x - 16 * r < bk ∨ (x - 16 * r < bk + 2 * h ∧ (x - 16 * r) % h < j)) then sg p n w A r h (x - 16 * r) else A x
theorem stg_0 {p n w : Nat} {A : Nat → Nat} {r h : Nat} : stg p n w A r h 0 0 = A := by
  funext x; unfold stg; rw [if_neg (by omega)]
theorem stg_o {p n w : Nat} {A : Nat → Nat} {r h bk : Nat} (hh : 0 < h) : stg p n w A r h bk h = stg p n w A r h (bk + 2 * h) 0 := by
  funext x; unfold stg
  have hm := Nat.mod_lt (x - 16 * r) hh
  by_cases h1 : 16 * r ≤ x ∧ x < 16 * r + n ∧ x - 16 * r < bk + 2 * h
  · rw [if_pos ⟨h1.1, h1.2.1, Or.inr ⟨h1.2.2, hm⟩⟩, if_pos ⟨h1.1, h1.2.1, Or.inl h1.2.2⟩]
  · rw [if_neg (by omega), if_neg (by omega)]
theorem stg_n {p n w : Nat} {A : Nat → Nat} {r h : Nat} : stg p n w A r h n 0 = mr A r (sg p n w A r h) n := by
  funext x; unfold stg mr
  by_cases h1 : 16 * r ≤ x ∧ x < 16 * r + n
  · rw [if_pos ⟨h1.1, h1.2, Or.inl (by omega)⟩, if_pos h1]
  · rw [if_neg (fun z => h1 ⟨z.1, z.2.1⟩), if_neg h1]
theorem sg_lt {p n w : Nat} {A : Nat → Nat} {r h : Nat} (hp : 0 < p) : ∀ k, sg p n w A r h k < p := fun k => by
  unfold sg; split <;> exact Nat.mod_lt _ hp
theorem stg_lt {p n w : Nat} {A : Nat → Nat} {r h bk j : Nat} (hp : 0 < p) (hp5 : p < 500) (hA : ∀ j, A j < 500) : ∀ x, stg p n w A r h bk j x < 500 := fun x => by
  unfold stg; split
  · exact Nat.lt_trans (sg_lt hp _) hp5
  · exact hA _
theorem stg_s {p n w : Nat} {A : Nat → Nat} {r h bk j c : Nat} (hh : h = 1 ∨ h = 2 ∨ h = 4 ∨ h = 8) (hbk : bk = 2 * h * c) (hj : j < h) (hn : bk + 2 * h ≤ n) :
    bf p (stg p n w A r h bk j) r (bk + j) (bk + j + h) (w ^ (j * (n / (2 * h))) % p) = stg p n w A r h bk (j + 1) := by
  have m1 : (bk + j) % h = j := by rcases hh with rfl | rfl | rfl | rfl <;> omega
  have m2 : (bk + j + h) % h = j := by rcases hh with rfl | rfl | rfl | rfl <;> omega
  have d1 : (bk + j) / h % 2 = 0 := by rcases hh with rfl | rfl | rfl | rfl <;> omega
  have d2 : ¬ (bk + j + h) / h % 2 = 0 := by rcases hh with rfl | rfl | rfl | rfl <;> omega
  have v1 : stg p n w A r h bk j (16 * r + (bk + j)) = A (16 * r + (bk + j)) := by
    unfold stg; rw [if_neg]; rw [show 16 * r + (bk + j) - 16 * r = bk + j by omega, m1]; omega
  have v2 : stg p n w A r h bk j (16 * r + (bk + j + h)) = A (16 * r + (bk + j + h)) := by
    unfold stg; rw [if_neg]; rw [show 16 * r + (bk + j + h) - 16 * r = bk + j + h by omega, m2]; omega
  unfold bf
  rw [v1, v2]
  funext x
  unfold va_up
  by_cases h1 : x = 16 * r + (bk + j + h)
  · rw [if_pos h1]; unfold stg
    have e : x - 16 * r = bk + j + h := by omega
    rw [e, m2, if_pos (by omega)]
    unfold sg
    rw [if_neg d2, m2, show bk + j + h - h = bk + j by omega]
  · rw [if_neg h1]
    by_cases h2 : x = 16 * r + (bk + j)
    · rw [if_pos h2]; unfold stg
      have e : x - 16 * r = bk + j := by omega
      rw [e, m1, if_pos (by omega)]
      unfold sg
      rw [if_pos d1, m1]
    · rw [if_neg h2]; unfold stg
      by_cases h3 : 16 * r ≤ x ∧ x < 16 * r + n ∧ (x - 16 * r < bk ∨ (x - 16 * r < bk + 2 * h ∧ (x - 16 * r) % h < j))
      · rw [if_pos h3, if_pos (by omega)]
      · rw [if_neg h3, if_neg]
        intro h4
        obtain ⟨a1, a2, a3⟩ := h4
        obtain ⟨y, rfl⟩ : ∃ y, x = 16 * r + y := ⟨x - 16 * r, by omega⟩
        rw [show 16 * r + y - 16 * r = y by omega] at a3 h3
        rcases hh with rfl | rfl | rfl | rfl <;> omega
theorem mi_p : ∀ n, n < 17 → (n = 4 ∨ n = 8 ∨ n = 16) → ∀ m, m < 16 → m < n → mi m (bt n) < n ∧ mi (mi m (bt n)) (bt n) = m := by decide +kernel
theorem mv_p {n q k : Nat} (hq : q < n) (hk : k < n) : ((k + q) % n + n - q) % n = k ∧ ((k + n - q) % n + q) % n = k := by
  constructor
  · rcases Nat.lt_or_ge (k + q) n with h | h
    · rw [Nat.mod_eq_of_lt h, show k + q + n - q = k + n by omega, Nat.add_mod_right, Nat.mod_eq_of_lt hk]
    · rw [show k + q = (k + q - n) + n by omega, Nat.add_mod_right, Nat.mod_eq_of_lt (show k + q - n < n by omega), show k + q - n + n - q = k by omega, Nat.mod_eq_of_lt hk]
  · rcases Nat.lt_or_ge k q with h | h
    · rw [Nat.mod_eq_of_lt (show k + n - q < n by omega), show k + n - q + q = k + n by omega, Nat.add_mod_right, Nat.mod_eq_of_lt hk]
    · rw [show k + n - q = (k - q) + n by omega, Nat.add_mod_right, Nat.mod_eq_of_lt (show k - q < n by omega), show k - q + q = k by omega, Nat.mod_eq_of_lt hk]
