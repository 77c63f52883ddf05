/-! ===== what holds between two rounds: one of twelve rings, numbers below the prime ===== -/
def rgs (n p : Nat) : Prop := ∃ k : Nat, k < 12 ∧ n = RG (2 * k) ∧ p = RG (2 * k + 1)
def SI (n p : Nat) (A : Nat → Nat) : Prop := rgs n p ∧ (∀ j, A j < 500) ∧ ∀ j, j < 64 → A j < p
abbrev WX (cI : ClassId) (h a n p : Nat) (A : Nat → Nat) : va_W := wX cI h a n p (bt n) (rt n p) (rt n p ^ (p - 2) % p) (n ^ (p - 2) % p) A
abbrev LV (cI cQ : ClassId) (h a o rr n p : Nat) (g A : Nat → Nat) : va_W := LW cI cQ o rr n p (rt n p) g A [] (WX cI h a n p A)
theorem rgs_t : ∀ k, k < 12 → (RG (2 * k) = 4 ∨ RG (2 * k) = 8 ∨ RG (2 * k) = 16) ∧ 5 ≤ RG (2 * k + 1) ∧ RG (2 * k + 1) < 500 ∧ prm (RG (2 * k + 1)) = true ∧ (RG (2 * k + 1) - 1) % RG (2 * k) = 0 := by decide +kernel
theorem rgs_rok {n p : Nat} (h : rgs n p) : rok n p := by
  obtain ⟨k, hk, rfl, rfl⟩ := h
  exact rgs_t k hk
theorem rgs_o {n p : Nat} (h : rgs n p) : (n = 4 ∨ n = 8 ∨ n = 16) ∧ 5 ≤ p ∧ p < 500 ∧ 1 < p ∧ 0 < p ∧ n ≤ 16 ∧ n < p ∧ 1 ≤ rt n p ∧ rt n p < p ∧ ∀ v, 1 ≤ v → v < p → v ^ (p - 1) % p = 1 := by
  have hr := rgs_rok h
  have hnp := rok_lt hr
  obtain ⟨hn, h5, h500, hprm, hdv⟩ := hr
  have hck := rck_of hn h500 h5 hprm hdv
  exact ⟨hn, h5, h500, by omega, by omega, (lt3 hn).2, hnp, rck_ge hck, rck_lt hck, fun v h1 h2 => ck_fer (ck_of h500 h5 hprm h1 h2)⟩
/-- what the hand counts, cell by cell -/
def ctA (n p b w wi ni : Nat) : Nat → Nat := va_up (va_up (va_up (va_up (va_up (va_up (fun _ => 0) 0 n) 1 p) 2 w) 3 wi) 4 ni) 5 b
theorem ctA_e {n p b w wi ni k : Nat} (hk : k < 6) : ct n p b w wi ni k = ctA n p b w wi ni k := by
  rcases (show k = 0 ∨ k = 1 ∨ k = 2 ∨ k = 3 ∨ k = 4 ∨ k = 5 by omega) with rfl | rfl | rfl | rfl | rfl | rfl <;> rfl
/-- a row's things, told by the row alone -/
theorem smR_e {A : Nat → Nat} {r : Nat} : ∀ k, sm A r k = smR (fun k => A (16 * r + k)) k
  | 0 => rfl
  | k + 1 => by rw [sm, smR, smR_e k]
theorem grR_e {A : Nat → Nat} {r : Nat} : ∀ k, gr A r k = grR (fun k => A (16 * r + k)) k
  | 0 => rfl
  | k + 1 => by rw [gr, grR, grR_e k]
theorem lnR_e {A : Nat → Nat} {r : Nat} : ∀ k, ln A r k = lnR (fun k => A (16 * r + k)) k
  | 0 => rfl
  | k + 1 => by rw [ln, lnR, lnR_e k]
theorem cc_0 {P : Nat → Bool} : ∀ k, (cc P k = 0 ↔ ∀ j, j < k → P j = false)
  | 0 => ⟨fun _ j h => absurd h (by omega), fun _ => rfl⟩
  | k + 1 => by
    have h := cc_0 (P := P) k
    constructor
    · intro z j hj
      rw [cc] at z
      have z1 : cc P k = 0 := by omega
      rcases Nat.lt_or_ge j k with q | q
      · exact h.mp z1 j q
      · rw [show j = k by omega]
        cases e : P k
        · rfl
        · rw [e] at z; simp at z
    · intro z
      rw [cc, h.mpr (fun j hj => z j (by omega)), z k (by omega)]; rfl
theorem fs_cq {P Q : Nat → Bool} : ∀ c k, (∀ j, k ≤ j → j < k + c → P j = Q j) → fs P c k = fs Q c k
  | 0, _, _ => rfl
  | c + 1, k, h => by
    rw [fs, fs, fs_cq c (k + 1) (fun j h1 h2 => h j (by omega) (by omega)), h k (by omega) (by omega)]
theorem unR_0 {R S : Nat → Nat} {n : Nat} : (unR R S n = 0 ↔ ∀ k, k < n → R k = S k) := by
  unfold unR
  rw [cc_0]
  constructor
  · intro h k hk
    have := of_decide_eq_false (h k hk)
    exact Decidable.of_not_not this
  · intro h k hk
    exact decide_eq_false (fun z => z (h k hk))
theorem peR_e {n : Nat} {A : Nat → Nat} {r : Nat} (hn : 0 < n) : pe n A r = peR n (fun k => A (16 * r + k)) := by
  unfold pe peR
  refine fs_cq _ _ (fun q h1 h2 => ?_)
  unfold im
  congr 1
  apply propext
  rw [unR_0]
  constructor
  · intro h k hk
    rw [mk_in hk]
    unfold mvR
    show A (16 * r + (k + n - q) % n) = A (16 * r + k)
    rw [h _ (Nat.mod_lt _ hn), (mv_p (show q < n by omega) hk).2]
  · intro h k hk
    have h3 := h ((k + q) % n) (Nat.mod_lt _ hn)
    rw [mk_in (Nat.mod_lt _ hn)] at h3
    unfold mvR at h3
    have h4 : A (16 * r + ((k + q) % n + n - q) % n) = A (16 * r + (k + q) % n) := h3
    rw [(mv_p (show q < n by omega) hk).1] at h4
    exact h4
theorem tl_ab {p n : Nat} {A : Nat → Nat} {r q : Nat} (hn : 0 < n) (hq : q < 5) : tl p n A r q = abR p n (fun k => A (16 * r + k)) q := by
  rcases (show q = 0 ∨ q = 1 ∨ q = 2 ∨ q = 3 ∨ q = 4 by omega) with rfl | rfl | rfl | rfl | rfl
  · show ((sm A r n % p : Nat) : Int) = _; rw [smR_e]; rfl
  · rfl
  · show ln A r n = _; rw [lnR_e]; rfl
  · show ((pe n A r : Nat) : Int) = _; rw [peR_e hn]; rfl
  · show ((gr A r n : Nat) : Int) = _; rw [grR_e]; rfl
theorem bt_le (n : Nat) : bt n ≤ 4 := by unfold bt; split <;> (try split) <;> omega
theorem ct_lt {n p b w wi ni : Nat} (h1 : n < 500) (h2 : p < 500) (h3 : b < 500) (h4 : w < 500) (h5 : wi < 500) (h6 : ni < 500) {k : Nat} : k < 6 → ct n p b w wi ni k < 500 := by
  intro hk
  rcases (show k = 0 ∨ k = 1 ∨ k = 2 ∨ k = 3 ∨ k = 4 ∨ k = 5 by omega) with rfl | rfl | rfl | rfl | rfl | rfl
  · exact h1
  · exact h2
  · exact h4
  · exact h5
  · exact h6
  · exact h3
theorem tl_rg {p n : Nat} {A : Nat → Nat} {r : Nat} (hp : 0 < p) (hp5 : p < 500) (hn : n = 4 ∨ n = 8 ∨ n = 16) (hA : ∀ j, A j < 500) : ∀ k, -2147483648 ≤ tl p n A r k ∧ tl p n A r k < 2147483648
  | 0 => by
    have := Nat.mod_lt (sm A r n) hp
    show -2147483648 ≤ ((sm A r n % p : Nat) : Int) ∧ ((sm A r n % p : Nat) : Int) < 2147483648
    omega
  | 1 => by
    have h := cc_le (fun k => decide (A (16 * r + k) ≠ 0)) n
    have := lt3 hn
    show -2147483648 ≤ ((cc (fun k => decide (A (16 * r + k) ≠ 0)) n : Nat) : Int) ∧ ((cc (fun k => decide (A (16 * r + k) ≠ 0)) n : Nat) : Int) < 2147483648
    omega
  | 2 => by
    have h := ln_rg (A := A) (r := r) n
    have := lt3 hn
    show -2147483648 ≤ ln A r n ∧ ln A r n < 2147483648
    omega
  | 3 => by
    have h := fs_le (P := im n A r r) (n - 1) 1
    have := lt3 hn
    show -2147483648 ≤ ((fs (im n A r r) (n - 1) 1 : Nat) : Int) ∧ ((fs (im n A r r) (n - 1) 1 : Nat) : Int) < 2147483648
    omega
  | _ + 4 => by
    have h := gr_lt (r := r) hA n
    show -2147483648 ≤ ((gr A r n : Nat) : Int) ∧ ((gr A r n : Nat) : Int) < 2147483648
    omega
