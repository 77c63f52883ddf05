/-! ===== orders, folds, periods, checksums: what the law's rounds ask ===== -/
theorem fs_hit {P : Nat → Bool} : ∀ c k, fs P c k < k + c → P (fs P c k) = true
  | 0, k, h => by rw [fs] at h; omega
  | c + 1, k, h => by
    rw [fs] at h ⊢
    by_cases e : P k = true
    · rw [if_pos e]; exact e
    · rw [if_neg e] at h ⊢; exact fs_hit c (k + 1) (by omega)
theorem fs_no {P : Nat → Bool} : ∀ c k j, k ≤ j → j < fs P c k → P j = false
  | 0, k, j, h1, h2 => by rw [fs] at h2; omega
  | c + 1, k, j, h1, h2 => by
    rw [fs] at h2
    by_cases e : P k = true
    · rw [if_pos e] at h2; omega
    · rw [if_neg e] at h2
      rcases Nat.lt_or_ge k j with z | z
      · exact fs_no c (k + 1) j (by omega) h2
      · rw [show j = k by omega]; exact Bool.eq_false_iff.mpr e
theorem fs_of {P : Nat → Bool} {c k t : Nat} (h1 : k ≤ t) (h2 : t < k + c) (ht : P t = true) (hno : ∀ j, k ≤ j → j < t → P j = false) : fs P c k = t := by
  rcases Nat.lt_trichotomy (fs P c k) t with z | z | z
  · have h := fs_hit c k (show fs P c k < k + c by omega)
    rw [hno _ (fs_le c k).1 z] at h; cases h
  · exact z
  · have h := fs_no c k t h1 z
    rw [ht] at h; cases h
theorem od_is {p v : Nat} (hp : 1 < p) (hex : v ^ (p - 1) % p = 1) : 1 ≤ od p v ∧ od p v ≤ p - 1 ∧ v ^ od p v % p = 1 ∧ ∀ j, 1 ≤ j → j < od p v → ¬ v ^ j % p = 1 := by
  have hl := fs_le (P := fun k => decide (v ^ k % p = 1)) (p - 1) 1
  have hno := fs_no (P := fun k => decide (v ^ k % p = 1)) (p - 1) 1
  have h2 : od p v ≤ p - 1 := by
    rcases Nat.lt_or_ge (p - 1) (od p v) with z | z
    · exact absurd hex (of_decide_eq_false (hno (p - 1) (by omega) z))
    · exact z
  have hh := fs_hit (P := fun k => decide (v ^ k % p = 1)) (p - 1) 1 (show od p v < 1 + (p - 1) by omega)
  exact ⟨hl.1, h2, of_decide_eq_true hh, fun j h3 h4 => of_decide_eq_false (hno j h3 h4)⟩
theorem od_dvd {p v : Nat} (hp : 1 < p) (hex : v ^ (p - 1) % p = 1) : (p - 1) % od p v = 0 := by
  obtain ⟨h1, h2, h3, h4⟩ := od_is hp hex
  have h5 : v ^ ((p - 1) % od p v) % p = 1 := by rw [pow_mn h3]; exact hex
  have h6 := Nat.mod_lt (p - 1) (show od p v > 0 by omega)
  rcases Nat.eq_zero_or_pos ((p - 1) % od p v) with z | z
  · exact z
  · exact absurd h5 (h4 _ z h6)
theorem iv_mul {p v : Nat} (hp : 1 < p) (hv : v < p) (hex : v ^ (p - 1) % p = 1) : v * (v ^ (p - 2) % p) % p = 1 := by rw [Nat.mul_comm]; exact (iv_is hp hv hex).2.1
theorem od_inv {p v : Nat} (hp : 1 < p) (hv : v < p) (hex : v ^ (p - 1) % p = 1) : od p (v ^ (p - 2) % p) = od p v := by
  have hm := iv_mul hp hv hex
  refine fs_cg (fun k => ?_) (p - 1) 1
  show decide ((v ^ (p - 2) % p) ^ k % p = 1) = decide (v ^ k % p = 1)
  rw [decide_eq_decide]
  have e : v ^ k * (v ^ (p - 2) % p) ^ k % p = 1 := by rw [← Nat.mul_pow, Nat.pow_mod, hm, Nat.one_pow, Nat.mod_eq_of_lt hp]
  constructor
  · intro h; rw [← mm4, h, Nat.mul_one] at e; exact e
  · intro h; rw [← mm3, h, Nat.one_mul] at e; exact e
theorem od_one {p v : Nat} (hp : 1 < p) (hv : v < p) (hex : v ^ (p - 1) % p = 1) : (od p v = 1 ↔ v = 1) := by
  obtain ⟨h1, h2, h3, h4⟩ := od_is hp hex
  constructor
  · intro h; rw [h, Nat.pow_one, Nat.mod_eq_of_lt hv] at h3; exact h3
  · intro h
    rcases Nat.lt_or_ge 1 (od p v) with z | z
    · exact absurd (by rw [h, Nat.pow_one, Nat.mod_eq_of_lt hp]) (h4 1 (by omega) z)
    · omega
theorem od_rt {n p : Nat} (h : rgs n p) : od p (rt n p) = n := by
  have hr := rgs_rok h
  obtain ⟨hn, h5, h500, hprm, hdv⟩ := hr
  exact rck_is (rck_of hn h500 h5 hprm hdv)
/-! folds -/
theorem fo_su {p n : Nat} {A : Nat → Nat} {a b q : Nat} : fo p n A a b q n = su (fun i => A (16 * a + i) * A (16 * b + (q + n - i) % n)) n % p :=
  acc_su (r := fo p n A a b q) rfl (fun _ => rfl) n
theorem rf_rf {n q i : Nat} (hq : q < n) (hi : i < n) : (q + n - (q + n - i) % n) % n = i := by
  rcases Nat.lt_or_ge q i with z | z
  · rw [Nat.mod_eq_of_lt (show q + n - i < n by omega), show q + n - (q + n - i) = i by omega, Nat.mod_eq_of_lt hi]
  · rw [show q + n - i = (q - i) + n by omega, Nat.add_mod_right, Nat.mod_eq_of_lt (show q - i < n by omega), show q + n - (q - i) = i + n by omega, Nat.add_mod_right, Nat.mod_eq_of_lt hi]
theorem fo_comm {p n : Nat} {A : Nat → Nat} {a b q : Nat} (hq : q < n) : fo p n A a b q n = fo p n A b a q n := by
  rw [fo_su, fo_su]
  congr 1
  rw [← su_ref (f := fun x => A (16 * b + x) * A (16 * a + (q + n - x) % n)) (q := q)]
  exact su_cg n (fun i hi => by
    show A (16 * a + i) * A (16 * b + (q + n - i) % n) = A (16 * b + (q + n - i) % n) * A (16 * a + (q + n - (q + n - i) % n) % n)
    rw [rf_rf hq hi, Nat.mul_comm])
theorem sm_su {A : Nat → Nat} {r : Nat} : ∀ n, sm A r n = su (fun i => A (16 * r + i)) n
  | 0 => rfl
  | n + 1 => by rw [sm, su, sm_su n]
theorem fo_sum {p n : Nat} {A : Nat → Nat} {a b : Nat} : su (fun q => fo p n A a b q n) n % p = sm A a n % p * (sm A b n % p) % p := by
  have e : su (fun q => fo p n A a b q n) n % p = su (fun q => su (fun i => A (16 * a + i) * A (16 * b + (q + n - i) % n)) n) n % p :=
    su_mg n (fun q hq => by show fo p n A a b q n % p = su (fun i => A (16 * a + i) * A (16 * b + (q + n - i) % n)) n % p; rw [fo_su, Nat.mod_mod])
  rw [e, su_swap, mm3, mm4, sm_su, sm_su, Nat.mul_comm (su (fun i => A (16 * a + i)) n), ← su_mul]
  congr 1
  exact su_cg n (fun i hi => by
    show su (fun q => A (16 * a + i) * A (16 * b + (q + n - i) % n)) n = su (fun i => A (16 * b + i)) n * A (16 * a + i)
    rw [su_mul, Nat.mul_comm, ← su_rot (f := fun x => A (16 * b + x)) (n - i)]
    congr 1
    exact su_cg n (fun q hq => by show A (16 * b + (q + n - i) % n) = A (16 * b + (q + (n - i)) % n); congr 3; omega))
theorem fo_500 {p n : Nat} {A : Nat → Nat} {a b : Nat} (hp : 0 < p) (hp5 : p < 500) : ∀ k, su (fun q => fo p n A a b q n) k ≤ 499 * k
  | 0 => Nat.le_refl 0
  | k + 1 => by
    have h1 := fo_500 (A := A) (n := n) (a := a) (b := b) hp hp5 k
    have h2 := fo_lt (A := A) (n := n) (a := a) (b := b) (q := k) hp n
    rw [su]
    show _ + fo p n A a b k n ≤ _
    omega
theorem pv_1 {p n : Nat} {A : Nat → Nat} {r : Nat} (hp : 0 < p) : pv p n A r 1 = sm A r n % p := by
  rw [pv_su hp, sm_su]
  congr 1
  exact su_cg n (fun i _ => by show A (16 * r + i) * 1 ^ i = A (16 * r + i); rw [Nat.one_pow, Nat.mul_one])
theorem pv_0 {p n : Nat} {A : Nat → Nat} {r : Nat} (hp : 0 < p) (hn : 0 < n) (hA : A (16 * r + 0) < p) : pv p n A r 0 = A (16 * r + 0) := by
  rw [pv_su hp]
  obtain ⟨m, rfl⟩ : ∃ m, n = m + 1 := ⟨n - 1, by omega⟩
  rw [su_first, Nat.pow_zero, Nat.mul_one]
  have e : su (fun i => A (16 * r + (i + 1)) * 0 ^ (i + 1)) m = 0 := by
    refine (su_cg (g := fun _ => 0) m (fun i _ => ?_)).trans (su_zero m)
    show A (16 * r + (i + 1)) * 0 ^ (i + 1) = 0
    rw [Nat.pow_succ, Nat.mul_zero, Nat.mul_zero]
  rw [e, Nat.add_zero, Nat.mod_eq_of_lt hA]
theorem tn_0 {p n : Nat} {A : Nat → Nat} {r w : Nat} (hp : 1 < p) : tn p n A r w 1 0 = sm A r n % p := by
  rw [tn_su hp, Nat.mul_one, sm_su]
  congr 1
  exact su_cg n (fun i _ => by show A (16 * r + i) * w ^ (0 * i) = A (16 * r + i); rw [Nat.zero_mul, Nat.pow_zero, Nat.mul_one])
theorem pv_tn {p n : Nat} {A : Nat → Nat} {r w k : Nat} (hp : 1 < p) : pv p n A r (w ^ k % p) = tn p n A r w 1 k := by
  unfold tn
  rw [Nat.mul_one, pw_pow hp, Nat.mod_eq_of_lt (pv_lt (by omega))]
theorem p2_bt {n : Nat} (hn : n = 4 ∨ n = 8 ∨ n = 16) : 2 ^ bt n = n := by rcases hn with rfl | rfl | rfl <;> rfl
/-! what a row tells -/
theorem ln_0 {A : Nat → Nat} {r : Nat} : ∀ n, (ln A r n < 0 ↔ ∀ k, k < n → A (16 * r + k) = 0)
  | 0 => ⟨fun _ k h => absurd h (by omega), fun _ => show (-1 : Int) < 0 by decide⟩
  | n + 1 => by
    have h := ln_0 (A := A) (r := r) n
    constructor
    · intro z k hk
      rw [ln] at z
      by_cases e : A (16 * r + n) = 0
      · rw [if_pos e] at z
        rcases Nat.lt_or_ge k n with q | q
        · exact h.mp z k q
        · rw [show k = n by omega]; exact e
      · rw [if_neg e] at z; omega
    · intro z
      rw [ln, if_pos (z n (by omega))]
      exact h.mpr (fun k hk => z k (by omega))
theorem gr_z {A : Nat → Nat} {r : Nat} : ∀ n, (gr A r n = 0 ↔ ∀ k, k < n → A (16 * r + k) = 0)
  | 0 => ⟨fun _ k h => absurd h (by omega), fun _ => rfl⟩
  | n + 1 => by
    have h := gr_z (A := A) (r := r) n
    constructor
    · intro z k hk
      rw [gr] at z
      split at z
      · omega
      · rcases Nat.lt_or_ge k n with q | q
        · exact h.mp z k q
        · rw [show k = n by omega]; omega
    · intro z
      rw [gr, z n (by omega), h.mpr (fun k hk => z k (by omega))]; rfl
theorem oc_0 {A : Nat → Nat} {r n : Nat} : (cc (fun k => decide (A (16 * r + k) ≠ 0)) n = 0 ↔ ∀ k, k < n → A (16 * r + k) = 0) := by
  rw [cc_0]
  constructor
  · intro h k hk; exact Decidable.of_not_not (of_decide_eq_false (h k hk))
  · intro h k hk; exact decide_eq_false (fun z => z (h k hk))
/-! periods -/
def PS (n : Nat) (R : Nat → Nat) (s : Nat) : Prop := ∀ k, k < n → R k = R ((k + s) % n)
theorem PS_n {n : Nat} {R : Nat → Nat} : PS n R n := fun k hk => by rw [Nat.add_mod_right, Nat.mod_eq_of_lt hk]
theorem PS_0 {n : Nat} {R : Nat → Nat} : PS n R 0 := fun k hk => by rw [Nat.add_zero, Nat.mod_eq_of_lt hk]
theorem PS_sub {n s d : Nat} {R : Nat → Nat} (hd : PS n R d) (hs : PS n R s) (h : d ≤ s) : PS n R (s - d) := fun k hk => by
  have h1 := hd ((k + (s - d)) % n) (Nat.mod_lt _ (by omega))
  rw [Nat.mod_add_mod, show k + (s - d) + d = k + s by omega] at h1
  rw [h1]; exact hs k hk
theorem PS_mod {n d : Nat} {R : Nat → Nat} (hd : PS n R d) (h0 : 0 < d) : ∀ s, PS n R s → PS n R (s % d) := fun s => by
  induction s using Nat.strongRecOn with
  | ind s ih =>
    intro hs
    rcases Nat.lt_or_ge s d with z | z
    · rw [Nat.mod_eq_of_lt z]; exact hs
    · rw [Nat.mod_eq_sub_mod z]; exact ih (s - d) (by omega) (PS_sub hd hs z)
theorem PS_add {n s d : Nat} {R : Nat → Nat} (hd : PS n R d) (hs : PS n R s) : PS n R (s + d) := fun k hk => by
  have h1 := hd ((k + s) % n) (Nat.mod_lt _ (by omega))
  rw [Nat.mod_add_mod] at h1
  rw [hs k hk, h1, Nat.add_assoc]
theorem PS_mul {n d : Nat} {R : Nat → Nat} (hd : PS n R d) : ∀ c, PS n R (d * c)
  | 0 => PS_0
  | c + 1 => PS_add hd (PS_mul hd c)
theorem im_PS {n : Nat} {A : Nat → Nat} {a q : Nat} : im n A a a q = true ↔ PS n (fun k => A (16 * a + k)) q := by
  unfold im; rw [decide_eq_true_eq]; rfl
theorem pe_is {n : Nat} {A : Nat → Nat} {a : Nat} (hn : 0 < n) : 1 ≤ pe n A a ∧ pe n A a ≤ n ∧ PS n (fun k => A (16 * a + k)) (pe n A a) ∧ ∀ s, PS n (fun k => A (16 * a + k)) s → s % pe n A a = 0 := by
  have hl := fs_le (P := im n A a a) (n - 1) 1
  have h1 : 1 ≤ pe n A a := hl.1
  have h2 : pe n A a ≤ n := by have := hl.2; unfold pe; omega
  have h3 : PS n (fun k => A (16 * a + k)) (pe n A a) := by
    rcases Nat.lt_or_ge (pe n A a) n with z | z
    · exact im_PS.mp (fs_hit (n - 1) 1 (show fs (im n A a a) (n - 1) 1 < 1 + (n - 1) by unfold pe at z; omega))
    · rw [show pe n A a = n by omega]; exact PS_n
  refine ⟨h1, h2, h3, fun s hs => ?_⟩
  have h4 := PS_mod h3 h1 s hs
  have h5 := Nat.mod_lt s (show pe n A a > 0 by omega)
  rcases Nat.eq_zero_or_pos (s % pe n A a) with z | z
  · exact z
  · have h6 := fs_no (P := im n A a a) (n - 1) 1 (s % pe n A a) z h5
    rw [im_PS.mpr h4] at h6; cases h6
theorem pe_dvd {n : Nat} {A : Nat → Nat} {a : Nat} (hn : 0 < n) : n % pe n A a = 0 := (pe_is hn).2.2.2 n PS_n
theorem cm_aa {n : Nat} {A : Nat → Nat} {a : Nat} (hn : 0 < n) : cm n A a a = 0 := by
  have e : fs (im n A a a) n 0 = 0 := fs_of (Nat.le_refl 0) (by omega) (im_PS.mpr PS_0) (fun j _ h => absurd h (by omega))
  unfold cm; rw [e, if_pos hn]; rfl
theorem cm_lt {n : Nat} {A : Nat → Nat} {a b : Nat} (hn : 0 < n) : cm n A a b < (pe n A a : Int) := by
  obtain ⟨h1, h2, h3, h4⟩ := pe_is (A := A) (a := a) hn
  unfold cm
  split
  · rename_i z
    have hh := fs_hit (P := im n A a b) n 0 (by omega)
    have hq : ∀ k, k < n → A (16 * a + k) = A (16 * b + (k + fs (im n A a b) n 0) % n) := of_decide_eq_true hh
    rcases Nat.lt_or_ge (fs (im n A a b) n 0) (pe n A a) with y | y
    · omega
    · exfalso
      have h5 : im n A a b (fs (im n A a b) n 0 - pe n A a) = true := im_t (fun k hk => by
        have hx := Nat.mod_lt (k + n - pe n A a) hn
        have e1 : A (16 * a + (k + n - pe n A a) % n) = A (16 * a + ((k + n - pe n A a) % n + pe n A a) % n) := h3 _ hx
        rw [Nat.mod_add_mod, show k + n - pe n A a + pe n A a = k + n by omega, Nat.add_mod_right, Nat.mod_eq_of_lt hk] at e1
        rw [← e1, hq _ hx, Nat.mod_add_mod]
        congr 2
        rw [show k + n - pe n A a + fs (im n A a b) n 0 = k + (fs (im n A a b) n 0 - pe n A a) + n by omega, Nat.add_mod_right])
      have h6 := fs_no (P := im n A a b) n 0 (fs (im n A a b) n 0 - pe n A a) (Nat.zero_le _) (by omega)
      rw [h5] at h6; cases h6
  · omega
/-- a row and the same row moved by q -/
theorem mv_im {n : Nat} {A : Nat → Nat} {a b q : Nat} (hq : q < n) (h : ∀ m, m < n → A (16 * b + m) = A (16 * a + (m + n - q) % n)) (t : Nat) : im n A a b t = true ↔ PS n (fun k => A (16 * a + k)) (t + n - q) := by
  unfold im
  rw [decide_eq_true_eq]
  have e : ∀ k, k < n → A (16 * b + (k + t) % n) = A (16 * a + (k + (t + n - q)) % n) := fun k hk => by
    rw [h _ (Nat.mod_lt _ (by omega))]
    congr 2
    rw [show (k + t) % n + n - q = (k + t) % n + (n - q) by omega, Nat.mod_add_mod]
    congr 1; omega
  constructor
  · intro z k hk; show A (16 * a + k) = A (16 * a + (k + (t + n - q)) % n); rw [← e k hk]; exact z k hk
  · intro z k hk; rw [e k hk]; exact z k hk
theorem cm_mv {n : Nat} {A : Nat → Nat} {a b q : Nat} (hq : q < n) (h : ∀ m, m < n → A (16 * b + m) = A (16 * a + (m + n - q) % n)) : cm n A a b = ((q % pe n A a : Nat) : Int) := by
  obtain ⟨h1, h2, h3, h4⟩ := pe_is (A := A) (a := a) (show 0 < n by omega)
  have hd := pe_dvd (A := A) (a := a) (show 0 < n by omega)
  have hml := Nat.mod_lt q (show pe n A a > 0 by omega)
  have e : fs (im n A a b) n 0 = q % pe n A a := by
    refine fs_of (Nat.zero_le _) (by omega) ((mv_im hq h _).mpr ?_) (fun j _ hj => ?_)
    · obtain ⟨c, hc⟩ := Nat.dvd_of_mod_eq_zero hd
      have h5 := Nat.mod_add_div q (pe n A a)
      have h6 : q / pe n A a ≤ c := by
        rcases Nat.lt_or_ge c (q / pe n A a) with z | z
        · have := Nat.mul_le_mul (Nat.le_refl (pe n A a)) (show c ≤ q / pe n A a by omega); omega
        · exact z
      have h7 : q % pe n A a + n - q = pe n A a * (c - q / pe n A a) := by
        rw [Nat.mul_sub, ← hc]; omega
      rw [h7]; exact PS_mul h3 _
    · rw [Bool.eq_false_iff]
      intro z
      have h5 := h4 _ ((mv_im hq h j).mp z)
      obtain ⟨c, hc⟩ := Nat.dvd_of_mod_eq_zero h5
      obtain ⟨c2, hc2⟩ := Nat.dvd_of_mod_eq_zero hd
      have h6 := Nat.mod_add_div q (pe n A a)
      have h8 : j + pe n A a * c2 = pe n A a * (c + q / pe n A a) + q % pe n A a := by rw [Nat.mul_add]; omega
      have h9 : (j + pe n A a * c2) % pe n A a = j := by rw [Nat.add_mul_mod_self_left, Nat.mod_eq_of_lt (by omega)]
      rw [h8, Nat.add_comm, Nat.add_mul_mod_self_left, Nat.mod_mod] at h9
      omega
  unfold cm
  rw [e, if_pos (by omega)]
theorem mv_back {n : Nat} {A : Nat → Nat} {a b q : Nat} (hq : q < n) (h : ∀ m, m < n → A (16 * b + m) = A (16 * a + (m + n - q) % n)) : ∀ m, m < n → A (16 * a + m) = A (16 * b + (m + q) % n) := fun m hm => by
  rw [h _ (Nat.mod_lt _ (by omega)), (mv_p hq hm).1]
theorem pe_mv {n : Nat} {A : Nat → Nat} {a b q : Nat} (hq : q < n) (h : ∀ m, m < n → A (16 * b + m) = A (16 * a + (m + n - q) % n)) : pe n A b = pe n A a := by
  refine fs_cg (fun t => ?_) (n - 1) 1
  rw [Bool.eq_iff_iff, im_PS, im_PS]
  have hb := mv_back hq h
  constructor
  · intro z k hk
    show A (16 * a + k) = A (16 * a + (k + t) % n)
    have h1 : A (16 * b + (k + q) % n) = A (16 * b + ((k + q) % n + t) % n) := z _ (Nat.mod_lt _ (by omega))
    rw [hb k hk, hb _ (Nat.mod_lt _ (by omega)), h1, Nat.mod_add_mod, Nat.mod_add_mod]
    congr 3; omega
  · intro z k hk
    show A (16 * b + k) = A (16 * b + (k + t) % n)
    have h1 : A (16 * a + (k + n - q) % n) = A (16 * a + ((k + n - q) % n + t) % n) := z _ (Nat.mod_lt _ (by omega))
    rw [h k hk, h1, h _ (Nat.mod_lt _ (by omega)), Nat.mod_add_mod]
    congr 2
    rw [show (k + t) % n + n - q = (k + t) % n + (n - q) by omega, Nat.mod_add_mod]
    congr 1; omega
theorem sm_mv {n : Nat} {A : Nat → Nat} {a b q : Nat} (hq : q < n) (h : ∀ m, m < n → A (16 * b + m) = A (16 * a + (m + n - q) % n)) : sm A b n = sm A a n := by
  rw [sm_su, sm_su, ← su_rot (f := fun x => A (16 * a + x)) (n - q)]
  exact su_cg n (fun m hm => by
    show A (16 * b + m) = A (16 * a + (m + (n - q)) % n)
    rw [h m hm]; congr 3; omega)
/-! the checksum; the same numbers at the living places -/
def LiS (n : Nat) (A B : Nat → Nat) : Prop := ∀ i, i < 4 → ∀ k, k < n → A (16 * i + k) = B (16 * i + k)
theorem LiS.rf {n : Nat} {A : Nat → Nat} : LiS n A A := fun _ _ _ _ => rfl
theorem LiS.sy {n : Nat} {A B : Nat → Nat} (h : LiS n A B) : LiS n B A := fun i hi k hk => (h i hi k hk).symm
theorem LiS.tr {n : Nat} {A B E : Nat → Nat} (h : LiS n A B) (g : LiS n B E) : LiS n A E := fun i hi k hk => (h i hi k hk).trans (g i hi k hk)
def DG (n p : Nat) (A : Nat → Nat) : Int64 := drs p n (rt n p) A (dgc (fun k => ((ct n p (bt n) (rt n p) (rt n p ^ (p - 2) % p) (n ^ (p - 2) % p) k : Nat) : Int)) 1777 6) 4
theorem drs_l {p n w : Nat} {A B : Nat → Nat} {d : Int64} (hn : 0 < n) (h : LiS n A B) : ∀ r, r ≤ 4 → drs p n w A d r = drs p n w B d r
  | 0, _ => rfl
  | r + 1, hr => by rw [drs, drs, drs_l hn h r (by omega), dro_cg hn (fun k hk => h r (by omega) k hk)]
theorem DG_l {n p : Nat} {A B : Nat → Nat} (hn : 0 < n) (h : LiS n A B) : DG n p A = DG n p B := drs_l hn h 4 (Nat.le_refl 4)
/-- after an operation on a row: the row is what G says, the others as they were -/
theorem LiS_ly {n r : Nat} {A G : Nat → Nat} (hn : n ≤ 16) (hG : ∀ k, k < n → G k = A (16 * r + k)) : LiS n (ly A G r n) A := fun i hi k hk => by
  rw [ly_lo hn _ (by omega)]
  unfold mr; split
  · rw [hG _ (by omega)]; congr 1; omega
  · rfl
theorem ly_in {n r : Nat} {A G : Nat → Nat} {k : Nat} (hk : k < n) : ly A G r n (16 * r + k) = G k := ly_at hk
theorem ly_out {n r : Nat} {A G : Nat → Nat} {i k : Nat} (hn : n ≤ 16) (hi : i < 4) (hr : i ≠ r) (hk : k < n) : ly A G r n (16 * i + k) = A (16 * i + k) := by
  rw [ly_lo hn _ (by omega)]
  unfold mr; rw [if_neg (by omega)]
/-- twice on one row: the first leaves G, the second G2, which is the row as it was -/
theorem LiS_ly2 {n r : Nat} {A G G2 : Nat → Nat} (hn : n ≤ 16) (hG : ∀ k, k < n → G2 k = A (16 * r + k)) : LiS n (ly (ly A G r n) G2 r n) A := fun i hi k hk => by
  by_cases e : i = r
  · subst e; rw [ly_in hk]; exact hG k hk
  · rw [ly_out hn hi e hk, ly_out hn hi e hk]
theorem mi_2 {n r k : Nat} {A : Nat → Nat} (hn : n = 4 ∨ n = 8 ∨ n = 16) (hk : k < n) : ly A (fun m => A (16 * r + mi m (bt n))) r n (16 * r + mi k (bt n)) = A (16 * r + k) := by
  have h := mi_p n (by omega) hn k (by omega) hk
  rw [ly_in h.1, h.2]
theorem mi_cc {n r : Nat} {A : Nat → Nat} (hn : n = 4 ∨ n = 8 ∨ n = 16) : cc (fun j => decide (ly A (fun m => A (16 * r + mi m (bt n))) r n (16 * r + j) ≠ (fun m => ly A (fun m => A (16 * r + mi m (bt n))) r n (16 * r + mi m (bt n))) j)) n = cc (fun j => decide (A (16 * r + j) ≠ (fun m => A (16 * r + mi m (bt n))) j)) n :=
  cc_cg n (fun j hj => by
    show decide (ly A (fun m => A (16 * r + mi m (bt n))) r n (16 * r + j) ≠ ly A (fun m => A (16 * r + mi m (bt n))) r n (16 * r + mi j (bt n))) = decide (A (16 * r + j) ≠ A (16 * r + mi j (bt n)))
    rw [mi_2 hn hj, ly_in hj, decide_eq_decide]
    exact ⟨fun h z => h z.symm, fun h z => h z.symm⟩)
theorem mv_2 {n r q k : Nat} {A : Nat → Nat} (hq : q < n) (hk : k < n) : ly A (fun m => A (16 * r + (m + n - q) % n)) r n (16 * r + (k + n - (n - q) % n) % n) = A (16 * r + k) := by
  rw [ly_in (Nat.mod_lt _ (by omega))]
  congr 2
  rcases Nat.eq_zero_or_pos q with z | z
  · subst z
    have e : (n - 0) % n = 0 := by rw [Nat.sub_zero, Nat.mod_self]
    rw [e, Nat.sub_zero, Nat.sub_zero, Nat.add_mod_right, Nat.mod_mod, Nat.add_mod_right, Nat.mod_eq_of_lt hk]
  · rw [Nat.mod_eq_of_lt (show n - q < n by omega), show k + n - (n - q) = k + q by omega]
    exact (mv_p hq hk).1
