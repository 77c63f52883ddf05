/-! ===== rows copied, moved, turned: what the law's last steps want ===== -/
theorem cp_in {n f t k : Nat} {A : Nat → Nat} (hk : k < n) : cp A f t n (16 * t + k) = A (16 * f + k) := by
  unfold cp; rw [if_pos (by omega)]; congr 1; omega
theorem cp_out {n f t i k : Nat} {A : Nat → Nat} (hn : n ≤ 16) (hit : i ≠ t) (hk : k < n) : cp A f t n (16 * i + k) = A (16 * i + k) := by
  unfold cp; rw [if_neg (by omega)]
theorem cm_row {n q a b : Nat} {A : Nat → Nat} (hn : n ≤ 16) (ha : a < 4) (hab : b ≠ a) (hk : ∀ k, k < n → (k + n - q) % n < n) :
    (∀ m, m < n → ly (cp A a b n) (fun m => cp A a b n (16 * b + (m + n - q) % n)) b n (16 * b + m) = ly (cp A a b n) (fun m => cp A a b n (16 * b + (m + n - q) % n)) b n (16 * a + (m + n - q) % n)) ∧ ∀ k, k < n → ly (cp A a b n) (fun m => cp A a b n (16 * b + (m + n - q) % n)) b n (16 * a + k) = A (16 * a + k) := by
  have e : ∀ k, k < n → ly (cp A a b n) (fun m => cp A a b n (16 * b + (m + n - q) % n)) b n (16 * a + k) = A (16 * a + k) := fun k hk => by
    rw [ly_out hn ha (fun z => hab z.symm) hk, cp_out hn (fun z => hab z.symm) hk]
  refine ⟨fun m hm => ?_, e⟩
  rw [e _ (hk m hm), ly_in hm, cp_in (hk m hm)]
theorem tn_row {p n r r2 w k : Nat} {A A2 : Nat → Nat} (hp : 1 < p) (h : ∀ i, i < n → A (16 * r + i) = A2 (16 * r2 + i)) : tn p n A r w 1 k = tn p n A2 r2 w 1 k := by
  rw [tn_su hp, tn_su hp]
  congr 2
  exact su_cg n (fun i hi => by show A (16 * r + i) * w ^ (k * i) = A2 (16 * r2 + i) * w ^ (k * i); rw [h i hi])
theorem ag_tones {n p a b : Nat} {A : Nat → Nat} (hrg : rgs n p) (hab : b ≠ a) : ∀ i, i < 4 → ∀ k, k < n → mr A b (mk (fun _ => 0) (fun k => ts p (rt n p) n (fun k => A (16 * a + k)) k n) n) n (16 * i + k) = ly (cp A a b n) (tn p n (cp A a b n) b (rt n p) 1) b n (16 * i + k) := fun i hi k hk => by
  obtain ⟨hn, hp4, hp5, hp1, hp0, hn16, hnp, hr1, hrl, hfer⟩ := rgs_o hrg
  by_cases e : i = b
  · subst e
    rw [mr_in hk, mk_in hk, ly_in hk, ts_tn hrg hk]
    exact tn_row hp1 (fun j hj => (cp_in hj).symm)
  · rw [ly_out hn16 hi e hk, cp_out hn16 e hk]
    unfold mr; rw [if_neg (by omega)]
theorem im_tones {n p a b : Nat} {A : Nat → Nat} (hrg : rgs n p) (ha : a < 4) (hb : b < 4) (hab : b ≠ a) : im n (sv (ly (cp A a b n) (tn p n (cp A a b n) b (rt n p) 1) b n) (tn p n (ly (cp A a b n) (tn p n (cp A a b n) b (rt n p) 1) b n) a (rt n p) 1) n) 4 b 0 = true := by
  obtain ⟨hn, hp4, hp5, hp1, hp0, hn16, hnp, hr1, hrl, hfer⟩ := rgs_o hrg
  refine im_t (fun k hk => ?_)
  rw [Nat.add_zero, Nat.mod_eq_of_lt hk, sv_lo (show 16 * b + k < 64 by omega), ly_in hk]
  have e : sv (ly (cp A a b n) (tn p n (cp A a b n) b (rt n p) 1) b n) (tn p n (ly (cp A a b n) (tn p n (cp A a b n) b (rt n p) 1) b n) a (rt n p) 1) n (16 * 4 + k) = tn p n (ly (cp A a b n) (tn p n (cp A a b n) b (rt n p) 1) b n) a (rt n p) 1 k := by
    unfold sv; rw [if_pos (by omega)]; congr 1; omega
  rw [e]
  exact tn_row hp1 (fun i hi => by rw [ly_out hn16 ha (fun z => hab z.symm) hi, cp_out hn16 (fun z => hab z.symm) hi, cp_in hi])
theorem SI_sv {n p : Nat} {A G : Nat → Nat} (hS : SI n p A) (hG : ∀ k, k < n → G k < p) : SI n p (sv A G n) := by
  have hp := (rgs_o hS.1).2.2.1
  exact ⟨hS.1, sv_lt hS.2.1 (fun j hj => Nat.lt_trans (hG j hj) hp), fun j hj => by rw [sv_lo hj]; exact hS.2.2 j hj⟩
theorem SI_mv {n p r q : Nat} {A : Nat → Nat} (hS : SI n p A) (hn : n ≤ 16) (hr : r < 4) (hq : ∀ j, (j + n - q) % n < n) : SI n p (ly A (fun m => A (16 * r + (m + n - q) % n)) r n) :=
  SI_ly hS hn hr (fun k _ => hS.2.2 _ (by have := hq k; omega))
