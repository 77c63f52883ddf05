/-! ===== what act's cases want of the numbers ===== -/
theorem wsX10_act : ∀ w ∈ wsX10, w ∈ wsL_act := by decide +kernel
def PA (cI cQ : ClassId) (h a o : Nat) : Option Value → va_W → Prop := fun v w1 => v = some (bV true) ∧ ∃ (n p rr : Nat) (g A : Nat → Nat), SI n p A ∧ w1 = LV cI cQ h a o rr n p g A
theorem SI_mr {n p r : Nat} {A G : Nat → Nat} (hS : SI n p A) (hn : n ≤ 16) (hr : r < 4) (hG : ∀ k, k < n → G k < p) : SI n p (mr A r G n) := by
  obtain ⟨h1, h2, h3⟩ := hS
  have hp := (rgs_o h1).2.2.1
  refine ⟨h1, mr_lt h2 (fun j hj => Nat.lt_trans (hG j hj) hp), fun j hj => ?_⟩
  unfold mr; split
  · exact hG _ (by omega)
  · exact h3 j hj
theorem SI_ly {n p r : Nat} {A G : Nat → Nat} (hS : SI n p A) (hn : n ≤ 16) (hr : r < 4) (hG : ∀ k, k < n → G k < p) : SI n p (ly A G r n) := by
  have hp := (rgs_o hS.1).2.2.1
  refine ⟨hS.1, ly_lt hS.2.1 (fun j hj => Nat.lt_trans (hG j hj) hp), fun j hj => ?_⟩
  rw [ly_lo hn j hj]
  exact (SI_mr hS hn hr hG).2.2 j hj
theorem SI_zf {n p n1 p1 : Nat} {A : Nat → Nat} (h : rgs n1 p1) (hS : SI n p A) : SI n1 p1 (zf A 80) := by
  refine ⟨h, zf_lt hS.2.1, fun j hj => ?_⟩
  unfold zf; rw [if_pos (by omega)]; exact (rgs_o h).2.2.2.2.1
theorem SI_cp {n p f t : Nat} {A : Nat → Nat} (hS : SI n p A) (hf : f < 4) (ht : t < 4) (hn : n ≤ 16) : SI n p (cp A f t n) :=
  SI_mr (G := fun k => A (16 * f + k)) hS hn ht (fun k hk => hS.2.2 _ (by omega))
theorem SI_up {n p j v : Nat} {A : Nat → Nat} (hS : SI n p A) (hj : j < 64) (hv : v < p) : SI n p (va_up A j v) := by
  have hp := (rgs_o hS.1).2.2.1
  refine ⟨hS.1, fun i => ?_, fun i hi => ?_⟩
  · unfold va_up; split
    · omega
    · exact hS.2.1 i
  · unfold va_up; split
    · exact hv
    · exact hS.2.2 i hi
theorem unR_s {R S : Nat → Nat} {n : Nat} : cc (fun j => decide (S j ≠ R j)) n = unR R S n := by
  unfold unR
  exact cc_cg n (fun j _ => by show decide (S j ≠ R j) = decide (R j ≠ S j); rw [decide_eq_decide]; exact ⟨fun h z => h z.symm, fun h z => h z.symm⟩)
theorem unR_m {R G : Nat → Nat} {n : Nat} : cc (fun j => decide (R j ≠ G j)) n = unR (mk (fun _ => 0) G n) R n := by
  unfold unR
  exact cc_cg n (fun j hj => by show decide (R j ≠ G j) = decide (mk (fun _ => 0) G n j ≠ R j); rw [mk_in hj, decide_eq_decide]; exact ⟨fun h z => h z.symm, fun h z => h z.symm⟩)
theorem ag_ly {n r : Nat} {A F G : Nat → Nat} (hn : n ≤ 16) (h : ∀ k, k < n → F k = G k) : ∀ i, i < 4 → ∀ k, k < n → mr A r (mk (fun _ => 0) F n) n (16 * i + k) = ly A G r n (16 * i + k) := fun i hi k hk => by
  rw [ly_lo hn _ (by omega), mr_mk]
  unfold mr; split
  · exact h _ (by omega)
  · rfl
theorem fR_e {p n : Nat} {A : Nat → Nat} {a b q : Nat} : ∀ k, fR p n (fun k => A (16 * a + k)) (fun k => A (16 * b + k)) q k = fo p n A a b q k
  | 0 => rfl
  | k + 1 => by rw [fR, fo, fR_e k]
theorem mi_64 {n r k : Nat} (hn : n = 4 ∨ n = 8 ∨ n = 16) (hr : r < 4) (hk : k < n) : 16 * r + mi k (bt n) < 64 := by
  have h := (mi_p n (by omega) hn k (by omega) hk).1
  omega
