/-! ===== the law's body: what holds between two of its rounds ===== -/
theorem upL0 (f : Nat → Int64) (x : Int64) : vp_updL f 0 x 0 = x := by simp [vp_updL]
theorem upF0 (f : Nat → UInt64) (x : UInt64) : vf_upd f 0 x 0 = x := by simp [vf_upd]
def LI (n p : Nat) (A B M : Nat → Nat) : Prop := rok n p ∧ (∀ j, A j < 500) ∧ (∀ j, j < 64 → A j = B j) ∧ (∀ j, B j < 500) ∧ (∀ j, j < 64 → A j < p) ∧ (∀ j, M j < 500)
def wL (cI cJ cD : ClassId) (hx a hm r d o od n p th : Nat) (A B M : Nat → Nat) (f : Nat → Int64) (g : Nat → UInt64) : va_W := wX cI hx a n p (bt n) (rt n p) (rt n p ^ (p - 2) % p) (n ^ (p - 2) % p) A ++ (wM cI hm r d th n p (rt n p) (bt n) B M ++ (wO cJ o f ++ wE cD od g))
theorem bt_lt {n : Nat} (hn : n = 4 ∨ n = 8 ∨ n = 16) : bt n < 5 := by
  rcases hn with rfl | rfl | rfl <;> decide
theorem rok_w {n p : Nat} (h : rok n p) : 1 ≤ rt n p ∧ rt n p < p :=
  ⟨rck_ge (rck_of h.1 h.2.2.1 h.2.1 h.2.2.2.1 h.2.2.2.2), rck_lt (rck_of h.1 h.2.2.1 h.2.1 h.2.2.2.1 h.2.2.2.2)⟩
theorem LI_mr {n p : Nat} {A B M M' : Nat → Nat} (I : LI n p A B M) {r : Nat} {gA gB : Nat → Nat} (hr : r < 4) (hg : ∀ k, k < n → gA k = gB k) (hp : ∀ k, k < n → gA k < p) (hM : ∀ j, M' j < 500) : LI n p (mr A r gA n) (mr B r gB n) M' := by
  obtain ⟨hro, hA, hAB, hB, hAp, -⟩ := I
  have h5 := hro.2.2.1
  have h16 := (lt3 hro.1).2
  refine ⟨hro, mr_lt hA (fun j hj => Nat.lt_trans (hp j hj) h5), fun j hj => ?_, mr_lt hB (fun j hj => by rw [← hg j hj]; exact Nat.lt_trans (hp j hj) h5), fun j hj => ?_, hM⟩
  · unfold mr
    by_cases q : 16 * r ≤ j ∧ j < 16 * r + n
    · rw [if_pos q, if_pos q]; exact hg _ (by omega)
    · rw [if_neg q, if_neg q]; exact hAB j hj
  · unfold mr
    by_cases q : 16 * r ≤ j ∧ j < 16 * r + n
    · rw [if_pos q]; exact hp _ (by omega)
    · rw [if_neg q]; exact hAp j hj
theorem LI_A {n p : Nat} {A A' B M : Nat → Nat} (I : LI n p A B M) (hA : ∀ j, A' j < 500) (h : ∀ j, j < 64 → A' j = A j) : LI n p A' B M := by
  obtain ⟨hro, -, hAB, hB, hAp, hM⟩ := I
  exact ⟨hro, hA, fun j hj => (h j hj).trans (hAB j hj), hB, fun j hj => by rw [h j hj]; exact hAp j hj, hM⟩
theorem LI_M {n p : Nat} {A B M M' : Nat → Nat} (I : LI n p A B M) (hM : ∀ j, M' j < 500) : LI n p A B M' := by
  obtain ⟨hro, hA, hAB, hB, hAp, -⟩ := I
  exact ⟨hro, hA, hAB, hB, hAp, hM⟩
theorem LI_ly {n p : Nat} {A B M M' : Nat → Nat} (I : LI n p A B M) {r : Nat} {gA gB : Nat → Nat} (hr : r < 4) (hg : ∀ k, k < n → gA k = gB k) (hp : ∀ k, k < n → gA k < p) (hM : ∀ j, M' j < 500) : LI n p (ly A gA r n) (mr B r gB n) M' :=
  LI_A (LI_mr I hr hg hp hM) (ly_lt I.2.1 (fun j hj => Nat.lt_trans (hp j hj) I.1.2.2.1)) (fun j hj => ly_lo (lt3 I.1.1).2 j hj)
theorem up_lt9 {A : Nat → Nat} {q v c : Nat} (hv : v < c) : ∀ j, A j < c → va_up A q v j < c := fun j h => by
  unfold va_up
  by_cases e : j = q
  · rw [if_pos e]; exact hv
  · rw [if_neg e]; exact h
theorem LI_up {n p : Nat} {A B M : Nat → Nat} (I : LI n p A B M) {q v : Nat} (hv : v < p) : LI n p (va_up A q v) (va_up B q v) M := by
  obtain ⟨hro, hA, hAB, hB, hAp, hM⟩ := I
  have h5 : v < 500 := Nat.lt_trans hv hro.2.2.1
  refine ⟨hro, fun j => up_lt9 h5 j (hA j), fun j hj => ?_, fun j => up_lt9 h5 j (hB j), fun j hj => up_lt9 hv j (hAp j hj), hM⟩
  unfold va_up
  by_cases e : j = q
  · rw [if_pos e, if_pos e]
  · rw [if_neg e, if_neg e]; exact hAB j hj
theorem LI_ring {n p n1 p1 : Nat} {A B M : Nat → Nat} (I : LI n p A B M) (h : rok n1 p1) : LI n1 p1 (zf A 80) (zf B 64) M := by
  obtain ⟨hro, hA, hAB, hB, hAp, hM⟩ := I
  refine ⟨h, zf_lt hA, fun j hj => ?_, zf_lt hB, fun j hj => ?_, hM⟩
  · unfold zf; rw [if_pos (by omega), if_pos hj]
  · unfold zf; rw [if_pos (by omega)]; have := h.2.1; omega
theorem and_31 (z : Int) : iI z &&& iI ((31 : Nat) : Int) = iI (((z % 32).toNat : Nat) : Int) := by
  have hz : (iI z).toBitVec.toNat = (z % 4294967296).toNat := by
    show (BitVec.ofInt 32 z).toNat = _
    rw [BitVec.toNat_ofInt]; rfl
  rw [pk_and (iI z) (m := iI ((31 : Nat) : Int)) 5 (by decide), hz, iI_nI]; congr 1; omega
theorem cc_0 {P : Nat → Bool} : ∀ k, cc P k = 0 ↔ ∀ j, j < k → P j = false
  | 0 => ⟨fun _ j hj => absurd hj (Nat.not_lt_zero j), fun _ => rfl⟩
  | k + 1 => by
    constructor
    · intro h j hj
      cases e : P k with
      | true => rw [cc_t e] at h; omega
      | false =>
        rw [cc_f e] at h
        rcases Nat.lt_succ_iff_lt_or_eq.mp hj with q | q
        · exact (cc_0 k).mp h j q
        · rw [q]; exact e
    · intro h
      rw [cc_f (h k (Nat.lt_succ_self k))]
      exact (cc_0 k).mpr (fun j hj => h j (Nat.lt_succ_of_lt hj))
theorem im_tones {n : Nat} {A B g1 g2 : Nat → Nat} {rb : Nat} (hn : n ≤ 16) (hrb : rb < 4) (hAB : ∀ j, j < 64 → A j = B j) (hg : ∀ k, k < n → g1 k = g2 k) : im n (sv A g1 n) 4 rb 0 = decide (cc (fun j => decide (B (16 * rb + j) ≠ g2 j)) n = 0) := by
  unfold im
  apply decide_eq_decide.mpr
  rw [cc_0]
  constructor
  · intro h j hj
    have h1 := h j hj
    have h2 : sv A g1 n (16 * 4 + j) = g1 j := by
      unfold sv; rw [if_pos (by omega)]; congr 1; omega
    have h3 : 16 * rb + j < 64 := by omega
    rw [Nat.add_zero, Nat.mod_eq_of_lt hj, h2, hg j hj, sv_lo h3, hAB _ h3] at h1
    exact decide_eq_false (fun z => z h1.symm)
  · intro h j hj
    have h1 := of_decide_eq_false (h j hj)
    have h2 : sv A g1 n (16 * 4 + j) = g1 j := by
      unfold sv; rw [if_pos (by omega)]; congr 1; omega
    have h3 : 16 * rb + j < 64 := by omega
    rw [Nat.add_zero, Nat.mod_eq_of_lt hj, h2, sv_lo h3, hAB _ h3, hg j hj]
    exact (Decidable.not_not.mp h1).symm
theorem cm_cg {n : Nat} {A B : Nat → Nat} {a b : Nat} (hn : 0 < n) (ha : ∀ k, k < n → A (16 * a + k) = B (16 * a + k)) (hb : ∀ k, k < n → A (16 * b + k) = B (16 * b + k)) : cm n A a b = cm n B a b := by
  unfold cm
  rw [show im n A a b = im n B a b from funext (fun q => im_cg hn ha hb)]
theorem sg_cg {n p w : Nat} {A B : Nat → Nat} {r st hf : Nat} (hn : n = 4 ∨ n = 8 ∨ n = 16) (hst : st < bt n) (hhf : hf = 2 ^ st) (h : ∀ k, k < n → A (16 * r + k) = B (16 * r + k)) : ∀ k, k < n → sg p n w A r hf k = sg p n w B r hf k := by
  intro k hk
  obtain ⟨h1, h2, h3, -⟩ := stH n hn st hst hf hhf
  unfold sg
  by_cases e : k / hf % 2 = 0
  · have hkh : k + hf < n := by
      rcases hn with rfl | rfl | rfl <;> rcases h1 with rfl | rfl | rfl | rfl <;> omega
    rw [if_pos e, if_pos e, h k hk, h _ hkh]
  · have hkh : k - hf < n := by omega
    rw [if_neg e, if_neg e, h k hk, h _ hkh]
theorem am_cg {f g : Nat → Nat} {n : Nat} (h : f = g) : am f n = am g n := by rw [h]
theorem jn_cg {p x y x1 y1 w : Nat} (h1 : x = x1) (h2 : y = y1) : jn p x y w = jn p x1 y1 w := by rw [h1, h2]
section LW0
variable {φ : Fx} {l : Launch} {D : va_G} {cl : List vw_C} {tys : List (ClassId × FieldType)} {R : Room} {cc : ByteArray} {own : String} {Ts : List Cond} {nL k n : Nat} {w : va_W} {pc : Nat} {lv : List (Nat × Value)} {st rest : List Value}
/-- z != 0 as a boolean -/
theorem xw_nz (C : xc φ l R D cl tys nL cc own Ts) {z : Int} (hz : -2147483648 ≤ z ∧ z < 2147483648) (d1 : decode cc pc = .ok (.ifCond .eq 7, 3)) (d2 : decode cc (pc + 3) = .ok (.iconst 1, 1)) (d3 : decode cc (pc + 4) = .ok (.goto 4, 3)) (d4 : decode cc (pc + 7) = .ok (.iconst 0, 1)) (kk : xw φ k n w (pc + 8) lv (bV (decide (¬ z = 0)) :: st)) : xw φ k n w pc lv (iV z :: st) := by
  refine xw_if_eq C d1 (tgt := pc + 7) (by omega) hz (fun c => ?_) (fun c => ?_)
  · refine xw_iconst_N (pc := pc + 7) C 0 d4 rfl ?_
    rw [show decide (¬ z = 0) = false from decide_eq_false (fun q => q c)] at kk
    exact kk
  · refine xw_iconst_N (pc := pc + 3) C 1 d2 rfl ?_
    refine xw_goto (pc := pc + 4) (tgt := pc + 8) C d3 (by omega) ?_
    rw [show decide (¬ z = 0) = true from decide_eq_true c] at kk
    exact kk
/-- a boolean as a long -/
theorem xw_nzL (C : xc φ l R D cl tys nL cc own Ts) {t : Bool} (d1 : decode cc pc = .ok (.ifCond .eq 7, 3)) (d2 : decode cc (pc + 3) = .ok (.lconst 1, 1)) (d3 : decode cc (pc + 4) = .ok (.goto 4, 3)) (d4 : decode cc (pc + 7) = .ok (.lconst 0, 1)) (kk : xw φ k n w (pc + 8) lv (.long (if t = true then 1 else 0) :: st)) : xw φ k n w pc lv (bV t :: st) := by
  refine xw_if_eq_B C d1 (tgt := pc + 7) (by omega) (fun c => ?_) (fun c => ?_)
  · subst c
    exact xw_lconst (pc := pc + 7) (v := 0) C d4 rfl kk
  · subst c
    refine xw_lconst (pc := pc + 3) (v := 1) C d2 rfl ?_
    exact xw_goto (pc := pc + 4) (tgt := pc + 8) C d3 (by omega) kk
end LW0
theorem eqN (f : Nat → Int64) {x y : Nat} (h : x = y) : vp_updL f 0 (iI (x : Int)).toInt64 0 = (iI (y : Int)).toInt64 := by rw [upL0, h]
theorem eqZ (f : Nat → Int64) {x y : Int} (h : x = y) : vp_updL f 0 (iI x).toInt64 0 = (iI y).toInt64 := by rw [upL0, h]
theorem eqB (f : Nat → Int64) {t u : Bool} (h : t = u) : vp_updL f 0 (if t = true then 1 else 0) 0 = (if u = true then 1 else 0) := by rw [upL0, h]
theorem eqD (g : Nat → UInt64) {x y : UInt64} (h : x = y) (he : FP.dcmp y y = some .eq) : FP.dcmp (vf_upd g 0 x 0) y = some .eq := by rw [upF0, h]; exact he
