section XW2
variable {φ : Fx} {l : Launch} {D : va_G} {cl : List vw_C} {tys : List (ClassId × FieldType)} {R : Room} {cc : ByteArray} {own : String} {Ts : List Cond} {nL k n : Nat} {w : va_W} {pc : Nat} {lv : List (Nat × Value)} {st rest : List Value}
theorem xw_tabN (C : xc φ l R D cl tys nL cc own Ts) {dflt lo hi : Int} {offs : Array Int} {len a : Nat} {off : Int} {tgt : Nat} (d : decode cc pc = .ok (.tableswitch dflt lo hi offs, len)) (ha : a < 2147483648) (h1 : ¬ (a : Int) < lo) (h2 : ¬ hi < (a : Int)) (ho : offs[((a : Int) - lo).toNat]? = some off) (ht : (pc : Int) + off = (tgt : Int)) (kk : xw φ k n w tgt lv (st)) : xw φ k n w pc lv (nV a :: st) := by
  obtain ⟨p, l, e, R, s, m, args, below, meth, c, Q, D, cl, tys, A, nL⟩ := φ
  obtain ⟨rfl, rfl, rfl, rfl, rfl, rfl, hx, hb, hml, hown, hts, hK, hA⟩ := C
  intro H locs ls hP hD hS h
  have e1 : (iI (a : Int)).toInt = (a : Int) := iI_ti (by omega)
  exact lv_tableIn hx hb d (by rw [e1]; exact h1) (by rw [e1]; exact h2) (by rw [e1]; exact ho) ht (kk H locs ls hP hD hS h)
theorem xw_tabO (C : xc φ l R D cl tys nL cc own Ts) {dflt lo hi : Int} {offs : Array Int} {len a : Nat} {tgt : Nat} (d : decode cc pc = .ok (.tableswitch dflt lo hi offs, len)) (ha : a < 2147483648) (h1 : (a : Int) < lo ∨ hi < (a : Int)) (ht : (pc : Int) + dflt = (tgt : Int)) (kk : xw φ k n w tgt lv (st)) : xw φ k n w pc lv (nV a :: st) := by
  obtain ⟨p, l, e, R, s, m, args, below, meth, c, Q, D, cl, tys, A, nL⟩ := φ
  obtain ⟨rfl, rfl, rfl, rfl, rfl, rfl, hx, hb, hml, hown, hts, hK, hA⟩ := C
  intro H locs ls hP hD hS h
  have e1 : (iI (a : Int)).toInt = (a : Int) := iI_ti (by omega)
  exact lv_tableOut hx hb d (by rw [e1]; exact h1) ht (kk H locs ls hP hD hS h)
theorem xw_max (C : xc φ l R D cl tys nL cc own Ts) {index a b : Nat} (hw1 : Cond.methodLink own index Lib.Math.max.name ∈ Ts) (hw2 : Cond.static Lib.Math.max.name ∈ Ts) (hw3 : Cond.initialized "java/lang/Math" ∈ Ts) (hw4 : Cond.code Lib.Math.max.name Lib.Math.max.code 2 (some .int) ∈ Ts) (hf : 1 ≤ R.frames) (hlo : (st.map fun v => v.category).sum + 13 ≤ R.locals) (hc : k ≤ R.cells) (hsl : n ≤ R.slots) (ha : a < 2147483648) (hbb : b < 2147483648) (d : decode cc pc = .ok (.invokestatic index, 3)) (kk : xw φ k n w (pc + 3) lv (nV (if a < b then b else a) :: st)) : xw φ k n w pc lv (nV b :: nV a :: st) := by
  obtain ⟨p, l, e, R, s, m, args, below, meth, c, Q, D, cl, tys, A, nL⟩ := φ
  obtain ⟨rfl, rfl, rfl, rfl, rfl, rfl, hx, hb, hml, hown, hts, hK, hA⟩ := C
  intro H locs ls hP hD hS h
  refine va_mmax hx hb (hml.trans h.1.symm) hown (hts _ hw1) (hts _ hw2) (hts _ hw3) (hts _ hw4) hf hlo hc hsl d ?_
  have e : (if iI (a : Int) < iI (b : Int) then iI (b : Int) else iI (a : Int)) = iI ((if a < b then b else a : Nat) : Int) := by
    have e2 := iI_lt (a := (a : Int)) (b := (b : Int)) (by omega) (by omega)
    by_cases q : a < b
    · rw [if_pos (e2.mpr (by omega)), if_pos q]
    · rw [if_neg (fun z => q (by have := e2.mp z; omega)), if_neg q]
  rw [e]
  exact kk H locs ls hP hD hS h
theorem fN_cpy (B M : Nat → Nat) (sp dp n : Nat) : va_cpy (fN B) (fN M) sp dp n = fN (va_cpy B M sp dp n) := by
  funext i
  unfold va_cpy fN
  by_cases h : dp ≤ i ∧ i < dp + n
  · simp [h]
  · simp [h]
theorem xw_copy (C : xc φ l R D cl tys nL cc own Ts) {index a0 a N0 N1 sp dp mm : Nat} {cA : ClassId} {B M : Nat → Nat} {w' : va_W} (q0 q1 t0 : Nat) (hw1 : Cond.methodLink own index arraycopyName ∈ Ts) (hw2 : Cond.native arraycopyName ∈ Ts) (hw3 : Cond.static arraycopyName ∈ Ts) (hw4 : Cond.initialized "java/lang/System" ∈ Ts)
    (ha0 : w[q0]? = some (a0, .inl (cA, N0, .inl (fN B)))) (ha1 : w[q1]? = some (a, .inl (cA, N1, .inl (fN M)))) (ht : tys[t0]? = some (cA, .int)) (h1 : sp + mm ≤ N0) (h2 : dp + mm ≤ N1) (hN0 : N0 < 2147483648) (hN1 : N1 < 2147483648) (hf : 1 ≤ R.frames) (hlo : (st.map fun v => v.category).sum + 18 ≤ R.locals) (hw : w.set q1 (a, .inl (cA, N1, .inl (fN (va_cpy B M sp dp mm)))) = w') (d : decode cc pc = .ok (.invokestatic index, 3))
    (kk : xw φ k n w' (pc + 3) lv st) : xw φ k n w pc lv (nV mm :: nV dp :: .ref a :: nV sp :: .ref a0 :: st) := by
  obtain ⟨p, l, e, R, s, m, args, below, meth, c, Q, D, cl, tys, A, nL⟩ := φ
  obtain ⟨rfl, rfl, rfl, rfl, rfl, rfl, hx, hb, hml, hown, hts, hK, hA⟩ := C
  intro H locs ls hP hD hS h
  have e1 : (iI (sp : Int)).toNatClampNeg = sp := iI_cl (by omega)
  have e2 : (iI (dp : Int)).toNatClampNeg = dp := iI_cl (by omega)
  have e3 : (iI (mm : Int)).toNatClampNeg = mm := iI_cl (by omega)
  have g : ∀ q : Nat, q < 2147483648 → ¬ iI (q : Int) < 0 := fun q hq z => by
    have := (iI_lt (b := 0) (by omega) (by omega)).mp z
    omega
  refine va_copyi hx hb (hml.trans h.1.symm) hown (hts _ hw1) (hts _ hw2) (hts _ hw3) (hts _ hw4) hK hP hD hS q0 q1 t0 t0 ha0 ha1 ht ht rfl (g sp (by omega)) (g dp (by omega)) (g mm (by omega)) (by rw [e1, e3]; exact h1) (by rw [e2, e3]; exact h2) (fun i _ => rfl) hf hlo d (fun H1 locs1 hP hD hS => ?_)
  rw [e1, e2, e3, fN_cpy, hw] at hP hD
  exact kk H1 locs1 ls hP hD hS h
theorem xw_i2l (C : xc φ l R D cl tys nL cc own Ts) {x : Int32} (d : decode cc pc = .ok (.i2l, 1)) (kk : xw φ k n w (pc + 1) lv (.long x.toInt64 :: st)) : xw φ k n w pc lv (.int x :: st) := by
  obtain ⟨p, l, e, R, s, m, args, below, meth, c, Q, D, cl, tys, A, nL⟩ := φ
  obtain ⟨rfl, rfl, rfl, rfl, rfl, rfl, hx, hb, hml, hown, hts, hK, hA⟩ := C
  intro H locs ls hP hD hS h
  exact lv_i2l hx hb d rfl (kk H locs ls hP hD hS h)
theorem xw_i2d (C : xc φ l R D cl tys nL cc own Ts) {x : Int32} (d : decode cc pc = .ok (.i2d, 1)) (kk : xw φ k n w (pc + 1) lv (.double (FP.i2d x) :: st)) : xw φ k n w pc lv (.int x :: st) := by
  obtain ⟨p, l, e, R, s, m, args, below, meth, c, Q, D, cl, tys, A, nL⟩ := φ
  obtain ⟨rfl, rfl, rfl, rfl, rfl, rfl, hx, hb, hml, hown, hts, hK, hA⟩ := C
  intro H locs ls hP hD hS h
  exact lv_i2d hx hb d (kk H locs ls hP hD hS h)
theorem xw_lmul (C : xc φ l R D cl tys nL cc own Ts) {x y : Int64} (d : decode cc pc = .ok (.lmul, 1)) (kk : xw φ k n w (pc + 1) lv (.long (x * y) :: st)) : xw φ k n w pc lv (.long y :: .long x :: st) := by
  obtain ⟨p, l, e, R, s, m, args, below, meth, c, Q, D, cl, tys, A, nL⟩ := φ
  obtain ⟨rfl, rfl, rfl, rfl, rfl, rfl, hx, hb, hml, hown, hts, hK, hA⟩ := C
  intro H locs ls hP hD hS h
  exact lv_lmul hx hb d (kk H locs ls hP hD hS h)
theorem xw_ladd (C : xc φ l R D cl tys nL cc own Ts) {x y : Int64} (d : decode cc pc = .ok (.ladd, 1)) (kk : xw φ k n w (pc + 1) lv (.long (x + y) :: st)) : xw φ k n w pc lv (.long y :: .long x :: st) := by
  obtain ⟨p, l, e, R, s, m, args, below, meth, c, Q, D, cl, tys, A, nL⟩ := φ
  obtain ⟨rfl, rfl, rfl, rfl, rfl, rfl, hx, hb, hml, hown, hts, hK, hA⟩ := C
  intro H locs ls hP hD hS h
  exact lv_ladd hx hb d (kk H locs ls hP hD hS h)
theorem xw_ddiv (C : xc φ l R D cl tys nL cc own Ts) {x y : UInt64} (d : decode cc pc = .ok (.ddiv, 1)) (hne : vf_n64 (FP.ddiv x y)) (kk : xw φ k n w (pc + 1) lv (.double (FP.ddiv x y) :: st)) : xw φ k n w pc lv (.double y :: .double x :: st) := by
  obtain ⟨p, l, e, R, s, m, args, below, meth, c, Q, D, cl, tys, A, nL⟩ := φ
  obtain ⟨rfl, rfl, rfl, rfl, rfl, rfl, hx, hb, hml, hown, hts, hK, hA⟩ := C
  intro H locs ls hP hD hS h
  exact lv_ddiv hx hb d hne (kk H locs ls hP hD hS h)
theorem xw_ldc2 (C : xc φ l R D cl tys nL cc own Ts) {index : Nat} {v : Int64} (hw : Cond.constantLong own index v ∈ Ts) (d : decode cc pc = .ok (.ldc2_w index, 3)) (kk : xw φ k n w (pc + 3) lv (.long v :: st)) : xw φ k n w pc lv (st) := by
  obtain ⟨p, l, e, R, s, m, args, below, meth, c, Q, D, cl, tys, A, nL⟩ := φ
  obtain ⟨rfl, rfl, rfl, rfl, rfl, rfl, hx, hb, hml, hown, hts, hK, hA⟩ := C
  intro H locs ls hP hD hS h
  exact lv_ldc2 hx hb hown (hts _ hw) d (kk H locs ls hP hD hS h)
theorem xw_lconst (C : xc φ l R D cl tys nL cc own Ts) {v : Int64} {z : Fin 2} (d : decode cc pc = .ok (.lconst z, 1)) (hv : Int64.ofNat (z : Nat) = v) (kk : xw φ k n w (pc + 1) lv (.long v :: st)) : xw φ k n w pc lv (st) := by
  obtain ⟨p, l, e, R, s, m, args, below, meth, c, Q, D, cl, tys, A, nL⟩ := φ
  obtain ⟨rfl, rfl, rfl, rfl, rfl, rfl, hx, hb, hml, hown, hts, hK, hA⟩ := C
  intro H locs ls hP hD hS h
  exact lv_lconst hx hb d hv (kk H locs ls hP hD hS h)
end XW2
theorem sub_em {a b p : Nat} (h : b ≤ p) : ((a : Int) - (b : Int)) % (p : Int) = (((a + p - b) % p : Nat) : Int) := by
  rw [Int.natCast_emod, Int.ofNat_sub (by omega), Int.natCast_add]
  rw [show ((a : Int) + p - b) = (a : Int) - b + p by omega, Int.add_emod_right]
def dgs (d : Int64) (z : Int) : Int64 := d * 31 + (iI z).toInt64
def dgr (A : Nat → Nat) (r : Nat) (d : Int64) : Nat → Int64
  | 0 => d
  | k + 1 => dgs (dgr A r d k) (A (16 * r + k))
/-- what a butterfly leaves -/
def bf (p : Nat) (A : Nat → Nat) (r u v t : Nat) : Nat → Nat := va_up (va_up A (16 * r + u) ((A (16 * r + u) + A (16 * r + v) * t % p) % p)) (16 * r + v) ((A (16 * r + u) + p - A (16 * r + v) * t % p) % p)
