/-! ===== a layer over the kit: a walk that hides the heap, the written places and the locals' array; numbers as Int ===== -/
def iI (z : Int) : Int32 := Int32.ofInt z
abbrev iV (z : Int) : Value := .int (iI z)
abbrev nV (n : Nat) : Value := .int (iI (n : Int))
def bI (b : Bool) : Int := if b then 1 else 0
abbrev bV (b : Bool) : Value := .int (iI (bI b))
def fN (A : Nat → Nat) : Nat → Int32 := fun j => iI (A j : Int)
theorem iI_add (a b : Int) : iI a + iI b = iI (a + b) := (Int32.ofInt_add a b).symm
theorem iI_sub (a b : Int) : iI a - iI b = iI (a - b) := (Int32.ofInt_sub a b).symm
theorem iI_mul (a b : Int) : iI a * iI b = iI (a * b) := (Int32.ofInt_mul a b).symm
theorem iI_ti {z : Int} (h : -2147483648 ≤ z ∧ z < 2147483648) : (iI z).toInt = z := Int32.toInt_ofInt_of_le (by omega) (by omega)
theorem iI_lt {a b : Int} (ha : -2147483648 ≤ a ∧ a < 2147483648) (hb : -2147483648 ≤ b ∧ b < 2147483648) : iI a < iI b ↔ a < b := by
  rw [Int32.lt_iff_toInt_lt, iI_ti ha, iI_ti hb]
theorem iI_le {a b : Int} (ha : -2147483648 ≤ a ∧ a < 2147483648) (hb : -2147483648 ≤ b ∧ b < 2147483648) : iI a ≤ iI b ↔ a ≤ b := by
  rw [Int32.le_iff_toInt_le, iI_ti ha, iI_ti hb]
theorem iI_eq {a b : Int} (ha : -2147483648 ≤ a ∧ a < 2147483648) (hb : -2147483648 ≤ b ∧ b < 2147483648) : iI a = iI b ↔ a = b := by
  rw [← Int32.toInt_inj, iI_ti ha, iI_ti hb]
theorem iI_of (x : Int32) : x = iI x.toInt := (Int32.ofInt_toInt x).symm
theorem iI_nI (n : Nat) : iI (n : Int) = nI n := Int32.ofInt_eq_ofNat
theorem iI_rg (x : Int32) : -2147483648 ≤ x.toInt ∧ x.toInt < 2147483648 := by
  have h1 := Int32.minValue_le_toInt x
  have h2 := Int32.toInt_lt x
  have e : Int32.minValue.toInt = -2147483648 := by decide
  omega
theorem iI_0 : (0 : Int32) = iI 0 := rfl
theorem iI_in {j N : Nat} (h : j < N) (hN : N < 2147483648) : vp_in (iI (j : Int)) N := by rw [iI_nI]; exact vp_in_nI h hN
theorem iI_cl {j : Nat} (h : j < 2147483648) : (iI (j : Int)).toNatClampNeg = j := by rw [iI_nI]; exact nI_clamp h
theorem fN_upd (A : Nat → Nat) (j v : Nat) : upd (fN A) j (iI (v : Int)) = fN (va_up A j v) := by
  funext i
  unfold upd fN va_up
  by_cases h : i = j
  · simp [h]
  · simp [h]
theorem iI_tdiv {a b : Int} (ha : -2147483648 ≤ a ∧ a < 2147483648) (hb : 0 < b ∧ b < 2147483648) : iI a / iI b = iI (a.tdiv b) := by
  refine (iI_of _).trans (congrArg iI ?_)
  rw [Int32.toInt_div_of_ne_right _ _ (by rw [Ne, ← Int32.toInt_inj, iI_ti (by omega)]; have : (-1 : Int32).toInt = -1 := by decide
                                          omega), iI_ti ha, iI_ti (by omega)]
theorem iI_tmod {a b : Int} (ha : -2147483648 ≤ a ∧ a < 2147483648) (hb : 0 < b ∧ b < 2147483648) : iI a - iI a / iI b * iI b = iI (a.tmod b) := by
  rw [iI_tdiv ha hb, iI_mul, iI_sub]
  congr 1
  rw [Int.tmod_def, Int.mul_comm]
theorem iI_n0 {b : Int} (hb : 0 < b ∧ b < 2147483648) : ¬ iI b = 0 := by
  rw [iI_0, iI_eq (by omega) (by omega)]; omega

abbrev Fx : Type := Program × Launch × Env × Room × State × MethodId × Array Value × List Frame × Method × Code × (State → Prop) × va_G × List vw_C × List (ClassId × FieldType) × (Nat → Prop) × Nat
def xw : Fx → Nat → Nat → va_W → Nat → List (Nat × Value) → List Value → Prop
  | (p, l, e, R, s, m, args, below, meth, c, Q, D, cl, _, A, nL), k, n, w, pc, lv, st => ∀ (H : Heap) (locs : List Loc) (ls : Array Slot), va_P D cl w H → va_D A w → va_S A s.heap H locs → lv_has ls nL lv → W p l e R s m args below meth c H locs k n Q (F0 m pc ls st)
def xc : Fx → Launch → Room → va_G → List vw_C → List (ClassId × FieldType) → Nat → ByteArray → String → List Cond → Prop
  | (p, l, _, R, s, m, args, _, _, c, _, D, cl, tys, A, nL), l', R', D', cl', tys', nL', cc, own, Ts => l = l' ∧ R = R' ∧ D = D' ∧ cl = cl' ∧ tys = tys' ∧ nL = nL' ∧ p.tables.exec = Jvm.exec ∧ c.code = cc ∧ c.maxLocals = nL ∧ s.vm.findClass own = some m.cls ∧ (∀ w ∈ Ts, w.before args s = true) ∧ va_K D cl tys s ∧ (∀ q : Nat, s.heap.size ≤ q → A q)
/-- the class and the frame of a contract: what a call finds, what it leaves -/
def ctP (D : va_G) (cl : List vw_C) (tys : List (ClassId × FieldType)) (av : List Value) (w0 : va_W) (sz : Nat) : Array Value → State → Prop := va_Pc av (fun U => U.heap.size = sz ∧ va_P D cl w0 U.heap ∧ va_K D cl tys U ∧ va_D (fun _ => True) w0)
def ctQ (D : va_G) (cl : List vw_C) (w0 : va_W) (sz : Nat) (Post : Option Value → va_W → Prop) : Array Value → State → Outcome → State → Prop := fun _ st oc t => (∃ (v : Option Value) (w1 : va_W), oc = .returned v ∧ Post v w1 ∧ va_P D cl w1 t.heap ∧ va_D (va_A w0 sz) w1) ∧ va_F (va_A w0 sz) st t
/-- a CONTRACT: called with the values av over the world w0, y returns v and leaves w1 with Post v w1; nothing else of the heap is changed -/
def CT (l : Launch) (y : MethodName) (ws : List Cond) (rm : Room) (D : va_G) (cl : List vw_C) (tys : List (ClassId × FieldType)) (av : List Value) (w0 : va_W) (Post : Option Value → va_W → Prop) (mc ms : Nat) : Prop :=
  ∀ sz : Nat, Met l y ws rm (ctP D cl tys av w0 sz) (ctQ D cl w0 sz Post) mc ms (va_A w0 sz)
theorem CT.mono {l : Launch} {y : MethodName} {ws : List Cond} {rm : Room} {D : va_G} {cl : List vw_C} {tys : List (ClassId × FieldType)} {av av' : List Value} {w0 : va_W} {Post : Option Value → va_W → Prop} {mc ms : Nat} (h : CT l y ws rm D cl tys av w0 Post mc ms) (e : av = av') : CT l y ws rm D cl tys av' w0 Post mc ms := e ▸ h
/-- what a frame owes at its end -/
def xr : Fx → va_W → (Option Value → va_W → Prop) → Option FieldType → Nat → Nat → Prop
  | (_, _, _, _, s, _, args, below, meth, _, Q, D, cl, _, A, _), w0, Post, ret, mc, ms => meth.sig.returnType = ret ∧ meth.locks = false ∧ A = va_A w0 s.heap.size ∧ Q = MQ below (ctQ D cl w0 s.heap.size Post) args s mc ms (va_A w0 s.heap.size)
def xi : Fx → Prop
  | (_, _, _, _, _, _, _, _, meth, _, _, _, _, _, _, _) => meth.name = "<init>"
set_option maxHeartbeats 4000000 in
theorem ct_blind {D : va_G} {cl : List vw_C} {tys : List (ClassId × FieldType)} {av : List Value} {w0 : va_W} {sz : Nat} : FrameBlind (ctP D cl tys av w0 sz) := fun a U g mk q => by
  obtain ⟨q0, q1, qP, qK, qD⟩ := q
  exact ⟨q0, q1, qP, va_K.moved (u := U) (U := U.calling g mk a) (Vm.Alike.refl U.vm) qK, qD⟩
set_option maxHeartbeats 4000000 in
theorem ct_ofI {l : Launch} {y : MethodName} {ws ws' : List Cond} {rm : Room} {D : va_G} {cl : List vw_C} {tys : List (ClassId × FieldType)} {av : List Value} {w0 : va_W} {Post : Option Value → va_W → Prop} {mc ms : Nat} {cc : ByteArray} {maxL : Nat} {ret : Option FieldType}
    (hy : plainFor y = true) (hw : ws = Cond.code y cc maxL ret :: ws') (hlen : (lg_sl av).length ≤ maxL)
    (body : ∀ φ : Fx, xc φ l rm D cl tys maxL cc y.cls ws → xr φ w0 Post ret mc ms → (y.name = "<init>" → xi φ) → xw φ 0 0 w0 0 (lv_args 0 av) []) : CT l y ws rm D cl tys av w0 Post mc ms := by
  intro sz
  refine va_MetF (cc := cc) (maxL := maxL) (ret := ret) hy hw ?_
  intro p e s m args below meth c s₁ B hml hv
  obtain ⟨rfl, hsz, hP, hK, hD0⟩ := hv
  have hx := B.exec
  have hb := B.bytes
  have hr := B.returns
  have hts := atoms_spec (ws := ws) B.pre
  have hown : s.vm.findClass y.cls = some m.cls := findClass_of_methodNamed B.named
  have hlocks := B.notSynchronized
  subst hsz
  rw [lg_entry_eq]
  have hin : y.name = "<init>" → meth.name = "<init>" := fun h => (name_of_methodNamed B.named B.method).1.trans h
  exact body (p, l, e, rm, s, m, av.toArray, below, meth, c, MQ below (ctQ D cl w0 s.heap.size Post) av.toArray s mc ms (va_A w0 s.heap.size), D, cl, tys, va_A w0 s.heap.size, maxL)
    ⟨rfl, rfl, rfl, rfl, rfl, rfl, hx, hb, hml, hown, hts, hK, fun q h => Or.inr h⟩ ⟨hr, hlocks, rfl, rfl⟩ hin s.heap [] _ hP hD0.self va_S.rf (lv_entry av hlen)
theorem ct_of {l : Launch} {y : MethodName} {ws ws' : List Cond} {rm : Room} {D : va_G} {cl : List vw_C} {tys : List (ClassId × FieldType)} {av : List Value} {w0 : va_W} {Post : Option Value → va_W → Prop} {mc ms : Nat} {cc : ByteArray} {maxL : Nat} {ret : Option FieldType}
    (hy : plainFor y = true) (hw : ws = Cond.code y cc maxL ret :: ws') (hlen : (lg_sl av).length ≤ maxL)
    (body : ∀ φ : Fx, xc φ l rm D cl tys maxL cc y.cls ws → xr φ w0 Post ret mc ms → xw φ 0 0 w0 0 (lv_args 0 av) []) : CT l y ws rm D cl tys av w0 Post mc ms :=
  ct_ofI hy hw hlen (fun φ C r _ => body φ C r)
section XW
variable {φ : Fx} {l : Launch} {D : va_G} {cl : List vw_C} {tys : List (ClassId × FieldType)} {R : Room} {cc : ByteArray} {own : String} {Ts : List Cond} {nL k n : Nat} {w : va_W} {pc : Nat} {lv : List (Nat × Value)} {st rest : List Value}
theorem xw_lv {lv' : List (Nat × Value)} (ks : List Nat) (hl : lv_pick lv ks = lv') (kk : xw φ k n w pc lv' st) : xw φ k n w pc lv st := by
  obtain ⟨p, l, e, R, s, m, args, below, meth, c, Q, D, cl, tys, A, nL⟩ := φ
  exact fun H locs ls hP hD hS h => kk H locs ls hP hD hS (lv_sub h ks hl)
theorem xw_wd {k' n' : Nat} (h1 : k ≤ k') (h2 : n ≤ n') (kk : xw φ k' n' w pc lv st) : xw φ k n w pc lv st := by
  obtain ⟨p, l, e, R, s, m, args, below, meth, c, Q, D, cl, tys, A, nL⟩ := φ
  exact fun H locs ls hP hD hS h => W.widen h1 h2 (kk H locs ls hP hD hS h)

theorem xw_iload (C : xc φ l R D cl tys nL cc own Ts) {i : Nat} {x : Int32} (q : Nat) (d : decode cc pc = .ok (.iload i, 2)) (hl : lv[q]? = some (i, .int x)) (kk : xw φ k n w (pc + 2) lv (.int x :: st)) : xw φ k n w pc lv (st) := by
  obtain ⟨p, l, e, R, s, m, args, below, meth, c, Q, D, cl, tys, A, nL⟩ := φ
  obtain ⟨rfl, rfl, rfl, rfl, rfl, rfl, hx, hb, hml, hown, hts, hK, hA⟩ := C
  intro H locs ls hP hD hS h
  exact lv_iload hx hb d (lv_at h q hl) (kk H locs ls hP hD hS h)
theorem xw_iload_n (C : xc φ l R D cl tys nL cc own Ts) {i : Fin 4} {x : Int32} (q : Nat) (d : decode cc pc = .ok (.iload_n i, 1)) (hl : lv[q]? = some ((i : Nat), .int x)) (kk : xw φ k n w (pc + 1) lv (.int x :: st)) : xw φ k n w pc lv (st) := by
  obtain ⟨p, l, e, R, s, m, args, below, meth, c, Q, D, cl, tys, A, nL⟩ := φ
  obtain ⟨rfl, rfl, rfl, rfl, rfl, rfl, hx, hb, hml, hown, hts, hK, hA⟩ := C
  intro H locs ls hP hD hS h
  exact lv_iload_n hx hb d rfl (lv_at h q hl) (kk H locs ls hP hD hS h)
theorem xw_istore (C : xc φ l R D cl tys nL cc own Ts) {i : Nat} {x : Int32} {lv' : List (Nat × Value)} (ks : List Nat) (d : decode cc pc = .ok (.istore i, 2)) (hn : i < nL) (hl : lv_pick ((i, Value.int x) :: lv.filter (fun q => !(q.1 == i) && !(q.1 + 1 == i && q.2.category == 2))) ks = lv') (kk : xw φ k n w (pc + 2) lv' st) : xw φ k n w pc lv (.int x :: st) := by
  obtain ⟨p, l, e, R, s, m, args, below, meth, c, Q, D, cl, tys, A, nL⟩ := φ
  obtain ⟨rfl, rfl, rfl, rfl, rfl, rfl, hx, hb, hml, hown, hts, hK, hA⟩ := C
  intro H locs ls hP hD hS h
  exact lv_istore hx hb d h hn rfl (fun ls2 h2 => kk H locs ls2 hP hD hS (lv_sub h2 ks hl))
theorem xw_istore_n (C : xc φ l R D cl tys nL cc own Ts) {j : Fin 4} {i : Nat} {x : Int32} {lv' : List (Nat × Value)} (ks : List Nat) (d : decode cc pc = .ok (.istore_n j, 1)) (hi : (j : Nat) = i) (hn : i < nL) (hl : lv_pick ((i, Value.int x) :: lv.filter (fun q => !(q.1 == i) && !(q.1 + 1 == i && q.2.category == 2))) ks = lv') (kk : xw φ k n w (pc + 1) lv' st) : xw φ k n w pc lv (.int x :: st) := by
  obtain ⟨p, l, e, R, s, m, args, below, meth, c, Q, D, cl, tys, A, nL⟩ := φ
  obtain ⟨rfl, rfl, rfl, rfl, rfl, rfl, hx, hb, hml, hown, hts, hK, hA⟩ := C
  intro H locs ls hP hD hS h
  exact lv_istore_n hx hb d hi h hn rfl (fun ls2 h2 => kk H locs ls2 hP hD hS (lv_sub h2 ks hl))
theorem xw_lload (C : xc φ l R D cl tys nL cc own Ts) {i : Nat} {x : Int64} (q : Nat) (d : decode cc pc = .ok (.lload i, 2)) (hl : lv[q]? = some (i, .long x)) (kk : xw φ k n w (pc + 2) lv (.long x :: st)) : xw φ k n w pc lv (st) := by
  obtain ⟨p, l, e, R, s, m, args, below, meth, c, Q, D, cl, tys, A, nL⟩ := φ
  obtain ⟨rfl, rfl, rfl, rfl, rfl, rfl, hx, hb, hml, hown, hts, hK, hA⟩ := C
  intro H locs ls hP hD hS h
  exact lv_lload hx hb d (lv_at h q hl) (kk H locs ls hP hD hS h)
theorem xw_lload_n (C : xc φ l R D cl tys nL cc own Ts) {i : Fin 4} {x : Int64} (q : Nat) (d : decode cc pc = .ok (.lload_n i, 1)) (hl : lv[q]? = some ((i : Nat), .long x)) (kk : xw φ k n w (pc + 1) lv (.long x :: st)) : xw φ k n w pc lv (st) := by
  obtain ⟨p, l, e, R, s, m, args, below, meth, c, Q, D, cl, tys, A, nL⟩ := φ
  obtain ⟨rfl, rfl, rfl, rfl, rfl, rfl, hx, hb, hml, hown, hts, hK, hA⟩ := C
  intro H locs ls hP hD hS h
  exact lv_lload_n hx hb d rfl (lv_at h q hl) (kk H locs ls hP hD hS h)
theorem xw_lstore (C : xc φ l R D cl tys nL cc own Ts) {i : Nat} {x : Int64} {lv' : List (Nat × Value)} (ks : List Nat) (d : decode cc pc = .ok (.lstore i, 2)) (hn : i + 1 < nL) (hl : lv_pick ((i, Value.long x) :: lv.filter (fun q => !(q.1 == i) && (!(q.1 == i + 1) && !(q.1 + 1 == i && q.2.category == 2)))) ks = lv') (kk : xw φ k n w (pc + 2) lv' st) : xw φ k n w pc lv (.long x :: st) := by
  obtain ⟨p, l, e, R, s, m, args, below, meth, c, Q, D, cl, tys, A, nL⟩ := φ
  obtain ⟨rfl, rfl, rfl, rfl, rfl, rfl, hx, hb, hml, hown, hts, hK, hA⟩ := C
  intro H locs ls hP hD hS h
  exact lv_lstore hx hb d h hn rfl (fun ls2 h2 => kk H locs ls2 hP hD hS (lv_sub h2 ks hl))
theorem xw_lstore_n (C : xc φ l R D cl tys nL cc own Ts) {j : Fin 4} {i : Nat} {x : Int64} {lv' : List (Nat × Value)} (ks : List Nat) (d : decode cc pc = .ok (.lstore_n j, 1)) (hi : (j : Nat) = i) (hn : i + 1 < nL) (hl : lv_pick ((i, Value.long x) :: lv.filter (fun q => !(q.1 == i) && (!(q.1 == i + 1) && !(q.1 + 1 == i && q.2.category == 2)))) ks = lv') (kk : xw φ k n w (pc + 1) lv' st) : xw φ k n w pc lv (.long x :: st) := by
  obtain ⟨p, l, e, R, s, m, args, below, meth, c, Q, D, cl, tys, A, nL⟩ := φ
  obtain ⟨rfl, rfl, rfl, rfl, rfl, rfl, hx, hb, hml, hown, hts, hK, hA⟩ := C
  intro H locs ls hP hD hS h
  exact lv_lstore_n hx hb d hi h hn rfl (fun ls2 h2 => kk H locs ls2 hP hD hS (lv_sub h2 ks hl))
theorem xw_dload (C : xc φ l R D cl tys nL cc own Ts) {i : Nat} {x : UInt64} (q : Nat) (d : decode cc pc = .ok (.dload i, 2)) (hl : lv[q]? = some (i, .double x)) (kk : xw φ k n w (pc + 2) lv (.double x :: st)) : xw φ k n w pc lv (st) := by
  obtain ⟨p, l, e, R, s, m, args, below, meth, c, Q, D, cl, tys, A, nL⟩ := φ
  obtain ⟨rfl, rfl, rfl, rfl, rfl, rfl, hx, hb, hml, hown, hts, hK, hA⟩ := C
  intro H locs ls hP hD hS h
  exact lv_dload hx hb d (lv_at h q hl) (kk H locs ls hP hD hS h)
theorem xw_dload_n (C : xc φ l R D cl tys nL cc own Ts) {i : Fin 4} {x : UInt64} (q : Nat) (d : decode cc pc = .ok (.dload_n i, 1)) (hl : lv[q]? = some ((i : Nat), .double x)) (kk : xw φ k n w (pc + 1) lv (.double x :: st)) : xw φ k n w pc lv (st) := by
  obtain ⟨p, l, e, R, s, m, args, below, meth, c, Q, D, cl, tys, A, nL⟩ := φ
  obtain ⟨rfl, rfl, rfl, rfl, rfl, rfl, hx, hb, hml, hown, hts, hK, hA⟩ := C
  intro H locs ls hP hD hS h
  exact lv_dload_n hx hb d rfl (lv_at h q hl) (kk H locs ls hP hD hS h)
theorem xw_dstore (C : xc φ l R D cl tys nL cc own Ts) {i : Nat} {x : UInt64} {lv' : List (Nat × Value)} (ks : List Nat) (d : decode cc pc = .ok (.dstore i, 2)) (hn : i + 1 < nL) (hl : lv_pick ((i, Value.double x) :: lv.filter (fun q => !(q.1 == i) && (!(q.1 == i + 1) && !(q.1 + 1 == i && q.2.category == 2)))) ks = lv') (kk : xw φ k n w (pc + 2) lv' st) : xw φ k n w pc lv (.double x :: st) := by
  obtain ⟨p, l, e, R, s, m, args, below, meth, c, Q, D, cl, tys, A, nL⟩ := φ
  obtain ⟨rfl, rfl, rfl, rfl, rfl, rfl, hx, hb, hml, hown, hts, hK, hA⟩ := C
  intro H locs ls hP hD hS h
  exact lv_dstore hx hb d h hn rfl (fun ls2 h2 => kk H locs ls2 hP hD hS (lv_sub h2 ks hl))
theorem xw_dstore_n (C : xc φ l R D cl tys nL cc own Ts) {j : Fin 4} {i : Nat} {x : UInt64} {lv' : List (Nat × Value)} (ks : List Nat) (d : decode cc pc = .ok (.dstore_n j, 1)) (hi : (j : Nat) = i) (hn : i + 1 < nL) (hl : lv_pick ((i, Value.double x) :: lv.filter (fun q => !(q.1 == i) && (!(q.1 == i + 1) && !(q.1 + 1 == i && q.2.category == 2)))) ks = lv') (kk : xw φ k n w (pc + 1) lv' st) : xw φ k n w pc lv (.double x :: st) := by
  obtain ⟨p, l, e, R, s, m, args, below, meth, c, Q, D, cl, tys, A, nL⟩ := φ
  obtain ⟨rfl, rfl, rfl, rfl, rfl, rfl, hx, hb, hml, hown, hts, hK, hA⟩ := C
  intro H locs ls hP hD hS h
  exact lv_dstore_n hx hb d hi h hn rfl (fun ls2 h2 => kk H locs ls2 hP hD hS (lv_sub h2 ks hl))
theorem xw_aload (C : xc φ l R D cl tys nL cc own Ts) {i : Nat} {x : Nat} (q : Nat) (d : decode cc pc = .ok (.aload i, 2)) (hl : lv[q]? = some (i, .ref x)) (kk : xw φ k n w (pc + 2) lv (.ref x :: st)) : xw φ k n w pc lv (st) := by
  obtain ⟨p, l, e, R, s, m, args, below, meth, c, Q, D, cl, tys, A, nL⟩ := φ
  obtain ⟨rfl, rfl, rfl, rfl, rfl, rfl, hx, hb, hml, hown, hts, hK, hA⟩ := C
  intro H locs ls hP hD hS h
  exact lv_aload hx hb d (lv_at h q hl) (kk H locs ls hP hD hS h)
theorem xw_aload_n (C : xc φ l R D cl tys nL cc own Ts) {i : Fin 4} {x : Nat} (q : Nat) (d : decode cc pc = .ok (.aload_n i, 1)) (hl : lv[q]? = some ((i : Nat), .ref x)) (kk : xw φ k n w (pc + 1) lv (.ref x :: st)) : xw φ k n w pc lv (st) := by
  obtain ⟨p, l, e, R, s, m, args, below, meth, c, Q, D, cl, tys, A, nL⟩ := φ
  obtain ⟨rfl, rfl, rfl, rfl, rfl, rfl, hx, hb, hml, hown, hts, hK, hA⟩ := C
  intro H locs ls hP hD hS h
  exact lv_aload_n hx hb d rfl (lv_at h q hl) (kk H locs ls hP hD hS h)
theorem xw_astore (C : xc φ l R D cl tys nL cc own Ts) {i : Nat} {x : Nat} {lv' : List (Nat × Value)} (ks : List Nat) (d : decode cc pc = .ok (.astore i, 2)) (hn : i < nL) (hl : lv_pick ((i, Value.ref x) :: lv.filter (fun q => !(q.1 == i) && !(q.1 + 1 == i && q.2.category == 2))) ks = lv') (kk : xw φ k n w (pc + 2) lv' st) : xw φ k n w pc lv (.ref x :: st) := by
  obtain ⟨p, l, e, R, s, m, args, below, meth, c, Q, D, cl, tys, A, nL⟩ := φ
  obtain ⟨rfl, rfl, rfl, rfl, rfl, rfl, hx, hb, hml, hown, hts, hK, hA⟩ := C
  intro H locs ls hP hD hS h
  exact lv_astore hx hb d h hn rfl (fun ls2 h2 => kk H locs ls2 hP hD hS (lv_sub h2 ks hl))
theorem xw_astore_n (C : xc φ l R D cl tys nL cc own Ts) {j : Fin 4} {i : Nat} {x : Nat} {lv' : List (Nat × Value)} (ks : List Nat) (d : decode cc pc = .ok (.astore_n j, 1)) (hi : (j : Nat) = i) (hn : i < nL) (hl : lv_pick ((i, Value.ref x) :: lv.filter (fun q => !(q.1 == i) && !(q.1 + 1 == i && q.2.category == 2))) ks = lv') (kk : xw φ k n w (pc + 1) lv' st) : xw φ k n w pc lv (.ref x :: st) := by
  obtain ⟨p, l, e, R, s, m, args, below, meth, c, Q, D, cl, tys, A, nL⟩ := φ
  obtain ⟨rfl, rfl, rfl, rfl, rfl, rfl, hx, hb, hml, hown, hts, hK, hA⟩ := C
  intro H locs ls hP hD hS h
  exact lv_astore_n hx hb d hi h hn rfl (fun ls2 h2 => kk H locs ls2 hP hD hS (lv_sub h2 ks hl))
theorem xw_iconst (C : xc φ l R D cl tys nL cc own Ts) {z : Int} (d : decode cc pc = .ok (.iconst z, 1)) (kk : xw φ k n w (pc + 1) lv (iV z :: st)) : xw φ k n w pc lv (st) := by
  obtain ⟨p, l, e, R, s, m, args, below, meth, c, Q, D, cl, tys, A, nL⟩ := φ
  obtain ⟨rfl, rfl, rfl, rfl, rfl, rfl, hx, hb, hml, hown, hts, hK, hA⟩ := C
  intro H locs ls hP hD hS h
  exact lv_iconst hx hb d rfl (kk H locs ls hP hD hS h)
theorem xw_bipush (C : xc φ l R D cl tys nL cc own Ts) {z : Int} (d : decode cc pc = .ok (.bipush z, 2)) (hv : (Int8.ofInt z).toInt32 = iI z) (kk : xw φ k n w (pc + 2) lv (iV z :: st)) : xw φ k n w pc lv (st) := by
  obtain ⟨p, l, e, R, s, m, args, below, meth, c, Q, D, cl, tys, A, nL⟩ := φ
  obtain ⟨rfl, rfl, rfl, rfl, rfl, rfl, hx, hb, hml, hown, hts, hK, hA⟩ := C
  intro H locs ls hP hD hS h
  exact lv_bipush hx hb d hv (kk H locs ls hP hD hS h)
theorem xw_sipush (C : xc φ l R D cl tys nL cc own Ts) {z : Int} (d : decode cc pc = .ok (.sipush z, 3)) (hv : (Int16.ofInt z).toInt32 = iI z) (kk : xw φ k n w (pc + 3) lv (iV z :: st)) : xw φ k n w pc lv (st) := by
  obtain ⟨p, l, e, R, s, m, args, below, meth, c, Q, D, cl, tys, A, nL⟩ := φ
  obtain ⟨rfl, rfl, rfl, rfl, rfl, rfl, hx, hb, hml, hown, hts, hK, hA⟩ := C
  intro H locs ls hP hD hS h
  exact lv_sipush hx hb d hv (kk H locs ls hP hD hS h)
theorem xw_pop (C : xc φ l R D cl tys nL cc own Ts) {v : Value} (d : decode cc pc = .ok (.pop, 1)) (hv : v.category = 1) (kk : xw φ k n w (pc + 1) lv (st)) : xw φ k n w pc lv (v :: st) := by
  obtain ⟨p, l, e, R, s, m, args, below, meth, c, Q, D, cl, tys, A, nL⟩ := φ
  obtain ⟨rfl, rfl, rfl, rfl, rfl, rfl, hx, hb, hml, hown, hts, hK, hA⟩ := C
  intro H locs ls hP hD hS h
  exact lv_pop hx hb d hv (kk H locs ls hP hD hS h)
theorem xw_dup (C : xc φ l R D cl tys nL cc own Ts) {v : Value} (d : decode cc pc = .ok (.dup, 1)) (hv : v.category = 1) (kk : xw φ k n w (pc + 1) lv (v :: v :: st)) : xw φ k n w pc lv (v :: st) := by
  obtain ⟨p, l, e, R, s, m, args, below, meth, c, Q, D, cl, tys, A, nL⟩ := φ
  obtain ⟨rfl, rfl, rfl, rfl, rfl, rfl, hx, hb, hml, hown, hts, hK, hA⟩ := C
  intro H locs ls hP hD hS h
  exact lv_dup hx hb d hv (kk H locs ls hP hD hS h)
theorem xw_iadd (C : xc φ l R D cl tys nL cc own Ts) {a b : Int} (d : decode cc pc = .ok (.iadd, 1)) (kk : xw φ k n w (pc + 1) lv (iV (a + b) :: st)) : xw φ k n w pc lv (iV b :: iV a :: st) := by
  obtain ⟨p, l, e, R, s, m, args, below, meth, c, Q, D, cl, tys, A, nL⟩ := φ
  obtain ⟨rfl, rfl, rfl, rfl, rfl, rfl, hx, hb, hml, hown, hts, hK, hA⟩ := C
  intro H locs ls hP hD hS h
  refine lv_iadd hx hb d ?_
  rw [iI_add]
  exact kk H locs ls hP hD hS h
theorem xw_isub (C : xc φ l R D cl tys nL cc own Ts) {a b : Int} (d : decode cc pc = .ok (.isub, 1)) (kk : xw φ k n w (pc + 1) lv (iV (a - b) :: st)) : xw φ k n w pc lv (iV b :: iV a :: st) := by
  obtain ⟨p, l, e, R, s, m, args, below, meth, c, Q, D, cl, tys, A, nL⟩ := φ
  obtain ⟨rfl, rfl, rfl, rfl, rfl, rfl, hx, hb, hml, hown, hts, hK, hA⟩ := C
  intro H locs ls hP hD hS h
  refine lv_isub hx hb d ?_
  rw [iI_sub]
  exact kk H locs ls hP hD hS h
theorem xw_imul (C : xc φ l R D cl tys nL cc own Ts) {a b : Int} (d : decode cc pc = .ok (.imul, 1)) (kk : xw φ k n w (pc + 1) lv (iV (a * b) :: st)) : xw φ k n w pc lv (iV b :: iV a :: st) := by
  obtain ⟨p, l, e, R, s, m, args, below, meth, c, Q, D, cl, tys, A, nL⟩ := φ
  obtain ⟨rfl, rfl, rfl, rfl, rfl, rfl, hx, hb, hml, hown, hts, hK, hA⟩ := C
  intro H locs ls hP hD hS h
  refine lv_imul hx hb d ?_
  rw [iI_mul]
  exact kk H locs ls hP hD hS h
theorem xw_iadd_N (C : xc φ l R D cl tys nL cc own Ts) {a b : Nat} (d : decode cc pc = .ok (.iadd, 1)) (kk : xw φ k n w (pc + 1) lv (nV (a + b) :: st)) : xw φ k n w pc lv (nV b :: nV a :: st) := by
  obtain ⟨p, l, e, R, s, m, args, below, meth, c, Q, D, cl, tys, A, nL⟩ := φ
  obtain ⟨rfl, rfl, rfl, rfl, rfl, rfl, hx, hb, hml, hown, hts, hK, hA⟩ := C
  intro H locs ls hP hD hS h
  refine lv_iadd hx hb d ?_
  rw [iI_add, ← Int.natCast_add]
  exact kk H locs ls hP hD hS h
theorem xw_imul_N (C : xc φ l R D cl tys nL cc own Ts) {a b : Nat} (d : decode cc pc = .ok (.imul, 1)) (kk : xw φ k n w (pc + 1) lv (nV (a * b) :: st)) : xw φ k n w pc lv (nV b :: nV a :: st) := by
  obtain ⟨p, l, e, R, s, m, args, below, meth, c, Q, D, cl, tys, A, nL⟩ := φ
  obtain ⟨rfl, rfl, rfl, rfl, rfl, rfl, hx, hb, hml, hown, hts, hK, hA⟩ := C
  intro H locs ls hP hD hS h
  refine lv_imul hx hb d ?_
  rw [iI_mul, ← Int.natCast_mul]
  exact kk H locs ls hP hD hS h
theorem xw_isub_N (C : xc φ l R D cl tys nL cc own Ts) {a b : Nat} (d : decode cc pc = .ok (.isub, 1)) (hba : b ≤ a) (kk : xw φ k n w (pc + 1) lv (nV (a - b) :: st)) : xw φ k n w pc lv (nV b :: nV a :: st) := by
  obtain ⟨p, l, e, R, s, m, args, below, meth, c, Q, D, cl, tys, A, nL⟩ := φ
  obtain ⟨rfl, rfl, rfl, rfl, rfl, rfl, hx, hb, hml, hown, hts, hK, hA⟩ := C
  intro H locs ls hP hD hS h
  refine lv_isub hx hb d ?_
  rw [iI_sub, ← Int.ofNat_sub hba]
  exact kk H locs ls hP hD hS h
theorem xw_idiv (C : xc φ l R D cl tys nL cc own Ts) {a b : Int} (d : decode cc pc = .ok (.idiv, 1)) (ha : -2147483648 ≤ a ∧ a < 2147483648) (hbb : 0 < b ∧ b < 2147483648) (kk : xw φ k n w (pc + 1) lv (iV (a.tdiv b) :: st)) : xw φ k n w pc lv (iV b :: iV a :: st) := by
  obtain ⟨p, l, e, R, s, m, args, below, meth, c, Q, D, cl, tys, A, nL⟩ := φ
  obtain ⟨rfl, rfl, rfl, rfl, rfl, rfl, hx, hb, hml, hown, hts, hK, hA⟩ := C
  intro H locs ls hP hD hS h
  refine lv_idiv hx hb d (iI_n0 hbb) ?_
  rw [iI_tdiv ha hbb]
  exact kk H locs ls hP hD hS h
theorem xw_irem (C : xc φ l R D cl tys nL cc own Ts) {a b : Int} (d : decode cc pc = .ok (.irem, 1)) (ha : -2147483648 ≤ a ∧ a < 2147483648) (hbb : 0 < b ∧ b < 2147483648) (kk : xw φ k n w (pc + 1) lv (iV (a.tmod b) :: st)) : xw φ k n w pc lv (iV b :: iV a :: st) := by
  obtain ⟨p, l, e, R, s, m, args, below, meth, c, Q, D, cl, tys, A, nL⟩ := φ
  obtain ⟨rfl, rfl, rfl, rfl, rfl, rfl, hx, hb, hml, hown, hts, hK, hA⟩ := C
  intro H locs ls hP hD hS h
  refine lv_irem hx hb d (iI_n0 hbb) ?_
  rw [iI_tmod ha hbb]
  exact kk H locs ls hP hD hS h
theorem xw_idiv_N (C : xc φ l R D cl tys nL cc own Ts) {a b : Nat} (d : decode cc pc = .ok (.idiv, 1)) (ha : a < 2147483648) (hbb : 0 < b ∧ b < 2147483648) (kk : xw φ k n w (pc + 1) lv (nV (a / b) :: st)) : xw φ k n w pc lv (nV b :: nV a :: st) := by
  obtain ⟨p, l, e, R, s, m, args, below, meth, c, Q, D, cl, tys, A, nL⟩ := φ
  obtain ⟨rfl, rfl, rfl, rfl, rfl, rfl, hx, hb, hml, hown, hts, hK, hA⟩ := C
  intro H locs ls hP hD hS h
  refine lv_idiv hx hb d (iI_n0 (by omega)) ?_
  rw [iI_tdiv (by omega) (by omega), ← Int.ofNat_tdiv]
  exact kk H locs ls hP hD hS h
theorem xw_irem_N (C : xc φ l R D cl tys nL cc own Ts) {a b : Nat} (d : decode cc pc = .ok (.irem, 1)) (ha : a < 2147483648) (hbb : 0 < b ∧ b < 2147483648) (kk : xw φ k n w (pc + 1) lv (nV (a % b) :: st)) : xw φ k n w pc lv (nV b :: nV a :: st) := by
  obtain ⟨p, l, e, R, s, m, args, below, meth, c, Q, D, cl, tys, A, nL⟩ := φ
  obtain ⟨rfl, rfl, rfl, rfl, rfl, rfl, hx, hb, hml, hown, hts, hK, hA⟩ := C
  intro H locs ls hP hD hS h
  refine lv_irem hx hb d (iI_n0 (by omega)) ?_
  rw [iI_tmod (by omega) (by omega), ← Int.ofNat_tmod]
  exact kk H locs ls hP hD hS h
theorem xw_ixor (C : xc φ l R D cl tys nL cc own Ts) {x y r : Int32} (d : decode cc pc = .ok (.ixor, 1)) (hr : x ^^^ y = r) (kk : xw φ k n w (pc + 1) lv (.int r :: st)) : xw φ k n w pc lv (.int y :: .int x :: st) := by
  obtain ⟨p, l, e, R, s, m, args, below, meth, c, Q, D, cl, tys, A, nL⟩ := φ
  obtain ⟨rfl, rfl, rfl, rfl, rfl, rfl, hx, hb, hml, hown, hts, hK, hA⟩ := C
  intro H locs ls hP hD hS h
  refine lv_ixor hx hb d ?_
  rw [hr]
  exact kk H locs ls hP hD hS h
theorem xw_iand (C : xc φ l R D cl tys nL cc own Ts) {x y r : Int32} (d : decode cc pc = .ok (.iand, 1)) (hr : x &&& y = r) (kk : xw φ k n w (pc + 1) lv (.int r :: st)) : xw φ k n w pc lv (.int y :: .int x :: st) := by
  obtain ⟨p, l, e, R, s, m, args, below, meth, c, Q, D, cl, tys, A, nL⟩ := φ
  obtain ⟨rfl, rfl, rfl, rfl, rfl, rfl, hx, hb, hml, hown, hts, hK, hA⟩ := C
  intro H locs ls hP hD hS h
  refine lv_iand hx hb d ?_
  rw [hr]
  exact kk H locs ls hP hD hS h
theorem xw_ior (C : xc φ l R D cl tys nL cc own Ts) {x y r : Int32} (d : decode cc pc = .ok (.ior, 1)) (hr : x ||| y = r) (kk : xw φ k n w (pc + 1) lv (.int r :: st)) : xw φ k n w pc lv (.int y :: .int x :: st) := by
  obtain ⟨p, l, e, R, s, m, args, below, meth, c, Q, D, cl, tys, A, nL⟩ := φ
  obtain ⟨rfl, rfl, rfl, rfl, rfl, rfl, hx, hb, hml, hown, hts, hK, hA⟩ := C
  intro H locs ls hP hD hS h
  refine lv_ior hx hb d ?_
  rw [hr]
  exact kk H locs ls hP hD hS h
theorem xw_ishl (C : xc φ l R D cl tys nL cc own Ts) {x y r : Int32} (d : decode cc pc = .ok (.ishl, 1)) (hr : x <<< (y &&& 31) = r) (kk : xw φ k n w (pc + 1) lv (.int r :: st)) : xw φ k n w pc lv (.int y :: .int x :: st) := by
  obtain ⟨p, l, e, R, s, m, args, below, meth, c, Q, D, cl, tys, A, nL⟩ := φ
  obtain ⟨rfl, rfl, rfl, rfl, rfl, rfl, hx, hb, hml, hown, hts, hK, hA⟩ := C
  intro H locs ls hP hD hS h
  refine lv_ishl hx hb d ?_
  rw [hr]
  exact kk H locs ls hP hD hS h
theorem xw_ishr (C : xc φ l R D cl tys nL cc own Ts) {x y r : Int32} (d : decode cc pc = .ok (.ishr, 1)) (hr : x >>> (y &&& 31) = r) (kk : xw φ k n w (pc + 1) lv (.int r :: st)) : xw φ k n w pc lv (.int y :: .int x :: st) := by
  obtain ⟨p, l, e, R, s, m, args, below, meth, c, Q, D, cl, tys, A, nL⟩ := φ
  obtain ⟨rfl, rfl, rfl, rfl, rfl, rfl, hx, hb, hml, hown, hts, hK, hA⟩ := C
  intro H locs ls hP hD hS h
  refine lv_ishr hx hb d ?_
  rw [hr]
  exact kk H locs ls hP hD hS h
theorem xw_iinc (C : xc φ l R D cl tys nL cc own Ts) {i : Nat} {z : Int} {a : Int} {lv' : List (Nat × Value)} (q : Nat) (ks : List Nat) (d : decode cc pc = .ok (.iinc i z, 3)) (hq : lv[q]? = some (i, iV a)) (hn : i < nL) (hl : lv_pick ((i, iV (a + z)) :: lv.filter (fun q => !(q.1 == i) && !(q.1 + 1 == i && q.2.category == 2))) ks = lv') (kk : xw φ k n w (pc + 3) lv' st) : xw φ k n w pc lv st := by
  obtain ⟨p, l, e, R, s, m, args, below, meth, c, Q, D, cl, tys, A, nL⟩ := φ
  obtain ⟨rfl, rfl, rfl, rfl, rfl, rfl, hx, hb, hml, hown, hts, hK, hA⟩ := C
  intro H locs ls hP hD hS h
  refine lv_iinc hx hb d h hq ?_ hn rfl (fun ls2 h2 => kk H locs ls2 hP hD hS (lv_sub h2 ks hl))
  exact iI_add a z
theorem xw_iinc_N (C : xc φ l R D cl tys nL cc own Ts) {i : Nat} {z : Int} {a b : Nat} {lv' : List (Nat × Value)} (q : Nat) (ks : List Nat) (d : decode cc pc = .ok (.iinc i z, 3)) (hq : lv[q]? = some (i, nV a)) (hn : i < nL) (hz : (a : Int) + z = (b : Int)) (hl : lv_pick ((i, nV b) :: lv.filter (fun q => !(q.1 == i) && !(q.1 + 1 == i && q.2.category == 2))) ks = lv') (kk : xw φ k n w (pc + 3) lv' st) : xw φ k n w pc lv st := by
  obtain ⟨p, l, e, R, s, m, args, below, meth, c, Q, D, cl, tys, A, nL⟩ := φ
  obtain ⟨rfl, rfl, rfl, rfl, rfl, rfl, hx, hb, hml, hown, hts, hK, hA⟩ := C
  intro H locs ls hP hD hS h
  exact lv_iinc hx hb d h hq ((iI_add _ _).trans (congrArg iI hz)) hn rfl (fun ls2 h2 => kk H locs ls2 hP hD hS (lv_sub h2 ks hl))
theorem xw_goto (C : xc φ l R D cl tys nL cc own Ts) {off : Int} {tgt : Nat} (d : decode cc pc = .ok (.goto off, 3)) (ht : (pc : Int) + off = (tgt : Int)) (kk : xw φ k n w tgt lv (st)) : xw φ k n w pc lv (st) := by
  obtain ⟨p, l, e, R, s, m, args, below, meth, c, Q, D, cl, tys, A, nL⟩ := φ
  obtain ⟨rfl, rfl, rfl, rfl, rfl, rfl, hx, hb, hml, hown, hts, hK, hA⟩ := C
  intro H locs ls hP hD hS h
  exact lv_goto hx hb d ht (kk H locs ls hP hD hS h)
theorem xw_icmp_eq (C : xc φ l R D cl tys nL cc own Ts) {a b : Int} {off : Int} {tgt : Nat} (d : decode cc pc = .ok (.if_icmp .eq off, 3)) (ht : (pc : Int) + off = (tgt : Int)) (ha : -2147483648 ≤ a ∧ a < 2147483648) (hb2 : -2147483648 ≤ b ∧ b < 2147483648) (kt : a = b → xw φ k n w tgt lv st) (kf : ¬ a = b → xw φ k n w (pc + 3) lv st) : xw φ k n w pc lv (iV b :: iV a :: st) := by
  obtain ⟨p, l, e, R, s, m, args, below, meth, c, Q, D, cl, tys, A, nL⟩ := φ
  obtain ⟨rfl, rfl, rfl, rfl, rfl, rfl, hx, hb, hml, hown, hts, hK, hA⟩ := C
  intro H locs ls hP hD hS h
  exact lv_icmp_eq hx hb d ht (fun z1 => kt ((iI_eq ha hb2).mp z1) H locs ls hP hD hS h) (fun z1 => kf (fun z => z1 ((iI_eq ha hb2).mpr z)) H locs ls hP hD hS h)
theorem xw_if_eq (C : xc φ l R D cl tys nL cc own Ts) {a : Int} {off : Int} {tgt : Nat} (d : decode cc pc = .ok (.ifCond .eq off, 3)) (ht : (pc : Int) + off = (tgt : Int)) (ha : -2147483648 ≤ a ∧ a < 2147483648) (kt : a = 0 → xw φ k n w tgt lv st) (kf : ¬ a = 0 → xw φ k n w (pc + 3) lv st) : xw φ k n w pc lv (iV a :: st) := by
  obtain ⟨p, l, e, R, s, m, args, below, meth, c, Q, D, cl, tys, A, nL⟩ := φ
  obtain ⟨rfl, rfl, rfl, rfl, rfl, rfl, hx, hb, hml, hown, hts, hK, hA⟩ := C
  intro H locs ls hP hD hS h
  exact lv_if_eq hx hb d ht (fun z1 => kt ((iI_eq (b := 0) ha (by omega)).mp z1) H locs ls hP hD hS h) (fun z1 => kf (fun z => z1 ((iI_eq (b := 0) ha (by omega)).mpr z)) H locs ls hP hD hS h)
theorem xw_icmp_eq_N (C : xc φ l R D cl tys nL cc own Ts) {a b : Nat} {off : Int} {tgt : Nat} (d : decode cc pc = .ok (.if_icmp .eq off, 3)) (ht : (pc : Int) + off = (tgt : Int)) (ha : a < 2147483648) (hb2 : b < 2147483648) (kt : a = b → xw φ k n w tgt lv st) (kf : ¬ a = b → xw φ k n w (pc + 3) lv st) : xw φ k n w pc lv (nV b :: nV a :: st) := by
  obtain ⟨p, l, e, R, s, m, args, below, meth, c, Q, D, cl, tys, A, nL⟩ := φ
  obtain ⟨rfl, rfl, rfl, rfl, rfl, rfl, hx, hb, hml, hown, hts, hK, hA⟩ := C
  intro H locs ls hP hD hS h
  exact lv_icmp_eq hx hb d ht (fun z1 => kt (by have z := (iI_eq (by omega) (by omega)).mp z1; omega) H locs ls hP hD hS h) (fun z1 => kf (fun z => z1 ((iI_eq (by omega) (by omega)).mpr (by omega))) H locs ls hP hD hS h)
theorem xw_if_eq_N (C : xc φ l R D cl tys nL cc own Ts) {a : Nat} {off : Int} {tgt : Nat} (d : decode cc pc = .ok (.ifCond .eq off, 3)) (ht : (pc : Int) + off = (tgt : Int)) (ha : a < 2147483648) (kt : a = 0 → xw φ k n w tgt lv st) (kf : ¬ a = 0 → xw φ k n w (pc + 3) lv st) : xw φ k n w pc lv (nV a :: st) := by
  obtain ⟨p, l, e, R, s, m, args, below, meth, c, Q, D, cl, tys, A, nL⟩ := φ
  obtain ⟨rfl, rfl, rfl, rfl, rfl, rfl, hx, hb, hml, hown, hts, hK, hA⟩ := C
  intro H locs ls hP hD hS h
  exact lv_if_eq hx hb d ht (fun z1 => kt (by have z := (iI_eq (b := 0) (by omega) (by omega)).mp z1; omega) H locs ls hP hD hS h) (fun z1 => kf (fun z => z1 ((iI_eq (b := 0) (by omega) (by omega)).mpr (by omega))) H locs ls hP hD hS h)
theorem xw_icmp_ne (C : xc φ l R D cl tys nL cc own Ts) {a b : Int} {off : Int} {tgt : Nat} (d : decode cc pc = .ok (.if_icmp .ne off, 3)) (ht : (pc : Int) + off = (tgt : Int)) (ha : -2147483648 ≤ a ∧ a < 2147483648) (hb2 : -2147483648 ≤ b ∧ b < 2147483648) (kt : ¬ a = b → xw φ k n w tgt lv st) (kf : a = b → xw φ k n w (pc + 3) lv st) : xw φ k n w pc lv (iV b :: iV a :: st) := by
  obtain ⟨p, l, e, R, s, m, args, below, meth, c, Q, D, cl, tys, A, nL⟩ := φ
  obtain ⟨rfl, rfl, rfl, rfl, rfl, rfl, hx, hb, hml, hown, hts, hK, hA⟩ := C
  intro H locs ls hP hD hS h
  exact lv_icmp_ne hx hb d ht (fun z1 => kt (fun z => z1 ((iI_eq ha hb2).mpr z)) H locs ls hP hD hS h) (fun z1 => kf ((iI_eq ha hb2).mp z1) H locs ls hP hD hS h)
theorem xw_if_ne (C : xc φ l R D cl tys nL cc own Ts) {a : Int} {off : Int} {tgt : Nat} (d : decode cc pc = .ok (.ifCond .ne off, 3)) (ht : (pc : Int) + off = (tgt : Int)) (ha : -2147483648 ≤ a ∧ a < 2147483648) (kt : ¬ a = 0 → xw φ k n w tgt lv st) (kf : a = 0 → xw φ k n w (pc + 3) lv st) : xw φ k n w pc lv (iV a :: st) := by
  obtain ⟨p, l, e, R, s, m, args, below, meth, c, Q, D, cl, tys, A, nL⟩ := φ
  obtain ⟨rfl, rfl, rfl, rfl, rfl, rfl, hx, hb, hml, hown, hts, hK, hA⟩ := C
  intro H locs ls hP hD hS h
  exact lv_if_ne hx hb d ht (fun z1 => kt (fun z => z1 ((iI_eq (b := 0) ha (by omega)).mpr z)) H locs ls hP hD hS h) (fun z1 => kf ((iI_eq (b := 0) ha (by omega)).mp z1) H locs ls hP hD hS h)
theorem xw_icmp_ne_N (C : xc φ l R D cl tys nL cc own Ts) {a b : Nat} {off : Int} {tgt : Nat} (d : decode cc pc = .ok (.if_icmp .ne off, 3)) (ht : (pc : Int) + off = (tgt : Int)) (ha : a < 2147483648) (hb2 : b < 2147483648) (kt : ¬ a = b → xw φ k n w tgt lv st) (kf : a = b → xw φ k n w (pc + 3) lv st) : xw φ k n w pc lv (nV b :: nV a :: st) := by
  obtain ⟨p, l, e, R, s, m, args, below, meth, c, Q, D, cl, tys, A, nL⟩ := φ
  obtain ⟨rfl, rfl, rfl, rfl, rfl, rfl, hx, hb, hml, hown, hts, hK, hA⟩ := C
  intro H locs ls hP hD hS h
  exact lv_icmp_ne hx hb d ht (fun z1 => kt (fun z => z1 ((iI_eq (by omega) (by omega)).mpr (by omega))) H locs ls hP hD hS h) (fun z1 => kf (by have z := (iI_eq (by omega) (by omega)).mp z1; omega) H locs ls hP hD hS h)
theorem xw_if_ne_N (C : xc φ l R D cl tys nL cc own Ts) {a : Nat} {off : Int} {tgt : Nat} (d : decode cc pc = .ok (.ifCond .ne off, 3)) (ht : (pc : Int) + off = (tgt : Int)) (ha : a < 2147483648) (kt : ¬ a = 0 → xw φ k n w tgt lv st) (kf : a = 0 → xw φ k n w (pc + 3) lv st) : xw φ k n w pc lv (nV a :: st) := by
  obtain ⟨p, l, e, R, s, m, args, below, meth, c, Q, D, cl, tys, A, nL⟩ := φ
  obtain ⟨rfl, rfl, rfl, rfl, rfl, rfl, hx, hb, hml, hown, hts, hK, hA⟩ := C
  intro H locs ls hP hD hS h
  exact lv_if_ne hx hb d ht (fun z1 => kt (fun z => z1 ((iI_eq (b := 0) (by omega) (by omega)).mpr (by omega))) H locs ls hP hD hS h) (fun z1 => kf (by have z := (iI_eq (b := 0) (by omega) (by omega)).mp z1; omega) H locs ls hP hD hS h)
theorem xw_icmp_lt (C : xc φ l R D cl tys nL cc own Ts) {a b : Int} {off : Int} {tgt : Nat} (d : decode cc pc = .ok (.if_icmp .lt off, 3)) (ht : (pc : Int) + off = (tgt : Int)) (ha : -2147483648 ≤ a ∧ a < 2147483648) (hb2 : -2147483648 ≤ b ∧ b < 2147483648) (kt : a < b → xw φ k n w tgt lv st) (kf : ¬ a < b → xw φ k n w (pc + 3) lv st) : xw φ k n w pc lv (iV b :: iV a :: st) := by
  obtain ⟨p, l, e, R, s, m, args, below, meth, c, Q, D, cl, tys, A, nL⟩ := φ
  obtain ⟨rfl, rfl, rfl, rfl, rfl, rfl, hx, hb, hml, hown, hts, hK, hA⟩ := C
  intro H locs ls hP hD hS h
  exact lv_icmp_lt hx hb d ht (fun z1 => kt ((iI_lt ha hb2).mp z1) H locs ls hP hD hS h) (fun z1 => kf (fun z => z1 ((iI_lt ha hb2).mpr z)) H locs ls hP hD hS h)
theorem xw_if_lt (C : xc φ l R D cl tys nL cc own Ts) {a : Int} {off : Int} {tgt : Nat} (d : decode cc pc = .ok (.ifCond .lt off, 3)) (ht : (pc : Int) + off = (tgt : Int)) (ha : -2147483648 ≤ a ∧ a < 2147483648) (kt : a < 0 → xw φ k n w tgt lv st) (kf : ¬ a < 0 → xw φ k n w (pc + 3) lv st) : xw φ k n w pc lv (iV a :: st) := by
  obtain ⟨p, l, e, R, s, m, args, below, meth, c, Q, D, cl, tys, A, nL⟩ := φ
  obtain ⟨rfl, rfl, rfl, rfl, rfl, rfl, hx, hb, hml, hown, hts, hK, hA⟩ := C
  intro H locs ls hP hD hS h
  exact lv_if_lt hx hb d ht (fun z1 => kt ((iI_lt (b := 0) ha (by omega)).mp z1) H locs ls hP hD hS h) (fun z1 => kf (fun z => z1 ((iI_lt (b := 0) ha (by omega)).mpr z)) H locs ls hP hD hS h)
theorem xw_icmp_lt_N (C : xc φ l R D cl tys nL cc own Ts) {a b : Nat} {off : Int} {tgt : Nat} (d : decode cc pc = .ok (.if_icmp .lt off, 3)) (ht : (pc : Int) + off = (tgt : Int)) (ha : a < 2147483648) (hb2 : b < 2147483648) (kt : a < b → xw φ k n w tgt lv st) (kf : ¬ a < b → xw φ k n w (pc + 3) lv st) : xw φ k n w pc lv (nV b :: nV a :: st) := by
  obtain ⟨p, l, e, R, s, m, args, below, meth, c, Q, D, cl, tys, A, nL⟩ := φ
  obtain ⟨rfl, rfl, rfl, rfl, rfl, rfl, hx, hb, hml, hown, hts, hK, hA⟩ := C
  intro H locs ls hP hD hS h
  exact lv_icmp_lt hx hb d ht (fun z1 => kt (by have z := (iI_lt (by omega) (by omega)).mp z1; omega) H locs ls hP hD hS h) (fun z1 => kf (fun z => z1 ((iI_lt (by omega) (by omega)).mpr (by omega))) H locs ls hP hD hS h)
theorem xw_if_lt_N (C : xc φ l R D cl tys nL cc own Ts) {a : Nat} {off : Int} {tgt : Nat} (d : decode cc pc = .ok (.ifCond .lt off, 3)) (ht : (pc : Int) + off = (tgt : Int)) (ha : a < 2147483648) (kt : a < 0 → xw φ k n w tgt lv st) (kf : ¬ a < 0 → xw φ k n w (pc + 3) lv st) : xw φ k n w pc lv (nV a :: st) := by
  obtain ⟨p, l, e, R, s, m, args, below, meth, c, Q, D, cl, tys, A, nL⟩ := φ
  obtain ⟨rfl, rfl, rfl, rfl, rfl, rfl, hx, hb, hml, hown, hts, hK, hA⟩ := C
  intro H locs ls hP hD hS h
  exact lv_if_lt hx hb d ht (fun z1 => kt (by have z := (iI_lt (b := 0) (by omega) (by omega)).mp z1; omega) H locs ls hP hD hS h) (fun z1 => kf (fun z => z1 ((iI_lt (b := 0) (by omega) (by omega)).mpr (by omega))) H locs ls hP hD hS h)
theorem xw_icmp_ge (C : xc φ l R D cl tys nL cc own Ts) {a b : Int} {off : Int} {tgt : Nat} (d : decode cc pc = .ok (.if_icmp .ge off, 3)) (ht : (pc : Int) + off = (tgt : Int)) (ha : -2147483648 ≤ a ∧ a < 2147483648) (hb2 : -2147483648 ≤ b ∧ b < 2147483648) (kt : b ≤ a → xw φ k n w tgt lv st) (kf : ¬ b ≤ a → xw φ k n w (pc + 3) lv st) : xw φ k n w pc lv (iV b :: iV a :: st) := by
  obtain ⟨p, l, e, R, s, m, args, below, meth, c, Q, D, cl, tys, A, nL⟩ := φ
  obtain ⟨rfl, rfl, rfl, rfl, rfl, rfl, hx, hb, hml, hown, hts, hK, hA⟩ := C
  intro H locs ls hP hD hS h
  exact lv_icmp_ge hx hb d ht (fun z1 => kt ((iI_le hb2 ha).mp z1) H locs ls hP hD hS h) (fun z1 => kf (fun z => z1 ((iI_le hb2 ha).mpr z)) H locs ls hP hD hS h)
theorem xw_if_ge (C : xc φ l R D cl tys nL cc own Ts) {a : Int} {off : Int} {tgt : Nat} (d : decode cc pc = .ok (.ifCond .ge off, 3)) (ht : (pc : Int) + off = (tgt : Int)) (ha : -2147483648 ≤ a ∧ a < 2147483648) (kt : 0 ≤ a → xw φ k n w tgt lv st) (kf : ¬ 0 ≤ a → xw φ k n w (pc + 3) lv st) : xw φ k n w pc lv (iV a :: st) := by
  obtain ⟨p, l, e, R, s, m, args, below, meth, c, Q, D, cl, tys, A, nL⟩ := φ
  obtain ⟨rfl, rfl, rfl, rfl, rfl, rfl, hx, hb, hml, hown, hts, hK, hA⟩ := C
  intro H locs ls hP hD hS h
  exact lv_if_ge hx hb d ht (fun z1 => kt ((iI_le (a := 0) (by omega) ha).mp z1) H locs ls hP hD hS h) (fun z1 => kf (fun z => z1 ((iI_le (a := 0) (by omega) ha).mpr z)) H locs ls hP hD hS h)
theorem xw_icmp_ge_N (C : xc φ l R D cl tys nL cc own Ts) {a b : Nat} {off : Int} {tgt : Nat} (d : decode cc pc = .ok (.if_icmp .ge off, 3)) (ht : (pc : Int) + off = (tgt : Int)) (ha : a < 2147483648) (hb2 : b < 2147483648) (kt : b ≤ a → xw φ k n w tgt lv st) (kf : ¬ b ≤ a → xw φ k n w (pc + 3) lv st) : xw φ k n w pc lv (nV b :: nV a :: st) := by
  obtain ⟨p, l, e, R, s, m, args, below, meth, c, Q, D, cl, tys, A, nL⟩ := φ
  obtain ⟨rfl, rfl, rfl, rfl, rfl, rfl, hx, hb, hml, hown, hts, hK, hA⟩ := C
  intro H locs ls hP hD hS h
  exact lv_icmp_ge hx hb d ht (fun z1 => kt (by have z := (iI_le (by omega) (by omega)).mp z1; omega) H locs ls hP hD hS h) (fun z1 => kf (fun z => z1 ((iI_le (by omega) (by omega)).mpr (by omega))) H locs ls hP hD hS h)
theorem xw_if_ge_N (C : xc φ l R D cl tys nL cc own Ts) {a : Nat} {off : Int} {tgt : Nat} (d : decode cc pc = .ok (.ifCond .ge off, 3)) (ht : (pc : Int) + off = (tgt : Int)) (ha : a < 2147483648) (kt : 0 ≤ a → xw φ k n w tgt lv st) (kf : ¬ 0 ≤ a → xw φ k n w (pc + 3) lv st) : xw φ k n w pc lv (nV a :: st) := by
  obtain ⟨p, l, e, R, s, m, args, below, meth, c, Q, D, cl, tys, A, nL⟩ := φ
  obtain ⟨rfl, rfl, rfl, rfl, rfl, rfl, hx, hb, hml, hown, hts, hK, hA⟩ := C
  intro H locs ls hP hD hS h
  exact lv_if_ge hx hb d ht (fun z1 => kt (by have z := (iI_le (a := 0) (by omega) (by omega)).mp z1; omega) H locs ls hP hD hS h) (fun z1 => kf (fun z => z1 ((iI_le (a := 0) (by omega) (by omega)).mpr (by omega))) H locs ls hP hD hS h)
theorem xw_icmp_gt (C : xc φ l R D cl tys nL cc own Ts) {a b : Int} {off : Int} {tgt : Nat} (d : decode cc pc = .ok (.if_icmp .gt off, 3)) (ht : (pc : Int) + off = (tgt : Int)) (ha : -2147483648 ≤ a ∧ a < 2147483648) (hb2 : -2147483648 ≤ b ∧ b < 2147483648) (kt : b < a → xw φ k n w tgt lv st) (kf : ¬ b < a → xw φ k n w (pc + 3) lv st) : xw φ k n w pc lv (iV b :: iV a :: st) := by
  obtain ⟨p, l, e, R, s, m, args, below, meth, c, Q, D, cl, tys, A, nL⟩ := φ
  obtain ⟨rfl, rfl, rfl, rfl, rfl, rfl, hx, hb, hml, hown, hts, hK, hA⟩ := C
  intro H locs ls hP hD hS h
  exact lv_icmp_gt hx hb d ht (fun z1 => kt ((iI_lt hb2 ha).mp z1) H locs ls hP hD hS h) (fun z1 => kf (fun z => z1 ((iI_lt hb2 ha).mpr z)) H locs ls hP hD hS h)
theorem xw_if_gt (C : xc φ l R D cl tys nL cc own Ts) {a : Int} {off : Int} {tgt : Nat} (d : decode cc pc = .ok (.ifCond .gt off, 3)) (ht : (pc : Int) + off = (tgt : Int)) (ha : -2147483648 ≤ a ∧ a < 2147483648) (kt : 0 < a → xw φ k n w tgt lv st) (kf : ¬ 0 < a → xw φ k n w (pc + 3) lv st) : xw φ k n w pc lv (iV a :: st) := by
  obtain ⟨p, l, e, R, s, m, args, below, meth, c, Q, D, cl, tys, A, nL⟩ := φ
  obtain ⟨rfl, rfl, rfl, rfl, rfl, rfl, hx, hb, hml, hown, hts, hK, hA⟩ := C
  intro H locs ls hP hD hS h
  exact lv_if_gt hx hb d ht (fun z1 => kt ((iI_lt (a := 0) (by omega) ha).mp z1) H locs ls hP hD hS h) (fun z1 => kf (fun z => z1 ((iI_lt (a := 0) (by omega) ha).mpr z)) H locs ls hP hD hS h)
theorem xw_icmp_gt_N (C : xc φ l R D cl tys nL cc own Ts) {a b : Nat} {off : Int} {tgt : Nat} (d : decode cc pc = .ok (.if_icmp .gt off, 3)) (ht : (pc : Int) + off = (tgt : Int)) (ha : a < 2147483648) (hb2 : b < 2147483648) (kt : b < a → xw φ k n w tgt lv st) (kf : ¬ b < a → xw φ k n w (pc + 3) lv st) : xw φ k n w pc lv (nV b :: nV a :: st) := by
  obtain ⟨p, l, e, R, s, m, args, below, meth, c, Q, D, cl, tys, A, nL⟩ := φ
  obtain ⟨rfl, rfl, rfl, rfl, rfl, rfl, hx, hb, hml, hown, hts, hK, hA⟩ := C
  intro H locs ls hP hD hS h
  exact lv_icmp_gt hx hb d ht (fun z1 => kt (by have z := (iI_lt (by omega) (by omega)).mp z1; omega) H locs ls hP hD hS h) (fun z1 => kf (fun z => z1 ((iI_lt (by omega) (by omega)).mpr (by omega))) H locs ls hP hD hS h)
theorem xw_if_gt_N (C : xc φ l R D cl tys nL cc own Ts) {a : Nat} {off : Int} {tgt : Nat} (d : decode cc pc = .ok (.ifCond .gt off, 3)) (ht : (pc : Int) + off = (tgt : Int)) (ha : a < 2147483648) (kt : 0 < a → xw φ k n w tgt lv st) (kf : ¬ 0 < a → xw φ k n w (pc + 3) lv st) : xw φ k n w pc lv (nV a :: st) := by
  obtain ⟨p, l, e, R, s, m, args, below, meth, c, Q, D, cl, tys, A, nL⟩ := φ
  obtain ⟨rfl, rfl, rfl, rfl, rfl, rfl, hx, hb, hml, hown, hts, hK, hA⟩ := C
  intro H locs ls hP hD hS h
  exact lv_if_gt hx hb d ht (fun z1 => kt (by have z := (iI_lt (a := 0) (by omega) (by omega)).mp z1; omega) H locs ls hP hD hS h) (fun z1 => kf (fun z => z1 ((iI_lt (a := 0) (by omega) (by omega)).mpr (by omega))) H locs ls hP hD hS h)
theorem xw_icmp_le (C : xc φ l R D cl tys nL cc own Ts) {a b : Int} {off : Int} {tgt : Nat} (d : decode cc pc = .ok (.if_icmp .le off, 3)) (ht : (pc : Int) + off = (tgt : Int)) (ha : -2147483648 ≤ a ∧ a < 2147483648) (hb2 : -2147483648 ≤ b ∧ b < 2147483648) (kt : a ≤ b → xw φ k n w tgt lv st) (kf : ¬ a ≤ b → xw φ k n w (pc + 3) lv st) : xw φ k n w pc lv (iV b :: iV a :: st) := by
  obtain ⟨p, l, e, R, s, m, args, below, meth, c, Q, D, cl, tys, A, nL⟩ := φ
  obtain ⟨rfl, rfl, rfl, rfl, rfl, rfl, hx, hb, hml, hown, hts, hK, hA⟩ := C
  intro H locs ls hP hD hS h
  exact lv_icmp_le hx hb d ht (fun z1 => kt ((iI_le ha hb2).mp z1) H locs ls hP hD hS h) (fun z1 => kf (fun z => z1 ((iI_le ha hb2).mpr z)) H locs ls hP hD hS h)
theorem xw_if_le (C : xc φ l R D cl tys nL cc own Ts) {a : Int} {off : Int} {tgt : Nat} (d : decode cc pc = .ok (.ifCond .le off, 3)) (ht : (pc : Int) + off = (tgt : Int)) (ha : -2147483648 ≤ a ∧ a < 2147483648) (kt : a ≤ 0 → xw φ k n w tgt lv st) (kf : ¬ a ≤ 0 → xw φ k n w (pc + 3) lv st) : xw φ k n w pc lv (iV a :: st) := by
  obtain ⟨p, l, e, R, s, m, args, below, meth, c, Q, D, cl, tys, A, nL⟩ := φ
  obtain ⟨rfl, rfl, rfl, rfl, rfl, rfl, hx, hb, hml, hown, hts, hK, hA⟩ := C
  intro H locs ls hP hD hS h
  exact lv_if_le hx hb d ht (fun z1 => kt ((iI_le (b := 0) ha (by omega)).mp z1) H locs ls hP hD hS h) (fun z1 => kf (fun z => z1 ((iI_le (b := 0) ha (by omega)).mpr z)) H locs ls hP hD hS h)
theorem xw_icmp_le_N (C : xc φ l R D cl tys nL cc own Ts) {a b : Nat} {off : Int} {tgt : Nat} (d : decode cc pc = .ok (.if_icmp .le off, 3)) (ht : (pc : Int) + off = (tgt : Int)) (ha : a < 2147483648) (hb2 : b < 2147483648) (kt : a ≤ b → xw φ k n w tgt lv st) (kf : ¬ a ≤ b → xw φ k n w (pc + 3) lv st) : xw φ k n w pc lv (nV b :: nV a :: st) := by
  obtain ⟨p, l, e, R, s, m, args, below, meth, c, Q, D, cl, tys, A, nL⟩ := φ
  obtain ⟨rfl, rfl, rfl, rfl, rfl, rfl, hx, hb, hml, hown, hts, hK, hA⟩ := C
  intro H locs ls hP hD hS h
  exact lv_icmp_le hx hb d ht (fun z1 => kt (by have z := (iI_le (by omega) (by omega)).mp z1; omega) H locs ls hP hD hS h) (fun z1 => kf (fun z => z1 ((iI_le (by omega) (by omega)).mpr (by omega))) H locs ls hP hD hS h)
theorem xw_if_le_N (C : xc φ l R D cl tys nL cc own Ts) {a : Nat} {off : Int} {tgt : Nat} (d : decode cc pc = .ok (.ifCond .le off, 3)) (ht : (pc : Int) + off = (tgt : Int)) (ha : a < 2147483648) (kt : a ≤ 0 → xw φ k n w tgt lv st) (kf : ¬ a ≤ 0 → xw φ k n w (pc + 3) lv st) : xw φ k n w pc lv (nV a :: st) := by
  obtain ⟨p, l, e, R, s, m, args, below, meth, c, Q, D, cl, tys, A, nL⟩ := φ
  obtain ⟨rfl, rfl, rfl, rfl, rfl, rfl, hx, hb, hml, hown, hts, hK, hA⟩ := C
  intro H locs ls hP hD hS h
  exact lv_if_le hx hb d ht (fun z1 => kt (by have z := (iI_le (b := 0) (by omega) (by omega)).mp z1; omega) H locs ls hP hD hS h) (fun z1 => kf (fun z => z1 ((iI_le (b := 0) (by omega) (by omega)).mpr (by omega))) H locs ls hP hD hS h)
theorem xw_if_eq_B (C : xc φ l R D cl tys nL cc own Ts) {b : Bool} {off : Int} {tgt : Nat} (d : decode cc pc = .ok (.ifCond .eq off, 3)) (ht : (pc : Int) + off = (tgt : Int))  (kt : b = false → xw φ k n w tgt lv st) (kf : b = true → xw φ k n w (pc + 3) lv st) : xw φ k n w pc lv (bV b :: st) := by
  obtain ⟨p, l, e, R, s, m, args, below, meth, c, Q, D, cl, tys, A, nL⟩ := φ
  obtain ⟨rfl, rfl, rfl, rfl, rfl, rfl, hx, hb, hml, hown, hts, hK, hA⟩ := C
  intro H locs ls hP hD hS h
  cases b
  · exact lv_if_eq hx hb d ht (fun _ => kt rfl H locs ls hP hD hS h) (fun z1 => absurd rfl z1)
  · exact lv_if_eq hx hb d ht (fun z1 => absurd z1 (by decide)) (fun _ => kf rfl H locs ls hP hD hS h)
theorem xw_if_ne_B (C : xc φ l R D cl tys nL cc own Ts) {b : Bool} {off : Int} {tgt : Nat} (d : decode cc pc = .ok (.ifCond .ne off, 3)) (ht : (pc : Int) + off = (tgt : Int))  (kt : b = true → xw φ k n w tgt lv st) (kf : b = false → xw φ k n w (pc + 3) lv st) : xw φ k n w pc lv (bV b :: st) := by
  obtain ⟨p, l, e, R, s, m, args, below, meth, c, Q, D, cl, tys, A, nL⟩ := φ
  obtain ⟨rfl, rfl, rfl, rfl, rfl, rfl, hx, hb, hml, hown, hts, hK, hA⟩ := C
  intro H locs ls hP hD hS h
  cases b
  · exact lv_if_ne hx hb d ht (fun z1 => absurd rfl z1) (fun _ => kf rfl H locs ls hP hD hS h)
  · exact lv_if_ne hx hb d ht (fun _ => kt rfl H locs ls hP hD hS h) (fun z1 => absurd z1 (by decide))
/-- another writing of the stack, of the world, of the locals -/
theorem xw_st {st' : List Value} (e : st = st') (kk : xw φ k n w pc lv st') : xw φ k n w pc lv st := e ▸ kk
theorem xw_wo {w' : va_W} (e : w = w') (kk : xw φ k n w' pc lv st) : xw φ k n w pc lv st := e ▸ kk
theorem xw_le {lv' : List (Nat × Value)} (e : lv = lv') (kk : xw φ k n w pc lv' st) : xw φ k n w pc lv st := e ▸ kk
theorem xw_get (C : xc φ l R D cl tys nL cc own Ts) {ref Cn : String} {T : u_T} {N ci index a : Nat} {fs : List Value} {v : Value} (hin : ∀ w ∈ u_ws Cn T N, w ∈ Ts) (q0 f : Nat) (he : w[q0]? = some (a, .inr (ci, fs))) (hc : cl[ci]? = some (Cn, T, N)) (hf : f < N) (hlink : Cond.fieldLink own index ref (T f).2.1 (T f).2.2.1 ∈ Ts) (href : (T f).1 = ref) (hv : fs[f]? = some v) (d : decode cc pc = .ok (.getfield index, 3)) (kk : xw φ k n w (pc + 3) lv (v :: st)) : xw φ k n w pc lv (.ref a :: st) := by
  obtain ⟨p, l, e, R, s, m, args, below, meth, c, Q, D, cl, tys, A, nL⟩ := φ
  obtain ⟨rfl, rfl, rfl, rfl, rfl, rfl, hx, hb, hml, hown, hts, hK, hA⟩ := C
  intro H locs ls hP hD hS h
  exact va_get hx hb hts hin hown hK hP q0 he hc f hf (hts _ hlink) (fun x h9 => href ▸ h9) hv d (kk H locs ls hP hD hS h)
theorem xw_put (C : xc φ l R D cl tys nL cc own Ts) {ref Cn : String} {T : u_T} {N ci index a : Nat} {fs : List Value} {v : Value} {w' : va_W} (hin : ∀ w ∈ u_ws Cn T N, w ∈ Ts) (ty0 : Nat → FieldType) (hty : ∀ k, k < N → parseFieldDescriptor (T k).2.2.1 = some (ty0 k)) (hnm : ∀ a, a < N → ∀ b, b < N → a ≠ b → (T a).2.1 ≠ (T b).2.1) (q0 f : Nat) (he : w[q0]? = some (a, .inr (ci, fs))) (hc : cl[ci]? = some (Cn, T, N)) (hf : f < N) (hlink : Cond.fieldLink own index ref (T f).2.1 (T f).2.2.1 ∈ Ts) (href : (T f).1 = ref) (hfin : (T f).2.2.2 = false) (hn : narrow (ty0 f) v = v) (hfit : fits (ty0 f) v = true) (hl : f < fs.length) (hw : w.set q0 (a, .inr (ci, fs.set f v)) = w') (d : decode cc pc = .ok (.putfield index, 3)) (kk : xw φ k n w' (pc + 3) lv st) : xw φ k n w pc lv (v :: .ref a :: st) := by
  obtain ⟨p, l, e, R, s, m, args, below, meth, c, Q, D, cl, tys, A, nL⟩ := φ
  obtain ⟨rfl, rfl, rfl, rfl, rfl, rfl, hx, hb, hml, hown, hts, hK, hA⟩ := C
  intro H locs ls hP hD hS h
  exact va_put hx hb hts hin ty0 hty hnm hown hK hP hD hS q0 he hc f hf (hts _ hlink) (fun x h9 => href ▸ h9) hfin (hty f hf) hn hfit hl d (fun H1 locs1 hP hD hS => kk H1 locs1 ls (hw ▸ hP) (hw ▸ hD) hS h)
theorem xw_putF (C : xc φ l R D cl tys nL cc own Ts) (I : xi φ) {Cn : String} {T : u_T} {N ci index a : Nat} {fs : List Value} {v : Value} {w' : va_W} (hin : ∀ w ∈ u_ws Cn T N, w ∈ Ts) (ty0 : Nat → FieldType) (hty : ∀ k, k < N → parseFieldDescriptor (T k).2.2.1 = some (ty0 k)) (hnm : ∀ a, a < N → ∀ b, b < N → a ≠ b → (T a).2.1 ≠ (T b).2.1) (q0 f : Nat) (he : w[q0]? = some (a, .inr (ci, fs))) (hc : cl[ci]? = some (Cn, T, N)) (hf : f < N) (hlink : Cond.fieldLink own index (T f).1 (T f).2.1 (T f).2.2.1 ∈ Ts) (hfin : (T f).2.2.2 = true) (hdecl : (T f).1 = own) (hn : narrow (ty0 f) v = v) (hfit : fits (ty0 f) v = true) (hl : f < fs.length) (hw : w.set q0 (a, .inr (ci, fs.set f v)) = w') (d : decode cc pc = .ok (.putfield index, 3)) (kk : xw φ k n w' (pc + 3) lv st) : xw φ k n w pc lv (v :: .ref a :: st) := by
  obtain ⟨p, l, e, R, s, m, args, below, meth, c, Q, D, cl, tys, A, nL⟩ := φ
  obtain ⟨rfl, rfl, rfl, rfl, rfl, rfl, hx, hb, hml, hown, hts, hK, hA⟩ := C
  intro H locs ls hP hD hS h
  exact va_putF hx hb hts hin ty0 hty hnm hown hK hP hD hS q0 he hc f hf (hts _ hlink) (fun x h9 => h9) hfin I hdecl (hty f hf) hn hfit hl d (fun H1 locs1 hP hD hS => kk H1 locs1 ls (hw ▸ hP) (hw ▸ hD) hS h)
theorem xw_iald (C : xc φ l R D cl tys nL cc own Ts) {a N : Nat} {cA : ClassId} {B : Nat → Nat} {i : Int} (q0 t0 j : Nat) (ha : w[q0]? = some (a, .inl (cA, N, .inl (fN B)))) (ht : tys[t0]? = some (cA, .int)) (hi : i = (j : Int)) (hj : j < N) (hN : N < 2147483648) (d : decode cc pc = .ok (.iaload, 1)) (kk : xw φ k n w (pc + 1) lv (nV (B j) :: st)) : xw φ k n w pc lv (iV i :: .ref a :: st) := by
  obtain ⟨p, l, e, R, s, m, args, below, meth, c, Q, D, cl, tys, A, nL⟩ := φ
  obtain ⟨rfl, rfl, rfl, rfl, rfl, rfl, hx, hb, hml, hown, hts, hK, hA⟩ := C
  intro H locs ls hP hD hS h
  subst hi
  refine va_iald hx hb hK hP q0 t0 ha ht (iI_in hj hN) d ?_
  rw [iI_cl (by omega)]
  exact kk H locs ls hP hD hS h
theorem xw_iast (C : xc φ l R D cl tys nL cc own Ts) {a N : Nat} {cA : ClassId} {B : Nat → Nat} {i x : Int} {w' : va_W} (q0 t0 j v : Nat) (ha : w[q0]? = some (a, .inl (cA, N, .inl (fN B)))) (ht : tys[t0]? = some (cA, .int)) (hi : i = (j : Int)) (hv : x = (v : Int)) (hj : j < N) (hN : N < 2147483648) (hw : w.set q0 (a, .inl (cA, N, .inl (fN (va_up B j v)))) = w') (d : decode cc pc = .ok (.iastore, 1)) (kk : xw φ k n w' (pc + 1) lv st) : xw φ k n w pc lv (iV x :: iV i :: .ref a :: st) := by
  obtain ⟨p, l, e, R, s, m, args, below, meth, c, Q, D, cl, tys, A, nL⟩ := φ
  obtain ⟨rfl, rfl, rfl, rfl, rfl, rfl, hx, hb, hml, hown, hts, hK, hA⟩ := C
  intro H locs ls hP hD hS h
  subst hi; subst hv
  refine va_iast hx hb hK hP hD hS q0 t0 ha ht (iI_in hj hN) d (fun H1 locs1 hP hD hS => ?_)
  rw [iI_cl (by omega), fN_upd, hw] at hP hD
  exact kk H1 locs1 ls hP hD hS h
theorem xw_alen (C : xc φ l R D cl tys nL cc own Ts) {a : Nat} {cA : ClassId} {x : vp_A} {ty : FieldType} (q0 t0 : Nat) (ha : w[q0]? = some (a, .inl (cA, x))) (ht : tys[t0]? = some (cA, ty)) (d : decode cc pc = .ok (.arraylength, 1)) (kk : xw φ k n w (pc + 1) lv (nV x.1 :: st)) : xw φ k n w pc lv (.ref a :: st) := by
  obtain ⟨p, l, e, R, s, m, args, below, meth, c, Q, D, cl, tys, A, nL⟩ := φ
  obtain ⟨rfl, rfl, rfl, rfl, rfl, rfl, hx, hb, hml, hown, hts, hK, hA⟩ := C
  intro H locs ls hP hD hS h
  exact va_alen hx hb hK hP q0 t0 ha ht (iI_nI x.1).symm d (kk H locs ls hP hD hS h)
theorem xw_iret (C : xc φ l R D cl tys nL cc own Ts) {w0 : va_W} {Post : Option Value → va_W → Prop} {mc ms : Nat} {x : Int32} (r : xr φ w0 Post (some .int) mc ms) (hk : k ≤ mc) (hn : n ≤ ms) (d : decode cc pc = .ok (.ireturn, 1)) (hp : Post (some (.int x)) w) : xw φ k n w pc lv [.int x] := by
  obtain ⟨p, l, e, R, s, m, args, below, meth, c, Q, D, cl, tys, A, nL⟩ := φ
  obtain ⟨rfl, rfl, rfl, rfl, rfl, rfl, hx, hb, hml, hown, hts, hK, hA⟩ := C
  intro H locs ls hP hD hS h
  obtain ⟨hr, hlocks, rfl, rfl⟩ := r
  exact W.widen hk hn (W.iret hx hb hr (fun t ht hW => ⟨⟨_, _, rfl, hp, by rw [ht]; exact hP, hD⟩, hS.F ht⟩) hS.2.2 d hlocks)
theorem xw_bret (C : xc φ l R D cl tys nL cc own Ts) {w0 : va_W} {Post : Option Value → va_W → Prop} {mc ms : Nat} {b : Bool} (r : xr φ w0 Post (some .boolean) mc ms) (hk : k ≤ mc) (hn : n ≤ ms) (d : decode cc pc = .ok (.ireturn, 1)) (hp : Post (some (bV b)) w) : xw φ k n w pc lv [bV b] := by
  obtain ⟨p, l, e, R, s, m, args, below, meth, c, Q, D, cl, tys, A, nL⟩ := φ
  obtain ⟨rfl, rfl, rfl, rfl, rfl, rfl, hx, hb, hml, hown, hts, hK, hA⟩ := C
  intro H locs ls hP hD hS h
  obtain ⟨hr, hlocks, rfl, rfl⟩ := r
  exact W.widen hk hn (W.zret hx hb hr (by cases b <;> rfl) (fun t ht hW => ⟨⟨_, _, rfl, hp, by rw [ht]; exact hP, hD⟩, hS.F ht⟩) hS.2.2 d hlocks)
theorem xw_vret (C : xc φ l R D cl tys nL cc own Ts) {w0 : va_W} {Post : Option Value → va_W → Prop} {mc ms : Nat} (r : xr φ w0 Post none mc ms) (hk : k ≤ mc) (hn : n ≤ ms) (d : decode cc pc = .ok (.return_, 1)) (hp : Post none w) : xw φ k n w pc lv [] := by
  obtain ⟨p, l, e, R, s, m, args, below, meth, c, Q, D, cl, tys, A, nL⟩ := φ
  obtain ⟨rfl, rfl, rfl, rfl, rfl, rfl, hx, hb, hml, hown, hts, hK, hA⟩ := C
  intro H locs ls hP hD hS h
  obtain ⟨hr, hlocks, rfl, rfl⟩ := r
  exact W.widen hk hn (W.vret hx hb hr (fun t ht hW => ⟨⟨_, _, rfl, hp, by rw [ht]; exact hP, hD⟩, hS.F ht⟩) hS.2.2 d hlocks)
theorem xw_lret (C : xc φ l R D cl tys nL cc own Ts) {w0 : va_W} {Post : Option Value → va_W → Prop} {mc ms : Nat} {x : Int64} (r : xr φ w0 Post (some .long) mc ms) (hk : k ≤ mc) (hn : n ≤ ms) (d : decode cc pc = .ok (.lreturn, 1)) (hp : Post (some (.long x)) w) : xw φ k n w pc lv [.long x] := by
  obtain ⟨p, l, e, R, s, m, args, below, meth, c, Q, D, cl, tys, A, nL⟩ := φ
  obtain ⟨rfl, rfl, rfl, rfl, rfl, rfl, hx, hb, hml, hown, hts, hK, hA⟩ := C
  intro H locs ls hP hD hS h
  obtain ⟨hr, hlocks, rfl, rfl⟩ := r
  exact W.widen hk hn (W.lret hx hb hr (fun t ht hW => ⟨⟨_, _, rfl, hp, by rw [ht]; exact hP, hD⟩, hS.F ht⟩) hS.2.2 d hlocks)
theorem xw_dret (C : xc φ l R D cl tys nL cc own Ts) {w0 : va_W} {Post : Option Value → va_W → Prop} {mc ms : Nat} {x : UInt64} (r : xr φ w0 Post (some .double) mc ms) (hk : k ≤ mc) (hn : n ≤ ms) (d : decode cc pc = .ok (.dreturn, 1)) (hp : Post (some (.double x)) w) : xw φ k n w pc lv [.double x] := by
  obtain ⟨p, l, e, R, s, m, args, below, meth, c, Q, D, cl, tys, A, nL⟩ := φ
  obtain ⟨rfl, rfl, rfl, rfl, rfl, rfl, hx, hb, hml, hown, hts, hK, hA⟩ := C
  intro H locs ls hP hD hS h
  obtain ⟨hr, hlocks, rfl, rfl⟩ := r
  exact W.widen hk hn (W.dret hx hb hr (fun t ht hW => ⟨⟨_, _, rfl, hp, by rw [ht]; exact hP, hD⟩, hS.F ht⟩) hS.2.2 d hlocks)
/-- behind a call that has run -/
theorem xw_run {p : Program} {l : Launch} {e : Env} {R : Room} {s : State} {m : MethodId} {args a : Array Value} {below : List Frame} {meth : Method} {c : Code} {H : Heap} {locs : List Loc} {Q : State → Prop} {mc ms : Nat} {ls : Array Slot} {wc : va_W} {A : Nat → Prop} {Post : Option Value → va_W → Prop}
    (hr : va_Run p l e R s m args below meth c H locs k n mc ms (F0 m pc ls st) rest (ctQ D cl wc H.size Post a) (va_A wc H.size)) (hS : va_S A s.heap H locs) (hF : ∀ q, va_A wc H.size q → A q)
    (kk : ∀ (v : Option Value) (w1 : va_W) (H1 : Heap) (locs1 : List Loc), Post v w1 → va_P D cl w1 H1 → va_D (va_A wc H.size) w1 → (∀ q : Nat, q < H.size → ¬ va_A wc H.size q → H1[q]? = H[q]?) → va_S A s.heap H1 locs1 → W p l e R s m args below meth c H1 locs1 (k + mc) (n + ms) Q (F0 m (pc + 3) ls (v.toList ++ rest))) : W p l e R s m args below meth c H locs k n Q (F0 m pc ls st) := by
  intro T hT X
  obtain ⟨v, st₀, t, T', L, h0, X', hL, e1, e2, ⟨⟨v', w1, hv, hp, hP1, hD1⟩, hz, hk⟩, stp⟩ := hr T hT X
  cases hv
  rw [h0] at hz hk
  obtain ⟨t2, a1, b1⟩ := kk v w1 T'.heap (locs ++ L) hp (by rw [e1]; exact hP1) hD1 (fun q h1 h2 => by rw [e1]; exact hk q h1 h2)
    ⟨Nat.le_trans hS.1 (by rw [e1]; exact hz), fun q h1 h2 => by rw [e1, hk q (Nat.lt_of_lt_of_le h1 hS.1) (fun z => h2 (hF q z))]; exact hS.2.1 q h1 h2, fun q hq => by
      rcases List.mem_append.mp hq with h | h
      · exact hS.2.2 q h
      · exact hF _ (hL q h)⟩ T' rfl X'
  exact ⟨t2, stp t2 a1, b1⟩
theorem va_selfree {A0 : Nat → Prop} {ws : va_W} {H0 H : Heap} {locs : List Loc} (hD : va_D A0 ws) (hS : va_S A0 H0 H locs) (hA : ∀ q, H0.size ≤ q → A0 q) : ∀ q, va_A ws H.size q → A0 q := by
  intro q h
  rcases h with ⟨k, e, h⟩ | h
  · exact hD.2 k (q, e) h
  · exact hA q (Nat.le_trans hS.1 h)
set_option maxHeartbeats 4000000 in
/-- a virtual call over the whole world -/
theorem xw_V (C : xc φ l R D cl tys nL cc own Ts) {Cn : String} {T : u_T} {N : Nat} {index b ci q0 maxL mc ms : Nat} {y : MethodName} {ws ws' : List Cond} {bytes : ByteArray} {ret : Option FieldType} {rm : Room} {As fs : List Value} {Post : Option Value → va_W → Prop}
    (hM : CT l y ws rm D cl tys (.ref b :: As) w Post mc ms) (hg : GoodIn Ts (wsV own index Cn y ws)) (hw : ws = .code y bytes maxL ret :: ws') (hrc : rm.cells = mc) (hrs : rm.slots = ms) {na : Nat} (hna : As.length = na)
    (hy : y.cls = Cn ∧ y.cls ≠ "java/lang/invoke/MethodHandle" ∧ y.cls ≠ "java/lang/invoke/VarHandle" ∧ (parseMethodDescriptor y.desc).map (fun d => d.parameters.length) = some na) (hR : rm.frames + 1 ≤ R.frames ∧ 8 + (maxL + 11) + rm.locals ≤ R.locals)
    (hrecv : w[q0]? = some (b, .inr (ci, fs))) (hci : cl[ci]? = some (Cn, T, N)) (hst : st = As.reverse ++ .ref b :: rest) (hcat : (rest.map fun v => v.category).sum ≤ 8) (d : decode cc pc = .ok (.invokevirtual index, 3)) (hf : k + mc ≤ R.cells ∧ n + ms ≤ R.slots)
    (kk : ∀ (v : Option Value) (w1 : va_W), Post v w1 → xw φ (k + mc) (n + ms) w1 (pc + 3) lv (v.toList ++ rest)) : xw φ k n w pc lv st := by
  obtain ⟨p, l, e, R, s, m, args, below, meth, c, Q, D, cl, tys, A, nL⟩ := φ
  obtain ⟨rfl, rfl, rfl, rfl, rfl, rfl, hx, hb, hml, hown, hts, hK, hA⟩ := C
  intro H locs ls hP hD hS h
  have hF := va_selfree hD hS hA
  refine xw_run (va_runV (As := As) (rest := rest) (b := b) (C := Cn) ⟨hx, hb, hml, hown, hts⟩ (hM H.size) (cwV na hts hg hw hrc hrs hy hR) ⟨ct_blind, va_recv hK hP hci hrecv, fun U hU hW => ⟨rfl, by rw [hU], by rw [hU]; exact hP, va_K.moved hW.alike hK, hD.weaken (fun _ _ _ _ => trivial)⟩⟩ rfl hna h.1 hst (lv_room hcat) d hf) hS hF ?_
  exact fun v w1 H1 locs1 hp hP1 hD1 hk1 hS1 => kk v w1 hp H1 locs1 ls hP1 (hD1.weaken (fun k q _ h => hF q.1 h)) hS1 h
set_option maxHeartbeats 4000000 in
/-- a static call over the whole world -/
theorem xw_S (C : xc φ l R D cl tys nL cc own Ts) {index maxL mc ms : Nat} {y : MethodName} {ws ws' : List Cond} {bytes : ByteArray} {ret : Option FieldType} {rm : Room} {As : List Value} {Post : Option Value → va_W → Prop}
    (hM : CT l y ws rm D cl tys As w Post mc ms) (hg : GoodIn Ts (va_wsS own index y ws)) (hw : ws = .code y bytes maxL ret :: ws') (hrc : rm.cells = mc) (hrs : rm.slots = ms) {na : Nat} (hna : As.length = na)
    (hy : y.cls ≠ "java/lang/invoke/MethodHandle" ∧ y.cls ≠ "java/lang/invoke/VarHandle" ∧ (parseMethodDescriptor y.desc).map (fun d => d.parameters.length) = some na) (hR : rm.frames + 1 ≤ R.frames ∧ 8 + (maxL + 11) + rm.locals ≤ R.locals)
    (hst : st = As.reverse ++ rest) (hcat : (rest.map fun v => v.category).sum ≤ 8) (d : decode cc pc = .ok (.invokestatic index, 3)) (hf : k + mc ≤ R.cells ∧ n + ms ≤ R.slots)
    (kk : ∀ (v : Option Value) (w1 : va_W), Post v w1 → xw φ (k + mc) (n + ms) w1 (pc + 3) lv (v.toList ++ rest)) : xw φ k n w pc lv st := by
  obtain ⟨p, l, e, R, s, m, args, below, meth, c, Q, D, cl, tys, A, nL⟩ := φ
  obtain ⟨rfl, rfl, rfl, rfl, rfl, rfl, hx, hb, hml, hown, hts, hK, hA⟩ := C
  intro H locs ls hP hD hS h
  have hF := va_selfree hD hS hA
  refine xw_run (va_runS (As := As) (rest := rest) ⟨hx, hb, hml, hown, hts⟩ (hM H.size) (va_cwS na hts hg hw hrc hrs hy hR) ⟨ct_blind, fun U hU hW => ⟨rfl, by rw [hU], by rw [hU]; exact hP, va_K.moved hW.alike hK, hD.weaken (fun _ _ _ _ => trivial)⟩⟩ rfl hna h.1 hst (lv_room hcat) d hf) hS hF ?_
  exact fun v w1 H1 locs1 hp hP1 hD1 hk1 hS1 => kk v w1 hp H1 locs1 ls hP1 (hD1.weaken (fun k q _ h => hF q.1 h)) hS1 h

theorem xw_iconst_N (C : xc φ l R D cl tys nL cc own Ts) {z : Int} (v : Nat) (d : decode cc pc = .ok (.iconst z, 1)) (hz : z = (v : Int)) (kk : xw φ k n w (pc + 1) lv (nV v :: st)) : xw φ k n w pc lv (st) := by
  obtain ⟨p, l, e, R, s, m, args, below, meth, c, Q, D, cl, tys, A, nL⟩ := φ
  obtain ⟨rfl, rfl, rfl, rfl, rfl, rfl, hx, hb, hml, hown, hts, hK, hA⟩ := C
  intro H locs ls hP hD hS h
  exact lv_iconst hx hb d (congrArg iI hz) (kk H locs ls hP hD hS h)
theorem xw_bipush_N (C : xc φ l R D cl tys nL cc own Ts) {z : Int} (v : Nat) (d : decode cc pc = .ok (.bipush z, 2)) (hv : (Int8.ofInt z).toInt32 = iI (v : Int)) (kk : xw φ k n w (pc + 2) lv (nV v :: st)) : xw φ k n w pc lv (st) := by
  obtain ⟨p, l, e, R, s, m, args, below, meth, c, Q, D, cl, tys, A, nL⟩ := φ
  obtain ⟨rfl, rfl, rfl, rfl, rfl, rfl, hx, hb, hml, hown, hts, hK, hA⟩ := C
  intro H locs ls hP hD hS h
  exact lv_bipush hx hb d hv (kk H locs ls hP hD hS h)
theorem xw_sipush_N (C : xc φ l R D cl tys nL cc own Ts) {z : Int} (v : Nat) (d : decode cc pc = .ok (.sipush z, 3)) (hv : (Int16.ofInt z).toInt32 = iI (v : Int)) (kk : xw φ k n w (pc + 3) lv (nV v :: st)) : xw φ k n w pc lv (st) := by
  obtain ⟨p, l, e, R, s, m, args, below, meth, c, Q, D, cl, tys, A, nL⟩ := φ
  obtain ⟨rfl, rfl, rfl, rfl, rfl, rfl, hx, hb, hml, hown, hts, hK, hA⟩ := C
  intro H locs ls hP hD hS h
  exact lv_sipush hx hb d hv (kk H locs ls hP hD hS h)
/-- a contract's end told outright: the answer x, the world w' -/
def PD (x : Option Value) (w' : va_W) : Option Value → va_W → Prop := fun v w1 => v = x ∧ w1 = w'
theorem PD.i {x : Option Value} {w' : va_W} : PD x w' x w' := ⟨rfl, rfl⟩
theorem PD.e {x y : Option Value} {w1 w' : va_W} (h : y = x) (h2 : w1 = w') : PD x w' y w1 := ⟨h, h2⟩
theorem xw_Vd (C : xc φ l R D cl tys nL cc own Ts) {Cn : String} {T : u_T} {N : Nat} {index b ci q0 maxL : Nat} {y : MethodName} {ws ws' : List Cond} {bytes : ByteArray} {ret : Option FieldType} {rm : Room} {As fs : List Value} {x : Option Value} {w1 : va_W}
    (hM : CT l y ws rm D cl tys (.ref b :: As) w (PD x w1) 0 0) (hg : GoodIn Ts (wsV own index Cn y ws)) (hw : ws = .code y bytes maxL ret :: ws') (hrc : rm.cells = 0) (hrs : rm.slots = 0) {na : Nat} (hna : As.length = na)
    (hy : y.cls = Cn ∧ y.cls ≠ "java/lang/invoke/MethodHandle" ∧ y.cls ≠ "java/lang/invoke/VarHandle" ∧ (parseMethodDescriptor y.desc).map (fun d => d.parameters.length) = some na) (hR : rm.frames + 1 ≤ R.frames ∧ 8 + (maxL + 11) + rm.locals ≤ R.locals)
    (hrecv : w[q0]? = some (b, .inr (ci, fs))) (hci : cl[ci]? = some (Cn, T, N)) (hst : st = As.reverse ++ .ref b :: rest) (hcat : (rest.map fun v => v.category).sum ≤ 8) (d : decode cc pc = .ok (.invokevirtual index, 3)) (hf : k ≤ R.cells ∧ n ≤ R.slots)
    {st' : List Value} (e : x.toList ++ rest = st') (kk : xw φ k n w1 (pc + 3) lv st') : xw φ k n w pc lv st :=
  xw_V C hM hg hw hrc hrs hna hy hR hrecv hci hst hcat d hf (fun v w2 hp => by obtain ⟨rfl, rfl⟩ := hp; rw [e]; exact kk)
theorem xw_Sd (C : xc φ l R D cl tys nL cc own Ts) {index maxL : Nat} {y : MethodName} {ws ws' : List Cond} {bytes : ByteArray} {ret : Option FieldType} {rm : Room} {As : List Value} {x : Option Value} {w1 : va_W}
    (hM : CT l y ws rm D cl tys As w (PD x w1) 0 0) (hg : GoodIn Ts (va_wsS own index y ws)) (hw : ws = .code y bytes maxL ret :: ws') (hrc : rm.cells = 0) (hrs : rm.slots = 0) {na : Nat} (hna : As.length = na)
    (hy : y.cls ≠ "java/lang/invoke/MethodHandle" ∧ y.cls ≠ "java/lang/invoke/VarHandle" ∧ (parseMethodDescriptor y.desc).map (fun d => d.parameters.length) = some na) (hR : rm.frames + 1 ≤ R.frames ∧ 8 + (maxL + 11) + rm.locals ≤ R.locals)
    (hst : st = As.reverse ++ rest) (hcat : (rest.map fun v => v.category).sum ≤ 8) (d : decode cc pc = .ok (.invokestatic index, 3)) (hf : k ≤ R.cells ∧ n ≤ R.slots)
    {st' : List Value} (e : x.toList ++ rest = st') (kk : xw φ k n w1 (pc + 3) lv st') : xw φ k n w pc lv st :=
  xw_S C hM hg hw hrc hrs hna hy hR hst hcat d hf (fun v w2 hp => by obtain ⟨rfl, rfl⟩ := hp; rw [e]; exact kk)
end XW
abbrev rmN (f lo : Nat) : Room := { frames := f, cells := 0, slots := 0, locals := lo }
def wX (cI : ClassId) (h a n p b w wi ni : Nat) (A : Nat → Nat) : va_W := [(h, .inr (0, [.ref a, nV n, nV p, nV b, nV w, nV wi, nV ni])), (a, .inl (cI, 80, .inl (fN A)))]
def wM (cI : ClassId) (h r d th n p w b : Nat) (B M : Nat → Nat) : va_W := [(h, .inr (1, [nV th, nV n, nV p, nV w, nV b, .ref r, .ref d])), (r, .inl (cI, 64, .inl (fN B))), (d, .inl (cI, 16, .inl (fN M)))]

