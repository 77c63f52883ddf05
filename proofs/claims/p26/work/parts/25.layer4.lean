/-- the law's one-cell rows -/
def wO (cJ : ClassId) (o : Nat) (f : Nat → Int64) : va_W := [(o, .inl (cJ, 1, .inr (.inl f)))]
def wE (cD : ClassId) (o : Nat) (g : Nat → UInt64) : va_W := [(o, .inl (cD, 1, .inr (.inr (.inr (.inl g)))))]
def w0X (h : Nat) : va_W := [(h, .inr (0, [.null, nV 0, nV 0, nV 0, nV 0, nV 0, nV 0]))]
def w0M (h : Nat) : va_W := [(h, .inr (1, [nV 0, nV 0, nV 0, nV 0, nV 0, .null, .null]))]
/-- the script -/
def xsx : Fx → Nat → Nat → (Nat → Int32) → Prop
  | (_, _, _, _, s, _, _, _, _, _, _, _, _, _, A, _), b, L, xs => va_X b L xs s s.heap ∧ b < s.heap.size ∧ ¬ A b
theorem arrK {args : Array Value} {s : State} {ty : FieldType} (h : (Cond.arrayClass ty).before args s = true) : ∃ cA : ClassId, ArrOfT s cA ty ∧ s.vm.findClass ("[" ++ ty.toString) = some cA := by
  obtain ⟨c, kA, comp, h1, h2, h3⟩ := Cond.arrayClass_spec h
  exact ⟨c, fun n z => ⟨fun k h => (by cases h), kA, h2, comp, h3⟩, h1⟩
section XW4
variable {φ : Fx} {l : Launch} {D : va_G} {cl : List vw_C} {tys : List (ClassId × FieldType)} {R : Room} {cc : ByteArray} {own : String} {Ts : List Cond} {nL k n : Nat} {w : va_W} {pc : Nat} {lv : List (Nat × Value)} {st rest : List Value}
theorem xw_sld (C : xc φ l R D cl tys nL cc own Ts) {b L : Nat} {xs : Nat → Int32} (X : xsx φ b L xs) {i : Int} (j : Nat) (hi : i = (j : Int)) (hj : j < L) (hL : L < 2147483648) (d : decode cc pc = .ok (.iaload, 1)) (kk : xw φ k n w (pc + 1) lv (iV (xs j).toInt :: st)) : xw φ k n w pc lv (iV i :: .ref b :: st) := by
  obtain ⟨p, l, e, R, s, m, args, below, meth, c, Q, D, cl, tys, A, nL⟩ := φ
  obtain ⟨rfl, rfl, rfl, rfl, rfl, rfl, hx, hb, hml, hown, hts, hK, hA⟩ := C
  intro H locs ls hP hD hS h
  obtain ⟨hX, hbl, hbA⟩ := X
  subst hi
  refine va_sld hx hb hX hbl hbA hS (iI_in hj hL) d ?_
  rw [iI_cl (by omega), iI_of (xs j)]
  exact kk H locs ls hP hD hS h
theorem xw_slen (C : xc φ l R D cl tys nL cc own Ts) {b L : Nat} {xs : Nat → Int32} (X : xsx φ b L xs) (d : decode cc pc = .ok (.arraylength, 1)) (kk : xw φ k n w (pc + 1) lv (nV L :: st)) : xw φ k n w pc lv (.ref b :: st) := by
  obtain ⟨p, l, e, R, s, m, args, below, meth, c, Q, D, cl, tys, A, nL⟩ := φ
  obtain ⟨rfl, rfl, rfl, rfl, rfl, rfl, hx, hb, hml, hown, hts, hK, hA⟩ := C
  intro H locs ls hP hD hS h
  obtain ⟨hX, hbl, hbA⟩ := X
  refine va_slen hx hb hX hbl hbA hS d ?_
  have e9 : Int32.ofNat L = iI (L : Int) := (iI_nI L).symm
  rw [e9]
  exact kk H locs ls hP hD hS h
theorem xw_objInit (C : xc φ l R D cl tys nL cc own Ts) {idx a : Nat} (hw1 : Cond.methodLink own idx Lib.objectInit ∈ Ts) (hw2 : Cond.instanceMethod Lib.objectInit ∈ Ts) (hw3 : Cond.code Lib.objectInit ⟨#[0xb1]⟩ 1 none ∈ Ts) (hf : 1 ≤ R.frames) (hlo : (st.map fun v => v.category).sum + 12 ≤ R.locals) (d : decode cc pc = .ok (.invokespecial idx, 3)) (kk : xw φ k n w (pc + 3) lv st) : xw φ k n w pc lv (.ref a :: st) := by
  obtain ⟨p, l, e, R, s, m, args, below, meth, c, Q, D, cl, tys, A, nL⟩ := φ
  obtain ⟨rfl, rfl, rfl, rfl, rfl, rfl, hx, hb, hml, hown, hts, hK, hA⟩ := C
  intro H locs ls hP hD hS h
  refine W.objInit hx hb hown (hts _ hw1) (hts _ hw2) (hts _ hw3) rfl (h.1.trans hml.symm) rfl d hf (by show 2 * 0 + _ + 12 ≤ _; omega) ?_
  exact kk H locs ls hP hD hS h

theorem xw_newI (C : xc φ l R D cl tys nL cc own Ts) {cA : ClassId} {N : Nat} (t0 : Nat) (ht : tys[t0]? = some (cA, .int)) (hw : Cond.arrayClass .int ∈ Ts) (hN : N * componentBytes .int ≤ 536870912) (hc : k + 1 ≤ R.cells) (hs : n + N ≤ R.slots) (d : decode cc pc = .ok (.newarray .int, 2)) (kk : ∀ q : Nat, xw φ (k + 1) (n + N) (w ++ [(q, .inl (cA, N, .inl (fN (fun _ => 0))))]) (pc + 2) lv (.ref q :: st)) : xw φ k n w pc lv (nV N :: st) := by
  obtain ⟨p, l, e, R, s, m, args, below, meth, c, Q, D, cl, tys, A, nL⟩ := φ
  obtain ⟨rfl, rfl, rfl, rfl, rfl, rfl, hx, hb, hml, hown, hts, hK, hA⟩ := C
  intro H locs ls hP hD hS h
  have hN2 : N < 2147483648 := by
    have h9 : 1 ≤ componentBytes .int := by decide
    have h8 := Nat.mul_le_mul (Nat.le_refl N) h9
    omega
  have hn0 : ¬ iI (N : Int) < 0 := fun z => by
    have := (iI_lt (b := 0) (by omega) (by omega)).mp z
    omega
  refine va_newa (atype := .int) (ty := .int) hx hb (hts _ hw) rfl hK hP hD hS hA (a0 := (N, .inl (fN (fun _ => 0)))) (fun cA => rfl) hn0 (iI_cl hN2) hN hc hs d (fun q cB H1 hK1 hP hD hS => ?_)
  have e1 : s.vm.findClass ("[" ++ (FieldType.int).toString) = some cA := (hK.2 t0 _ ht).2
  have e2 : s.vm.findClass ("[" ++ (FieldType.int).toString) = some cB := (hK1.2 tys.length (cB, .int) (by rw [List.getElem?_append_right (Nat.le_refl _), Nat.sub_self]; rfl)).2
  obtain rfl : cA = cB := Option.some.inj (e1.symm.trans e2)
  exact kk q H1 locs ls hP hD hS h
theorem xw_newJ (C : xc φ l R D cl tys nL cc own Ts) {cA : ClassId} {N : Nat} (t0 : Nat) (ht : tys[t0]? = some (cA, .long)) (hw : Cond.arrayClass .long ∈ Ts) (hN : N * componentBytes .long ≤ 536870912) (hc : k + 1 ≤ R.cells) (hs : n + N ≤ R.slots) (d : decode cc pc = .ok (.newarray .long, 2)) (kk : ∀ q : Nat, xw φ (k + 1) (n + N) (w ++ [(q, .inl (cA, N, .inr (.inl (fun _ => 0))))]) (pc + 2) lv (.ref q :: st)) : xw φ k n w pc lv (nV N :: st) := by
  obtain ⟨p, l, e, R, s, m, args, below, meth, c, Q, D, cl, tys, A, nL⟩ := φ
  obtain ⟨rfl, rfl, rfl, rfl, rfl, rfl, hx, hb, hml, hown, hts, hK, hA⟩ := C
  intro H locs ls hP hD hS h
  have hN2 : N < 2147483648 := by
    have h9 : 1 ≤ componentBytes .long := by decide
    have h8 := Nat.mul_le_mul (Nat.le_refl N) h9
    omega
  have hn0 : ¬ iI (N : Int) < 0 := fun z => by
    have := (iI_lt (b := 0) (by omega) (by omega)).mp z
    omega
  refine va_newa (atype := .long) (ty := .long) hx hb (hts _ hw) rfl hK hP hD hS hA (a0 := (N, .inr (.inl (fun _ => 0)))) (fun cA => rfl) hn0 (iI_cl hN2) hN hc hs d (fun q cB H1 hK1 hP hD hS => ?_)
  have e1 : s.vm.findClass ("[" ++ (FieldType.long).toString) = some cA := (hK.2 t0 _ ht).2
  have e2 : s.vm.findClass ("[" ++ (FieldType.long).toString) = some cB := (hK1.2 tys.length (cB, .long) (by rw [List.getElem?_append_right (Nat.le_refl _), Nat.sub_self]; rfl)).2
  obtain rfl : cA = cB := Option.some.inj (e1.symm.trans e2)
  exact kk q H1 locs ls hP hD hS h
theorem xw_newD (C : xc φ l R D cl tys nL cc own Ts) {cA : ClassId} {N : Nat} (t0 : Nat) (ht : tys[t0]? = some (cA, .double)) (hw : Cond.arrayClass .double ∈ Ts) (hN : N * componentBytes .double ≤ 536870912) (hc : k + 1 ≤ R.cells) (hs : n + N ≤ R.slots) (d : decode cc pc = .ok (.newarray .double, 2)) (kk : ∀ q : Nat, xw φ (k + 1) (n + N) (w ++ [(q, .inl (cA, N, .inr (.inr (.inr (.inl (fun _ => 0))))))]) (pc + 2) lv (.ref q :: st)) : xw φ k n w pc lv (nV N :: st) := by
  obtain ⟨p, l, e, R, s, m, args, below, meth, c, Q, D, cl, tys, A, nL⟩ := φ
  obtain ⟨rfl, rfl, rfl, rfl, rfl, rfl, hx, hb, hml, hown, hts, hK, hA⟩ := C
  intro H locs ls hP hD hS h
  have hN2 : N < 2147483648 := by
    have h9 : 1 ≤ componentBytes .double := by decide
    have h8 := Nat.mul_le_mul (Nat.le_refl N) h9
    omega
  have hn0 : ¬ iI (N : Int) < 0 := fun z => by
    have := (iI_lt (b := 0) (by omega) (by omega)).mp z
    omega
  refine va_newa (atype := .double) (ty := .double) hx hb (hts _ hw) rfl hK hP hD hS hA (a0 := (N, .inr (.inr (.inr (.inl (fun _ => 0)))))) (fun cA => rfl) hn0 (iI_cl hN2) hN hc hs d (fun q cB H1 hK1 hP hD hS => ?_)
  have e1 : s.vm.findClass ("[" ++ (FieldType.double).toString) = some cA := (hK.2 t0 _ ht).2
  have e2 : s.vm.findClass ("[" ++ (FieldType.double).toString) = some cB := (hK1.2 tys.length (cB, .double) (by rw [List.getElem?_append_right (Nat.le_refl _), Nat.sub_self]; rfl)).2
  obtain rfl : cA = cB := Option.some.inj (e1.symm.trans e2)
  exact kk q H1 locs ls hP hD hS h
theorem xw_new (C : xc φ l R D cl tys nL cc own Ts) {Cn : String} {T : u_T} {N ci index : Nat} {fs : List Value} (hin : ∀ w ∈ u_ws Cn T N, w ∈ Ts) (ty : Nat → FieldType) (hty : ∀ k, k < N → parseFieldDescriptor (T k).2.2.1 = some (ty k)) (hw1 : Cond.classLink own index Cn ∈ Ts) (hw2 : Cond.instantiable Cn N ∈ Ts) (hw3 : Cond.initialized Cn ∈ Ts) (hc : cl[ci]? = some (Cn, T, N)) (hfs : ∀ j, j < N → defaultValue (ty j) = vp_V fs j) (hcl : k + 1 ≤ R.cells) (hsl : n + N ≤ R.slots) (d : decode cc pc = .ok (.new index, 3)) (kk : ∀ q : Nat, xw φ (k + 1) (n + N) (w ++ [(q, .inr (ci, fs))]) (pc + 3) lv (.ref q :: st)) : xw φ k n w pc lv st := by
  obtain ⟨p, l, e, R, s, m, args, below, meth, c, Q, D, cl, tys, A, nL⟩ := φ
  obtain ⟨rfl, rfl, rfl, rfl, rfl, rfl, hx, hb, hml, hown, hts, hK, hA⟩ := C
  intro H locs ls hP hD hS h
  exact va_new hx hb hts hin ty hty hown (hts _ hw1) (hts _ hw2) (hts _ hw3) hK hP hD hS hA hc hfs hcl hsl d (fun q H1 hP hD hS => kk q H1 locs ls hP hD hS h)
set_option maxHeartbeats 4000000 in
/-- a constructor called over a part of the world -/
theorem xw_IF (C : xc φ l R D cl tys nL cc own Ts) {index b maxL mc ms : Nat} {y : MethodName} {ws ws' : List Cond} {bytes : ByteArray} {rm : Room} {As : List Value} {Post : Option Value → va_W → Prop} {wc wr : va_W} {tysC : List (ClassId × FieldType)} (isC isR isT : List Nat)
    (hM : CT l y ws rm D cl tysC (.ref b :: As) wc Post mc ms) (hg : GoodIn Ts ws) (hw : ws = .code y bytes maxL none :: ws') (hrc : rm.cells = mc) (hrs : rm.slots = ms) (hw1 : Cond.initialized y.cls ∈ Ts) (hw2 : Cond.methodLink own index y ∈ Ts) (hw3 : Cond.instanceMethod y ∈ Ts) (hini : y.name = "<init>") {na : Nat} (hna : As.length = na)
    (hy : y.cls ≠ "java/lang/invoke/MethodHandle" ∧ y.cls ≠ "java/lang/invoke/VarHandle" ∧ (parseMethodDescriptor y.desc).map (fun d => d.parameters.length) = some na) (hR : rm.frames + 1 ≤ R.frames ∧ 8 + (maxL + 11) + rm.locals ≤ R.locals)
    (hC : isC.map (fun i => w[i]?) = wc.map some) (hC2 : isC.filterMap (fun i => w[i]?) = wc) (hRr : isR.map (fun i => w[i]?) = wr.map some) (hnd : va_nd isC = true ∧ va_nd isR = true) (hdis : ∀ i ∈ isR, i ∉ isC) (hT : isT.filterMap (fun i => tys[i]?) = tysC)
    (hst : st = As.reverse ++ .ref b :: rest) (hcat : (rest.map fun v => v.category).sum ≤ 8) (d : decode cc pc = .ok (.invokespecial index, 3)) (hf : k + mc ≤ R.cells ∧ n + ms ≤ R.slots)
    (kk : ∀ (v : Option Value) (w1 : va_W), Post v w1 → xw φ (k + mc) (n + ms) (wr ++ w1) (pc + 3) lv (v.toList ++ rest)) : xw φ k n w pc lv st := by
  obtain ⟨p, l, e, R, s, m, args, below, meth, c, Q, D, cl, tys, A, nL⟩ := φ
  obtain ⟨rfl, rfl, rfl, rfl, rfl, rfl, hx, hb, hml, hown, hts, hK, hA⟩ := C
  intro H locs ls hP hD hS h
  have hPc := hP.sub isC hC2
  have hDc := hD.sub isC hnd.1 hC
  have hKc := hK.sub isT hT
  have hF := va_free (wc := wc) hD hS hA isC hC
  refine xw_run (va_runI (As := As) (rest := rest) (b := b) ⟨hx, hb, hml, hown, hts⟩ (hM H.size) (cwI na hts hg hw hrc hrs (hts _ hw1) (hts _ hw2) (hts _ hw3) hini hy hR) ⟨ct_blind, fun U hU hW => ⟨rfl, by rw [hU], by rw [hU]; exact hPc, va_K.moved hW.alike hKc, hDc.weaken (fun _ _ _ _ => trivial)⟩⟩ rfl hna h.1 hst (lv_room hcat) d hf) hS hF ?_
  intro v w1 H1 locs1 hp hP1 hD1 hk1 hS1
  obtain ⟨hP2, hD2⟩ := va_join (wr := wr) (w1 := w1) hP hD isC isR hC hRr hnd.2 hdis hk1 hF hP1 hD1
  exact kk v w1 hp H1 locs1 ls hP2 hD2 hS1 h
end XW4
