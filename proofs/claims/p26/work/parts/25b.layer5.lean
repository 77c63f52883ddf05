/-! ===== the layer over rows that are made anew: arrays of arrays, clones, a static table; contracts that find them ===== -/
abbrev nLaw : String := "ToneButterfliesLaw"
/-- the table of rings -/
def RG : Nat → Nat := fun j => [4, 5, 4, 13, 4, 409, 8, 17, 8, 41, 8, 73, 16, 17, 16, 97, 16, 113, 16, 433, 4, 17, 8, 97].getD j 0
def xyt (t : Nat) (A : Nat → Prop) (U : State) (H : Heap) : Prop := va_Z nLaw "RINGS" "[I" (.ref t) A U H ∧ va_T .int t 24 (fun j => nV (RG j)) A U H
/-- what making rows, cloning and the table want of a start -/
def xy (sc : Nat) (A : Nat → Prop) (U : State) : Prop := va_AOA .int U ∧ va_Nw (.castable "[I" "java/lang/Cloneable") U ∧ (∃ t : Nat, xyt t A U U.heap) ∧ ∃ (L : Nat) (xs : Nat → Int32), L < 2147483648 ∧ va_T .int sc L (fun j => .int (xs j)) A U U.heap
theorem xy_call {sc : Nat} {A B : Nat → Prop} {s U : State} {H : Heap} {locs : List Loc} (h : xy sc A s) (hU : U.heap = H) (hW : s.WarmedH U.vm) (hS : va_S A s.heap H locs) (hB : ∀ q, B q → A q) : xy sc B U := by
  obtain ⟨h1, h2, ⟨t, h3, h4⟩, L, xs, h5, h6⟩ := h
  refine ⟨h1.moved hW.alike, va_Nw.warmC hW h2, ⟨t, ?_, ?_⟩, L, xs, h5, ?_⟩
  · rw [hU]; exact ((h3.moved hW.alike).kept hS.2.1).narrow hB
  · rw [hU]; exact ((h4.moved hW.alike).kept hS.2.1).narrow hB
  · rw [hU]; exact ((h6.moved hW.alike).kept hS.2.1).narrow hB
theorem xy_blind {sc : Nat} {A : Nat → Prop} {U : State} {g : JFrame} {mk : MethodId} {a : Array Value} (h : xy sc A U) : xy sc A (U.calling g mk a) := by
  obtain ⟨h1, h2, ⟨t, h3, h4⟩, L, xs, h5, h6⟩ := h
  exact ⟨h1.moved (Vm.Alike.refl U.vm), va_tabs rfl (u := U) rfl h2, ⟨t, h3.moved (Vm.Alike.refl U.vm), h4.moved (Vm.Alike.refl U.vm)⟩, L, xs, h5, h6.moved (Vm.Alike.refl U.vm)⟩
def cyP (D : va_G) (cl : List vw_C) (tys : List (ClassId × FieldType)) (sc : Nat) (av : List Value) (w0 : va_W) (sz : Nat) : Array Value → State → Prop := va_Pc av (fun U => (U.heap.size = sz ∧ va_P D cl w0 U.heap ∧ va_K D cl tys U ∧ va_D (fun _ => True) w0) ∧ xy sc (va_A w0 sz) U)
theorem cy_blind {D : va_G} {cl : List vw_C} {tys : List (ClassId × FieldType)} {sc : Nat} {av : List Value} {w0 : va_W} {sz : Nat} : FrameBlind (cyP D cl tys sc av w0 sz) := fun a U g mk q => by
  obtain ⟨q0, ⟨q1, qP, qK, qD⟩, qz⟩ := q
  exact ⟨q0, ⟨q1, qP, va_K.moved (u := U) (U := U.calling g mk a) (Vm.Alike.refl U.vm) qK, qD⟩, xy_blind qz⟩
/-- a CONTRACT of a method that makes rows of rows, clones, or reads the table -/
def CY (l : Launch) (y : MethodName) (ws : List Cond) (rm : Room) (D : va_G) (cl : List vw_C) (tys : List (ClassId × FieldType)) (sc : Nat) (av : List Value) (w0 : va_W) (Post : Option Value → va_W → Prop) (mc ms : Nat) : Prop :=
  ∀ sz : Nat, Met l y ws rm (cyP D cl tys sc av w0 sz) (ctQ D cl w0 sz Post) mc ms (va_A w0 sz)
def xyc (sc : Nat) : Fx → Prop
  | (_, _, _, _, s, _, _, _, _, _, _, _, _, _, A, _) => xy sc A s
def xyf : Fx → Nat → Prop
  | (_, _, _, _, s, _, _, _, _, _, _, _, _, _, A, _), t => xyt t A s s.heap
theorem xyc_t {sc : Nat} {φ : Fx} (Y : xyc sc φ) : ∃ t : Nat, xyf φ t := by
  obtain ⟨p, l, e, R, s, m, args, below, meth, c, Q, D, cl, tys, A, nL⟩ := φ
  exact Y.2.2.1
def xyx (sc L : Nat) (xs : Nat → Int32) : Fx → Prop
  | (_, _, _, _, s, _, _, _, _, _, _, _, _, _, A, _) => L < 2147483648 ∧ va_T .int sc L (fun j => .int (xs j)) A s s.heap
theorem xyc_s {sc : Nat} {φ : Fx} (Y : xyc sc φ) : ∃ (L : Nat) (xs : Nat → Int32), xyx sc L xs φ := by
  obtain ⟨p, l, e, R, s, m, args, below, meth, c, Q, D, cl, tys, A, nL⟩ := φ
  exact Y.2.2.2
set_option maxHeartbeats 4000000 in
theorem cy_ofI {l : Launch} {y : MethodName} {ws ws' : List Cond} {rm : Room} {D : va_G} {cl : List vw_C} {tys : List (ClassId × FieldType)} {sc : Nat} {av : List Value} {w0 : va_W} {Post : Option Value → va_W → Prop} {mc ms : Nat} {cc : ByteArray} {maxL : Nat} {ret : Option FieldType}
    (hy : plainFor y = true) (hw : ws = Cond.code y cc maxL ret :: ws') (hlen : (lg_sl av).length ≤ maxL)
    (body : ∀ φ : Fx, xc φ l rm D cl tys maxL cc y.cls ws → xr φ w0 Post ret mc ms → (y.name = "<init>" → xi φ) → xyc sc φ → xw φ 0 0 w0 0 (lv_args 0 av) []) : CY l y ws rm D cl tys sc av w0 Post mc ms := by
  intro sz
  refine va_MetF (cc := cc) (maxL := maxL) (ret := ret) hy hw ?_
  intro p e s m args below meth c s₁ B hml hv
  obtain ⟨rfl, ⟨hsz, hP, hK, hD0⟩, hz⟩ := hv
  have hts := atoms_spec (ws := ws) B.pre
  have hown : s.vm.findClass y.cls = some m.cls := findClass_of_methodNamed B.named
  subst hsz
  rw [lg_entry_eq]
  have hin : y.name = "<init>" → meth.name = "<init>" := fun h => (name_of_methodNamed B.named B.method).1.trans h
  exact body (p, l, e, rm, s, m, av.toArray, below, meth, c, MQ below (ctQ D cl w0 s.heap.size Post) av.toArray s mc ms (va_A w0 s.heap.size), D, cl, tys, va_A w0 s.heap.size, maxL)
    ⟨rfl, rfl, rfl, rfl, rfl, rfl, B.exec, B.bytes, hml, hown, hts, hK, fun q h => Or.inr h⟩ ⟨B.returns, B.notSynchronized, rfl, rfl⟩ hin hz s.heap [] _ hP hD0.self va_S.rf (lv_entry av hlen)
section XW5
variable {φ : Fx} {l : Launch} {D : va_G} {cl : List vw_C} {tys : List (ClassId × FieldType)} {R : Room} {cc : ByteArray} {own : String} {Ts : List Cond} {nL k n : Nat} {w : va_W} {pc : Nat} {lv : List (Nat × Value)} {st rest : List Value}
set_option maxHeartbeats 4000000 in
theorem xw_YVF (C : xc φ l R D cl tys nL cc own Ts) {sc : Nat} (Y : xyc sc φ) {Cn : String} {T : u_T} {N : Nat} {index b ci q0 maxL mc ms : Nat} {y : MethodName} {ws ws' : List Cond} {bytes : ByteArray} {ret : Option FieldType} {rm : Room} {As fs : List Value} {Post : Option Value → va_W → Prop} {wc wr : va_W} {tysC : List (ClassId × FieldType)} (isC isR isT : List Nat)
    (hM : CY l y ws rm D cl tysC sc (.ref b :: As) wc Post mc ms) (hg : GoodIn Ts (wsV own index Cn y ws)) (hw : ws = .code y bytes maxL ret :: ws') (hrc : rm.cells = mc) (hrs : rm.slots = ms) {na : Nat} (hna : As.length = na)
    (hy : y.cls = Cn ∧ y.cls ≠ "java/lang/invoke/MethodHandle" ∧ y.cls ≠ "java/lang/invoke/VarHandle" ∧ (parseMethodDescriptor y.desc).map (fun d => d.parameters.length) = some na) (hR : rm.frames + 1 ≤ R.frames ∧ 8 + (maxL + 11) + rm.locals ≤ R.locals)
    (hC : isC.map (fun i => w[i]?) = wc.map some) (hC2 : isC.filterMap (fun i => w[i]?) = wc) (hRr : isR.map (fun i => w[i]?) = wr.map some) (hnd : va_nd isC = true ∧ va_nd isR = true) (hdis : ∀ i ∈ isR, i ∉ isC) (hT : isT.filterMap (fun i => tys[i]?) = tysC)
    (hrecv : wc[q0]? = some (b, .inr (ci, fs))) (hci : cl[ci]? = some (Cn, T, N)) (hst : st = As.reverse ++ .ref b :: rest) (hcat : (rest.map fun v => v.category).sum ≤ 8) (d : decode cc pc = .ok (.invokevirtual index, 3)) (hf : k + mc ≤ R.cells ∧ n + ms ≤ R.slots)
    (kk : ∀ (v : Option Value) (w1 : va_W), Post v w1 → xw φ (k + mc) (n + ms) (wr ++ w1) (pc + 3) lv (v.toList ++ rest)) : xw φ k n w pc lv st := by
  obtain ⟨p, l, e, R, s, m, args, below, meth, c, Q, D, cl, tys, A, nL⟩ := φ
  obtain ⟨rfl, rfl, rfl, rfl, rfl, rfl, hx, hb, hml, hown, hts, hK, hA⟩ := C
  intro H locs ls hP hD hS h
  have hPc := hP.sub isC hC2
  have hDc := hD.sub isC hnd.1 hC
  have hKc := hK.sub isT hT
  have hF := va_free (wc := wc) hD hS hA isC hC
  refine xw_run (va_runV (As := As) (rest := rest) (b := b) (C := Cn) ⟨hx, hb, hml, hown, hts⟩ (hM H.size) (cwV na hts hg hw hrc hrs hy hR) ⟨cy_blind, va_recv hKc hPc hci hrecv, fun U hU hW => ⟨rfl, ⟨by rw [hU], by rw [hU]; exact hPc, va_K.moved hW.alike hKc, hDc.weaken (fun _ _ _ _ => trivial)⟩, xy_call Y hU hW hS hF⟩⟩ rfl hna h.1 hst (lv_room hcat) d hf) hS hF ?_
  intro v w1 H1 locs1 hp hP1 hD1 hk1 hS1
  obtain ⟨hP2, hD2⟩ := va_join (wr := wr) (w1 := w1) hP hD isC isR hC hRr hnd.2 hdis hk1 hF hP1 hD1
  exact kk v w1 hp H1 locs1 ls hP2 hD2 hS1 h
set_option maxHeartbeats 4000000 in
theorem xw_YSF (C : xc φ l R D cl tys nL cc own Ts) {sc : Nat} (Y : xyc sc φ) {index maxL mc ms : Nat} {y : MethodName} {ws ws' : List Cond} {bytes : ByteArray} {ret : Option FieldType} {rm : Room} {As : List Value} {Post : Option Value → va_W → Prop} {wc wr : va_W} {tysC : List (ClassId × FieldType)} (isC isR isT : List Nat)
    (hM : CY l y ws rm D cl tysC sc As wc Post mc ms) (hg : GoodIn Ts (va_wsS own index y ws)) (hw : ws = .code y bytes maxL ret :: ws') (hrc : rm.cells = mc) (hrs : rm.slots = ms) {na : Nat} (hna : As.length = na)
    (hy : y.cls ≠ "java/lang/invoke/MethodHandle" ∧ y.cls ≠ "java/lang/invoke/VarHandle" ∧ (parseMethodDescriptor y.desc).map (fun d => d.parameters.length) = some na) (hR : rm.frames + 1 ≤ R.frames ∧ 8 + (maxL + 11) + rm.locals ≤ R.locals)
    (hC : isC.map (fun i => w[i]?) = wc.map some) (hC2 : isC.filterMap (fun i => w[i]?) = wc) (hRr : isR.map (fun i => w[i]?) = wr.map some) (hnd : va_nd isC = true ∧ va_nd isR = true) (hdis : ∀ i ∈ isR, i ∉ isC) (hT : isT.filterMap (fun i => tys[i]?) = tysC)
    (hst : st = As.reverse ++ rest) (hcat : (rest.map fun v => v.category).sum ≤ 8) (d : decode cc pc = .ok (.invokestatic index, 3)) (hf : k + mc ≤ R.cells ∧ n + ms ≤ R.slots)
    (kk : ∀ (v : Option Value) (w1 : va_W), Post v w1 → xw φ (k + mc) (n + ms) (wr ++ w1) (pc + 3) lv (v.toList ++ rest)) : xw φ k n w pc lv st := by
  obtain ⟨p, l, e, R, s, m, args, below, meth, c, Q, D, cl, tys, A, nL⟩ := φ
  obtain ⟨rfl, rfl, rfl, rfl, rfl, rfl, hx, hb, hml, hown, hts, hK, hA⟩ := C
  intro H locs ls hP hD hS h
  have hPc := hP.sub isC hC2
  have hDc := hD.sub isC hnd.1 hC
  have hKc := hK.sub isT hT
  have hF := va_free (wc := wc) hD hS hA isC hC
  refine xw_run (va_runS (As := As) (rest := rest) ⟨hx, hb, hml, hown, hts⟩ (hM H.size) (va_cwS na hts hg hw hrc hrs hy hR) ⟨cy_blind, fun U hU hW => ⟨rfl, ⟨by rw [hU], by rw [hU]; exact hPc, va_K.moved hW.alike hKc, hDc.weaken (fun _ _ _ _ => trivial)⟩, xy_call Y hU hW hS hF⟩⟩ rfl hna h.1 hst (lv_room hcat) d hf) hS hF ?_
  intro v w1 H1 locs1 hp hP1 hD1 hk1 hS1
  obtain ⟨hP2, hD2⟩ := va_join (wr := wr) (w1 := w1) hP hD isC isR hC hRr hnd.2 hdis hk1 hF hP1 hD1
  exact kk v w1 hp H1 locs1 ls hP2 hD2 hS1 h
set_option maxHeartbeats 4000000 in
theorem xw_YIF (C : xc φ l R D cl tys nL cc own Ts) {sc : Nat} (Y : xyc sc φ) {index b maxL mc ms : Nat} {y : MethodName} {ws ws' : List Cond} {bytes : ByteArray} {rm : Room} {As : List Value} {Post : Option Value → va_W → Prop} {wc wr : va_W} {tysC : List (ClassId × FieldType)} (isC isR isT : List Nat)
    (hM : CY l y ws rm D cl tysC sc (.ref b :: As) wc Post mc ms) (hg : GoodIn Ts ws) (hw : ws = .code y bytes maxL none :: ws') (hrc : rm.cells = mc) (hrs : rm.slots = ms) (hw1 : Cond.initialized y.cls ∈ Ts) (hw2 : Cond.methodLink own index y ∈ Ts) (hw3 : Cond.instanceMethod y ∈ Ts) (hini : y.name = "<init>") {na : Nat} (hna : As.length = na)
    (hy : y.cls ≠ "java/lang/invoke/MethodHandle" ∧ y.cls ≠ "java/lang/invoke/VarHandle" ∧ (parseMethodDescriptor y.desc).map (fun d => d.parameters.length) = some na) (hR : rm.frames + 1 ≤ R.frames ∧ 8 + (maxL + 11) + rm.locals ≤ R.locals)
    (hC : isC.map (fun i => w[i]?) = wc.map some) (hC2 : isC.filterMap (fun i => w[i]?) = wc) (hRr : isR.map (fun i => w[i]?) = wr.map some) (hnd : va_nd isC = true ∧ va_nd isR = true) (hdis : ∀ i ∈ isR, i ∉ isC) (hT : isT.filterMap (fun i => tys[i]?) = tysC)
    (hst : st = As.reverse ++ .ref b :: rest) (hcat : (rest.map fun v => v.category).sum ≤ 8) (d : decode cc pc = .ok (.invokespecial index, 3)) (hf : k + mc ≤ R.cells ∧ n + ms ≤ R.slots)
    (kk : ∀ (v : Option Value) (w1 : va_W), Post v w1 → xw φ (k + mc) (n + ms) (wr ++ w1) (pc + 3) lv (v.toList ++ rest)) : xw φ k n w pc lv st := by
  obtain ⟨p, l, e, R, s, m, args, below, meth, c, Q, D, cl, tys, A, nL⟩ := φ
  obtain ⟨rfl, rfl, rfl, rfl, rfl, rfl, hx, hb, hml, hown, hts, hK, hA⟩ := C
  intro H locs ls hP hD hS h
  have hPc := hP.sub isC hC2
  have hDc := hD.sub isC hnd.1 hC
  have hKc := hK.sub isT hT
  have hF := va_free (wc := wc) hD hS hA isC hC
  refine xw_run (va_runI (As := As) (rest := rest) (b := b) ⟨hx, hb, hml, hown, hts⟩ (hM H.size) (cwI na hts hg hw hrc hrs (hts _ hw1) (hts _ hw2) (hts _ hw3) hini hy hR) ⟨cy_blind, fun U hU hW => ⟨rfl, ⟨by rw [hU], by rw [hU]; exact hPc, va_K.moved hW.alike hKc, hDc.weaken (fun _ _ _ _ => trivial)⟩, xy_call Y hU hW hS hF⟩⟩ rfl hna h.1 hst (lv_room hcat) d hf) hS hF ?_
  intro v w1 H1 locs1 hp hP1 hD1 hk1 hS1
  obtain ⟨hP2, hD2⟩ := va_join (wr := wr) (w1 := w1) hP hD isC isR hC hRr hnd.2 hdis hk1 hF hP1 hD1
  exact kk v w1 hp H1 locs1 ls hP2 hD2 hS1 h
theorem xw_drop {x : va_W} (kk : xw φ k n w pc lv st) : xw φ k n (w ++ x) pc lv st := by
  obtain ⟨p, l, e, R, s, m, args, below, meth, c, Q, D, cl, tys, A, nL⟩ := φ
  have g : ∀ (i : Nat) (q : Nat × va_E), w[i]? = some q → (w ++ x)[i]? = some q := fun i q h => by
    rw [List.getElem?_append_left (List.getElem?_eq_some_iff.mp h).1]; exact h
  exact fun H locs ls hP hD hS h => kk H locs ls (fun i q hq => hP i q (g i q hq)) ⟨fun i j a b hi hj => hD.1 i j a b (g i a hi) (g j b hj), fun i q hq => hD.2 i q (g i q hq)⟩ hS h
theorem xw_ldc (C : xc φ l R D cl tys nL cc own Ts) {index : Nat} {v : Int32} (hw : Cond.constant own index v ∈ Ts) (d : decode cc pc = .ok (.ldc index, 2)) (kk : xw φ k n w (pc + 2) lv (.int v :: st)) : xw φ k n w pc lv st := by
  obtain ⟨p, l, e, R, s, m, args, below, meth, c, Q, D, cl, tys, A, nL⟩ := φ
  obtain ⟨rfl, rfl, rfl, rfl, rfl, rfl, hx, hb, hml, hown, hts, hK, hA⟩ := C
  intro H locs ls hP hD hS h
  exact lv_ldc hx hb hown (hts _ hw) d (kk H locs ls hP hD hS h)
theorem xw_nonnull (C : xc φ l R D cl tys nL cc own Ts) {a : Nat} {off : Int} {tgt : Nat} (d : decode cc pc = .ok (.ifnonnull off, 3)) (ht : (pc : Int) + off = (tgt : Int)) (kk : xw φ k n w tgt lv st) : xw φ k n w pc lv (.ref a :: st) := by
  obtain ⟨p, l, e, R, s, m, args, below, meth, c, Q, D, cl, tys, A, nL⟩ := φ
  obtain ⟨rfl, rfl, rfl, rfl, rfl, rfl, hx, hb, hml, hown, hts, hK, hA⟩ := C
  intro H locs ls hP hD hS h
  exact lv_ifnonnull hx hb d ht (kk H locs ls hP hD hS h)
theorem xw_aret (C : xc φ l R D cl tys nL cc own Ts) {w0 : va_W} {Post : Option Value → va_W → Prop} {mc ms a : Nat} {rt : FieldType} (r : xr φ w0 Post (some rt) mc ms) (hrt : (∃ q, rt = .object q) ∨ ∃ t, rt = .array t) (hk : k ≤ mc) (hn : n ≤ ms) (d : decode cc pc = .ok (.areturn, 1)) (hp : Post (some (.ref a)) w) : xw φ k n w pc lv [.ref a] := by
  obtain ⟨p, l, e, R, s, m, args, below, meth, c, Q, D, cl, tys, A, nL⟩ := φ
  obtain ⟨rfl, rfl, rfl, rfl, rfl, rfl, hx, hb, hml, hown, hts, hK, hA⟩ := C
  intro H locs ls hP hD hS h
  obtain ⟨hr, hlocks, rfl, rfl⟩ := r
  exact W.widen hk hn (W.aret hx hb hr hrt (Or.inr ⟨a, rfl⟩) (fun t ht hW => ⟨⟨_, _, rfl, hp, by rw [ht]; exact hP, hD⟩, hS.F ht⟩) hS.2.2 d hlocks)
theorem xw_gets (C : xc φ l R D cl tys nL cc own Ts) {t index : Nat} (X : xyf φ t) (hw : Cond.fieldLink own index nLaw "RINGS" "[I" ∈ Ts) (d : decode cc pc = .ok (.getstatic index, 3)) (kk : xw φ k n w (pc + 3) lv (.ref t :: st)) : xw φ k n w pc lv st := by
  obtain ⟨p, l, e, R, s, m, args, below, meth, c, Q, D, cl, tys, A, nL⟩ := φ
  obtain ⟨rfl, rfl, rfl, rfl, rfl, rfl, hx, hb, hml, hown, hts, hK, hA⟩ := C
  intro H locs ls hP hD hS h
  exact va_gets hx hb X.1 hS hown (hts _ hw) (fun _ z => z) d (kk H locs ls hP hD hS h)
theorem xw_tlen (C : xc φ l R D cl tys nL cc own Ts) {t : Nat} (X : xyf φ t) (d : decode cc pc = .ok (.arraylength, 1)) (kk : xw φ k n w (pc + 1) lv (nV 24 :: st)) : xw φ k n w pc lv (.ref t :: st) := by
  obtain ⟨p, l, e, R, s, m, args, below, meth, c, Q, D, cl, tys, A, nL⟩ := φ
  obtain ⟨rfl, rfl, rfl, rfl, rfl, rfl, hx, hb, hml, hown, hts, hK, hA⟩ := C
  intro H locs ls hP hD hS h
  exact va_tlen hx hb X.2 hS (by decide) d (kk H locs ls hP hD hS h)
theorem xw_tald (C : xc φ l R D cl tys nL cc own Ts) {t j : Nat} (X : xyf φ t) (hj : j < 24) (d : decode cc pc = .ok (.iaload, 1)) (kk : xw φ k n w (pc + 1) lv (nV (RG j) :: st)) : xw φ k n w pc lv (nV j :: .ref t :: st) := by
  obtain ⟨p, l, e, R, s, m, args, below, meth, c, Q, D, cl, tys, A, nL⟩ := φ
  obtain ⟨rfl, rfl, rfl, rfl, rfl, rfl, hx, hb, hml, hown, hts, hK, hA⟩ := C
  intro H locs ls hP hD hS h
  exact va_ti hx hb X.2 hS (iI_in hj (by omega)) (by rw [iI_cl (by omega)]) d (kk H locs ls hP hD hS h)
theorem xw_slen5 (C : xc φ l R D cl tys nL cc own Ts) {sc L : Nat} {xs : Nat → Int32} (X : xyx sc L xs φ) (d : decode cc pc = .ok (.arraylength, 1)) (kk : xw φ k n w (pc + 1) lv (nV L :: st)) : xw φ k n w pc lv (.ref sc :: st) := by
  obtain ⟨p, l, e, R, s, m, args, below, meth, c, Q, D, cl, tys, A, nL⟩ := φ
  obtain ⟨rfl, rfl, rfl, rfl, rfl, rfl, hx, hb, hml, hown, hts, hK, hA⟩ := C
  intro H locs ls hP hD hS h
  exact va_tlen hx hb X.2 hS (iI_nI L).symm d (kk H locs ls hP hD hS h)
theorem xw_sald5 (C : xc φ l R D cl tys nL cc own Ts) {sc L j : Nat} {xs : Nat → Int32} (X : xyx sc L xs φ) (hj : j < L) (d : decode cc pc = .ok (.iaload, 1)) (kk : xw φ k n w (pc + 1) lv (.int (xs j) :: st)) : xw φ k n w pc lv (nV j :: .ref sc :: st) := by
  obtain ⟨p, l, e, R, s, m, args, below, meth, c, Q, D, cl, tys, A, nL⟩ := φ
  obtain ⟨rfl, rfl, rfl, rfl, rfl, rfl, hx, hb, hml, hown, hts, hK, hA⟩ := C
  intro H locs ls hP hD hS h
  have hL := X.1
  exact va_ti hx hb X.2 hS (iI_in hj hL) (by rw [iI_cl (by omega)]) d (kk H locs ls hP hD hS h)
theorem xw_aald (C : xc φ l R D cl tys nL cc own Ts) {a N r : Nat} {cQ : ClassId} {f : Nat → Option Nat} (q0 t0 j : Nat) (ha : w[q0]? = some (a, .inl (cQ, N, .inr (.inr (.inr (.inr f)))))) (ht : tys[t0]? = some (cQ, .array .int)) (hj : j < N) (hN : N < 2147483648) (hf : f j = some r) (d : decode cc pc = .ok (.aaload, 1)) (kk : xw φ k n w (pc + 1) lv (.ref r :: st)) : xw φ k n w pc lv (nV j :: .ref a :: st) := by
  obtain ⟨p, l, e, R, s, m, args, below, meth, c, Q, D, cl, tys, A, nL⟩ := φ
  obtain ⟨rfl, rfl, rfl, rfl, rfl, rfl, hx, hb, hml, hown, hts, hK, hA⟩ := C
  intro H locs ls hP hD hS h
  have hin := iI_in hj hN
  have hlt : (iI (j : Int)).toNatClampNeg < N := Nat.not_le.mp fun q => hin (Or.inr q)
  exact W.aald (v := .ref r) (ty := .array .int) hx hb (hP q0 _ ha) ((hK.2 t0 _ ht).1 N (fun j => va_rf (f j))) rfl (fun q => by cases q) (by show ¬ (iI (j : Int) < 0 ∨ (arrV _ _ _).slots.size ≤ _); rw [arrV_size]; exact hin) (by show (arrV _ _ _).slots[_]? = _; rw [arrV_read _ _ hlt, iI_cl (by omega), hf]; rfl) rfl rfl d (kk H locs ls hP hD hS h)
set_option maxHeartbeats 4000000 in
theorem xw_aast (C : xc φ l R D cl tys nL cc own Ts) {sc : Nat} (Y : xyc sc φ) {a N v N1 : Nat} {cQ cI : ClassId} {f : Nat → Option Nat} {g : Nat → Int32} {w' : va_W} (q0 t0 t1 qk j : Nat) (ha : w[q0]? = some (a, .inl (cQ, N, .inr (.inr (.inr (.inr f)))))) (ht : tys[t0]? = some (cQ, .array .int)) (ht1 : tys[t1]? = some (cI, .int)) (hv : w[qk]? = some (v, .inl (cI, N1, .inl g))) (hj : j < N) (hN : N < 2147483648) (hw : w.set q0 (a, .inl (cQ, N, .inr (.inr (.inr (.inr (va_up f j (some v))))))) = w') (d : decode cc pc = .ok (.aastore, 1)) (kk : xw φ k n w' (pc + 1) lv st) : xw φ k n w pc lv (.ref v :: nV j :: .ref a :: st) := by
  obtain ⟨p, l, e, R, s, m, args, below, meth, c, Q, D, cl, tys, A, nL⟩ := φ
  obtain ⟨rfl, rfl, rfl, rfl, rfl, rfl, hx, hb, hml, hown, hts, hK, hA⟩ := C
  intro H locs ls hP hD hS h
  have hin := iI_in hj hN
  have hlt : (iI (j : Int)).toNatClampNeg < N := Nat.not_le.mp fun q => hin (Or.inr q)
  have h0 : ¬ iI (j : Int) < 0 := fun q => hin (Or.inl q)
  obtain ⟨comp, cA2, kA, k3, -, k1, k2, k4⟩ := arrayOverA_spec (va_AOA.use (args := args) Y.1)
  have e1 : s.vm.findClass ("[" ++ (FieldType.array .int).toString) = some cQ := (hK.2 t0 _ ht).2
  obtain rfl : cQ = cA2 := Option.some.inj (e1.symm.trans k4)
  have e2 : s.vm.findClass ("[" ++ FieldType.int.toString) = some cI := (hK.2 t1 _ ht1).2
  have e3 : ("[" ++ FieldType.int.toString) = (FieldType.array .int).toString := by decide
  rw [e3] at e2
  obtain rfl : cI = comp := Option.some.inj (e2.symm.trans k3)
  obtain ⟨kE, hkE, -⟩ := Vm.findClass_spec k3
  refine W.aast hx hb (hP q0 _ ha) (fun q h => by cases h) (fun h => by cases h) k1 k2 rfl hkE ⟨h0, by show _ < (arrV _ _ _).slots.size; rw [arrV_size]; exact hlt⟩ (hP qk _ hv) (fun q h => by cases h) hkE (va_asg _ _) rfl rfl d fun H1 e z oq => ?_
  subst hw
  refine kk H1 _ ls (hP.set hD ha ?_ oq) (hD.set ha) (hS.put z oq (hD.2 q0 _ ha)) h
  show H1[a]? = some (vp_cell _ _)
  rw [e, iI_cl (show j < 2147483648 by omega)]
  rw [vp_cell_q, vp_cell_q, arrV_store]
  congr 2
  funext q
  by_cases hq : q = j
  · subst hq
    simp [updV, va_up, va_rf]
  · simp [updV, va_up, hq]
set_option maxHeartbeats 4000000 in
theorem xw_clone (C : xc φ l R D cl tys nL cc own Ts) {sc : Nat} (Y : xyc sc φ) {a N index : Nat} {cI : ClassId} {B : Nat → Nat} (q0 t0 : Nat) (ha : w[q0]? = some (a, .inl (cI, N, .inl (fN B)))) (ht : tys[t0]? = some (cI, .int)) (hw1 : Cond.methodLink own index ⟨"[I", "clone", "()Ljava/lang/Object;"⟩ ∈ Ts) (hw2 : Cond.sameMethod "[I" "java/lang/Object" "clone" "()Ljava/lang/Object;" ∈ Ts)
    (hw3 : Cond.native ⟨"java/lang/Object", "clone", "()Ljava/lang/Object;"⟩ ∈ Ts) (hw4 : Cond.instanceMethod ⟨"java/lang/Object", "clone", "()Ljava/lang/Object;"⟩ ∈ Ts) (hw5 : Cond.selects "[I" ⟨"[I", "clone", "()Ljava/lang/Object;"⟩ ⟨"java/lang/Object", "clone", "()Ljava/lang/Object;"⟩ ∈ Ts)
    (hf : 1 ≤ R.frames) (hlo : (st.map fun v => v.category).sum + 14 ≤ R.locals) (hc : k + 1 ≤ R.cells) (hs : n + N ≤ R.slots) (d : decode cc pc = .ok (.invokevirtual index, 3)) (kk : ∀ q : Nat, xw φ (k + 1) (n + N) (w ++ [(q, .inl (cI, N, .inl (fN B)))]) (pc + 3) lv (.ref q :: st)) : xw φ k n w pc lv (.ref a :: st) := by
  obtain ⟨p, l, e, R, s, m, args, below, meth, c, Q, D, cl, tys, A, nL⟩ := φ
  obtain ⟨rfl, rfl, rfl, rfl, rfl, rfl, hx, hb, hml, hown, hts, hK, hA⟩ := C
  intro H locs ls hP hD hS h
  refine va_clone hx hb (hml.trans h.1.symm) hown (hts _ hw1) (hts _ hw2) (hts _ hw3) (hts _ hw4) (hts _ hw5) Y.2.1 hK hP hD hS hA q0 t0 ha ht (va_nm_int (hK.2 t0 _ ht).2) (va_fit (fun i hi => rfl)) hf hlo hc hs d (fun q H1 hK1 hP hD hS => ?_)
  exact kk q H1 locs ls hP hD hS h
theorem xw_castA (C : xc φ l R D cl tys nL cc own Ts) {a N index : Nat} {cI : ClassId} {g : Nat → Int32} (q0 t0 : Nat) (ha : w[q0]? = some (a, .inl (cI, N, .inl g))) (ht : tys[t0]? = some (cI, .int)) (hw : Cond.classLink own index "[I" ∈ Ts) (d : decode cc pc = .ok (.checkcast index, 3)) (kk : xw φ k n w (pc + 3) lv (.ref a :: st)) : xw φ k n w pc lv (.ref a :: st) := by
  obtain ⟨p, l, e, R, s, m, args, below, meth, c, Q, D, cl, tys, A, nL⟩ := φ
  obtain ⟨rfl, rfl, rfl, rfl, rfl, rfl, hx, hb, hml, hown, hts, hK, hA⟩ := C
  intro H locs ls hP hD hS h
  exact va_castA hx hb hown (hts _ hw) hP q0 ha (va_nm_int (hK.2 t0 _ ht).2) d (kk H locs ls hP hD hS h)
/-- four rows of K zeros, made at once -/
def wR (cI cQ : ClassId) (q : Nat) (r : Nat → Nat) (K : Nat) (B : Nat → Nat → Nat) : va_W := [(q, .inl (cQ, 4, .inr (.inr (.inr (.inr (fun i => if i < 4 then some (r i) else none)))))), (r 0, .inl (cI, K, .inl (fN (B 0)))), (r 1, .inl (cI, K, .inl (fN (B 1)))), (r 2, .inl (cI, K, .inl (fN (B 2)))), (r 3, .inl (cI, K, .inl (fN (B 3))))]
set_option maxHeartbeats 4000000 in
theorem xw_mna (C : xc φ l R D cl tys nL cc own Ts) {sc : Nat} (Y : xyc sc φ) {index K : Nat} {cI cQ : ClassId} (t0 t1 : Nat) (ht : tys[t0]? = some (cI, .int)) (ht1 : tys[t1]? = some (cQ, .array .int)) (hw1 : Cond.classLink own index "[[I" ∈ Ts) (hw2 : Cond.arrayClass .int ∈ Ts) (hK1 : K ≤ 1000) (hc : k + 5 ≤ R.cells) (hs : n + (4 + 4 * K) ≤ R.slots) (d : decode cc pc = .ok (.multianewarray index 2, 4)) (kk : ∀ (q : Nat) (r : Nat → Nat), xw φ (k + 5) (n + (4 + 4 * K)) (w ++ wR cI cQ q r K (fun _ _ => 0)) (pc + 4) lv (.ref q :: st)) : xw φ k n w pc lv (nV K :: nV 4 :: st) := by
  obtain ⟨p, l, e, R, s, m, args, below, meth, c, Q, D, cl, tys, A, nL⟩ := φ
  obtain ⟨rfl, rfl, rfl, rfl, rfl, rfl, hx, hb, hml, hown, hts, hK, hA⟩ := C
  intro H locs ls hP hD hS h
  have n0 : ∀ q : Nat, q < 2147483648 → ¬ iI (q : Int) < 0 := fun q hq z => by
    have := (iI_lt (b := 0) (by omega) (by omega)).mp z
    omega
  have e1 : s.vm.findClass ("[" ++ FieldType.int.toString) = some cI := (hK.2 t0 _ ht).2
  have e3 : ("[" ++ FieldType.int.toString) = (FieldType.array .int).toString := by decide
  have e4 : ("[" ++ (FieldType.array .int).toString) = "[[I" := by decide
  refine va_mna (X := w) (L := []) (f := fun _ => .inl (cI, 0, .inl (fun _ => 0))) (own := own) (ty := .int) (cy := cI) hx hb hown (e4 ▸ hts _ hw1) Y.1 (hts _ hw2) (e3 ▸ e1) hK (by show va_P D cl (w ++ []) H; rw [List.append_nil]; exact hP) (by show va_D A (w ++ []); rw [List.append_nil]; exact hD) hS hA (n0 4 (by decide)) (n0 K (by omega)) (iI_cl (show 4 < 2147483648 by decide)) (iI_cl (show K < 2147483648 by omega)) (z := (K, .inl (fN (fun _ => 0)))) (by decide) (by show K * 4 ≤ _; omega) (by omega) rfl rfl (by show k + 5 ≤ _; exact hc) hs (fun c => arrV_new c K (.int 0)) d (fun q r cA H1 hr hL hK2 hP2 hD2 hS2 => ?_)
  have e5 : s.vm.findClass ("[" ++ (FieldType.array .int).toString) = some cQ := (hK.2 t1 _ ht1).2
  have e6 : s.vm.findClass ("[" ++ (FieldType.array .int).toString) = some cA := (hK2.2 tys.length (cA, .array .int) (by rw [List.getElem?_append_right (Nat.le_refl _), Nat.sub_self]; rfl)).2
  obtain rfl : cQ = cA := Option.some.inj (e5.symm.trans e6)
  have ew : (w ++ [(q, .inl (cQ, 4, .inr (.inr (.inr (.inr (fun i => if i < 4 then some (r i) else none))))))]) ++ va_pl ([] ++ (List.range 4).map r) (vr_up (fun _ => .inl (cI, 0, .inl (fun _ => 0))) ((List.range 4).map r) (.inl (cI, (K, .inl (fN (fun _ => 0)))))) = w ++ wR cI cQ q r K (fun _ _ => 0) := by
    rw [List.append_assoc]
    congr 1
    show _ :: [(r 0, vr_up _ _ _ (r 0)), (r 1, vr_up _ _ _ (r 1)), (r 2, vr_up _ _ _ (r 2)), (r 3, vr_up _ _ _ (r 3))] = _
    have m : ∀ i, i < 4 → r i ∈ (List.range 4).map r := fun i hi => List.mem_map.mpr ⟨i, List.mem_range.mpr hi, rfl⟩
    rw [vr_up_in (m 0 (by decide)), vr_up_in (m 1 (by decide)), vr_up_in (m 2 (by decide)), vr_up_in (m 3 (by decide))]
    rfl
  rw [ew] at hP2 hD2
  have h9 := kk q r H1 locs ls hP2 hD2 hS2 h
  exact W.widen (by omega) (by omega) h9

/-- places in a world with one row more -/
theorem gl_old {u x : va_W} {i : Nat} {c : Nat × va_E} (h : u[i]? = some c) : (u ++ x)[i]? = some c := by
  rw [List.getElem?_append_left (List.getElem?_eq_some_iff.mp h).1]; exact h
theorem gl_new {u : va_W} {c : Nat × va_E} : (u ++ [c])[u.length]? = some c := by
  rw [List.getElem?_append_right (Nat.le_refl _), Nat.sub_self]; rfl
theorem gl_set {u : va_W} {c d : Nat × va_E} : (u ++ [c]).set u.length d = u ++ [d] := by
  rw [List.set_append_right _ _ (Nat.le_refl _), Nat.sub_self]; rfl
def iN (A : Nat → Int) : Nat → Int32 := fun j => iI (A j)
theorem iN_upd (A : Nat → Int) (j : Nat) (v : Int) : upd (iN A) j (iI v) = iN (va_up A j v) := by
  funext i
  unfold upd iN va_up
  by_cases h : i = j
  · simp [h]
  · simp [h]
theorem xw_ialdZ (C : xc φ l R D cl tys nL cc own Ts) {a N : Nat} {cA : ClassId} {B : Nat → Int} {i : Int} (q0 t0 j : Nat) (ha : w[q0]? = some (a, .inl (cA, N, .inl (iN B)))) (ht : tys[t0]? = some (cA, .int)) (hi : i = (j : Int)) (hj : j < N) (hN : N < 2147483648) (d : decode cc pc = .ok (.iaload, 1)) (kk : xw φ k n w (pc + 1) lv (iV (B j) :: st)) : xw φ k n w pc lv (iV i :: .ref a :: st) := by
  obtain ⟨p, l, e, R, s, m, args, below, meth, c, Q, D, cl, tys, A, nL⟩ := φ
  obtain ⟨rfl, rfl, rfl, rfl, rfl, rfl, hx, hb, hml, hown, hts, hK, hA⟩ := C
  intro H locs ls hP hD hS h
  subst hi
  refine va_iald hx hb hK hP q0 t0 ha ht (iI_in hj hN) d ?_
  rw [iI_cl (by omega)]
  exact kk H locs ls hP hD hS h
theorem xw_iastZ (C : xc φ l R D cl tys nL cc own Ts) {a N : Nat} {cA : ClassId} {B : Nat → Int} {i x : Int} {w' : va_W} (q0 t0 j : Nat) (ha : w[q0]? = some (a, .inl (cA, N, .inl (iN B)))) (ht : tys[t0]? = some (cA, .int)) (hi : i = (j : Int)) (hj : j < N) (hN : N < 2147483648) (hw : w.set q0 (a, .inl (cA, N, .inl (iN (va_up B j x)))) = w') (d : decode cc pc = .ok (.iastore, 1)) (kk : xw φ k n w' (pc + 1) lv st) : xw φ k n w pc lv (iV x :: iV i :: .ref a :: st) := by
  obtain ⟨p, l, e, R, s, m, args, below, meth, c, Q, D, cl, tys, A, nL⟩ := φ
  obtain ⟨rfl, rfl, rfl, rfl, rfl, rfl, hx, hb, hml, hown, hts, hK, hA⟩ := C
  intro H locs ls hP hD hS h
  subst hi
  refine va_iast hx hb hK hP hD hS q0 t0 ha ht (iI_in hj hN) d (fun H1 locs1 hP hD hS => ?_)
  rw [iI_cl (by omega), iN_upd, hw] at hP hD
  exact kk H1 locs1 ls hP hD hS h
end XW5
/-- the hand: its object, and with its four rows -/
def wH (h n p w rr : Nat) : va_W := [(h, .inr (1, [nV n, nV p, nV w, .ref rr]))]
def wS (cI cQ : ClassId) (h n p w q : Nat) (r : Nat → Nat) (A : Nat → Nat) : va_W := wH h n p w q ++ wR cI cQ q r n (fun i k => A (16 * i + k))
theorem wH_0 {h n p w rr : Nat} : (wH h n p w rr)[0]? = some (h, .inr (1, [nV n, nV p, nV w, .ref rr])) := rfl
/-- a row made anew, of n numbers F, behind the world u -/
def PR (cI : ClassId) (n : Nat) (u : va_W) (F : Nat → Nat) : Option Value → va_W → Prop := fun v w1 => ∃ q : Nat, v = some (.ref q) ∧ w1 = u ++ [(q, .inl (cI, n, .inl (fN F)))]
theorem PR.i {cI : ClassId} {n q : Nat} {u : va_W} {F : Nat → Nat} : PR cI n u F (some (.ref q)) (u ++ [(q, .inl (cI, n, .inl (fN F)))]) := ⟨q, rfl, rfl⟩
theorem PR.e {cI : ClassId} {n q : Nat} {u : va_W} {F G : Nat → Nat} (h : G = F) : PR cI n u F (some (.ref q)) (u ++ [(q, .inl (cI, n, .inl (fN G)))]) := ⟨q, rfl, by rw [h]⟩
