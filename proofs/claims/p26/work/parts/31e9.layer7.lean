/-! ===== a contract that finds a nest mate's constructor besides: build's ===== -/
abbrev nestW : Cond := .methodLinkNest RL 102 yX1_init "ToneButterfliesLaw"
def cbP (D : va_G) (cl : List vw_C) (tys : List (ClassId × FieldType)) (sc : Nat) (av : List Value) (w0 : va_W) (sz : Nat) : Array Value → State → Prop := va_Pc av (fun U => ((U.heap.size = sz ∧ va_P D cl w0 U.heap ∧ va_K D cl tys U ∧ va_D (fun _ => True) w0) ∧ xy sc (va_A w0 sz) U) ∧ va_Nw nestW U)
theorem cb_blind {D : va_G} {cl : List vw_C} {tys : List (ClassId × FieldType)} {sc : Nat} {av : List Value} {w0 : va_W} {sz : Nat} : FrameBlind (cbP D cl tys sc av w0 sz) := fun a U g mk q => by
  obtain ⟨q0, ⟨⟨q1, qP, qK, qD⟩, qz⟩, qn⟩ := q
  exact ⟨q0, ⟨⟨q1, qP, va_K.moved (u := U) (U := U.calling g mk a) (Vm.Alike.refl U.vm) qK, qD⟩, xy_blind qz⟩, va_tabs rfl (u := U) rfl qn⟩
def CB (l : Launch) (y : MethodName) (ws : List Cond) (rm : Room) (D : va_G) (cl : List vw_C) (tys : List (ClassId × FieldType)) (sc : Nat) (av : List Value) (w0 : va_W) (Post : Option Value → va_W → Prop) (mc ms : Nat) : Prop :=
  ∀ sz : Nat, Met l y ws rm (cbP D cl tys sc av w0 sz) (ctQ D cl w0 sz Post) mc ms (va_A w0 sz)
def xnwg : Fx → String → Nat → MethodName → String → Prop
  | (_, _, _, _, s, _, _, _, _, _, _, _, _, _, _, _), own, i, y, host => va_Nw (.methodLinkNest own i y host) s
def xnw : Fx → Prop
  | (_, _, _, _, s, _, _, _, _, _, _, _, _, _, _, _) => va_Nw nestW s
set_option maxHeartbeats 4000000 in
theorem cb_of {l : Launch} {y : MethodName} {ws ws' : List Cond} {rm : Room} {D : va_G} {cl : List vw_C} {tys : List (ClassId × FieldType)} {sc : Nat} {av : List Value} {w0 : va_W} {Post : Option Value → va_W → Prop} {mc ms : Nat} {cc : ByteArray} {maxL : Nat} {ret : Option FieldType}
    (hy : plainFor y = true) (hw : ws = Cond.code y cc maxL ret :: ws') (hlen : (lg_sl av).length ≤ maxL)
    (body : ∀ φ : Fx, xc φ l rm D cl tys maxL cc y.cls ws → xr φ w0 Post ret mc ms → xyc sc φ → xnw φ → xw φ 0 0 w0 0 (lv_args 0 av) []) : CB l y ws rm D cl tys sc av w0 Post mc ms := by
  intro sz
  refine va_MetF (cc := cc) (maxL := maxL) (ret := ret) hy hw ?_
  intro p e s m args below meth c s₁ B hml hv
  obtain ⟨rfl, ⟨⟨hsz, hP, hK, hD0⟩, hz⟩, hnw⟩ := hv
  have hts := atoms_spec (ws := ws) B.pre
  have hown : s.vm.findClass y.cls = some m.cls := findClass_of_methodNamed B.named
  subst hsz
  rw [lg_entry_eq]
  exact body (p, l, e, rm, s, m, av.toArray, below, meth, c, MQ below (ctQ D cl w0 s.heap.size Post) av.toArray s mc ms (va_A w0 s.heap.size), D, cl, tys, va_A w0 s.heap.size, maxL)
    ⟨rfl, rfl, rfl, rfl, rfl, rfl, B.exec, B.bytes, hml, hown, hts, hK, fun q h => Or.inr h⟩ ⟨B.returns, B.notSynchronized, rfl, rfl⟩ hz hnw s.heap [] _ hP hD0.self va_S.rf (lv_entry av hlen)
section XW7
variable {φ : Fx} {l : Launch} {D : va_G} {cl : List vw_C} {tys : List (ClassId × FieldType)} {R : Room} {cc : ByteArray} {own : String} {Ts : List Cond} {nL k n : Nat} {w : va_W} {pc : Nat} {lv : List (Nat × Value)} {st rest : List Value}
set_option maxHeartbeats 4000000 in
theorem xw_BSF (C : xc φ l R D cl tys nL cc own Ts) {sc : Nat} (Y : xyc sc φ) (Nn : xnw φ) {index maxL mc ms : Nat} {y : MethodName} {ws ws' : List Cond} {bytes : ByteArray} {ret : Option FieldType} {rm : Room} {As : List Value} {Post : Option Value → va_W → Prop} {wc wr : va_W} {tysC : List (ClassId × FieldType)} (isC isR isT : List Nat)
    (hM : CB l y ws rm D cl tysC sc As wc Post mc ms) (hg : GoodIn Ts (va_wsS own index y ws)) (hw : ws = .code y bytes maxL ret :: ws') (hrc : rm.cells = mc) (hrs : rm.slots = ms) {na : Nat} (hna : As.length = na)
    (hy : y.cls ≠ "java/lang/invoke/MethodHandle" ∧ y.cls ≠ "java/lang/invoke/VarHandle" ∧ (parseMethodDescriptor y.desc).map (fun d => d.parameters.length) = some na) (hR : rm.frames + 1 ≤ R.frames ∧ 8 + (maxL + 11) + rm.locals ≤ R.locals)
    (hC : isC.map (fun i => w[i]?) = wc.map some) (hC2 : isC.filterMap (fun i => w[i]?) = wc) (hRr : isR.map (fun i => w[i]?) = wr.map some) (hnd : va_nd isC = true ∧ va_nd isR = true) (hdis : ∀ i ∈ isR, i ∉ isC) (hT : isT.filterMap (fun i => tys[i]?) = tysC)
    (hst : st = As.reverse ++ rest) (hcat : (rest.map fun v => v.category).sum ≤ 8) (d : decode cc pc = .ok (.invokestatic index, 3)) (hf : k + mc ≤ R.cells ∧ n + ms ≤ R.slots)
    (kk : ∀ (v : Option Value) (w1 : va_W), Post v w1 → xw φ (k + mc) (n + ms) (wr ++ w1) (pc + 3) lv (v.toList ++ rest)) : xw φ k n w pc lv st := by
  obtain ⟨p, l, e, R, s, m, args, below, meth, c, Q, D, cl, tys, A, nL⟩ := φ
  obtain ⟨rfl, rfl, rfl, rfl, rfl, rfl, hx, hb, hml, hown, hts, hK, hA⟩ := C
  intro H locs ls hP hD hS h
  have hPc := hP.sub isC hC2
  have hDc := hD.sub isC hnd.1 hC
  have hKc := hK.sub isT hT
  have hF := va_free (wc := wc) hD hS hA isC hC
  refine xw_run (va_runS (As := As) (rest := rest) ⟨hx, hb, hml, hown, hts⟩ (hM H.size) (va_cwS na hts hg hw hrc hrs hy hR) ⟨cb_blind, fun U hU hW => ⟨rfl, ⟨⟨by rw [hU], by rw [hU]; exact hPc, va_K.moved hW.alike hKc, hDc.weaken (fun _ _ _ _ => trivial)⟩, xy_call Y hU hW hS hF⟩, va_Nw.warmM hW Nn⟩⟩ rfl hna h.1 hst (lv_room hcat) d hf) hS hF ?_
  intro v w1 H1 locs1 hp hP1 hD1 hk1 hS1
  obtain ⟨hP2, hD2⟩ := va_join (wr := wr) (w1 := w1) hP hD isC isR hC hRr hnd.2 hdis hk1 hF hP1 hD1
  exact kk v w1 hp H1 locs1 ls hP2 hD2 hS1 h
set_option maxHeartbeats 4000000 in
theorem xw_NIF (C : xc φ l R D cl tys nL cc own Ts) {sc : Nat} (Y : xyc sc φ) {host : String} {index b maxL mc ms : Nat} {y : MethodName} {ws ws' : List Cond} {bytes : ByteArray} {rm : Room} {As : List Value} {Post : Option Value → va_W → Prop} {wc wr : va_W} {tysC : List (ClassId × FieldType)} (isC isR isT : List Nat)
    (hM : CY l y ws rm D cl tysC sc (.ref b :: As) wc Post mc ms) (hg : GoodIn Ts ws) (hw : ws = .code y bytes maxL none :: ws') (hrc : rm.cells = mc) (hrs : rm.slots = ms) (hw1 : Cond.initialized y.cls ∈ Ts) (hw2 : ∀ z : Fx, z = φ → xnwg z own index y host) (hw3 : Cond.instanceMethod y ∈ Ts) (hini : y.name = "<init>") {na : Nat} (hna : As.length = na)
    (hy : y.cls ≠ "java/lang/invoke/MethodHandle" ∧ y.cls ≠ "java/lang/invoke/VarHandle" ∧ (parseMethodDescriptor y.desc).map (fun d => d.parameters.length) = some na) (hR : rm.frames + 1 ≤ R.frames ∧ 8 + (maxL + 11) + rm.locals ≤ R.locals)
    (hC : isC.map (fun i => w[i]?) = wc.map some) (hC2 : isC.filterMap (fun i => w[i]?) = wc) (hRr : isR.map (fun i => w[i]?) = wr.map some) (hnd : va_nd isC = true ∧ va_nd isR = true) (hdis : ∀ i ∈ isR, i ∉ isC) (hT : isT.filterMap (fun i => tys[i]?) = tysC)
    (hst : st = As.reverse ++ .ref b :: rest) (hcat : (rest.map fun v => v.category).sum ≤ 8) (d : decode cc pc = .ok (.invokespecial index, 3)) (hf : k + mc ≤ R.cells ∧ n + ms ≤ R.slots)
    (kk : ∀ (v : Option Value) (w1 : va_W), Post v w1 → xw φ (k + mc) (n + ms) (wr ++ w1) (pc + 3) lv (v.toList ++ rest)) : xw φ k n w pc lv st := by
  obtain ⟨p, l, e, R, s, m, args, below, meth, c, Q, D, cl, tys, A, nL⟩ := φ
  obtain ⟨rfl, rfl, rfl, rfl, rfl, rfl, hx, hb, hml, hown, hts, hK, hA⟩ := C
  intro H locs ls hP hD hS h
  have hPc := hP.sub isC hC2
  have hDc := hD.sub isC hnd.1 hC
  have hKc := hK.sub isT hT
  have hF := va_free (wc := wc) hD hS hA isC hC
  refine xw_run (va_runIN (As := As) (rest := rest) (b := b) ⟨hx, hb, hml, hown, hts⟩ (hM H.size) ⟨va_cnB na hts hg hw hrc hrs (hw2 _ rfl) (hts _ hw1) hy hR, hini, hts _ hw3⟩ ⟨cy_blind, fun U hU hW => ⟨rfl, ⟨by rw [hU], by rw [hU]; exact hPc, va_K.moved hW.alike hKc, hDc.weaken (fun _ _ _ _ => trivial)⟩, xy_call Y hU hW hS hF⟩⟩ rfl hna h.1 hst (lv_room hcat) d hf) hS hF ?_
  intro v w1 H1 locs1 hp hP1 hD1 hk1 hS1
  obtain ⟨hP2, hD2⟩ := va_join (wr := wr) (w1 := w1) hP hD isC isR hC hRr hnd.2 hdis hk1 hF hP1 hD1
  exact kk v w1 hp H1 locs1 ls hP2 hD2 hS1 h
end XW7
