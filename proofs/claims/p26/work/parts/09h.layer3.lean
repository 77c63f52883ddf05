/-! ===== the layer over throws: contracts of calls that always throw, their end, their catching ===== -/
abbrev nIAE : String := "java/lang/IllegalArgumentException"
abbrev nIOB : String := "java/lang/IndexOutOfBoundsException"
abbrev nUp : List String := ["java/lang/RuntimeException", "java/lang/Exception"]
def xB : List Cond := (vx_atS RX0 32 nIAE nUp).filter (fun w => !goodWord w) ++ (vx_atS RX0 97 nIOB nUp).filter (fun w => !goodWord w)
def xS : List (Nat × String) := [(30, "no such ring"), (53, "no such power"), (95, "no such stage"), (106, "no such way to join"), (114, "no such number of places"), (122, "no such thing to tell about a row"), (127, "no such thing to count"), (150, "no such row"), (152, "no such place"), (154, "no number of the ring"), (156, "no number of the ring other than 0")]
theorem xB_ok : ∀ w ∈ xB, (w.keepsFace && w.onTables) = true := List.all_eq_true.mp (by decide +kernel)
/-- what a throw finds: two statics of Throwable, words on the tables, the texts -/
def xz (A : Nat → Prop) (U : State) : Prop := vx_Zq Bundle.tN "UNASSIGNED_STACK" Bundle.steD A U U.heap ∧ vx_Zq Bundle.tN "SUPPRESSED_SENTINEL" Bundle.listD A U U.heap ∧ (∀ w ∈ xB, w.before #[] U = true) ∧ (∀ q ∈ xS, ∃ sa : Nat, vk_R RX0 q.1 q.2 sa U) ∧ va_Nc nIAE nIOB U
theorem xz_call {A B : Nat → Prop} {s U : State} {H : Heap} {locs : List Loc} (h : xz A s) (hU : U.heap = H) (hW : s.WarmedH U.vm) (hS : va_S A s.heap H locs) (hB : ∀ q, B q → A q) : xz B U := by
  obtain ⟨h1, h2, h3, h4, h5⟩ := h
  refine ⟨?_, ?_, fun w hw => ?_, fun q hq => ?_, h5.moved hW.alike⟩
  · rw [hU]; exact ((h1.moved hW.alike).kept hS.2.1).narrow hB
  · rw [hU]; exact ((h2.moved hW.alike).kept hS.2.1).narrow hB
  · have h9 := xB_ok w hw
    rw [Bool.and_eq_true] at h9
    exact va_tabs h9.2 (u := s.setVm U.vm) rfl (Cond.before_shiftedFace (State.Shifted.of_warmed hW) w h9.1 (h3 w hw))
  · obtain ⟨sa, hsa⟩ := h4 q hq
    exact ⟨sa, hsa.warm hW⟩
theorem xz_blind {A : Nat → Prop} {U : State} {g : JFrame} {mk : MethodId} {a : Array Value} (h : xz A U) : xz A (U.calling g mk a) := by
  obtain ⟨h1, h2, h3, h4, h5⟩ := h
  refine ⟨h1.moved (Vm.Alike.refl U.vm), h2.moved (Vm.Alike.refl U.vm), fun w hw => ?_, fun q hq => ?_, h5.moved (Vm.Alike.refl U.vm)⟩
  · have h9 := xB_ok w hw
    rw [Bool.and_eq_true] at h9
    exact va_tabs h9.2 (u := U) rfl (h3 w hw)
  · obtain ⟨sa, hsa⟩ := h4 q hq
    exact ⟨sa, hsa.same rfl⟩
def cxP (D : va_G) (cl : List vw_C) (tys : List (ClassId × FieldType)) (av : List Value) (w0 : va_W) (sz : Nat) : Array Value → State → Prop := va_Pc av (fun U => (U.heap.size = sz ∧ va_P D cl w0 U.heap ∧ va_K D cl tys U ∧ va_D (fun _ => True) w0) ∧ xz (va_A w0 sz) U)
theorem cx_blind {D : va_G} {cl : List vw_C} {tys : List (ClassId × FieldType)} {av : List Value} {w0 : va_W} {sz : Nat} : FrameBlind (cxP D cl tys av w0 sz) := fun a U g mk q => by
  obtain ⟨q0, ⟨q1, qP, qK, qD⟩, qz⟩ := q
  exact ⟨q0, ⟨q1, qP, va_K.moved (u := U) (U := U.calling g mk a) (Vm.Alike.refl U.vm) qK, qD⟩, xz_blind qz⟩
def cxX (D : va_G) (cl : List vw_C) (w0 : va_W) (sz : Nat) (E : String) : String → State → State → Prop := fun E' st t => E' = E ∧ va_P D cl w0 t.heap ∧ va_F (va_A w0 sz) st t
/-- a CONTRACT: called so, y always throws an E, the world as it was -/
def CX (l : Launch) (y : MethodName) (ws : List Cond) (rm : Room) (D : va_G) (cl : List vw_C) (tys : List (ClassId × FieldType)) (av : List Value) (w0 : va_W) (E : String) (mc ms : Nat) : Prop :=
  ∀ sz : Nat, vx_Met l y ws rm (cxP D cl tys av w0 sz) (fun _ _ _ _ => False) (cxX D cl w0 sz E) mc ms (va_A w0 sz)
/-- a contract of a method that catches -/
def CZ (l : Launch) (y : MethodName) (ws : List Cond) (rm : Room) (D : va_G) (cl : List vw_C) (tys : List (ClassId × FieldType)) (av : List Value) (w0 : va_W) (Post : Option Value → va_W → Prop) (mc ms : Nat) : Prop :=
  ∀ sz : Nat, Met l y ws rm (cxP D cl tys av w0 sz) (ctQ D cl w0 sz Post) mc ms (va_A w0 sz)
def xzc : Fx → Prop
  | (_, _, _, _, s, _, _, _, _, _, _, _, _, _, A, _) => xz A s
def xq : Fx → va_W → String → Nat → Nat → Prop
  | (_, _, _, _, s, _, args, below, meth, c, Q, D, cl, _, A, _), w0, E, mc, ms => meth.locks = false ∧ A = va_A w0 s.heap.size ∧ Q = vx_MQ below (fun _ _ _ _ => False) (cxX D cl w0 s.heap.size E) args s mc ms (va_A w0 s.heap.size) ∧ ∀ x ∈ c.exceptionTable.toList, False
def xh : Fx → List (Nat × Nat × Nat × Nat) → Prop
  | (_, _, _, _, _, _, _, _, _, c, _, _, _, _, _, _), hh => c.exceptionTable.toList = tableOf hh
/-- a word on which the tables alone decide, of the frame's start -/
def xn : Fx → String → String → Prop
  | (_, _, _, _, s, _, _, _, _, _, _, _, _, _, _, _), E, nm => va_Nc E nm s
def xk : Fx → String → String → Prop
  | (_, _, _, _, s, _, _, _, _, _, _, _, _, _, _, _), E, nm => (Cond.castable E nm).before #[] s = true
set_option maxHeartbeats 4000000 in
theorem ct_ofX {l : Launch} {y : MethodName} {ws ws' : List Cond} {rm : Room} {D : va_G} {cl : List vw_C} {tys : List (ClassId × FieldType)} {av : List Value} {w0 : va_W} {E : String} {mc ms : Nat} {cc : ByteArray} {maxL : Nat} {ret : Option FieldType}
    (hy : plainName y.cls = true) (hw : ws = Cond.code y cc maxL ret :: ws') (hlen : (lg_sl av).length ≤ maxL)
    (body : ∀ φ : Fx, xc φ l rm D cl tys maxL cc y.cls ws → xzc φ → xq φ w0 E mc ms → xw φ 0 0 w0 0 (lv_args 0 av) []) : CX l y ws rm D cl tys av w0 E mc ms := by
  intro sz
  refine vx_ofW (cc := cc) (maxL := maxL) (ret := ret) hy hw ?_
  intro p e s m args below meth c s₁ B hml hno hv
  obtain ⟨rfl, ⟨hsz, hP, hK, hD0⟩, hz⟩ := hv
  have hts := atoms_spec (ws := ws) B.pre
  have hown : s.vm.findClass y.cls = some m.cls := findClass_of_methodNamed B.named
  subst hsz
  rw [lg_entry_eq]
  exact body (p, l, e, rm, s, m, av.toArray, below, meth, c, vx_MQ below (fun _ _ _ _ => False) (cxX D cl w0 s.heap.size E) av.toArray s mc ms (va_A w0 s.heap.size), D, cl, tys, va_A w0 s.heap.size, maxL)
    ⟨rfl, rfl, rfl, rfl, rfl, rfl, B.exec, B.bytes, hml, hown, hts, hK, fun q h => Or.inr h⟩ hz ⟨B.notSynchronized, rfl, rfl, hno⟩ s.heap [] _ hP hD0.self va_S.rf (lv_entry av hlen)
set_option maxHeartbeats 4000000 in
theorem ct_ofH {l : Launch} {y : MethodName} {ws ws' : List Cond} {rm : Room} {D : va_G} {cl : List vw_C} {tys : List (ClassId × FieldType)} {av : List Value} {w0 : va_W} {Post : Option Value → va_W → Prop} {mc ms : Nat} {cc : ByteArray} {maxL : Nat} {ret : Option FieldType} {hh : List (Nat × Nat × Nat × Nat)}
    (hy : plainName y.cls = true) (hw : ws = Cond.codeWith y cc maxL ret hh :: ws') (hlen : (lg_sl av).length ≤ maxL)
    (body : ∀ φ : Fx, xc φ l rm D cl tys maxL cc y.cls ws → xr φ w0 Post ret mc ms → xzc φ → xh φ hh → xw φ 0 0 w0 0 (lv_args 0 av) []) : CZ l y ws rm D cl tys av w0 Post mc ms := by
  intro sz
  refine va_MetW (cc := cc) (maxL := maxL) (ret := ret) (hh := hh) hy hw ?_
  intro p e s m args below meth c s₁ B hml hv
  obtain ⟨rfl, ⟨hsz, hP, hK, hD0⟩, hz⟩ := hv
  have hts := atoms_spec (ws := ws) B.pre
  have hown : s.vm.findClass y.cls = some m.cls := findClass_of_methodNamed B.named
  have htb : c.exceptionTable.toList = tableOf hh := vx_table (x := y) B (hts _ (by rw [hw]; exact List.mem_cons_self))
  subst hsz
  rw [lg_entry_eq]
  exact body (p, l, e, rm, s, m, av.toArray, below, meth, c, MQ below (ctQ D cl w0 s.heap.size Post) av.toArray s mc ms (va_A w0 s.heap.size), D, cl, tys, va_A w0 s.heap.size, maxL)
    ⟨rfl, rfl, rfl, rfl, rfl, rfl, B.exec, B.bytes, hml, hown, hts, hK, fun q h => Or.inr h⟩ ⟨B.returns, B.notSynchronized, rfl, rfl⟩ hz htb s.heap [] _ hP hD0.self va_S.rf (lv_entry av hlen)
section XX
variable {φ : Fx} {l : Launch} {D : va_G} {cl : List vw_C} {tys : List (ClassId × FieldType)} {R : Room} {cc : ByteArray} {own : String} {Ts : List Cond} {nL k n : Nat} {w : va_W} {pc : Nat} {lv : List (Nat × Value)} {st rest : List Value}
/-- the places written, behind a call -/
theorem xw_S1 {A : Nat → Prop} {H0 H H1 : Heap} {locs L : List Loc} {wc : va_W} (hS : va_S A H0 H locs) (hF : ∀ q, va_A wc H.size q → A q) (hz : H.size ≤ H1.size) (hk : ∀ q : Nat, q < H.size → ¬ va_A wc H.size q → H1[q]? = H[q]?) (hL : ∀ q ∈ L, va_A wc H.size q.base) : va_S A H0 H1 (locs ++ L) :=
  ⟨Nat.le_trans hS.1 hz, fun q h1 h2 => by rw [hk q (Nat.lt_of_lt_of_le h1 hS.1) (fun z => h2 (hF q z))]; exact hS.2.1 q h1 h2, fun q hq => by
    rcases List.mem_append.mp hq with h | h
    · exact hS.2.2 q h
    · exact hF _ (hL q h)⟩
set_option maxHeartbeats 4000000 in
/-- a virtual call that throws, not caught here -/
theorem xt_V (C : xc φ l R D cl tys nL cc own Ts) (Zc : xzc φ) {E : String} {mc' ms' : Nat} (X : xq φ w E mc' ms') {Cn : String} {T : u_T} {N : Nat} {index b ci q0 maxL mc ms : Nat} {y : MethodName} {ws ws' : List Cond} {bytes : ByteArray} {ret : Option FieldType} {rm : Room} {As fs : List Value}
    (hM : CX l y ws rm D cl tys (.ref b :: As) w E mc ms) (hg : GoodIn Ts (wsV own index Cn y ws)) (hw : ws = .code y bytes maxL ret :: ws') (hrc : rm.cells = mc) (hrs : rm.slots = ms) {na : Nat} (hna : As.length = na)
    (hy : y.cls = Cn ∧ y.cls ≠ "java/lang/invoke/MethodHandle" ∧ y.cls ≠ "java/lang/invoke/VarHandle" ∧ (parseMethodDescriptor y.desc).map (fun d => d.parameters.length) = some na) (hR : rm.frames + 1 ≤ R.frames ∧ 8 + (maxL + 11) + rm.locals ≤ R.locals)
    (hrecv : w[q0]? = some (b, .inr (ci, fs))) (hci : cl[ci]? = some (Cn, T, N)) (hst : st = As.reverse ++ .ref b :: rest) (hcat : (rest.map fun v => v.category).sum ≤ 8) (d : decode cc pc = .ok (.invokevirtual index, 3)) (hf : k + mc ≤ R.cells ∧ n + ms ≤ R.slots) (hmc : k + mc ≤ mc' ∧ n + ms ≤ ms') : xw φ k n w pc lv st := by
  obtain ⟨p, l, e, R, s, m, args, below, meth, c, Q, D, cl, tys, A, nL⟩ := φ
  obtain ⟨rfl, rfl, rfl, rfl, rfl, rfl, hx, hb, hml, hown, hts, hK, hA⟩ := C
  intro H locs ls hP hD hS h
  obtain ⟨hlocks, rfl, rfl, hno⟩ := X
  have hF := va_selfree hD hS hA
  have hr := vx_runV (As := As) (rest := rest) (b := b) (C := Cn) (g := F0 m pc ls st) (e := e) (below := below) (meth := meth) (H := H) (locs := locs) (cells := k) (slots := n) ⟨hx, hb, hml, hown, hts⟩ (hM H.size) (cwV na hts hg hw hrc hrs hy hR) ⟨cx_blind, va_recv hK hP hci hrecv, fun U hU hW => ⟨rfl, ⟨by rw [hU], by rw [hU]; exact hP, va_K.moved hW.alike hK, hD.weaken (fun _ _ _ _ => trivial)⟩, xz_call Zc hU hW hS hF⟩⟩ rfl hna h.1 hst (lv_room hcat) d hf
  intro T0 hT X0
  rcases hr T0 hT X0 with ⟨v, st₀, t, T', L, h0, X', hL, e1, e2, hq, stp⟩ | ⟨q, st₀, t, T', L, E', ce, h0, X', hL, e1, e2, hX, hce, hcv, hcl, stp⟩
  · exact hq.elim
  · obtain ⟨rfl, hP1, hz, hk⟩ := hX
    rw [h0] at hz hk
    have hS1 : va_S (va_A w s.heap.size) s.heap T'.heap (locs ++ L) := xw_S1 hS hF (by rw [e1]; exact hz) (fun q h1 h2 => by rw [e1]; exact hk q h1 h2) hL
    obtain ⟨t2, a1, b1⟩ := vx_out (p := p) (l := l) (e := e) (R := R) (s := s) (m := m) (args := args) (below := below) (meth := meth) (c := c) (H := T'.heap) (locs := locs ++ L) (cells := k + mc) (slots := n + ms) (pc := pc) (ls := ls) (rest := rest) (Qc := fun _ _ _ _ => False) (XC := cxX D cl w s.heap.size E') (mc := mc') (ms := ms') (free := va_A w s.heap.size) (fun x hx => (hno x hx).elim) hlocks (by rw [e1]; exact hce) hcv hcl (fun t3 ht3 _ => ⟨rfl, by rw [ht3, e1]; exact hP1, hS1.F ht3⟩) hS1.2.2 hmc.1 hmc.2 T' rfl X'
    exact ⟨t2, stp.trans a1, b1⟩
set_option maxHeartbeats 4000000 in
/-- 'throw new E("text")' -/
theorem xt_throw (C : xc φ l R D cl tys nL cc RX0 Ts) (Zc : xzc φ) {E : String} {mc' ms' : Nat} (X : xq φ w E mc' ms') {ik is ic : Nat} {text : String} (hl : l.stackTraces = false)
    (hcls : Bundle.fit E = true) (hk : Cond.classLink RX0 ik E ∈ Ts) (hini : Cond.initialized E ∈ Ts) (hat1 : ∀ w ∈ (vx_atS RX0 ic E nUp).filter goodWord, w ∈ Ts) (hat2 : ∀ w ∈ (vx_atS RX0 ic E nUp).filter (fun w => !goodWord w), w ∈ xB)
    (hgood : ∀ w ∈ Cond.classLink RX0 ik E :: Cond.initialized E :: vx_atS RX0 ic E nUp, vx_ot w = true) (hstr : (is, text) ∈ xS)
    (d0 : decode cc pc = .ok (.new ik, 3)) (d3 : decode cc (pc + 3) = .ok (.dup, 1)) (d4 : decode cc (pc + 4) = .ok (.ldc is, 2)) (d6 : decode cc (pc + 6) = .ok (.invokespecial ic, 3)) (d9 : decode cc (pc + 9) = .ok (.athrow, 1))
    (hRf : 5 < R.frames) (hRl : (st.map fun v => v.category).sum + 82 ≤ R.locals) (hRc : k + 1 ≤ R.cells) (hRs : n + 6 ≤ R.slots) (hc : k + 1 ≤ mc') (hs : n + 6 ≤ ms') : xw φ k n w pc lv st := by
  obtain ⟨p, l, e, R, s, m, args, below, meth, c, Q, D, cl, tys, A, nL⟩ := φ
  obtain ⟨rfl, rfl, rfl, rfl, rfl, rfl, hx, hb, hml, hown, hts, hK, hA⟩ := C
  intro H locs ls hP hD hS h
  obtain ⟨hlocks, rfl, rfl, hno⟩ := X
  obtain ⟨z1, z2, z3, z4, -⟩ := Zc
  obtain ⟨sa, hsa⟩ := z4 _ hstr
  refine vx_throwS (names := nUp) (ik := ik) (is := is) (ic := ic) (text := text) hx hb hl hown hcls (by decide) (hts _ hk) (hts _ hini) hsa (vx_hat (B := xB) (fun w hw => hts _ (hat1 w hw)) hat2 (fun w hw => ?_)) hgood z1 z2 hS (h.1.trans hml.symm) d0 d3 d4 d6 d9 (fun x hx => (hno x hx).elim) hRf hRl hRc hRs hlocks (fun t hv hz hq => ⟨rfl, ?_, ?_⟩) hS.2.2 hc hs
  · have h9 := xB_ok w hw
    rw [Bool.and_eq_true] at h9
    exact va_tabs h9.2 (u := s) rfl (z3 w hw)
  · intro j q hj
    have hlt := (hP j q hj).lt
    exact (hP j q hj).kept (hq _ hlt)
  · exact ⟨Nat.le_trans hS.1 hz, fun q h1 h2 => by rw [hq q (Nat.lt_of_lt_of_le h1 hS.1)]; exact hS.2.1 q h1 h2⟩
theorem xzc_n (Zc : xzc φ) : xn φ nIAE nIOB := by
  obtain ⟨p, l, e, R, s, m, args, below, meth, c, Q, D, cl, tys, A, nL⟩ := φ
  exact Zc.2.2.2.2
theorem xzc_k (Zc : xzc φ) {E : String} (h : Cond.castable E E ∈ xB) : xk φ E E := by
  obtain ⟨p, l, e, R, s, m, args, below, meth, c, Q, D, cl, tys, A, nL⟩ := φ
  exact Zc.2.2.1 _ h
theorem xw_sub {w' : va_W} (is : List Nat) (hn : va_nd is = true) (hs : is.map (fun i => w[i]?) = w'.map some) (hs2 : is.filterMap (fun i => w[i]?) = w') (kk : xw φ k n w' pc lv st) : xw φ k n w pc lv st := by
  obtain ⟨p, l, e, R, s, m, args, below, meth, c, Q, D, cl, tys, A, nL⟩ := φ
  exact fun H locs ls hP hD hS h => kk H locs ls (hP.sub is hs2) (hD.sub is hn hs) hS h
set_option maxHeartbeats 4000000 in
/-- a virtual call over a part of the world -/
theorem xw_VF (C : xc φ l R D cl tys nL cc own Ts) {Cn : String} {T : u_T} {N : Nat} {index b ci q0 maxL mc ms : Nat} {y : MethodName} {ws ws' : List Cond} {bytes : ByteArray} {ret : Option FieldType} {rm : Room} {As fs : List Value} {Post : Option Value → va_W → Prop} {wc wr : va_W} {tysC : List (ClassId × FieldType)} (isC isR isT : List Nat)
    (hM : CT l y ws rm D cl tysC (.ref b :: As) wc Post mc ms) (hg : GoodIn Ts (wsV own index Cn y ws)) (hw : ws = .code y bytes maxL ret :: ws') (hrc : rm.cells = mc) (hrs : rm.slots = ms) {na : Nat} (hna : As.length = na)
    (hy : y.cls = Cn ∧ y.cls ≠ "java/lang/invoke/MethodHandle" ∧ y.cls ≠ "java/lang/invoke/VarHandle" ∧ (parseMethodDescriptor y.desc).map (fun d => d.parameters.length) = some na) (hR : rm.frames + 1 ≤ R.frames ∧ 8 + (maxL + 11) + rm.locals ≤ R.locals)
    (hC : isC.map (fun i => w[i]?) = wc.map some) (hC2 : isC.filterMap (fun i => w[i]?) = wc) (hRr : isR.map (fun i => w[i]?) = wr.map some) (hnd : va_nd isC = true ∧ va_nd isR = true) (hdis : ∀ i ∈ isR, i ∉ isC) (hT : isT.filterMap (fun i => tys[i]?) = tysC)
    (hrecv : wc[q0]? = some (b, .inr (ci, fs))) (hci : cl[ci]? = some (Cn, T, N)) (hst : st = As.reverse ++ .ref b :: rest) (hcat : (rest.map fun v => v.category).sum ≤ 8) (d : decode cc pc = .ok (.invokevirtual index, 3)) (hf : k + mc ≤ R.cells ∧ n + ms ≤ R.slots)
    (kk : ∀ (v : Option Value) (w1 : va_W), Post v w1 → xw φ (k + mc) (n + ms) (wr ++ w1) (pc + 3) lv (v.toList ++ rest)) : xw φ k n w pc lv st := by
  obtain ⟨p, l, e, R, s, m, args, below, meth, c, Q, D, cl, tys, A, nL⟩ := φ
  obtain ⟨rfl, rfl, rfl, rfl, rfl, rfl, hx, hb, hml, hown, hts, hK, hA⟩ := C
  intro H locs ls hP hD hS h
  have hPc := hP.sub isC hC2
  have hDc := hD.sub isC hnd.1 hC
  have hKc := hK.sub isT hT
  have hF := va_free (wc := wc) hD hS hA isC hC
  refine xw_run (va_runV (As := As) (rest := rest) (b := b) (C := Cn) ⟨hx, hb, hml, hown, hts⟩ (hM H.size) (cwV na hts hg hw hrc hrs hy hR) ⟨ct_blind, va_recv hKc hPc hci hrecv, fun U hU hW => ⟨rfl, by rw [hU], by rw [hU]; exact hPc, va_K.moved hW.alike hKc, hDc.weaken (fun _ _ _ _ => trivial)⟩⟩ rfl hna h.1 hst (lv_room hcat) d hf) hS hF ?_
  intro v w1 H1 locs1 hp hP1 hD1 hk1 hS1
  obtain ⟨hP2, hD2⟩ := va_join (wr := wr) (w1 := w1) hP hD isC isR hC hRr hnd.2 hdis hk1 hF hP1 hD1
  exact kk v w1 hp H1 locs1 ls hP2 hD2 hS1 h
set_option maxHeartbeats 4000000 in
/-- a virtual call over a part of the world that throws, caught here -/
theorem xw_VX (C : xc φ l R D cl tys nL cc own Ts) (Zc : xzc φ) {hh : List (Nat × Nat × Nat × Nat)} (Hh : xh φ hh) {E name : String} {Cn : String} {T : u_T} {N : Nat} {index b ci q0 maxL mc ms : Nat} {y : MethodName} {ws ws' : List Cond} {bytes : ByteArray} {ret : Option FieldType} {rm : Room} {As fs : List Value} {wc wr : va_W} {tysC : List (ClassId × FieldType)} (isC isR isT : List Nat)
    (hM : CX l y ws rm D cl tysC (.ref b :: As) wc E mc ms) (hg : GoodIn Ts (wsV own index Cn y ws)) (hw : ws = .code y bytes maxL ret :: ws') (hrc : rm.cells = mc) (hrs : rm.slots = ms) {na : Nat} (hna : As.length = na)
    (hy : y.cls = Cn ∧ y.cls ≠ "java/lang/invoke/MethodHandle" ∧ y.cls ≠ "java/lang/invoke/VarHandle" ∧ (parseMethodDescriptor y.desc).map (fun d => d.parameters.length) = some na) (hR : rm.frames + 1 ≤ R.frames ∧ 8 + (maxL + 11) + rm.locals ≤ R.locals)
    (hC : isC.map (fun i => w[i]?) = wc.map some) (hC2 : isC.filterMap (fun i => w[i]?) = wc) (hRr : isR.map (fun i => w[i]?) = wr.map some) (hnd : va_nd isC = true ∧ va_nd isR = true) (hdis : ∀ i ∈ isR, i ∉ isC) (hT : isT.filterMap (fun i => tys[i]?) = tysC)
    (hrecv : wc[q0]? = some (b, .inr (ci, fs))) (hci : cl[ci]? = some (Cn, T, N)) (hst : st = As.reverse ++ .ref b :: rest) (hcat : (rest.map fun v => v.category).sum ≤ 8) (d : decode cc pc = .ok (.invokevirtual index, 3)) (hf : k + mc ≤ R.cells ∧ n + ms ≤ R.slots)
    (pre : List ExceptionTableEntry) (x : ExceptionTableEntry) (suf : List ExceptionTableEntry) (hsplit : tableOf hh = pre ++ x :: suf) (hpass : ∀ z ∈ pre, z.catchType ≠ 0 ∧ ∃ nm : String, Cond.classLink own z.catchType nm ∈ Ts ∧ xn φ E nm) (hcov : covers x pc = true) (h0 : x.catchType ≠ 0) (hlink : Cond.classLink own x.catchType name ∈ Ts) (hcast : xk φ E name) {hpc : Nat} (hpc2 : x.handlerPc = hpc)
    (kk : ∀ q : Nat, xw φ (k + mc) (n + ms) (wr ++ wc) hpc lv [.ref q]) : xw φ k n w pc lv st := by
  obtain ⟨p, l, e, R, s, m, args, below, meth, c, Q, D, cl, tys, A, nL⟩ := φ
  obtain ⟨rfl, rfl, rfl, rfl, rfl, rfl, hx, hb, hml, hown, hts, hK, hA⟩ := C
  intro H locs ls hP hD hS h
  have hPc := hP.sub isC hC2
  have hDc := hD.sub isC hnd.1 hC
  have hKc := hK.sub isT hT
  have hF := va_free (wc := wc) hD hS hA isC hC
  have hr := vx_runV (As := As) (rest := rest) (b := b) (C := Cn) (g := F0 m pc ls st) (e := e) (below := below) (meth := meth) (H := H) (locs := locs) (cells := k) (slots := n) ⟨hx, hb, hml, hown, hts⟩ (hM H.size) (cwV na hts hg hw hrc hrs hy hR) ⟨cx_blind, va_recv hKc hPc hci hrecv, fun U hU hW => ⟨rfl, ⟨by rw [hU], by rw [hU]; exact hPc, va_K.moved hW.alike hKc, hDc.weaken (fun _ _ _ _ => trivial)⟩, xz_call Zc hU hW hS hF⟩⟩ rfl hna h.1 hst (lv_room hcat) d hf
  intro T0 hT X0
  rcases hr T0 hT X0 with ⟨v, st₀, t, T', L, h0', X', hL, e1, e2, hq, stp⟩ | ⟨q, st₀, t, T', L, E', ce, h0', X', hL, e1, e2, hX, hce, hcv, hcl, stp⟩
  · exact hq.elim
  · obtain ⟨rfl, hP1, hz, hk⟩ := hX
    rw [h0'] at hz hk
    have hk1 : ∀ q : Nat, q < H.size → ¬ va_A wc H.size q → T'.heap[q]? = H[q]? := fun q h1 h2 => by rw [e1]; exact hk q h1 h2
    have hS1 : va_S A s.heap T'.heap (locs ++ L) := xw_S1 hS hF (by rw [e1]; exact hz) hk1 hL
    obtain ⟨hP2, hD2⟩ := va_join (wr := wr) (w1 := wc) hP hD isC isR hC hRr hnd.2 hdis hk1 hF (by rw [e1]; exact hP1) (hDc.self (sz := H.size))
    subst hpc2
    obtain ⟨t2, a1, b1⟩ := vx_catch (p := p) (l := l) (e := e) (R := R) (s := s) (m := m) (args := args) (below := below) (meth := meth) (c := c) (H := T'.heap) (locs := locs ++ L) (cells := k + mc) (slots := n + ms) (Q := Q) (pc := pc) (ls := ls) (rest := rest) hown pre x suf (Hh.trans hsplit) (fun z hz9 => Or.inr ⟨(hpass z hz9).1, (hpass z hz9).2.choose, hts _ (hpass z hz9).2.choose_spec.1, (hpass z hz9).2.choose_spec.2⟩) hcov h0 (hts _ hlink) (va_tabs (by rfl) rfl hcast) (by rw [e1]; exact hce) hcv hcl (kk q T'.heap (locs ++ L) ls hP2 hD2 hS1 h) T' rfl X'
    exact ⟨t2, stp.trans a1, b1⟩
set_option maxHeartbeats 4000000 in
/-- a static call of a method that catches, over a part of the world -/
theorem xw_Z (C : xc φ l R D cl tys nL cc own Ts) (Zc : xzc φ) {index maxL mc ms : Nat} {y : MethodName} {ws ws' : List Cond} {bytes : ByteArray} {ret : Option FieldType} {hh : List (Nat × Nat × Nat × Nat)} {rm : Room} {As : List Value} {Post : Option Value → va_W → Prop} {wc wr : va_W} {tysC : List (ClassId × FieldType)} (isC isR isT : List Nat)
    (hM : CZ l y ws rm D cl tysC As wc Post mc ms) (hg : GoodIn Ts (va_wsS own index y ws)) (hw : ws = .codeWith y bytes maxL ret hh :: ws') (hrc : rm.cells = mc) (hrs : rm.slots = ms) {na : Nat} (hna : As.length = na)
    (hy : y.cls ≠ "java/lang/invoke/MethodHandle" ∧ y.cls ≠ "java/lang/invoke/VarHandle" ∧ (parseMethodDescriptor y.desc).map (fun d => d.parameters.length) = some na) (hR : rm.frames + 1 ≤ R.frames ∧ 8 + (maxL + 11) + rm.locals ≤ R.locals)
    (hC : isC.map (fun i => w[i]?) = wc.map some) (hC2 : isC.filterMap (fun i => w[i]?) = wc) (hRr : isR.map (fun i => w[i]?) = wr.map some) (hnd : va_nd isC = true ∧ va_nd isR = true) (hdis : ∀ i ∈ isR, i ∉ isC) (hT : isT.filterMap (fun i => tys[i]?) = tysC)
    (hst : st = As.reverse ++ rest) (hcat : (rest.map fun v => v.category).sum ≤ 8) (d : decode cc pc = .ok (.invokestatic index, 3)) (hf : k + mc ≤ R.cells ∧ n + ms ≤ R.slots)
    (kk : ∀ (v : Option Value) (w1 : va_W), Post v w1 → xw φ (k + mc) (n + ms) (wr ++ w1) (pc + 3) lv (v.toList ++ rest)) : xw φ k n w pc lv st := by
  obtain ⟨p, l, e, R, s, m, args, below, meth, c, Q, D, cl, tys, A, nL⟩ := φ
  obtain ⟨rfl, rfl, rfl, rfl, rfl, rfl, hx, hb, hml, hown, hts, hK, hA⟩ := C
  intro H locs ls hP hD hS h
  have hPc := hP.sub isC hC2
  have hDc := hD.sub isC hnd.1 hC
  have hKc := hK.sub isT hT
  have hF := va_free (wc := wc) hD hS hA isC hC
  refine xw_run (vx_runSW (As := As) (rest := rest) ⟨hx, hb, hml, hown, hts⟩ (hM H.size) (vx_cwSW na hts hg hw hrc hrs hy hR) ⟨cx_blind, fun U hU hW => ⟨rfl, ⟨by rw [hU], by rw [hU]; exact hPc, va_K.moved hW.alike hKc, hDc.weaken (fun _ _ _ _ => trivial)⟩, xz_call Zc hU hW hS hF⟩⟩ rfl hna h.1 hst (lv_room hcat) d hf) hS hF ?_
  intro v w1 H1 locs1 hp hP1 hD1 hk1 hS1
  obtain ⟨hP2, hD2⟩ := va_join (wr := wr) (w1 := w1) hP hD isC isR hC hRr hnd.2 hdis hk1 hF hP1 hD1
  exact kk v w1 hp H1 locs1 ls hP2 hD2 hS1 h
theorem xw_last (C : xc φ l R D cl tys nL cc own Ts) {a : Nat} {cA : ClassId} {f : Nat → Int64} {x : Int64} {w' : va_W} (q0 t0 : Nat) (ha : w[q0]? = some (a, .inl (cA, 1, .inr (.inl f)))) (ht : tys[t0]? = some (cA, .long)) (hw : w.set q0 (a, .inl (cA, 1, .inr (.inl (vp_updL f 0 x)))) = w') (d : decode cc pc = .ok (.lastore, 1)) (kk : xw φ k n w' (pc + 1) lv st) : xw φ k n w pc lv (.long x :: nV 0 :: .ref a :: st) := by
  obtain ⟨p, l, e, R, s, m, args, below, meth, c, Q, D, cl, tys, A, nL⟩ := φ
  obtain ⟨rfl, rfl, rfl, rfl, rfl, rfl, hx, hb, hml, hown, hts, hK, hA⟩ := C
  intro H locs ls hP hD hS h
  refine va_last hx hb hK hP hD hS q0 t0 ha ht (iI_in (j := 0) (N := 1) (by decide) (by decide)) d (fun H1 locs1 hP hD hS => ?_)
  rw [iI_cl (j := 0) (by decide), hw] at hP hD
  exact kk H1 locs1 ls hP hD hS h
theorem xw_lald (C : xc φ l R D cl tys nL cc own Ts) {a : Nat} {cA : ClassId} {f : Nat → Int64} (q0 t0 : Nat) (ha : w[q0]? = some (a, .inl (cA, 1, .inr (.inl f)))) (ht : tys[t0]? = some (cA, .long)) (d : decode cc pc = .ok (.laload, 1)) (kk : xw φ k n w (pc + 1) lv (.long (f 0) :: st)) : xw φ k n w pc lv (nV 0 :: .ref a :: st) := by
  obtain ⟨p, l, e, R, s, m, args, below, meth, c, Q, D, cl, tys, A, nL⟩ := φ
  obtain ⟨rfl, rfl, rfl, rfl, rfl, rfl, hx, hb, hml, hown, hts, hK, hA⟩ := C
  intro H locs ls hP hD hS h
  refine va_lald hx hb hK hP q0 t0 ha ht (iI_in (j := 0) (N := 1) (by decide) (by decide)) d ?_
  rw [iI_cl (j := 0) (by decide)]
  exact kk H locs ls hP hD hS h
theorem xw_dast (C : xc φ l R D cl tys nL cc own Ts) {a : Nat} {cA : ClassId} {f : Nat → UInt64} {x : UInt64} {w' : va_W} (q0 t0 : Nat) (ha : w[q0]? = some (a, .inl (cA, 1, .inr (.inr (.inr (.inl f)))))) (ht : tys[t0]? = some (cA, .double)) (hw : w.set q0 (a, .inl (cA, 1, .inr (.inr (.inr (.inl (vf_upd f 0 x)))))) = w') (d : decode cc pc = .ok (.dastore, 1)) (kk : xw φ k n w' (pc + 1) lv st) : xw φ k n w pc lv (.double x :: nV 0 :: .ref a :: st) := by
  obtain ⟨p, l, e, R, s, m, args, below, meth, c, Q, D, cl, tys, A, nL⟩ := φ
  obtain ⟨rfl, rfl, rfl, rfl, rfl, rfl, hx, hb, hml, hown, hts, hK, hA⟩ := C
  intro H locs ls hP hD hS h
  refine va_dast hx hb hK hP hD hS q0 t0 ha ht (iI_in (j := 0) (N := 1) (by decide) (by decide)) d (fun H1 locs1 hP hD hS => ?_)
  rw [iI_cl (j := 0) (by decide), hw] at hP hD
  exact kk H1 locs1 ls hP hD hS h
theorem xw_dald (C : xc φ l R D cl tys nL cc own Ts) {a : Nat} {cA : ClassId} {f : Nat → UInt64} (q0 t0 : Nat) (ha : w[q0]? = some (a, .inl (cA, 1, .inr (.inr (.inr (.inl f)))))) (ht : tys[t0]? = some (cA, .double)) (d : decode cc pc = .ok (.daload, 1)) (kk : xw φ k n w (pc + 1) lv (.double (f 0) :: st)) : xw φ k n w pc lv (nV 0 :: .ref a :: st) := by
  obtain ⟨p, l, e, R, s, m, args, below, meth, c, Q, D, cl, tys, A, nL⟩ := φ
  obtain ⟨rfl, rfl, rfl, rfl, rfl, rfl, hx, hb, hml, hown, hts, hK, hA⟩ := C
  intro H locs ls hP hD hS h
  refine va_dald hx hb hK hP q0 t0 ha ht (iI_in (j := 0) (N := 1) (by decide) (by decide)) d ?_
  rw [iI_cl (j := 0) (by decide)]
  exact kk H locs ls hP hD hS h
theorem xw_lcmp (C : xc φ l R D cl tys nL cc own Ts) {x y : Int64} (hxy : x = y) (d : decode cc pc = .ok (.lcmp, 1)) (kk : xw φ k n w (pc + 1) lv (nV 0 :: st)) : xw φ k n w pc lv (.long y :: .long x :: st) := by
  obtain ⟨p, l, e, R, s, m, args, below, meth, c, Q, D, cl, tys, A, nL⟩ := φ
  obtain ⟨rfl, rfl, rfl, rfl, rfl, rfl, hx, hb, hml, hown, hts, hK, hA⟩ := C
  intro H locs ls hP hD hS h
  refine W.lcmp hx hb d ?_
  subst hxy
  have e9 : lg_cmp x x = iI ((0 : Nat) : Int) := by
    unfold lg_cmp
    rw [if_neg (by simp), if_pos rfl]; rfl
  rw [e9]
  exact kk H locs ls hP hD hS h
theorem xw_dcmp (C : xc φ l R D cl tys nL cc own Ts) {x y : UInt64} {op : CmpOp} (d : decode cc pc = .ok (.dcmp op, 1)) (he : FP.dcmp x y = some .eq) (kk : xw φ k n w (pc + 1) lv (nV 0 :: st)) : xw φ k n w pc lv (.double y :: .double x :: st) := by
  obtain ⟨p, l, e, R, s, m, args, below, meth, c, Q, D, cl, tys, A, nL⟩ := φ
  obtain ⟨rfl, rfl, rfl, rfl, rfl, rfl, hx, hb, hml, hown, hts, hK, hA⟩ := C
  intro H locs ls hP hD hS h
  refine lv_dcmp hx hb d ?_
  rw [he]
  cases op <;> exact kk H locs ls hP hD hS h
end XX
